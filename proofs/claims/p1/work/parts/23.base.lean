/-! THE CLAIM OUT OF ONE WALK OF THE LAW'S BODY. Your part is whole_start (and what it stands on); all else here is the same for every law, but numbers. -/
def R_law : String := "StopSetterLaw"
def lw_P (b : Addr) (xs : List Int32) (args : Array Value) (s : State) : Prop := args = #[.ref b] ∧ s.IntsAt b xs ∧ xs.length ≤ 7 ∧ (Jvm.Cond.and given_1 narrow_1).before args s = true
def lw_Q (_ : Array Value) (s : State) (o : Outcome) (t : State) : Prop := o = .returned (some (.int 1)) ∧ Framed s o t [] 62 19826
def lw_Z (below : List Frame) (a : Array Value) (s : State) : State → Prop := fun t => ∃ o, t.status = .running ∧ Ended t below o ∧ lw_Q a s o t
/-- the law's own end, with 1 on the stack, nothing written that was there before, its room as the claim has it -/
theorem lw_ret {p : Program} {l : Launch} {e : Env} {s : State} {m : MethodId} {below : List Frame} {meth : Method} {c : Code} {b : Nat} (hx : p.tables.exec = Jvm.exec) (hb : c.code = code) (hr : meth.sig.returnType = ret) (hlocks : meth.locks = false) {pc : Nat} {H : Heap} {ls : Array Slot} (hdg : decode code pc = .ok (.ireturn, 1)) : W p l e room_1 s m #[Value.ref b] below meth c H [] 62 19826 (lw_Z below #[Value.ref b] s) (F0 m pc ls [.int 1]) := by
  intro T hT X
  obtain ⟨fs, hret, hrun, hended, hW, hframe⟩ := X.leave (v := some (.int 1)) (hlocks := hlocks) (fun h => by rw [hr] at h; cases h)
  have hmeth' : T.vm.method? m = some meth := X.method'
  refine ⟨T.setFrames fs, ?_, .returned (some (.int 1)), hrun, hended, rfl, ⟨_, rfl⟩, hW, hframe⟩
  jvm_step X.here [X.here.top, hx, hb, hdg, hmeth', hr, ret, narrow_b1]
  (try refine ⟨rfl, ?_⟩); (try refine ⟨rfl, ?_⟩)
  first | (intro acts; rw [hret _ acts rfl rfl rfl]) | rw [hret _ _ rfl rfl rfl]
  exact Steps.refl _
/-- what holds at the law's entry: the machine, the code, the tables' words (any of lw_tbl by 'hts w (by decide +kernel)'), the script of L ints xs at the cell b, what the Statement gives of the start (any of its parts by flat_of_before) -/
def lw_At (p : Program) (s : State) (m : MethodId) (meth : Method) (c : Code) (b L : Nat) (xs : Nat → Int32) : Prop :=
  p.tables.exec = Jvm.exec ∧ c.code = code ∧ meth.sig.returnType = ret ∧ c.maxLocals = 7 ∧ s.vm.findClass R_law = some m.cls ∧ (∀ w ∈ lw_tbl, w.before #[Value.ref b] s = true) ∧ va_X b L xs s s.heap ∧ b < s.heap.size ∧ meth.locks = false ∧ (Jvm.Cond.and given_1 narrow_1).before #[Value.ref b] s = true

theorem by_key (n : Nat) (hn : n ≤ 56) (x : BitVec 64) : ((x >>> n).signExtend 32 &&& 255#32) = ((x.sshiftRight n).signExtend 32 &&& 255#32) := by
  apply BitVec.eq_of_getLsbD_eq
  intro i hi
  simp only [BitVec.getLsbD_and, BitVec.getLsbD_signExtend, BitVec.getLsbD_ushiftRight, BitVec.getLsbD_sshiftRight]
  by_cases h8 : i < 8
  · have h1 : n + i < 64 := by omega
    have h2 : i < 64 := by omega
    have h3 : ¬ 64 ≤ i := by omega
    simp [h1, h2, h3]
  · have h4 : (255#32).getLsbD i = false := by
      rw [BitVec.getLsbD_ofNat, Nat.testBit_lt_two_pow (Nat.lt_of_lt_of_le (show 255 < 2 ^ 8 by decide) (Nat.pow_le_pow_right (by decide) (by omega)))]
      simp
    rw [h4, Bool.and_false, Bool.and_false]
theorem by_eq (v : Int64) : ∀ k ∈ ks8, byU v k = byM v k := by
  intro k hk
  simp only [ks8, List.mem_cons, List.not_mem_nil, or_false] at hk
  rcases hk with rfl | rfl | rfl | rfl | rfl | rfl | rfl | rfl
  · exact Int32.toBitVec_inj.1 (by_key 56 (by decide) v.toBitVec)
  · exact Int32.toBitVec_inj.1 (by_key 48 (by decide) v.toBitVec)
  · exact Int32.toBitVec_inj.1 (by_key 40 (by decide) v.toBitVec)
  · exact Int32.toBitVec_inj.1 (by_key 32 (by decide) v.toBitVec)
  · exact Int32.toBitVec_inj.1 (by_key 24 (by decide) v.toBitVec)
  · exact Int32.toBitVec_inj.1 (by_key 16 (by decide) v.toBitVec)
  · exact Int32.toBitVec_inj.1 (by_key 8 (by decide) v.toBitVec)
  · exact Int32.toBitVec_inj.1 (by_key 0 (by decide) v.toBitVec)
theorem sgF_eq {b b' : Int32 → Int32} : ∀ (ks : List Int32) (n : Nat), (∀ k ∈ ks, b k = b' k) → sgF b ks n = sgF b' ks n
  | [], _, _ => rfl
  | k :: ks, n, h => by
    show sgF b ks (sgn n (b k)) = sgF b' ks (sgn n (b' k))
    rw [h k List.mem_cons_self]
    exact sgF_eq ks _ (fun j hj => h j (List.mem_cons_of_mem _ hj))
theorem sgF_UM (v : Int64) (n : Nat) : sgF (byU v) ks8 n = sgF (byM v) ks8 n := sgF_eq ks8 n (by_eq v)

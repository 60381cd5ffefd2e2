/-! THE CLAIM OUT OF ONE WALK OF THE LAW'S BODY. Your part is whole_start (and what it stands on); all else here is the same for every law, but numbers. -/
def R_law : String := "StopSetterLaw"
def lw_P (b : Addr) (xs : List Int32) (args : Array Value) (s : State) : Prop := args = #[.ref b] ∧ s.IntsAt b xs ∧ xs.length ≤ 3584 ∧ (Jvm.Cond.and given_1 narrow_1).before args s = true
def lw_Q (_ : Array Value) (s : State) (o : Outcome) (t : State) : Prop := o = .returned (some (.int 1)) ∧ Framed s o t [] 1084 28002
def lw_Z (below : List Frame) (a : Array Value) (s : State) : State → Prop := fun t => ∃ o, t.status = .running ∧ Ended t below o ∧ lw_Q a s o t
/-- the law's own end, with 1 on the stack, nothing written that was there before, its room as the claim has it -/
theorem lw_ret {p : Program} {l : Launch} {e : Env} {s : State} {m : MethodId} {below : List Frame} {meth : Method} {c : Code} {b : Nat} (hx : p.tables.exec = Jvm.exec) (hb : c.code = code) (hr : meth.sig.returnType = ret) (hlocks : meth.locks = false) {pc : Nat} {H : Heap} {ls : Array Slot} (hdg : decode code pc = .ok (.ireturn, 1)) : W p l e room_1 s m #[Value.ref b] below meth c H [] 1084 28002 (lw_Z below #[Value.ref b] s) (F0 m pc ls [.int 1]) := by
  intro T hT X
  obtain ⟨fs, hret, hrun, hended, hW, hframe⟩ := X.leave (v := some (.int 1)) (hlocks := hlocks) (fun h => by rw [hr] at h; cases h)
  have hmeth' : T.vm.method? m = some meth := X.method'
  refine ⟨T.setFrames fs, ?_, .returned (some (.int 1)), hrun, hended, rfl, ⟨_, rfl⟩, hW, hframe⟩
  jvm_step X.here [X.here.top, hx, hb, hdg, hmeth', hr, ret, narrow_b1]
  (try refine ⟨rfl, ?_⟩); (try refine ⟨rfl, ?_⟩)
  first | (intro acts; rw [hret _ acts rfl rfl rfl]) | rw [hret _ _ rfl rfl rfl]
  exact Steps.refl _
/-- what holds at the law's entry: the machine, the code, the tables' words (any of lw_tbl by 'hts w (by decide +kernel)'), the script of L ints xs at the cell b, what the Statement gives of the start (any of its parts by flat_of_before) -/
def lw_At (p : Program) (s : State) (m : MethodId) (meth : Method) (c : Code) (b L : Nat) (xs : Nat → Int32) : Prop :=
  p.tables.exec = Jvm.exec ∧ c.code = code ∧ meth.sig.returnType = ret ∧ c.maxLocals = 7 ∧ s.vm.findClass R_law = some m.cls ∧ (∀ w ∈ lw_tbl, w.before #[Value.ref b] s = true) ∧ va_X b L xs s s.heap ∧ b < s.heap.size ∧ meth.locks = false ∧ (Jvm.Cond.and given_1 narrow_1).before #[Value.ref b] s = true
theorem law_le {L j : Nat} (hL : L ≤ 3584) (hj : 7 * j ≤ L) (h : ¬ nI L - 7 < nI (7 * j)) : 7 * j + 7 ≤ L := by
  have h1 := Int32.not_lt.mp h
  rw [Int32.le_iff_toInt_le, nI_toInt (by omega), Int32.toInt_sub, nI_toInt (by omega)] at h1
  have h2 : ((L : Int) - (7 : Int32).toInt).bmod (2 ^ 32) = (L : Int) - 7 := by
    show ((L : Int) - 7).bmod (2 ^ 32) = (L : Int) - 7
    rw [Int.bmod_eq_of_le] <;> omega
  rw [h2] at h1
  omega
theorem n7 (j : Nat) : nI (7 * j) + 7 = nI (7 * (j + 1)) := nI_add (7 * j) 7
theorem cnt_0 {M : Nat} : cnt (fun _ => 0) M := fun _ _ => ⟨0, Nat.zero_le _, rfl⟩
theorem mGo_0 : mGo (fun _ => 0) := fun _ _ => ⟨⟨0, Nat.zero_le _, rfl⟩, ⟨0, Nat.zero_le _, rfl⟩⟩
theorem mEn_0 : mEn (fun _ => 0) := fun _ _ => ⟨0, Nat.zero_le _, rfl⟩
theorem rowOK_0 : rowOK (fun _ => 0) := fun _ _ => ⟨0, by decide, rfl⟩
theorem nbOK_0 : nbOK (fun _ => 0) := fun _ _ => ⟨0, by decide, rfl⟩
theorem go_eq {s : List L5 × List L3} {gc nc : Int32} {a b c d e ea eb ec go gl en el : Nat → Int32} {hd : Nat} {x w : Int32} (h1 : lnC s gc nc a b c d e ea eb ec) (h2 : mnK s hd go gl en el) : goC gc a b c d e x w = mgR s.1.length hd gl x w := by
  obtain ⟨g, n, rfl, rfl, ⟨rfl, hg, hL⟩, -⟩ := h1
  obtain ⟨⟨-, -, hM⟩, -⟩ := h2
  unfold goC mgR
  by_cases c1 : x < 0
  · rw [if_pos c1, if_pos (show bnd 40 x (nI s.1.length) = 0 by simp only [bnd, if_pos c1])]
  · rw [if_neg c1]
    by_cases c2 : nI s.1.length ≤ x
    · rw [if_pos c2, if_pos (show bnd 40 x (nI s.1.length) = 0 by simp only [bnd, if_neg c1, if_pos c2])]
    · rw [if_neg c2]
      have c3 : ¬ 40 ≤ x := fun z => c2 (Int32.le_trans (nI_le (a := s.1.length) (b := 40) hg (by omega)) z)
      rw [if_neg (show ¬ bnd 40 x (nI s.1.length) = 0 by simp only [bnd, if_neg c1, if_neg c2, if_neg c3]; decide)]
      obtain ⟨i, hi, rfl⟩ := nI_of c1
      have hil : i < s.1.length := nk_lt rfl c2 hi
      rw [nI_clamp hi]
      have hx := List.getElem?_eq_getElem hil
      obtain ⟨p1, p2, p3, p4, p5⟩ := hL i _ hx
      obtain ⟨q1, q2, q3, q4, q5⟩ := hM i _ hx
      by_cases w1 : w < 0
      · rw [if_pos w1, if_neg (fun z => by rw [z] at w1; exact absurd w1 (by decide)), if_neg (fun z => by rw [z] at w1; exact absurd w1 (by decide)), if_neg (fun z => by rw [z] at w1; exact absurd w1 (by decide)), if_neg (fun z => by rw [z] at w1; exact absurd w1 (by decide)), if_neg (fun z => by rw [z] at w1; exact absurd w1 (by decide))]
      · rw [if_neg w1]
        by_cases w2 : w ≤ 4
        · rw [if_pos w2]
          obtain ⟨k, hk, rfl⟩ := nI_of2 (M := 4) (n := 4) rfl w1 w2
          rw [nI_clamp (by omega)]
          match k, hk with
          | 0, _ => rw [if_pos (by decide), p1]; exact q1.symm
          | 1, _ => rw [if_neg (by decide), if_pos (by decide), p2]; exact q2.symm
          | 2, _ => rw [if_neg (by decide), if_neg (by decide), if_pos (by decide), p3]; exact q3.symm
          | 3, _ => rw [if_neg (by decide), if_neg (by decide), if_neg (by decide), if_pos (by decide), p4]; exact q4.symm
          | 4, _ => rw [if_neg (by decide), if_neg (by decide), if_neg (by decide), if_neg (by decide), if_pos (by decide), p5]; exact q5.symm
        · rw [if_neg w2, if_neg (fun z => w2 (by rw [z]; decide)), if_neg (fun z => w2 (by rw [z]; decide)), if_neg (fun z => w2 (by rw [z]; decide)), if_neg (fun z => w2 (by rw [z]; decide)), if_neg (fun z => w2 (by rw [z]; decide))]
theorem cn_eq2 {s : List L5 × List L3} {gc nc : Int32} {a b c d e ea eb ec f g : Nat → Int32} {n t : Nat} {w : Int32} (h1 : lnC s gc nc a b c d e ea eb ec) (h : mkq f g n) : cnC w n gc nc (nI t) f = cnM w n s.1.length s.2.length t g := by
  obtain ⟨g9, n9, rfl, rfl, ⟨rfl, -, -⟩, rfl, -, -⟩ := h1
  exact cn_eq h
theorem bOK_0 : bOK (fun _ => 0) := fun _ => Or.inl rfl

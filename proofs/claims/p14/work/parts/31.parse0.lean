theorem nar01 {r : Int32} (h : r = 0 ∨ r = 1) : narrow .boolean (.int r) = .int r := by
  rcases h with rfl | rfl <;> rfl
theorem first_in {f : Nat → Int32} {g : Int32 → Int32} {k k2 : Nat} {x y : Int32} (h : k ≤ k2) (ey : y = f (nI k2).toNatClampNeg) (ex : x = f (nI k).toNatClampNeg) (c1 : g y = 0) (c2 : ¬ g x = 0) : k < k2 := by
  rcases Nat.lt_or_ge k k2 with q | q
  · exact q
  · rw [show k2 = k by omega, ← ex] at ey
    rw [ey] at c1
    exact absurd c1 c2
theorem ne40 {a : Nat} (h : a ≤ 40) (c : ¬ nI a = 40) : a < 40 := by
  rcases Nat.lt_or_ge a 40 with q | q
  · exact q
  · exact absurd (by rw [show a = 40 by omega]; rfl) c
theorem ne10 {a : Nat} (h : a ≤ 10) (c : ¬ nI a = 10) : a < 10 := by
  rcases Nat.lt_or_ge a 10 with q | q
  · exact q
  · exact absurd (by rw [show a = 10 by omega]; rfl) c
/-! the reference's reading, token by token -/
def mQ (q : Nat × Int32) (a : Nat) (ft : Int32) : Prop := ft = q.2 ∧ (ft = 0 → a = q.1)
def tkPl (t : TkS) (pl : Nat → Int32) (n : Nat) : Prop := ∀ j : Nat, j ≤ n → t.P j ≤ 1600 ∧ pl j = nI (t.P j)
def tkSo (t : TkS) (so : Nat → Int32) (n : Nat) : Prop := ∀ j : Nat, j ≤ n → (so j = 0 ↔ t.S j = 0) ∧ (so j = 1 ↔ t.S j = 2) ∧ (so j = 2 ↔ t.S j = 3) ∧ (so j = 3 ↔ t.S j = 4) ∧ (¬ t.S j = 2 → ∀ w : Nat, t.T j w = 0)
def tkVa (t : TkS) (va : Nat → Int64) (n : Nat) : Prop := ∀ j : Nat, j ≤ n → (t.S j = 3 → ¬ t.V j < 0 ∧ va j = (t.V j).toInt64) ∧ (t.S j = 4 → va j = 59)
def tkWo (t : TkS) (va wd : Nat → Int64) (n : Nat) : Prop := ∀ j : Nat, j ≤ n → t.S j = 2 → ∀ w : Nat, w < 12 → (va j = wd w ↔ ¬ t.T j w = 0)
def hwQ (t : TkS) (w : Nat) (q : Nat × Int32) : Nat × Int32 := if q.2 = 0 then (if t.T q.1 w = 0 then q else (q.1 + 1, 0)) else q
def xW9 (ft b : Int32) : Int32 := if ft = 0 then (if b = 0 then 0 else 1) else 0
theorem xW_y {ft b r : Int32} (h : r = xW9 ft b) (c : ¬ r = 0) : ft = 0 ∧ ¬ b = 0 := by
  unfold xW9 at h
  by_cases z : ft = 0
  · rw [if_pos z] at h
    by_cases y : b = 0
    · rw [if_pos y] at h; exact absurd h c
    · exact ⟨z, y⟩
  · rw [if_neg z] at h; exact absurd h c
theorem xW_n {ft b r : Int32} (h : r = xW9 ft b) (c : r = 0) (z : ft = 0) : b = 0 := by
  unfold xW9 at h
  rw [if_pos z] at h
  by_cases y : b = 0
  · exact y
  · rw [if_neg y, c] at h; exact absurd h (by decide)
theorem mQ_of {q r : Nat × Int32} {a : Nat} {ft : Int32} (h : mQ q a ft) (e : q = r) : mQ r a ft := e ▸ h
theorem mQ_R1 {t : TkS} {q : Nat × Int32} {a k : Nat} {ft : Int32} (h : mQ q a ft) (c : ft = 0) : mQ (stR t k q) a (nI (k + 16 * t.P q.1)) := by
  unfold stR
  rw [if_pos (h.1.symm.trans c)]
  exact ⟨rfl, fun _ => h.2 c⟩
theorem mQ_R0 {t : TkS} {q : Nat × Int32} {a k : Nat} {ft : Int32} (h : mQ q a ft) (c : ¬ ft = 0) : mQ (stR t k q) a ft := by
  unfold stR
  rw [if_neg (fun z => c (h.1.trans z))]
  exact h
theorem mQ_f {q : Nat × Int32} {a b : Nat} {ft : Int32} (h : mQ q a ft) (c : ¬ ft = 0) : mQ q b ft := ⟨h.1, fun z => absurd z c⟩
theorem pos_ne {x : Int32} (h : 0 < x) : ¬ x = 0 := fun z => by rw [z] at h; exact absurd h (by decide)
theorem mQ_S1 {t : TkS} {q : Nat × Int32} {a : Nat} {ft r : Int32} (h : mQ q a ft) (hx : r = xW9 ft (if t.S q.1 = 4 then 1 else 0)) (c : ¬ r = 0) : mQ (stS t q) (a + 1) ft := by
  obtain ⟨z, y⟩ := xW_y hx c
  unfold stS stX
  rw [if_pos (h.1.symm.trans z), if_neg y]
  exact ⟨z, fun _ => congrArg (· + 1) (h.2 z)⟩
theorem mQ_S0 {t : TkS} {q : Nat × Int32} {a : Nat} {ft r : Int32} (h : mQ q a ft) (hx : r = xW9 ft (if t.S q.1 = 4 then 1 else 0)) (c : r = 0) : stR t 1 q = stS t q := by
  unfold stS stX stR
  by_cases z : q.2 = 0
  · rw [if_pos z, if_pos z, if_pos (xW_n hx c (h.1.trans z))]
  · rw [if_neg z, if_neg z]
theorem mQ_H1 {t : TkS} {q : Nat × Int32} {a w : Nat} {ft r : Int32} (h : mQ q a ft) (hx : r = xW9 ft (t.T q.1 w)) (c : ¬ r = 0) : mQ (hwQ t w q) (a + 1) ft := by
  obtain ⟨z, y⟩ := xW_y hx c
  unfold hwQ
  rw [if_pos (h.1.symm.trans z), if_neg y]
  exact ⟨z, fun _ => congrArg (· + 1) (h.2 z)⟩
theorem hwQ_no {t : TkS} {q : Nat × Int32} {a w : Nat} {ft r : Int32} (h : mQ q a ft) (hx : r = xW9 ft (t.T q.1 w)) (c : r = 0) : hwQ t w q = q := by
  unfold hwQ
  by_cases z : q.2 = 0
  · rw [if_pos z, if_pos (xW_n hx c (h.1.trans z))]
  · rw [if_neg z]
theorem hwQ_yes {t : TkS} {q : Nat × Int32} {a w : Nat} {ft r : Int32} (h : mQ q a ft) (hx : r = xW9 ft (t.T q.1 w)) (c : ¬ r = 0) : hwQ t w q = (q.1 + 1, 0) ∧ q.2 = 0 ∧ ¬ t.T q.1 w = 0 := by
  obtain ⟨z, y⟩ := xW_y hx c
  have z2 := h.1.symm.trans z
  unfold hwQ
  rw [if_pos z2, if_neg y]
  exact ⟨rfl, z2, y⟩
theorem stW_yes {t : TkS} {q : Nat × Int32} {w : Nat} (z : q.2 = 0) (y : ¬ t.T q.1 w = 0) : stW t w q = (q.1 + 1, 0) := by
  unfold stW stX
  rw [if_pos z, if_neg y]
theorem stW_no {t : TkS} {q : Nat × Int32} {w : Nat} {ft r : Int32} (h : ft = q.2) (hx : r = xW9 ft (t.T q.1 w)) (c : r = 0) : stR t 1 q = stW t w q := by
  unfold stW stX stR
  by_cases z : q.2 = 0
  · rw [if_pos z, if_pos z, if_pos (xW_n hx c (h.trans z))]
  · rw [if_neg z, if_neg z]
theorem i64_le {x y : Int32} : x.toInt64 ≤ y.toInt64 ↔ x ≤ y := by
  rw [Int64.le_iff_toInt_le, Int32.le_iff_toInt_le, Int32.toInt_toInt64, Int32.toInt_toInt64]
theorem i64_lt {x y : Int32} : x.toInt64 < y.toInt64 ↔ x < y := by
  rw [Int64.lt_iff_toInt_lt, Int32.lt_iff_toInt_lt, Int32.toInt_toInt64, Int32.toInt_toInt64]
theorem mkV_1 {t : TkS} {i j : Nat} (h : ¬ t.T j i = 0) : mkV t i j = 1 := by unfold mkV; rw [if_neg h]
theorem mkV_2 {t : TkS} {i j : Nat} (h0 : t.T j i = 0) (h : ¬ t.T j (i + 1) = 0) : mkV t i j = 2 := by unfold mkV; rw [if_pos h0, if_neg h]
theorem mkV_3 {t : TkS} {i j : Nat} (h0 : t.T j i = 0) (h1 : t.T j (i + 1) = 0) (h : ¬ t.T j (i + 2) = 0) : mkV t i j = 3 := by unfold mkV; rw [if_pos h0, if_pos h1, if_neg h]
theorem mkV_n {t : TkS} {i j : Nat} (h0 : t.T j i = 0) (h1 : t.T j (i + 1) = 0) (h : t.T j (i + 2) = 0) : mkV t i j = 0 := by unfold mkV; rw [if_pos h0, if_pos h1, if_pos h]
theorem stM_yes {t : TkS} {q : Nat × Int32} {i k : Nat} (z : q.2 = 0) (h : mkV t i q.1 = k) (h0 : 0 < k) (h3 : k ≤ 3) : (q.1 + 1, 0) = stM t i q := by
  unfold stM stX
  rw [if_pos z, if_neg (by rw [h]; exact nI_ne0 h0 (by omega))]
theorem stM_none {t : TkS} {q : Nat × Int32} {i : Nat} (h : q.2 = 0 → mkV t i q.1 = 0) : stR t 1 q = stM t i q := by
  unfold stM stX stR
  by_cases z : q.2 = 0
  · rw [if_pos z, if_pos z, if_pos (by rw [h z]; rfl)]
  · rw [if_neg z, if_neg z]
theorem stM_keep {t : TkS} {q : Nat × Int32} {i : Nat} (z : ¬ q.2 = 0) : q = stM t i q := stX_k z
set_option maxHeartbeats 4000000 in
set_option maxRecDepth 100000 in
theorem k_wrong (l : Launch) (dC : Nat → ClassId) (dI : Nat → Nat → Nat) (cI cZ cC cJ : ClassId) (sz : Nat) (h0 : Nat) (th : Int32) (Mtape : Nat) (tnq : Nat) (znq : Nat) (Msort : Nat) (Mplace : Nat) (Mvalue : Nat) (anq : Nat) (ft : Int32) (Mwords : Nat) (hdq : Nat) (nxq : Nat) (Mgoes : Nat) (MgoLine : Nat) (Mends : Nat) (MendLine : Nat) (Mkinds : Nat) (MisName : Nat) (mnq : Nat) (Mrow : Nat) (MbyHand : Nat) (Mleast : Nat) (Msecond : Nat) (MendAt : Nat) (MgoAt : Nat) (MnodeBehind : Nat) (lE : Int32) (MisOut : Nat) (MfirstEnd : Nat) (MfirstGo : Nat) (msort : Nat → Int32) (mplace : Nat → Int32) (wq : Nat) (ntq : Nat) (tq : TkS) (qs : Nat × Int32) (hp : pOK msort mplace ntq) (hI : pI ntq anq ft) (hw1 : 0 < wq) (hw2 : wq ≤ 5) (hPl : tkPl tq mplace ntq) (hR : mQ qs anq ft) : Met l yX5_wrong wsX5_wrong ({ frames := 0, cells := 0, slots := 0, locals := 0 }) (va_Pc [.ref h0, .int (nI wq)] (sPre dC dI cI cZ cC cJ [(h0, .inr (5, [.int th, .ref Mtape, .int (nI tnq), .int (nI znq), .ref Msort, .ref Mplace, .ref Mvalue, .int (nI anq), .int ft, .ref Mwords, .int (nI hdq), .int (nI nxq), .ref Mgoes, .ref MgoLine, .ref Mends, .ref MendLine, .ref Mkinds, .ref MisName, .int (nI mnq), .ref Mrow, .ref MbyHand, .ref Mleast, .ref Msecond, .ref MendAt, .ref MgoAt, .ref MnodeBehind, .int lE, .ref MisOut, .ref MfirstEnd, .ref MfirstGo])), (Msort, .inl (cI, 1602, .inl msort)), (Mplace, .inl (cI, 1602, .inl mplace))] sz)) (va_Qv (fun (u : (Int32)) => match u with | ft2 => (0 < ft2) ∧ (mQ (stR tq wq qs) anq ft2)) (fun (u : (Int32)) t => match u with | ft2 => sB dC dI (va_A [(h0, .inr (5, [.int th, .ref Mtape, .int (nI tnq), .int (nI znq), .ref Msort, .ref Mplace, .ref Mvalue, .int (nI anq), .int ft, .ref Mwords, .int (nI hdq), .int (nI nxq), .ref Mgoes, .ref MgoLine, .ref Mends, .ref MendLine, .ref Mkinds, .ref MisName, .int (nI mnq), .ref Mrow, .ref MbyHand, .ref Mleast, .ref Msecond, .ref MendAt, .ref MgoAt, .ref MnodeBehind, .int lE, .ref MisOut, .ref MfirstEnd, .ref MfirstGo])), (Msort, .inl (cI, 1602, .inl msort)), (Mplace, .inl (cI, 1602, .inl mplace))] sz) [(h0, .inr (5, [.int th, .ref Mtape, .int (nI tnq), .int (nI znq), .ref Msort, .ref Mplace, .ref Mvalue, .int (nI anq), .int ft2, .ref Mwords, .int (nI hdq), .int (nI nxq), .ref Mgoes, .ref MgoLine, .ref Mends, .ref MendLine, .ref Mkinds, .ref MisName, .int (nI mnq), .ref Mrow, .ref MbyHand, .ref Mleast, .ref Msecond, .ref MendAt, .ref MgoAt, .ref MnodeBehind, .int lE, .ref MisOut, .ref MfirstEnd, .ref MfirstGo])), (Msort, .inl (cI, 1602, .inl msort)), (Mplace, .inl (cI, 1602, .inl mplace))] t) (va_A [(h0, .inr (5, [.int th, .ref Mtape, .int (nI tnq), .int (nI znq), .ref Msort, .ref Mplace, .ref Mvalue, .int (nI anq), .int ft, .ref Mwords, .int (nI hdq), .int (nI nxq), .ref Mgoes, .ref MgoLine, .ref Mends, .ref MendLine, .ref Mkinds, .ref MisName, .int (nI mnq), .ref Mrow, .ref MbyHand, .ref Mleast, .ref Msecond, .ref MendAt, .ref MgoAt, .ref MnodeBehind, .int lE, .ref MisOut, .ref MfirstEnd, .ref MfirstGo])), (Msort, .inl (cI, 1602, .inl msort)), (Mplace, .inl (cI, 1602, .inl mplace))] sz)) 0 0 (va_A [(h0, .inr (5, [.int th, .ref Mtape, .int (nI tnq), .int (nI znq), .ref Msort, .ref Mplace, .ref Mvalue, .int (nI anq), .int ft, .ref Mwords, .int (nI hdq), .int (nI nxq), .ref Mgoes, .ref MgoLine, .ref Mends, .ref MendLine, .ref Mkinds, .ref MisName, .int (nI mnq), .ref Mrow, .ref MbyHand, .ref Mleast, .ref Msecond, .ref MendAt, .ref MgoAt, .ref MnodeBehind, .int lE, .ref MisOut, .ref MfirstEnd, .ref MfirstGo])), (Msort, .inl (cI, 1602, .inl msort)), (Mplace, .inl (cI, 1602, .inl mplace))] sz) := by
  refine Met.ofW (cc := cX5_wrong) (maxL := 2) (ret := none) (by decide) rfl ?_
  intro p e s m args below meth c s₁ B hml hv
  obtain ⟨rfl, hsz, hP, hsk, hD0⟩ := hv
  have hx := B.exec
  have hb := B.bytes
  have hr := B.returns
  have hts := atoms_spec (ws := wsX5_wrong) B.pre
  have hown : s.vm.findClass RX5 = some m.cls := findClass_of_methodNamed B.named
  have hlocks := B.notSynchronized
  have hK := hsk.1
  have i5 : ∀ w ∈ wsX50, w ∈ wsX5_wrong := by decide +kernel
  subst hsz
  have hD := hD0.self (sz := s.heap.size)
  generalize hAe : va_A [(h0, .inr (5, [.int th, .ref Mtape, .int (nI tnq), .int (nI znq), .ref Msort, .ref Mplace, .ref Mvalue, .int (nI anq), .int ft, .ref Mwords, .int (nI hdq), .int (nI nxq), .ref Mgoes, .ref MgoLine, .ref Mends, .ref MendLine, .ref Mkinds, .ref MisName, .int (nI mnq), .ref Mrow, .ref MbyHand, .ref Mleast, .ref Msecond, .ref MendAt, .ref MgoAt, .ref MnodeBehind, .int lE, .ref MisOut, .ref MfirstEnd, .ref MfirstGo])), (Msort, .inl (cI, 1602, .inl msort)), (Mplace, .inl (cI, 1602, .inl mplace))] s.heap.size = A at hD ⊢
  have hA : ∀ q : Nat, s.heap.size ≤ q → A q := fun q h => by rw [← hAe]; exact Or.inr h
  have hS : va_S A s.heap s.heap [] := va_S.rf
  have hl := lv_entry ([.ref h0, .int (nI wq)]) (n := 2) (Nat.le_of_ble_eq_true rfl)
  rw [lg_entry_eq]
  generalize (lg_sl ([.ref h0, .int (nI wq)]) ++ List.replicate (2 - (lg_sl ([.ref h0, .int (nI wq)])).length) Slot.unset).toArray = ls at hl ⊢
  have hl : lv_has ls 2 [(0, .ref h0), (1, .int (nI wq))] := hl
  refine lv_aload_n hx hb dX5_wrong_0 rfl (lv_at hl 0 rfl) ?_
  refine va_get (D := (dC, dI)) (ci := 5) (v := .int ft) (C := RX5) (T := TX5) (N := 30) hx hb hts i5 hown hK hP 0 rfl rfl 8 (by decide) (hts (.fieldLink RX5 136 "StopSetterModel" "fault" "I") (by decide +kernel)) (fun _ h9 => h9) rfl dX5_wrong_1 ?_
  refine lv_if_ne (tgt := 25) hx hb dX5_wrong_4 (by decide) (fun c_4 => ?_) (fun c_4 => ?_)
  · skip
    have hP9 := hP.sub (ws' := [(h0, .inr (5, [.int th, .ref Mtape, .int (nI tnq), .int (nI znq), .ref Msort, .ref Mplace, .ref Mvalue, .int (nI anq), .int ft, .ref Mwords, .int (nI hdq), .int (nI nxq), .ref Mgoes, .ref MgoLine, .ref Mends, .ref MendLine, .ref Mkinds, .ref MisName, .int (nI mnq), .ref Mrow, .ref MbyHand, .ref Mleast, .ref Msecond, .ref MendAt, .ref MgoAt, .ref MnodeBehind, .int lE, .ref MisOut, .ref MfirstEnd, .ref MfirstGo])), (Msort, .inl (cI, 1602, .inl msort)), (Mplace, .inl (cI, 1602, .inl mplace))]) [0, 1, 2] rfl
    have hD9 := hD.sub (ws' := [(h0, .inr (5, [.int th, .ref Mtape, .int (nI tnq), .int (nI znq), .ref Msort, .ref Mplace, .ref Mvalue, .int (nI anq), .int ft, .ref Mwords, .int (nI hdq), .int (nI nxq), .ref Mgoes, .ref MgoLine, .ref Mends, .ref MendLine, .ref Mkinds, .ref MisName, .int (nI mnq), .ref Mrow, .ref MbyHand, .ref Mleast, .ref Msecond, .ref MendAt, .ref MgoAt, .ref MnodeBehind, .int lE, .ref MisOut, .ref MfirstEnd, .ref MfirstGo])), (Msort, .inl (cI, 1602, .inl msort)), (Mplace, .inl (cI, 1602, .inl mplace))]) [0, 1, 2] (by decide) rfl
    have hens0 : 0 < ft := (pI_pos hI c_4)
    have hens1 : mQ (stR tq wq qs) anq ft := (mQ_R0 hR c_4)
    exact W.vret hx hb hr (fun t ht hW => ⟨⟨(ft), rfl, ⟨hens0, hens1⟩, by rw [ht]; exact hP9, hD9⟩, hS.F ht⟩) hS.2.2 dX5_wrong_25
  · skip
    have han := pI_at hI c_4
    have hn16 := hp.1
    have eq9 := hR.2 c_4
    refine lv_aload_n hx hb dX5_wrong_7 rfl (lv_at hl 0 rfl) ?_
    refine lv_iload_n hx hb dX5_wrong_8 rfl (lv_at hl 1 rfl) ?_
    refine lv_bipush (v := 16) hx hb dX5_wrong_9 (by decide) ?_
    refine lv_aload_n hx hb dX5_wrong_11 rfl (lv_at hl 0 rfl) ?_
    refine va_get (D := (dC, dI)) (ci := 5) (v := .ref Mplace) (C := RX5) (T := TX5) (N := 30) hx hb hts i5 hown hK hP 0 rfl rfl 5 (by decide) (hts (.fieldLink RX5 27 "StopSetterModel" "place" "[I") (by decide +kernel)) (fun _ h9 => h9) rfl dX5_wrong_12 ?_
    refine lv_aload_n hx hb dX5_wrong_15 rfl (lv_at hl 0 rfl) ?_
    refine va_get (D := (dC, dI)) (ci := 5) (v := .int (nI anq)) (C := RX5) (T := TX5) (N := 30) hx hb hts i5 hown hK hP 0 rfl rfl 7 (by decide) (hts (.fieldLink RX5 133 "StopSetterModel" "at" "I") (by decide +kernel)) (fun _ h9 => h9) rfl dX5_wrong_16 ?_
    refine va_iald hx hb hK hP 2 0 rfl rfl (vp_in_nI (by omega) (by decide)) dX5_wrong_19 ?_
    refine lv_topi (fun v_ ev_ => ?_)
    obtain rfl : v_ = (nI (tq.P qs.1)) := ev_.trans (by rw [nI_clamp (by omega), eq9]; exact (hPl qs.1 (by omega)).2)
    refine lv_imul hx hb dX5_wrong_20 ?_
    refine lv_topi (fun v_ ev_ => ?_)
    obtain rfl : v_ = (nI (16 * tq.P qs.1)) := ev_.trans (nI_mulT 16 _)
    refine lv_iadd hx hb dX5_wrong_21 ?_
    refine lv_topi (fun v_ ev_ => ?_)
    obtain rfl : v_ = (nI (wq + 16 * tq.P qs.1)) := ev_.trans (nI_add _ _)
    refine va_put (D := (dC, dI)) (ci := 5) (v := .int (nI (wq + 16 * tq.P qs.1))) (ty := tyX5 8) (C := RX5) (T := TX5) (N := 30) hx hb hts i5 tyX5 tyX5_ok nmX5 hown hK hP hD hS 0 rfl rfl 8 (by decide) (hts (.fieldLink RX5 136 "StopSetterModel" "fault" "I") (by decide +kernel)) (fun _ h9 => h9) rfl (by decide +kernel) rfl rfl (Nat.le_of_ble_eq_true rfl) dX5_wrong_22 (fun H locs hP hD hS => ?_)
    have hP : va_P (dC, dI) vwCl [(h0, .inr (5, [.int th, .ref Mtape, .int (nI tnq), .int (nI znq), .ref Msort, .ref Mplace, .ref Mvalue, .int (nI anq), .int (nI (wq + 16 * tq.P qs.1)), .ref Mwords, .int (nI hdq), .int (nI nxq), .ref Mgoes, .ref MgoLine, .ref Mends, .ref MendLine, .ref Mkinds, .ref MisName, .int (nI mnq), .ref Mrow, .ref MbyHand, .ref Mleast, .ref Msecond, .ref MendAt, .ref MgoAt, .ref MnodeBehind, .int lE, .ref MisOut, .ref MfirstEnd, .ref MfirstGo])), (Msort, .inl (cI, 1602, .inl msort)), (Mplace, .inl (cI, 1602, .inl mplace))] H := hP
    have hD : va_D A [(h0, .inr (5, [.int th, .ref Mtape, .int (nI tnq), .int (nI znq), .ref Msort, .ref Mplace, .ref Mvalue, .int (nI anq), .int (nI (wq + 16 * tq.P qs.1)), .ref Mwords, .int (nI hdq), .int (nI nxq), .ref Mgoes, .ref MgoLine, .ref Mends, .ref MendLine, .ref Mkinds, .ref MisName, .int (nI mnq), .ref Mrow, .ref MbyHand, .ref Mleast, .ref Msecond, .ref MendAt, .ref MgoAt, .ref MnodeBehind, .int lE, .ref MisOut, .ref MfirstEnd, .ref MfirstGo])), (Msort, .inl (cI, 1602, .inl msort)), (Mplace, .inl (cI, 1602, .inl mplace))] := hD
    have hP9 := hP.sub (ws' := [(h0, .inr (5, [.int th, .ref Mtape, .int (nI tnq), .int (nI znq), .ref Msort, .ref Mplace, .ref Mvalue, .int (nI anq), .int (nI (wq + 16 * tq.P qs.1)), .ref Mwords, .int (nI hdq), .int (nI nxq), .ref Mgoes, .ref MgoLine, .ref Mends, .ref MendLine, .ref Mkinds, .ref MisName, .int (nI mnq), .ref Mrow, .ref MbyHand, .ref Mleast, .ref Msecond, .ref MendAt, .ref MgoAt, .ref MnodeBehind, .int lE, .ref MisOut, .ref MfirstEnd, .ref MfirstGo])), (Msort, .inl (cI, 1602, .inl msort)), (Mplace, .inl (cI, 1602, .inl mplace))]) [0, 1, 2] rfl
    have hD9 := hD.sub (ws' := [(h0, .inr (5, [.int th, .ref Mtape, .int (nI tnq), .int (nI znq), .ref Msort, .ref Mplace, .ref Mvalue, .int (nI anq), .int (nI (wq + 16 * tq.P qs.1)), .ref Mwords, .int (nI hdq), .int (nI nxq), .ref Mgoes, .ref MgoLine, .ref Mends, .ref MendLine, .ref Mkinds, .ref MisName, .int (nI mnq), .ref Mrow, .ref MbyHand, .ref Mleast, .ref Msecond, .ref MendAt, .ref MgoAt, .ref MnodeBehind, .int lE, .ref MisOut, .ref MfirstEnd, .ref MfirstGo])), (Msort, .inl (cI, 1602, .inl msort)), (Mplace, .inl (cI, 1602, .inl mplace))]) [0, 1, 2] (by decide) rfl
    have hens0 : 0 < (nI (wq + 16 * tq.P qs.1)) := (wr_pos hw1 hw2 (hPl qs.1 (by omega)).1)
    have hens1 : mQ (stR tq wq qs) anq (nI (wq + 16 * tq.P qs.1)) := (mQ_R1 hR c_4)
    exact W.vret hx hb hr (fun t ht hW => ⟨⟨((nI (wq + 16 * tq.P qs.1))), rfl, ⟨hens0, hens1⟩, by rw [ht]; exact hP9, hD9⟩, hS.F ht⟩) hS.2.2 dX5_wrong_25
set_option maxHeartbeats 4000000 in
set_option maxRecDepth 100000 in
theorem k_isSign (l : Launch) (dC : Nat → ClassId) (dI : Nat → Nat → Nat) (cI cZ cC cJ : ClassId) (sz : Nat) (h0 : Nat) (th : Int32) (Mtape : Nat) (tnq : Nat) (znq : Nat) (Msort : Nat) (Mplace : Nat) (Mvalue : Nat) (anq : Nat) (ft : Int32) (Mwords : Nat) (hdq : Nat) (nxq : Nat) (Mgoes : Nat) (MgoLine : Nat) (Mends : Nat) (MendLine : Nat) (Mkinds : Nat) (MisName : Nat) (mnq : Nat) (Mrow : Nat) (MbyHand : Nat) (Mleast : Nat) (Msecond : Nat) (MendAt : Nat) (MgoAt : Nat) (MnodeBehind : Nat) (lE : Int32) (MisOut : Nat) (MfirstEnd : Nat) (MfirstGo : Nat) (msort : Nat → Int32) (mplace : Nat → Int32) (mvalue : Nat → Int64) (ntq : Nat) (tq : TkS) (qs : Nat × Int32) (hp : pOK msort mplace ntq) (hI : pI ntq anq ft) (hSo : tkSo tq msort ntq) (hVa : tkVa tq mvalue ntq) (hR : mQ qs anq ft) : Met l yX5_isSign wsX5_isSign ({ frames := 0, cells := 0, slots := 0, locals := 0 }) (va_Pc [.ref h0, .int 59] (sPre dC dI cI cZ cC cJ [(h0, .inr (5, [.int th, .ref Mtape, .int (nI tnq), .int (nI znq), .ref Msort, .ref Mplace, .ref Mvalue, .int (nI anq), .int ft, .ref Mwords, .int (nI hdq), .int (nI nxq), .ref Mgoes, .ref MgoLine, .ref Mends, .ref MendLine, .ref Mkinds, .ref MisName, .int (nI mnq), .ref Mrow, .ref MbyHand, .ref Mleast, .ref Msecond, .ref MendAt, .ref MgoAt, .ref MnodeBehind, .int lE, .ref MisOut, .ref MfirstEnd, .ref MfirstGo])), (Msort, .inl (cI, 1602, .inl msort)), (Mplace, .inl (cI, 1602, .inl mplace)), (Mvalue, .inl (cJ, 1602, .inr (.inl mvalue)))] sz)) (va_Qi (fun (r : Int32) (u : Unit) => ((r : Int32) = 0 ∨ (ft = 0 ∧ anq < ntq)) ∧ ((r : Int32) = xW9 ft (if tq.S qs.1 = 4 then 1 else 0))) (fun _ => sB dC dI (va_A [(h0, .inr (5, [.int th, .ref Mtape, .int (nI tnq), .int (nI znq), .ref Msort, .ref Mplace, .ref Mvalue, .int (nI anq), .int ft, .ref Mwords, .int (nI hdq), .int (nI nxq), .ref Mgoes, .ref MgoLine, .ref Mends, .ref MendLine, .ref Mkinds, .ref MisName, .int (nI mnq), .ref Mrow, .ref MbyHand, .ref Mleast, .ref Msecond, .ref MendAt, .ref MgoAt, .ref MnodeBehind, .int lE, .ref MisOut, .ref MfirstEnd, .ref MfirstGo])), (Msort, .inl (cI, 1602, .inl msort)), (Mplace, .inl (cI, 1602, .inl mplace)), (Mvalue, .inl (cJ, 1602, .inr (.inl mvalue)))] sz) [(h0, .inr (5, [.int th, .ref Mtape, .int (nI tnq), .int (nI znq), .ref Msort, .ref Mplace, .ref Mvalue, .int (nI anq), .int ft, .ref Mwords, .int (nI hdq), .int (nI nxq), .ref Mgoes, .ref MgoLine, .ref Mends, .ref MendLine, .ref Mkinds, .ref MisName, .int (nI mnq), .ref Mrow, .ref MbyHand, .ref Mleast, .ref Msecond, .ref MendAt, .ref MgoAt, .ref MnodeBehind, .int lE, .ref MisOut, .ref MfirstEnd, .ref MfirstGo])), (Msort, .inl (cI, 1602, .inl msort)), (Mplace, .inl (cI, 1602, .inl mplace)), (Mvalue, .inl (cJ, 1602, .inr (.inl mvalue)))]) (va_A [(h0, .inr (5, [.int th, .ref Mtape, .int (nI tnq), .int (nI znq), .ref Msort, .ref Mplace, .ref Mvalue, .int (nI anq), .int ft, .ref Mwords, .int (nI hdq), .int (nI nxq), .ref Mgoes, .ref MgoLine, .ref Mends, .ref MendLine, .ref Mkinds, .ref MisName, .int (nI mnq), .ref Mrow, .ref MbyHand, .ref Mleast, .ref Msecond, .ref MendAt, .ref MgoAt, .ref MnodeBehind, .int lE, .ref MisOut, .ref MfirstEnd, .ref MfirstGo])), (Msort, .inl (cI, 1602, .inl msort)), (Mplace, .inl (cI, 1602, .inl mplace)), (Mvalue, .inl (cJ, 1602, .inr (.inl mvalue)))] sz)) 0 0 (va_A [(h0, .inr (5, [.int th, .ref Mtape, .int (nI tnq), .int (nI znq), .ref Msort, .ref Mplace, .ref Mvalue, .int (nI anq), .int ft, .ref Mwords, .int (nI hdq), .int (nI nxq), .ref Mgoes, .ref MgoLine, .ref Mends, .ref MendLine, .ref Mkinds, .ref MisName, .int (nI mnq), .ref Mrow, .ref MbyHand, .ref Mleast, .ref Msecond, .ref MendAt, .ref MgoAt, .ref MnodeBehind, .int lE, .ref MisOut, .ref MfirstEnd, .ref MfirstGo])), (Msort, .inl (cI, 1602, .inl msort)), (Mplace, .inl (cI, 1602, .inl mplace)), (Mvalue, .inl (cJ, 1602, .inr (.inl mvalue)))] sz) := by
  refine Met.ofW (cc := cX5_isSign) (maxL := 2) (ret := (some .boolean)) (by decide) rfl ?_
  intro p e s m args below meth c s₁ B hml hv
  obtain ⟨rfl, hsz, hP, hsk, hD0⟩ := hv
  have hx := B.exec
  have hb := B.bytes
  have hr := B.returns
  have hts := atoms_spec (ws := wsX5_isSign) B.pre
  have hown : s.vm.findClass RX5 = some m.cls := findClass_of_methodNamed B.named
  have hlocks := B.notSynchronized
  have hK := hsk.1
  have i5 : ∀ w ∈ wsX50, w ∈ wsX5_isSign := by decide +kernel
  subst hsz
  have hD := hD0.self (sz := s.heap.size)
  generalize hAe : va_A [(h0, .inr (5, [.int th, .ref Mtape, .int (nI tnq), .int (nI znq), .ref Msort, .ref Mplace, .ref Mvalue, .int (nI anq), .int ft, .ref Mwords, .int (nI hdq), .int (nI nxq), .ref Mgoes, .ref MgoLine, .ref Mends, .ref MendLine, .ref Mkinds, .ref MisName, .int (nI mnq), .ref Mrow, .ref MbyHand, .ref Mleast, .ref Msecond, .ref MendAt, .ref MgoAt, .ref MnodeBehind, .int lE, .ref MisOut, .ref MfirstEnd, .ref MfirstGo])), (Msort, .inl (cI, 1602, .inl msort)), (Mplace, .inl (cI, 1602, .inl mplace)), (Mvalue, .inl (cJ, 1602, .inr (.inl mvalue)))] s.heap.size = A at hD ⊢
  have hA : ∀ q : Nat, s.heap.size ≤ q → A q := fun q h => by rw [← hAe]; exact Or.inr h
  have hS : va_S A s.heap s.heap [] := va_S.rf
  have hl := lv_entry ([.ref h0, .int 59]) (n := 2) (Nat.le_of_ble_eq_true rfl)
  rw [lg_entry_eq]
  generalize (lg_sl ([.ref h0, .int 59]) ++ List.replicate (2 - (lg_sl ([.ref h0, .int 59])).length) Slot.unset).toArray = ls at hl ⊢
  have hl : lv_has ls 2 [(0, .ref h0), (1, .int 59)] := hl
  refine lv_aload_n hx hb dX5_isSign_0 rfl (lv_at hl 0 rfl) ?_
  refine va_get (D := (dC, dI)) (ci := 5) (v := .int ft) (C := RX5) (T := TX5) (N := 30) hx hb hts i5 hown hK hP 0 rfl rfl 8 (by decide) (hts (.fieldLink RX5 136 "StopSetterModel" "fault" "I") (by decide +kernel)) (fun _ h9 => h9) rfl dX5_isSign_1 ?_
  refine lv_if_ne (tgt := 39) hx hb dX5_isSign_4 (by decide) (fun c_4 => ?_) (fun c_4 => ?_)
  · skip
    refine lv_iconst (v := 0) hx hb dX5_isSign_39 (by decide) ?_
    have hP9 := hP.sub (ws' := [(h0, .inr (5, [.int th, .ref Mtape, .int (nI tnq), .int (nI znq), .ref Msort, .ref Mplace, .ref Mvalue, .int (nI anq), .int ft, .ref Mwords, .int (nI hdq), .int (nI nxq), .ref Mgoes, .ref MgoLine, .ref Mends, .ref MendLine, .ref Mkinds, .ref MisName, .int (nI mnq), .ref Mrow, .ref MbyHand, .ref Mleast, .ref Msecond, .ref MendAt, .ref MgoAt, .ref MnodeBehind, .int lE, .ref MisOut, .ref MfirstEnd, .ref MfirstGo])), (Msort, .inl (cI, 1602, .inl msort)), (Mplace, .inl (cI, 1602, .inl mplace)), (Mvalue, .inl (cJ, 1602, .inr (.inl mvalue)))]) [0, 1, 2, 3] rfl
    have hD9 := hD.sub (ws' := [(h0, .inr (5, [.int th, .ref Mtape, .int (nI tnq), .int (nI znq), .ref Msort, .ref Mplace, .ref Mvalue, .int (nI anq), .int ft, .ref Mwords, .int (nI hdq), .int (nI nxq), .ref Mgoes, .ref MgoLine, .ref Mends, .ref MendLine, .ref Mkinds, .ref MisName, .int (nI mnq), .ref Mrow, .ref MbyHand, .ref Mleast, .ref Msecond, .ref MendAt, .ref MgoAt, .ref MnodeBehind, .int lE, .ref MisOut, .ref MfirstEnd, .ref MfirstGo])), (Msort, .inl (cI, 1602, .inl msort)), (Mplace, .inl (cI, 1602, .inl mplace)), (Mvalue, .inl (cJ, 1602, .inr (.inl mvalue)))]) [0, 1, 2, 3] (by decide) rfl
    have hens0 : (0 : Int32) = 0 ∨ (ft = 0 ∧ anq < ntq) := (Or.inl rfl)
    have hens1 : (0 : Int32) = xW9 ft (if tq.S qs.1 = 4 then 1 else 0) := (by unfold xW9; rw [if_neg c_4])
    exact W.zret (v := 0) (ty := .boolean) hx hb hr rfl (fun t ht hW => ⟨⟨0, (), rfl, ⟨hens0, hens1⟩, by rw [ht]; exact hP9, hD9⟩, hS.F ht⟩) hS.2.2 dX5_isSign_40
  · skip
    have han := pI_at hI c_4
    have hn16 := hp.1
    have eq9 := hR.2 c_4
    refine lv_aload_n hx hb dX5_isSign_7 rfl (lv_at hl 0 rfl) ?_
    refine va_get (D := (dC, dI)) (ci := 5) (v := .ref Msort) (C := RX5) (T := TX5) (N := 30) hx hb hts i5 hown hK hP 0 rfl rfl 4 (by decide) (hts (.fieldLink RX5 24 "StopSetterModel" "sort" "[I") (by decide +kernel)) (fun _ h9 => h9) rfl dX5_isSign_8 ?_
    refine lv_aload_n hx hb dX5_isSign_11 rfl (lv_at hl 0 rfl) ?_
    refine va_get (D := (dC, dI)) (ci := 5) (v := .int (nI anq)) (C := RX5) (T := TX5) (N := 30) hx hb hts i5 hown hK hP 0 rfl rfl 7 (by decide) (hts (.fieldLink RX5 133 "StopSetterModel" "at" "I") (by decide +kernel)) (fun _ h9 => h9) rfl dX5_isSign_12 ?_
    refine va_iald hx hb hK hP 1 0 rfl rfl (vp_in_nI (by omega) (by decide)) dX5_isSign_15 ?_
    refine lv_topi (fun v_ ev_ => ?_)
    obtain rfl : v_ = (msort qs.1) := ev_.trans (by rw [nI_clamp (by omega), eq9])
    refine lv_iconst (v := 3) hx hb dX5_isSign_16 (by decide) ?_
    refine lv_icmp_ne (tgt := 39) hx hb dX5_isSign_17 (by decide) (fun c_17 => ?_) (fun c_17 => ?_)
    · skip
      refine lv_iconst (v := 0) hx hb dX5_isSign_39 (by decide) ?_
      have hP9 := hP.sub (ws' := [(h0, .inr (5, [.int th, .ref Mtape, .int (nI tnq), .int (nI znq), .ref Msort, .ref Mplace, .ref Mvalue, .int (nI anq), .int ft, .ref Mwords, .int (nI hdq), .int (nI nxq), .ref Mgoes, .ref MgoLine, .ref Mends, .ref MendLine, .ref Mkinds, .ref MisName, .int (nI mnq), .ref Mrow, .ref MbyHand, .ref Mleast, .ref Msecond, .ref MendAt, .ref MgoAt, .ref MnodeBehind, .int lE, .ref MisOut, .ref MfirstEnd, .ref MfirstGo])), (Msort, .inl (cI, 1602, .inl msort)), (Mplace, .inl (cI, 1602, .inl mplace)), (Mvalue, .inl (cJ, 1602, .inr (.inl mvalue)))]) [0, 1, 2, 3] rfl
      have hD9 := hD.sub (ws' := [(h0, .inr (5, [.int th, .ref Mtape, .int (nI tnq), .int (nI znq), .ref Msort, .ref Mplace, .ref Mvalue, .int (nI anq), .int ft, .ref Mwords, .int (nI hdq), .int (nI nxq), .ref Mgoes, .ref MgoLine, .ref Mends, .ref MendLine, .ref Mkinds, .ref MisName, .int (nI mnq), .ref Mrow, .ref MbyHand, .ref Mleast, .ref Msecond, .ref MendAt, .ref MgoAt, .ref MnodeBehind, .int lE, .ref MisOut, .ref MfirstEnd, .ref MfirstGo])), (Msort, .inl (cI, 1602, .inl msort)), (Mplace, .inl (cI, 1602, .inl mplace)), (Mvalue, .inl (cJ, 1602, .inr (.inl mvalue)))]) [0, 1, 2, 3] (by decide) rfl
      have hens0 : (0 : Int32) = 0 ∨ (ft = 0 ∧ anq < ntq) := (Or.inl rfl)
      have hens1 : (0 : Int32) = xW9 ft (if tq.S qs.1 = 4 then 1 else 0) := (by unfold xW9; rw [if_pos c_4, if_neg (fun z => c_17 (((hSo qs.1 (by omega)).2.2.2.1).mpr z)), if_pos rfl])
      exact W.zret (v := 0) (ty := .boolean) hx hb hr rfl (fun t ht hW => ⟨⟨0, (), rfl, ⟨hens0, hens1⟩, by rw [ht]; exact hP9, hD9⟩, hS.F ht⟩) hS.2.2 dX5_isSign_40
    · skip
      refine lv_aload_n hx hb dX5_isSign_20 rfl (lv_at hl 0 rfl) ?_
      refine va_get (D := (dC, dI)) (ci := 5) (v := .ref Mvalue) (C := RX5) (T := TX5) (N := 30) hx hb hts i5 hown hK hP 0 rfl rfl 6 (by decide) (hts (.fieldLink RX5 30 "StopSetterModel" "value" "[J") (by decide +kernel)) (fun _ h9 => h9) rfl dX5_isSign_21 ?_
      refine lv_aload_n hx hb dX5_isSign_24 rfl (lv_at hl 0 rfl) ?_
      refine va_get (D := (dC, dI)) (ci := 5) (v := .int (nI anq)) (C := RX5) (T := TX5) (N := 30) hx hb hts i5 hown hK hP 0 rfl rfl 7 (by decide) (hts (.fieldLink RX5 133 "StopSetterModel" "at" "I") (by decide +kernel)) (fun _ h9 => h9) rfl dX5_isSign_25 ?_
      refine va_lald hx hb hK hP 3 3 rfl rfl (vp_in_nI (by omega) (by decide)) dX5_isSign_28 ?_
      refine lv_topl (fun v_ ev_ => ?_)
      obtain rfl : v_ = (mvalue qs.1) := ev_.trans (by rw [nI_clamp (by omega), eq9])
      refine lv_iload_n hx hb dX5_isSign_29 rfl (lv_at hl 1 rfl) ?_
      refine lv_i2l (v := (59 : Int32).toInt64) hx hb dX5_isSign_30 rfl ?_
      refine W.lcmp hx hb dX5_isSign_31 ?_
      refine lv_if_ne (tgt := 39) hx hb dX5_isSign_32 (by decide) (fun c_32 => ?_) (fun c_32 => ?_)
      · skip
        refine lv_iconst (v := 0) hx hb dX5_isSign_39 (by decide) ?_
        have hP9 := hP.sub (ws' := [(h0, .inr (5, [.int th, .ref Mtape, .int (nI tnq), .int (nI znq), .ref Msort, .ref Mplace, .ref Mvalue, .int (nI anq), .int ft, .ref Mwords, .int (nI hdq), .int (nI nxq), .ref Mgoes, .ref MgoLine, .ref Mends, .ref MendLine, .ref Mkinds, .ref MisName, .int (nI mnq), .ref Mrow, .ref MbyHand, .ref Mleast, .ref Msecond, .ref MendAt, .ref MgoAt, .ref MnodeBehind, .int lE, .ref MisOut, .ref MfirstEnd, .ref MfirstGo])), (Msort, .inl (cI, 1602, .inl msort)), (Mplace, .inl (cI, 1602, .inl mplace)), (Mvalue, .inl (cJ, 1602, .inr (.inl mvalue)))]) [0, 1, 2, 3] rfl
        have hD9 := hD.sub (ws' := [(h0, .inr (5, [.int th, .ref Mtape, .int (nI tnq), .int (nI znq), .ref Msort, .ref Mplace, .ref Mvalue, .int (nI anq), .int ft, .ref Mwords, .int (nI hdq), .int (nI nxq), .ref Mgoes, .ref MgoLine, .ref Mends, .ref MendLine, .ref Mkinds, .ref MisName, .int (nI mnq), .ref Mrow, .ref MbyHand, .ref Mleast, .ref Msecond, .ref MendAt, .ref MgoAt, .ref MnodeBehind, .int lE, .ref MisOut, .ref MfirstEnd, .ref MfirstGo])), (Msort, .inl (cI, 1602, .inl msort)), (Mplace, .inl (cI, 1602, .inl mplace)), (Mvalue, .inl (cJ, 1602, .inr (.inl mvalue)))]) [0, 1, 2, 3] (by decide) rfl
        have hens0 : (0 : Int32) = 0 ∨ (ft = 0 ∧ anq < ntq) := (Or.inl rfl)
        have hens1 : (0 : Int32) = xW9 ft (if tq.S qs.1 = 4 then 1 else 0) := (absurd ((lg_cmp_eq _ _).mpr ((hVa qs.1 (by omega)).2 (((hSo qs.1 (by omega)).2.2.2.1).mp c_17))) c_32)
        exact W.zret (v := 0) (ty := .boolean) hx hb hr rfl (fun t ht hW => ⟨⟨0, (), rfl, ⟨hens0, hens1⟩, by rw [ht]; exact hP9, hD9⟩, hS.F ht⟩) hS.2.2 dX5_isSign_40
      · skip
        refine lv_iconst (v := 1) hx hb dX5_isSign_35 (by decide) ?_
        refine lv_goto (tgt := 40) hx hb dX5_isSign_36 (by decide) ?_
        have hP9 := hP.sub (ws' := [(h0, .inr (5, [.int th, .ref Mtape, .int (nI tnq), .int (nI znq), .ref Msort, .ref Mplace, .ref Mvalue, .int (nI anq), .int ft, .ref Mwords, .int (nI hdq), .int (nI nxq), .ref Mgoes, .ref MgoLine, .ref Mends, .ref MendLine, .ref Mkinds, .ref MisName, .int (nI mnq), .ref Mrow, .ref MbyHand, .ref Mleast, .ref Msecond, .ref MendAt, .ref MgoAt, .ref MnodeBehind, .int lE, .ref MisOut, .ref MfirstEnd, .ref MfirstGo])), (Msort, .inl (cI, 1602, .inl msort)), (Mplace, .inl (cI, 1602, .inl mplace)), (Mvalue, .inl (cJ, 1602, .inr (.inl mvalue)))]) [0, 1, 2, 3] rfl
        have hD9 := hD.sub (ws' := [(h0, .inr (5, [.int th, .ref Mtape, .int (nI tnq), .int (nI znq), .ref Msort, .ref Mplace, .ref Mvalue, .int (nI anq), .int ft, .ref Mwords, .int (nI hdq), .int (nI nxq), .ref Mgoes, .ref MgoLine, .ref Mends, .ref MendLine, .ref Mkinds, .ref MisName, .int (nI mnq), .ref Mrow, .ref MbyHand, .ref Mleast, .ref Msecond, .ref MendAt, .ref MgoAt, .ref MnodeBehind, .int lE, .ref MisOut, .ref MfirstEnd, .ref MfirstGo])), (Msort, .inl (cI, 1602, .inl msort)), (Mplace, .inl (cI, 1602, .inl mplace)), (Mvalue, .inl (cJ, 1602, .inr (.inl mvalue)))]) [0, 1, 2, 3] (by decide) rfl
        have hens0 : (1 : Int32) = 0 ∨ (ft = 0 ∧ anq < ntq) := (Or.inr ⟨c_4, tok_lt hp (pI_at hI c_4) (by rw [nI_clamp (by omega), eq9]) c_17 (by decide)⟩)
        have hens1 : (1 : Int32) = xW9 ft (if tq.S qs.1 = 4 then 1 else 0) := (by unfold xW9; rw [if_pos c_4, if_pos (((hSo qs.1 (by omega)).2.2.2.1).mp c_17)]; rfl)
        exact W.zret (v := 1) (ty := .boolean) hx hb hr rfl (fun t ht hW => ⟨⟨1, (), rfl, ⟨hens0, hens1⟩, by rw [ht]; exact hP9, hD9⟩, hS.F ht⟩) hS.2.2 dX5_isSign_40
set_option maxHeartbeats 4000000 in
set_option maxRecDepth 100000 in
theorem k_misWord (l : Launch) (dC : Nat → ClassId) (dI : Nat → Nat → Nat) (cI cZ cC cJ : ClassId) (sz : Nat) (h0 : Nat) (th : Int32) (Mtape : Nat) (tnq : Nat) (znq : Nat) (Msort : Nat) (Mplace : Nat) (Mvalue : Nat) (anq : Nat) (ft : Int32) (Mwords : Nat) (hdq : Nat) (nxq : Nat) (Mgoes : Nat) (MgoLine : Nat) (Mends : Nat) (MendLine : Nat) (Mkinds : Nat) (MisName : Nat) (mnq : Nat) (Mrow : Nat) (MbyHand : Nat) (Mleast : Nat) (Msecond : Nat) (MendAt : Nat) (MgoAt : Nat) (MnodeBehind : Nat) (lE : Int32) (MisOut : Nat) (MfirstEnd : Nat) (MfirstGo : Nat) (msort : Nat → Int32) (mplace : Nat → Int32) (mvalue : Nat → Int64) (mwords : Nat → Int64) (wq : Nat) (ntq : Nat) (tq : TkS) (qs : Nat × Int32) (hp : pOK msort mplace ntq) (hI : pI ntq anq ft) (hw : wq < 12) (hSo : tkSo tq msort ntq) (hWo : tkWo tq mvalue mwords ntq) (hR : mQ qs anq ft) : Met l yX5_isWord wsX5_isWord ({ frames := 0, cells := 0, slots := 0, locals := 0 }) (va_Pc [.ref h0, .int (nI wq)] (sPre dC dI cI cZ cC cJ [(h0, .inr (5, [.int th, .ref Mtape, .int (nI tnq), .int (nI znq), .ref Msort, .ref Mplace, .ref Mvalue, .int (nI anq), .int ft, .ref Mwords, .int (nI hdq), .int (nI nxq), .ref Mgoes, .ref MgoLine, .ref Mends, .ref MendLine, .ref Mkinds, .ref MisName, .int (nI mnq), .ref Mrow, .ref MbyHand, .ref Mleast, .ref Msecond, .ref MendAt, .ref MgoAt, .ref MnodeBehind, .int lE, .ref MisOut, .ref MfirstEnd, .ref MfirstGo])), (Msort, .inl (cI, 1602, .inl msort)), (Mplace, .inl (cI, 1602, .inl mplace)), (Mvalue, .inl (cJ, 1602, .inr (.inl mvalue))), (Mwords, .inl (cJ, 12, .inr (.inl mwords)))] sz)) (va_Qi (fun (r : Int32) (u : Unit) => ((r : Int32) = 0 ∨ (ft = 0 ∧ anq < ntq)) ∧ ((r : Int32) = 0 ∨ (r : Int32) = 1) ∧ ((r : Int32) = xW9 ft (tq.T qs.1 wq))) (fun _ => sB dC dI (va_A [(h0, .inr (5, [.int th, .ref Mtape, .int (nI tnq), .int (nI znq), .ref Msort, .ref Mplace, .ref Mvalue, .int (nI anq), .int ft, .ref Mwords, .int (nI hdq), .int (nI nxq), .ref Mgoes, .ref MgoLine, .ref Mends, .ref MendLine, .ref Mkinds, .ref MisName, .int (nI mnq), .ref Mrow, .ref MbyHand, .ref Mleast, .ref Msecond, .ref MendAt, .ref MgoAt, .ref MnodeBehind, .int lE, .ref MisOut, .ref MfirstEnd, .ref MfirstGo])), (Msort, .inl (cI, 1602, .inl msort)), (Mplace, .inl (cI, 1602, .inl mplace)), (Mvalue, .inl (cJ, 1602, .inr (.inl mvalue))), (Mwords, .inl (cJ, 12, .inr (.inl mwords)))] sz) [(h0, .inr (5, [.int th, .ref Mtape, .int (nI tnq), .int (nI znq), .ref Msort, .ref Mplace, .ref Mvalue, .int (nI anq), .int ft, .ref Mwords, .int (nI hdq), .int (nI nxq), .ref Mgoes, .ref MgoLine, .ref Mends, .ref MendLine, .ref Mkinds, .ref MisName, .int (nI mnq), .ref Mrow, .ref MbyHand, .ref Mleast, .ref Msecond, .ref MendAt, .ref MgoAt, .ref MnodeBehind, .int lE, .ref MisOut, .ref MfirstEnd, .ref MfirstGo])), (Msort, .inl (cI, 1602, .inl msort)), (Mplace, .inl (cI, 1602, .inl mplace)), (Mvalue, .inl (cJ, 1602, .inr (.inl mvalue))), (Mwords, .inl (cJ, 12, .inr (.inl mwords)))]) (va_A [(h0, .inr (5, [.int th, .ref Mtape, .int (nI tnq), .int (nI znq), .ref Msort, .ref Mplace, .ref Mvalue, .int (nI anq), .int ft, .ref Mwords, .int (nI hdq), .int (nI nxq), .ref Mgoes, .ref MgoLine, .ref Mends, .ref MendLine, .ref Mkinds, .ref MisName, .int (nI mnq), .ref Mrow, .ref MbyHand, .ref Mleast, .ref Msecond, .ref MendAt, .ref MgoAt, .ref MnodeBehind, .int lE, .ref MisOut, .ref MfirstEnd, .ref MfirstGo])), (Msort, .inl (cI, 1602, .inl msort)), (Mplace, .inl (cI, 1602, .inl mplace)), (Mvalue, .inl (cJ, 1602, .inr (.inl mvalue))), (Mwords, .inl (cJ, 12, .inr (.inl mwords)))] sz)) 0 0 (va_A [(h0, .inr (5, [.int th, .ref Mtape, .int (nI tnq), .int (nI znq), .ref Msort, .ref Mplace, .ref Mvalue, .int (nI anq), .int ft, .ref Mwords, .int (nI hdq), .int (nI nxq), .ref Mgoes, .ref MgoLine, .ref Mends, .ref MendLine, .ref Mkinds, .ref MisName, .int (nI mnq), .ref Mrow, .ref MbyHand, .ref Mleast, .ref Msecond, .ref MendAt, .ref MgoAt, .ref MnodeBehind, .int lE, .ref MisOut, .ref MfirstEnd, .ref MfirstGo])), (Msort, .inl (cI, 1602, .inl msort)), (Mplace, .inl (cI, 1602, .inl mplace)), (Mvalue, .inl (cJ, 1602, .inr (.inl mvalue))), (Mwords, .inl (cJ, 12, .inr (.inl mwords)))] sz) := by
  refine Met.ofW (cc := cX5_isWord) (maxL := 2) (ret := (some .boolean)) (by decide) rfl ?_
  intro p e s m args below meth c s₁ B hml hv
  obtain ⟨rfl, hsz, hP, hsk, hD0⟩ := hv
  have hx := B.exec
  have hb := B.bytes
  have hr := B.returns
  have hts := atoms_spec (ws := wsX5_isWord) B.pre
  have hown : s.vm.findClass RX5 = some m.cls := findClass_of_methodNamed B.named
  have hlocks := B.notSynchronized
  have hK := hsk.1
  have i5 : ∀ w ∈ wsX50, w ∈ wsX5_isWord := by decide +kernel
  subst hsz
  have hD := hD0.self (sz := s.heap.size)
  generalize hAe : va_A [(h0, .inr (5, [.int th, .ref Mtape, .int (nI tnq), .int (nI znq), .ref Msort, .ref Mplace, .ref Mvalue, .int (nI anq), .int ft, .ref Mwords, .int (nI hdq), .int (nI nxq), .ref Mgoes, .ref MgoLine, .ref Mends, .ref MendLine, .ref Mkinds, .ref MisName, .int (nI mnq), .ref Mrow, .ref MbyHand, .ref Mleast, .ref Msecond, .ref MendAt, .ref MgoAt, .ref MnodeBehind, .int lE, .ref MisOut, .ref MfirstEnd, .ref MfirstGo])), (Msort, .inl (cI, 1602, .inl msort)), (Mplace, .inl (cI, 1602, .inl mplace)), (Mvalue, .inl (cJ, 1602, .inr (.inl mvalue))), (Mwords, .inl (cJ, 12, .inr (.inl mwords)))] s.heap.size = A at hD ⊢
  have hA : ∀ q : Nat, s.heap.size ≤ q → A q := fun q h => by rw [← hAe]; exact Or.inr h
  have hS : va_S A s.heap s.heap [] := va_S.rf
  have hl := lv_entry ([.ref h0, .int (nI wq)]) (n := 2) (Nat.le_of_ble_eq_true rfl)
  rw [lg_entry_eq]
  generalize (lg_sl ([.ref h0, .int (nI wq)]) ++ List.replicate (2 - (lg_sl ([.ref h0, .int (nI wq)])).length) Slot.unset).toArray = ls at hl ⊢
  have hl : lv_has ls 2 [(0, .ref h0), (1, .int (nI wq))] := hl
  refine lv_aload_n hx hb dX5_isWord_0 rfl (lv_at hl 0 rfl) ?_
  refine va_get (D := (dC, dI)) (ci := 5) (v := .int ft) (C := RX5) (T := TX5) (N := 30) hx hb hts i5 hown hK hP 0 rfl rfl 8 (by decide) (hts (.fieldLink RX5 136 "StopSetterModel" "fault" "I") (by decide +kernel)) (fun _ h9 => h9) rfl dX5_isWord_1 ?_
  refine lv_if_ne (tgt := 43) hx hb dX5_isWord_4 (by decide) (fun c_4 => ?_) (fun c_4 => ?_)
  · skip
    refine lv_iconst (v := 0) hx hb dX5_isWord_43 (by decide) ?_
    have hP9 := hP.sub (ws' := [(h0, .inr (5, [.int th, .ref Mtape, .int (nI tnq), .int (nI znq), .ref Msort, .ref Mplace, .ref Mvalue, .int (nI anq), .int ft, .ref Mwords, .int (nI hdq), .int (nI nxq), .ref Mgoes, .ref MgoLine, .ref Mends, .ref MendLine, .ref Mkinds, .ref MisName, .int (nI mnq), .ref Mrow, .ref MbyHand, .ref Mleast, .ref Msecond, .ref MendAt, .ref MgoAt, .ref MnodeBehind, .int lE, .ref MisOut, .ref MfirstEnd, .ref MfirstGo])), (Msort, .inl (cI, 1602, .inl msort)), (Mplace, .inl (cI, 1602, .inl mplace)), (Mvalue, .inl (cJ, 1602, .inr (.inl mvalue))), (Mwords, .inl (cJ, 12, .inr (.inl mwords)))]) [0, 1, 2, 3, 4] rfl
    have hD9 := hD.sub (ws' := [(h0, .inr (5, [.int th, .ref Mtape, .int (nI tnq), .int (nI znq), .ref Msort, .ref Mplace, .ref Mvalue, .int (nI anq), .int ft, .ref Mwords, .int (nI hdq), .int (nI nxq), .ref Mgoes, .ref MgoLine, .ref Mends, .ref MendLine, .ref Mkinds, .ref MisName, .int (nI mnq), .ref Mrow, .ref MbyHand, .ref Mleast, .ref Msecond, .ref MendAt, .ref MgoAt, .ref MnodeBehind, .int lE, .ref MisOut, .ref MfirstEnd, .ref MfirstGo])), (Msort, .inl (cI, 1602, .inl msort)), (Mplace, .inl (cI, 1602, .inl mplace)), (Mvalue, .inl (cJ, 1602, .inr (.inl mvalue))), (Mwords, .inl (cJ, 12, .inr (.inl mwords)))]) [0, 1, 2, 3, 4] (by decide) rfl
    have hens0 : (0 : Int32) = 0 ∨ (ft = 0 ∧ anq < ntq) := (Or.inl rfl)
    have hens1 : (0 : Int32) = 0 ∨ (0 : Int32) = 1 := (Or.inl rfl)
    have hens2 : (0 : Int32) = xW9 ft (tq.T qs.1 wq) := (by unfold xW9; rw [if_neg c_4])
    exact W.zret (v := 0) (ty := .boolean) hx hb hr rfl (fun t ht hW => ⟨⟨0, (), rfl, ⟨hens0, hens1, hens2⟩, by rw [ht]; exact hP9, hD9⟩, hS.F ht⟩) hS.2.2 dX5_isWord_44
  · skip
    have han := pI_at hI c_4
    have hn16 := hp.1
    have eq9 := hR.2 c_4
    refine lv_aload_n hx hb dX5_isWord_7 rfl (lv_at hl 0 rfl) ?_
    refine va_get (D := (dC, dI)) (ci := 5) (v := .ref Msort) (C := RX5) (T := TX5) (N := 30) hx hb hts i5 hown hK hP 0 rfl rfl 4 (by decide) (hts (.fieldLink RX5 24 "StopSetterModel" "sort" "[I") (by decide +kernel)) (fun _ h9 => h9) rfl dX5_isWord_8 ?_
    refine lv_aload_n hx hb dX5_isWord_11 rfl (lv_at hl 0 rfl) ?_
    refine va_get (D := (dC, dI)) (ci := 5) (v := .int (nI anq)) (C := RX5) (T := TX5) (N := 30) hx hb hts i5 hown hK hP 0 rfl rfl 7 (by decide) (hts (.fieldLink RX5 133 "StopSetterModel" "at" "I") (by decide +kernel)) (fun _ h9 => h9) rfl dX5_isWord_12 ?_
    refine va_iald hx hb hK hP 1 0 rfl rfl (vp_in_nI (by omega) (by decide)) dX5_isWord_15 ?_
    refine lv_topi (fun v_ ev_ => ?_)
    obtain rfl : v_ = (msort qs.1) := ev_.trans (by rw [nI_clamp (by omega), eq9])
    refine lv_iconst (v := 1) hx hb dX5_isWord_16 (by decide) ?_
    refine lv_icmp_ne (tgt := 43) hx hb dX5_isWord_17 (by decide) (fun c_17 => ?_) (fun c_17 => ?_)
    · skip
      refine lv_iconst (v := 0) hx hb dX5_isWord_43 (by decide) ?_
      have hP9 := hP.sub (ws' := [(h0, .inr (5, [.int th, .ref Mtape, .int (nI tnq), .int (nI znq), .ref Msort, .ref Mplace, .ref Mvalue, .int (nI anq), .int ft, .ref Mwords, .int (nI hdq), .int (nI nxq), .ref Mgoes, .ref MgoLine, .ref Mends, .ref MendLine, .ref Mkinds, .ref MisName, .int (nI mnq), .ref Mrow, .ref MbyHand, .ref Mleast, .ref Msecond, .ref MendAt, .ref MgoAt, .ref MnodeBehind, .int lE, .ref MisOut, .ref MfirstEnd, .ref MfirstGo])), (Msort, .inl (cI, 1602, .inl msort)), (Mplace, .inl (cI, 1602, .inl mplace)), (Mvalue, .inl (cJ, 1602, .inr (.inl mvalue))), (Mwords, .inl (cJ, 12, .inr (.inl mwords)))]) [0, 1, 2, 3, 4] rfl
      have hD9 := hD.sub (ws' := [(h0, .inr (5, [.int th, .ref Mtape, .int (nI tnq), .int (nI znq), .ref Msort, .ref Mplace, .ref Mvalue, .int (nI anq), .int ft, .ref Mwords, .int (nI hdq), .int (nI nxq), .ref Mgoes, .ref MgoLine, .ref Mends, .ref MendLine, .ref Mkinds, .ref MisName, .int (nI mnq), .ref Mrow, .ref MbyHand, .ref Mleast, .ref Msecond, .ref MendAt, .ref MgoAt, .ref MnodeBehind, .int lE, .ref MisOut, .ref MfirstEnd, .ref MfirstGo])), (Msort, .inl (cI, 1602, .inl msort)), (Mplace, .inl (cI, 1602, .inl mplace)), (Mvalue, .inl (cJ, 1602, .inr (.inl mvalue))), (Mwords, .inl (cJ, 12, .inr (.inl mwords)))]) [0, 1, 2, 3, 4] (by decide) rfl
      have hens0 : (0 : Int32) = 0 ∨ (ft = 0 ∧ anq < ntq) := (Or.inl rfl)
      have hens1 : (0 : Int32) = 0 ∨ (0 : Int32) = 1 := (Or.inl rfl)
      have hens2 : (0 : Int32) = xW9 ft (tq.T qs.1 wq) := (by unfold xW9; rw [if_pos c_4, if_pos ((hSo qs.1 (by omega)).2.2.2.2 (fun z => c_17 (((hSo qs.1 (by omega)).2.1).mpr z)) wq)])
      exact W.zret (v := 0) (ty := .boolean) hx hb hr rfl (fun t ht hW => ⟨⟨0, (), rfl, ⟨hens0, hens1, hens2⟩, by rw [ht]; exact hP9, hD9⟩, hS.F ht⟩) hS.2.2 dX5_isWord_44
    · skip
      refine lv_aload_n hx hb dX5_isWord_20 rfl (lv_at hl 0 rfl) ?_
      refine va_get (D := (dC, dI)) (ci := 5) (v := .ref Mvalue) (C := RX5) (T := TX5) (N := 30) hx hb hts i5 hown hK hP 0 rfl rfl 6 (by decide) (hts (.fieldLink RX5 30 "StopSetterModel" "value" "[J") (by decide +kernel)) (fun _ h9 => h9) rfl dX5_isWord_21 ?_
      refine lv_aload_n hx hb dX5_isWord_24 rfl (lv_at hl 0 rfl) ?_
      refine va_get (D := (dC, dI)) (ci := 5) (v := .int (nI anq)) (C := RX5) (T := TX5) (N := 30) hx hb hts i5 hown hK hP 0 rfl rfl 7 (by decide) (hts (.fieldLink RX5 133 "StopSetterModel" "at" "I") (by decide +kernel)) (fun _ h9 => h9) rfl dX5_isWord_25 ?_
      refine va_lald hx hb hK hP 3 3 rfl rfl (vp_in_nI (by omega) (by decide)) dX5_isWord_28 ?_
      refine lv_topl (fun v_ ev_ => ?_)
      obtain rfl : v_ = (mvalue qs.1) := ev_.trans (by rw [nI_clamp (by omega), eq9])
      refine lv_aload_n hx hb dX5_isWord_29 rfl (lv_at hl 0 rfl) ?_
      refine va_get (D := (dC, dI)) (ci := 5) (v := .ref Mwords) (C := RX5) (T := TX5) (N := 30) hx hb hts i5 hown hK hP 0 rfl rfl 9 (by decide) (hts (.fieldLink RX5 58 "StopSetterModel" "words" "[J") (by decide +kernel)) (fun _ h9 => h9) rfl dX5_isWord_30 ?_
      refine lv_iload_n hx hb dX5_isWord_33 rfl (lv_at hl 1 rfl) ?_
      refine va_lald hx hb hK hP 4 3 rfl rfl (vp_in_nI hw (by decide)) dX5_isWord_34 ?_
      refine lv_topl (fun v_ ev_ => ?_)
      obtain rfl : v_ = (mwords wq) := ev_.trans (by rw [nI_clamp (by omega)])
      refine W.lcmp hx hb dX5_isWord_35 ?_
      refine lv_if_ne (tgt := 43) hx hb dX5_isWord_36 (by decide) (fun c_36 => ?_) (fun c_36 => ?_)
      · skip
        refine lv_iconst (v := 0) hx hb dX5_isWord_43 (by decide) ?_
        have hP9 := hP.sub (ws' := [(h0, .inr (5, [.int th, .ref Mtape, .int (nI tnq), .int (nI znq), .ref Msort, .ref Mplace, .ref Mvalue, .int (nI anq), .int ft, .ref Mwords, .int (nI hdq), .int (nI nxq), .ref Mgoes, .ref MgoLine, .ref Mends, .ref MendLine, .ref Mkinds, .ref MisName, .int (nI mnq), .ref Mrow, .ref MbyHand, .ref Mleast, .ref Msecond, .ref MendAt, .ref MgoAt, .ref MnodeBehind, .int lE, .ref MisOut, .ref MfirstEnd, .ref MfirstGo])), (Msort, .inl (cI, 1602, .inl msort)), (Mplace, .inl (cI, 1602, .inl mplace)), (Mvalue, .inl (cJ, 1602, .inr (.inl mvalue))), (Mwords, .inl (cJ, 12, .inr (.inl mwords)))]) [0, 1, 2, 3, 4] rfl
        have hD9 := hD.sub (ws' := [(h0, .inr (5, [.int th, .ref Mtape, .int (nI tnq), .int (nI znq), .ref Msort, .ref Mplace, .ref Mvalue, .int (nI anq), .int ft, .ref Mwords, .int (nI hdq), .int (nI nxq), .ref Mgoes, .ref MgoLine, .ref Mends, .ref MendLine, .ref Mkinds, .ref MisName, .int (nI mnq), .ref Mrow, .ref MbyHand, .ref Mleast, .ref Msecond, .ref MendAt, .ref MgoAt, .ref MnodeBehind, .int lE, .ref MisOut, .ref MfirstEnd, .ref MfirstGo])), (Msort, .inl (cI, 1602, .inl msort)), (Mplace, .inl (cI, 1602, .inl mplace)), (Mvalue, .inl (cJ, 1602, .inr (.inl mvalue))), (Mwords, .inl (cJ, 12, .inr (.inl mwords)))]) [0, 1, 2, 3, 4] (by decide) rfl
        have hens0 : (0 : Int32) = 0 ∨ (ft = 0 ∧ anq < ntq) := (Or.inl rfl)
        have hens1 : (0 : Int32) = 0 ∨ (0 : Int32) = 1 := (Or.inl rfl)
        have hens2 : (0 : Int32) = xW9 ft (tq.T qs.1 wq) := (by unfold xW9; rw [if_pos c_4, if_pos (Decidable.of_not_not (fun z => c_36 ((lg_cmp_eq _ _).mpr ((hWo qs.1 (by omega) (((hSo qs.1 (by omega)).2.1).mp c_17) wq hw).mpr z))))])
        exact W.zret (v := 0) (ty := .boolean) hx hb hr rfl (fun t ht hW => ⟨⟨0, (), rfl, ⟨hens0, hens1, hens2⟩, by rw [ht]; exact hP9, hD9⟩, hS.F ht⟩) hS.2.2 dX5_isWord_44
      · skip
        refine lv_iconst (v := 1) hx hb dX5_isWord_39 (by decide) ?_
        refine lv_goto (tgt := 44) hx hb dX5_isWord_40 (by decide) ?_
        have hP9 := hP.sub (ws' := [(h0, .inr (5, [.int th, .ref Mtape, .int (nI tnq), .int (nI znq), .ref Msort, .ref Mplace, .ref Mvalue, .int (nI anq), .int ft, .ref Mwords, .int (nI hdq), .int (nI nxq), .ref Mgoes, .ref MgoLine, .ref Mends, .ref MendLine, .ref Mkinds, .ref MisName, .int (nI mnq), .ref Mrow, .ref MbyHand, .ref Mleast, .ref Msecond, .ref MendAt, .ref MgoAt, .ref MnodeBehind, .int lE, .ref MisOut, .ref MfirstEnd, .ref MfirstGo])), (Msort, .inl (cI, 1602, .inl msort)), (Mplace, .inl (cI, 1602, .inl mplace)), (Mvalue, .inl (cJ, 1602, .inr (.inl mvalue))), (Mwords, .inl (cJ, 12, .inr (.inl mwords)))]) [0, 1, 2, 3, 4] rfl
        have hD9 := hD.sub (ws' := [(h0, .inr (5, [.int th, .ref Mtape, .int (nI tnq), .int (nI znq), .ref Msort, .ref Mplace, .ref Mvalue, .int (nI anq), .int ft, .ref Mwords, .int (nI hdq), .int (nI nxq), .ref Mgoes, .ref MgoLine, .ref Mends, .ref MendLine, .ref Mkinds, .ref MisName, .int (nI mnq), .ref Mrow, .ref MbyHand, .ref Mleast, .ref Msecond, .ref MendAt, .ref MgoAt, .ref MnodeBehind, .int lE, .ref MisOut, .ref MfirstEnd, .ref MfirstGo])), (Msort, .inl (cI, 1602, .inl msort)), (Mplace, .inl (cI, 1602, .inl mplace)), (Mvalue, .inl (cJ, 1602, .inr (.inl mvalue))), (Mwords, .inl (cJ, 12, .inr (.inl mwords)))]) [0, 1, 2, 3, 4] (by decide) rfl
        have hens0 : (1 : Int32) = 0 ∨ (ft = 0 ∧ anq < ntq) := (Or.inr ⟨c_4, tok_lt hp (pI_at hI c_4) (by rw [nI_clamp (by omega), eq9]) c_17 (by decide)⟩)
        have hens1 : (1 : Int32) = 0 ∨ (1 : Int32) = 1 := (Or.inr rfl)
        have hens2 : (1 : Int32) = xW9 ft (tq.T qs.1 wq) := (by unfold xW9; rw [if_pos c_4, if_neg ((hWo qs.1 (by omega) (((hSo qs.1 (by omega)).2.1).mp c_17) wq hw).mp ((lg_cmp_eq _ _).mp c_36))])
        exact W.zret (v := 1) (ty := .boolean) hx hb hr rfl (fun t ht hW => ⟨⟨1, (), rfl, ⟨hens0, hens1, hens2⟩, by rw [ht]; exact hP9, hD9⟩, hS.F ht⟩) hS.2.2 dX5_isWord_44
set_option maxHeartbeats 4000000 in
set_option maxRecDepth 100000 in
theorem k_takeSign (l : Launch) (dC : Nat → ClassId) (dI : Nat → Nat → Nat) (cI cZ cC cJ : ClassId) (sz : Nat) (h0 : Nat) (th : Int32) (Mtape : Nat) (tnq : Nat) (znq : Nat) (Msort : Nat) (Mplace : Nat) (Mvalue : Nat) (anq : Nat) (ft : Int32) (Mwords : Nat) (hdq : Nat) (nxq : Nat) (Mgoes : Nat) (MgoLine : Nat) (Mends : Nat) (MendLine : Nat) (Mkinds : Nat) (MisName : Nat) (mnq : Nat) (Mrow : Nat) (MbyHand : Nat) (Mleast : Nat) (Msecond : Nat) (MendAt : Nat) (MgoAt : Nat) (MnodeBehind : Nat) (lE : Int32) (MisOut : Nat) (MfirstEnd : Nat) (MfirstGo : Nat) (msort : Nat → Int32) (mplace : Nat → Int32) (mvalue : Nat → Int64) (ntq : Nat) (tq : TkS) (qs : Nat × Int32) (hp : pOK msort mplace ntq) (hI : pI ntq anq ft) (hPl : tkPl tq mplace ntq) (hSo : tkSo tq msort ntq) (hVa : tkVa tq mvalue ntq) (hR : mQ qs anq ft) : Met l yX5_takeSign wsX5_takeSign ({ frames := 1, cells := 0, slots := 0, locals := 21 }) (va_Pc [.ref h0, .int 59] (sPre dC dI cI cZ cC cJ [(h0, .inr (5, [.int th, .ref Mtape, .int (nI tnq), .int (nI znq), .ref Msort, .ref Mplace, .ref Mvalue, .int (nI anq), .int ft, .ref Mwords, .int (nI hdq), .int (nI nxq), .ref Mgoes, .ref MgoLine, .ref Mends, .ref MendLine, .ref Mkinds, .ref MisName, .int (nI mnq), .ref Mrow, .ref MbyHand, .ref Mleast, .ref Msecond, .ref MendAt, .ref MgoAt, .ref MnodeBehind, .int lE, .ref MisOut, .ref MfirstEnd, .ref MfirstGo])), (Msort, .inl (cI, 1602, .inl msort)), (Mplace, .inl (cI, 1602, .inl mplace)), (Mvalue, .inl (cJ, 1602, .inr (.inl mvalue)))] sz)) (va_Qv (fun (u : (Nat) × (Int32)) => match u with | (anq2, ft2) => (pI ntq anq2 ft2) ∧ (anq ≤ anq2) ∧ (mQ (stS tq qs) anq2 ft2)) (fun (u : (Nat) × (Int32)) t => match u with | (anq2, ft2) => sB dC dI (va_A [(h0, .inr (5, [.int th, .ref Mtape, .int (nI tnq), .int (nI znq), .ref Msort, .ref Mplace, .ref Mvalue, .int (nI anq), .int ft, .ref Mwords, .int (nI hdq), .int (nI nxq), .ref Mgoes, .ref MgoLine, .ref Mends, .ref MendLine, .ref Mkinds, .ref MisName, .int (nI mnq), .ref Mrow, .ref MbyHand, .ref Mleast, .ref Msecond, .ref MendAt, .ref MgoAt, .ref MnodeBehind, .int lE, .ref MisOut, .ref MfirstEnd, .ref MfirstGo])), (Msort, .inl (cI, 1602, .inl msort)), (Mplace, .inl (cI, 1602, .inl mplace)), (Mvalue, .inl (cJ, 1602, .inr (.inl mvalue)))] sz) [(h0, .inr (5, [.int th, .ref Mtape, .int (nI tnq), .int (nI znq), .ref Msort, .ref Mplace, .ref Mvalue, .int (nI anq2), .int ft2, .ref Mwords, .int (nI hdq), .int (nI nxq), .ref Mgoes, .ref MgoLine, .ref Mends, .ref MendLine, .ref Mkinds, .ref MisName, .int (nI mnq), .ref Mrow, .ref MbyHand, .ref Mleast, .ref Msecond, .ref MendAt, .ref MgoAt, .ref MnodeBehind, .int lE, .ref MisOut, .ref MfirstEnd, .ref MfirstGo])), (Msort, .inl (cI, 1602, .inl msort)), (Mplace, .inl (cI, 1602, .inl mplace)), (Mvalue, .inl (cJ, 1602, .inr (.inl mvalue)))] t) (va_A [(h0, .inr (5, [.int th, .ref Mtape, .int (nI tnq), .int (nI znq), .ref Msort, .ref Mplace, .ref Mvalue, .int (nI anq), .int ft, .ref Mwords, .int (nI hdq), .int (nI nxq), .ref Mgoes, .ref MgoLine, .ref Mends, .ref MendLine, .ref Mkinds, .ref MisName, .int (nI mnq), .ref Mrow, .ref MbyHand, .ref Mleast, .ref Msecond, .ref MendAt, .ref MgoAt, .ref MnodeBehind, .int lE, .ref MisOut, .ref MfirstEnd, .ref MfirstGo])), (Msort, .inl (cI, 1602, .inl msort)), (Mplace, .inl (cI, 1602, .inl mplace)), (Mvalue, .inl (cJ, 1602, .inr (.inl mvalue)))] sz)) 0 0 (va_A [(h0, .inr (5, [.int th, .ref Mtape, .int (nI tnq), .int (nI znq), .ref Msort, .ref Mplace, .ref Mvalue, .int (nI anq), .int ft, .ref Mwords, .int (nI hdq), .int (nI nxq), .ref Mgoes, .ref MgoLine, .ref Mends, .ref MendLine, .ref Mkinds, .ref MisName, .int (nI mnq), .ref Mrow, .ref MbyHand, .ref Mleast, .ref Msecond, .ref MendAt, .ref MgoAt, .ref MnodeBehind, .int lE, .ref MisOut, .ref MfirstEnd, .ref MfirstGo])), (Msort, .inl (cI, 1602, .inl msort)), (Mplace, .inl (cI, 1602, .inl mplace)), (Mvalue, .inl (cJ, 1602, .inr (.inl mvalue)))] sz) := by
  refine Met.ofW (cc := cX5_takeSign) (maxL := 2) (ret := none) (by decide) rfl ?_
  intro p e s m args below meth c s₁ B hml hv
  obtain ⟨rfl, hsz, hP, hsk, hD0⟩ := hv
  have hx := B.exec
  have hb := B.bytes
  have hr := B.returns
  have hts := atoms_spec (ws := wsX5_takeSign) B.pre
  have hown : s.vm.findClass RX5 = some m.cls := findClass_of_methodNamed B.named
  have hlocks := B.notSynchronized
  have hK := hsk.1
  have i5 : ∀ w ∈ wsX50, w ∈ wsX5_takeSign := by decide +kernel
  subst hsz
  have hD := hD0.self (sz := s.heap.size)
  generalize hAe : va_A [(h0, .inr (5, [.int th, .ref Mtape, .int (nI tnq), .int (nI znq), .ref Msort, .ref Mplace, .ref Mvalue, .int (nI anq), .int ft, .ref Mwords, .int (nI hdq), .int (nI nxq), .ref Mgoes, .ref MgoLine, .ref Mends, .ref MendLine, .ref Mkinds, .ref MisName, .int (nI mnq), .ref Mrow, .ref MbyHand, .ref Mleast, .ref Msecond, .ref MendAt, .ref MgoAt, .ref MnodeBehind, .int lE, .ref MisOut, .ref MfirstEnd, .ref MfirstGo])), (Msort, .inl (cI, 1602, .inl msort)), (Mplace, .inl (cI, 1602, .inl mplace)), (Mvalue, .inl (cJ, 1602, .inr (.inl mvalue)))] s.heap.size = A at hD ⊢
  have hA : ∀ q : Nat, s.heap.size ≤ q → A q := fun q h => by rw [← hAe]; exact Or.inr h
  have hS : va_S A s.heap s.heap [] := va_S.rf
  have hl := lv_entry ([.ref h0, .int 59]) (n := 2) (Nat.le_of_ble_eq_true rfl)
  rw [lg_entry_eq]
  generalize (lg_sl ([.ref h0, .int 59]) ++ List.replicate (2 - (lg_sl ([.ref h0, .int 59])).length) Slot.unset).toArray = ls at hl ⊢
  have hl : lv_has ls 2 [(0, .ref h0), (1, .int 59)] := hl
  refine lv_aload_n hx hb dX5_takeSign_0 rfl (lv_at hl 0 rfl) ?_
  refine lv_iload_n hx hb dX5_takeSign_1 rfl (lv_at hl 1 rfl) ?_
  have hPc := hP.sub (ws' := [(h0, .inr (5, [.int th, .ref Mtape, .int (nI tnq), .int (nI znq), .ref Msort, .ref Mplace, .ref Mvalue, .int (nI anq), .int ft, .ref Mwords, .int (nI hdq), .int (nI nxq), .ref Mgoes, .ref MgoLine, .ref Mends, .ref MendLine, .ref Mkinds, .ref MisName, .int (nI mnq), .ref Mrow, .ref MbyHand, .ref Mleast, .ref Msecond, .ref MendAt, .ref MgoAt, .ref MnodeBehind, .int lE, .ref MisOut, .ref MfirstEnd, .ref MfirstGo])), (Msort, .inl (cI, 1602, .inl msort)), (Mplace, .inl (cI, 1602, .inl mplace)), (Mvalue, .inl (cJ, 1602, .inr (.inl mvalue)))]) [0, 1, 2, 3] rfl
  have hDc := hD.sub (ws' := [(h0, .inr (5, [.int th, .ref Mtape, .int (nI tnq), .int (nI znq), .ref Msort, .ref Mplace, .ref Mvalue, .int (nI anq), .int ft, .ref Mwords, .int (nI hdq), .int (nI nxq), .ref Mgoes, .ref MgoLine, .ref Mends, .ref MendLine, .ref Mkinds, .ref MisName, .int (nI mnq), .ref Mrow, .ref MbyHand, .ref Mleast, .ref Msecond, .ref MendAt, .ref MgoAt, .ref MnodeBehind, .int lE, .ref MisOut, .ref MfirstEnd, .ref MfirstGo])), (Msort, .inl (cI, 1602, .inl msort)), (Mplace, .inl (cI, 1602, .inl mplace)), (Mvalue, .inl (cJ, 1602, .inr (.inl mvalue)))]) [0, 1, 2, 3] (by decide) rfl
  have hFc := va_free (wc := [(h0, .inr (5, [.int th, .ref Mtape, .int (nI tnq), .int (nI znq), .ref Msort, .ref Mplace, .ref Mvalue, .int (nI anq), .int ft, .ref Mwords, .int (nI hdq), .int (nI nxq), .ref Mgoes, .ref MgoLine, .ref Mends, .ref MendLine, .ref Mkinds, .ref MisName, .int (nI mnq), .ref Mrow, .ref MbyHand, .ref Mleast, .ref Msecond, .ref MendAt, .ref MgoAt, .ref MnodeBehind, .int lE, .ref MisOut, .ref MfirstEnd, .ref MfirstGo])), (Msort, .inl (cI, 1602, .inl msort)), (Mplace, .inl (cI, 1602, .inl mplace)), (Mvalue, .inl (cJ, 1602, .inr (.inl mvalue)))]) hD hS hA [0, 1, 2, 3] rfl
  refine va_calli (va_runV (As := [.int 59]) (rest := []) ⟨hx, hb, hml, hown, hts⟩ (k_isSign l dC dI cI cZ cC cJ s.heap.size  h0 th Mtape tnq znq Msort Mplace Mvalue anq ft Mwords hdq nxq Mgoes MgoLine Mends MendLine Mkinds MisName mnq Mrow MbyHand Mleast Msecond MendAt MgoAt MnodeBehind lE MisOut MfirstEnd MfirstGo msort mplace mvalue ntq tq qs (by first | assumption | decide | omega) (by first | assumption | decide | omega) (by first | assumption | decide | omega) (by first | assumption | decide | omega) (by first | assumption | decide | omega)) (cwV 1 hts gX5_takeSign_X5_isSign rfl rfl rfl (by decide +kernel) ⟨Nat.le_of_ble_eq_true rfl, Nat.le_of_ble_eq_true rfl⟩) ⟨sPre_blind, va_recv hK hPc (ci := 5) (q0 := 0) rfl rfl, fun U hU hW => ⟨rfl, sPre_ok hsk hPc hDc hU hW⟩⟩ rfl rfl hl.1 rfl (lv_room (Nat.le_of_ble_eq_true rfl)) dX5_takeSign_2 ⟨(show 0 + 0 ≤ 0 by omega), (show 0 + 0 ≤ 0 by omega)⟩) hS (fun q _ h => hFc q h) hFc (fun r_1 u t H1 locs ht hvm hw hB hz1 hk1 hS => ?_)
  try dsimp only at hw hB
  obtain ⟨he_2, he_3⟩ := hw
  have he_2 : (r_1 : Int32) = 0 ∨ (ft = 0 ∧ anq < ntq) := he_2
  have he_3 : (r_1 : Int32) = xW9 ft (if tq.S qs.1 = 4 then 1 else 0) := he_3
  obtain ⟨hP1, hD1⟩ := hB
  rw [ht] at hP1
  obtain ⟨hP, hD⟩ := va_join (wr := []) (w1 := [(h0, .inr (5, [.int th, .ref Mtape, .int (nI tnq), .int (nI znq), .ref Msort, .ref Mplace, .ref Mvalue, .int (nI anq), .int ft, .ref Mwords, .int (nI hdq), .int (nI nxq), .ref Mgoes, .ref MgoLine, .ref Mends, .ref MendLine, .ref Mkinds, .ref MisName, .int (nI mnq), .ref Mrow, .ref MbyHand, .ref Mleast, .ref Msecond, .ref MendAt, .ref MgoAt, .ref MnodeBehind, .int lE, .ref MisOut, .ref MfirstEnd, .ref MfirstGo])), (Msort, .inl (cI, 1602, .inl msort)), (Mplace, .inl (cI, 1602, .inl mplace)), (Mvalue, .inl (cJ, 1602, .inr (.inl mvalue)))]) hP hD [0, 1, 2, 3] [] rfl rfl (by decide) (by decide) hk1 hFc hP1 hD1
  generalize H1 = H at hP hS ⊢
  have hP : va_P (dC, dI) vwCl [(h0, .inr (5, [.int th, .ref Mtape, .int (nI tnq), .int (nI znq), .ref Msort, .ref Mplace, .ref Mvalue, .int (nI anq), .int ft, .ref Mwords, .int (nI hdq), .int (nI nxq), .ref Mgoes, .ref MgoLine, .ref Mends, .ref MendLine, .ref Mkinds, .ref MisName, .int (nI mnq), .ref Mrow, .ref MbyHand, .ref Mleast, .ref Msecond, .ref MendAt, .ref MgoAt, .ref MnodeBehind, .int lE, .ref MisOut, .ref MfirstEnd, .ref MfirstGo])), (Msort, .inl (cI, 1602, .inl msort)), (Mplace, .inl (cI, 1602, .inl mplace)), (Mvalue, .inl (cJ, 1602, .inr (.inl mvalue)))] H := hP
  have hD : va_D A [(h0, .inr (5, [.int th, .ref Mtape, .int (nI tnq), .int (nI znq), .ref Msort, .ref Mplace, .ref Mvalue, .int (nI anq), .int ft, .ref Mwords, .int (nI hdq), .int (nI nxq), .ref Mgoes, .ref MgoLine, .ref Mends, .ref MendLine, .ref Mkinds, .ref MisName, .int (nI mnq), .ref Mrow, .ref MbyHand, .ref Mleast, .ref Msecond, .ref MendAt, .ref MgoAt, .ref MnodeBehind, .int lE, .ref MisOut, .ref MfirstEnd, .ref MfirstGo])), (Msort, .inl (cI, 1602, .inl msort)), (Mplace, .inl (cI, 1602, .inl mplace)), (Mvalue, .inl (cJ, 1602, .inr (.inl mvalue)))] := hD
  refine lv_if_eq (tgt := 21) hx hb dX5_takeSign_5 (by decide) (fun c_5 => ?_) (fun c_5 => ?_)
  · skip
    refine lv_aload_n hx hb dX5_takeSign_21 rfl (lv_at hl 0 rfl) ?_
    refine lv_iconst (v := 1) hx hb dX5_takeSign_22 (by decide) ?_
    have hPc := hP.sub (ws' := [(h0, .inr (5, [.int th, .ref Mtape, .int (nI tnq), .int (nI znq), .ref Msort, .ref Mplace, .ref Mvalue, .int (nI anq), .int ft, .ref Mwords, .int (nI hdq), .int (nI nxq), .ref Mgoes, .ref MgoLine, .ref Mends, .ref MendLine, .ref Mkinds, .ref MisName, .int (nI mnq), .ref Mrow, .ref MbyHand, .ref Mleast, .ref Msecond, .ref MendAt, .ref MgoAt, .ref MnodeBehind, .int lE, .ref MisOut, .ref MfirstEnd, .ref MfirstGo])), (Msort, .inl (cI, 1602, .inl msort)), (Mplace, .inl (cI, 1602, .inl mplace))]) [0, 1, 2] rfl
    have hDc := hD.sub (ws' := [(h0, .inr (5, [.int th, .ref Mtape, .int (nI tnq), .int (nI znq), .ref Msort, .ref Mplace, .ref Mvalue, .int (nI anq), .int ft, .ref Mwords, .int (nI hdq), .int (nI nxq), .ref Mgoes, .ref MgoLine, .ref Mends, .ref MendLine, .ref Mkinds, .ref MisName, .int (nI mnq), .ref Mrow, .ref MbyHand, .ref Mleast, .ref Msecond, .ref MendAt, .ref MgoAt, .ref MnodeBehind, .int lE, .ref MisOut, .ref MfirstEnd, .ref MfirstGo])), (Msort, .inl (cI, 1602, .inl msort)), (Mplace, .inl (cI, 1602, .inl mplace))]) [0, 1, 2] (by decide) rfl
    have hFc := va_free (wc := [(h0, .inr (5, [.int th, .ref Mtape, .int (nI tnq), .int (nI znq), .ref Msort, .ref Mplace, .ref Mvalue, .int (nI anq), .int ft, .ref Mwords, .int (nI hdq), .int (nI nxq), .ref Mgoes, .ref MgoLine, .ref Mends, .ref MendLine, .ref Mkinds, .ref MisName, .int (nI mnq), .ref Mrow, .ref MbyHand, .ref Mleast, .ref Msecond, .ref MendAt, .ref MgoAt, .ref MnodeBehind, .int lE, .ref MisOut, .ref MfirstEnd, .ref MfirstGo])), (Msort, .inl (cI, 1602, .inl msort)), (Mplace, .inl (cI, 1602, .inl mplace))]) hD hS hA [0, 1, 2] rfl
    refine va_callv (va_runV (As := [.int 1]) (rest := []) ⟨hx, hb, hml, hown, hts⟩ (k_wrong l dC dI cI cZ cC cJ H.size  h0 th Mtape tnq znq Msort Mplace Mvalue anq ft Mwords hdq nxq Mgoes MgoLine Mends MendLine Mkinds MisName mnq Mrow MbyHand Mleast Msecond MendAt MgoAt MnodeBehind lE MisOut MfirstEnd MfirstGo msort mplace 1 ntq tq qs (by first | assumption | decide | omega) (by first | assumption | decide | omega) (by first | assumption | decide | omega) (by first | assumption | decide | omega) (by first | assumption | decide | omega) (by first | assumption | decide | omega)) (cwV 1 hts gX5_takeSign_X5_wrong rfl rfl rfl (by decide +kernel) ⟨Nat.le_of_ble_eq_true rfl, Nat.le_of_ble_eq_true rfl⟩) ⟨sPre_blind, va_recv hK hPc (ci := 5) (q0 := 0) rfl rfl, fun U hU hW => ⟨rfl, sPre_ok hsk hPc hDc hU hW⟩⟩ rfl rfl hl.1 rfl (lv_room (Nat.le_of_ble_eq_true rfl)) dX5_takeSign_23 ⟨(show 0 + 0 ≤ 0 by omega), (show 0 + 0 ≤ 0 by omega)⟩) hS (fun q _ h => hFc q h) hFc (fun u t H1 locs ht hvm hw hB hz1 hk1 hS => ?_)
    obtain ⟨f_5, rfl⟩ : ∃ z, z = u := ⟨_, rfl⟩
    try dsimp only at hw hB
    obtain ⟨he_6, he_7⟩ := hw
    have he_6 : 0 < f_5 := he_6
    have he_7 : mQ (stR tq 1 qs) anq f_5 := he_7
    obtain ⟨q_8, eq_8⟩ : ∃ x9 : Nat × Int32, x9 = stR tq 1 qs := ⟨_, rfl⟩
    rw [← eq_8] at he_7
    obtain ⟨hP1, hD1⟩ := hB
    rw [ht] at hP1
    obtain ⟨hP, hD⟩ := va_join (wr := [(Mvalue, .inl (cJ, 1602, .inr (.inl mvalue)))]) (w1 := [(h0, .inr (5, [.int th, .ref Mtape, .int (nI tnq), .int (nI znq), .ref Msort, .ref Mplace, .ref Mvalue, .int (nI anq), .int f_5, .ref Mwords, .int (nI hdq), .int (nI nxq), .ref Mgoes, .ref MgoLine, .ref Mends, .ref MendLine, .ref Mkinds, .ref MisName, .int (nI mnq), .ref Mrow, .ref MbyHand, .ref Mleast, .ref Msecond, .ref MendAt, .ref MgoAt, .ref MnodeBehind, .int lE, .ref MisOut, .ref MfirstEnd, .ref MfirstGo])), (Msort, .inl (cI, 1602, .inl msort)), (Mplace, .inl (cI, 1602, .inl mplace))]) hP hD [0, 1, 2] [3] rfl rfl (by decide) (by decide) hk1 hFc hP1 hD1
    generalize H1 = H at hP hS ⊢
    have hP : va_P (dC, dI) vwCl [(Mvalue, .inl (cJ, 1602, .inr (.inl mvalue))), (h0, .inr (5, [.int th, .ref Mtape, .int (nI tnq), .int (nI znq), .ref Msort, .ref Mplace, .ref Mvalue, .int (nI anq), .int f_5, .ref Mwords, .int (nI hdq), .int (nI nxq), .ref Mgoes, .ref MgoLine, .ref Mends, .ref MendLine, .ref Mkinds, .ref MisName, .int (nI mnq), .ref Mrow, .ref MbyHand, .ref Mleast, .ref Msecond, .ref MendAt, .ref MgoAt, .ref MnodeBehind, .int lE, .ref MisOut, .ref MfirstEnd, .ref MfirstGo])), (Msort, .inl (cI, 1602, .inl msort)), (Mplace, .inl (cI, 1602, .inl mplace))] H := hP
    have hD : va_D A [(Mvalue, .inl (cJ, 1602, .inr (.inl mvalue))), (h0, .inr (5, [.int th, .ref Mtape, .int (nI tnq), .int (nI znq), .ref Msort, .ref Mplace, .ref Mvalue, .int (nI anq), .int f_5, .ref Mwords, .int (nI hdq), .int (nI nxq), .ref Mgoes, .ref MgoLine, .ref Mends, .ref MendLine, .ref Mkinds, .ref MisName, .int (nI mnq), .ref Mrow, .ref MbyHand, .ref Mleast, .ref Msecond, .ref MendAt, .ref MgoAt, .ref MnodeBehind, .int lE, .ref MisOut, .ref MfirstEnd, .ref MfirstGo])), (Msort, .inl (cI, 1602, .inl msort)), (Mplace, .inl (cI, 1602, .inl mplace))] := hD
    have hP9 := hP.sub (ws' := [(h0, .inr (5, [.int th, .ref Mtape, .int (nI tnq), .int (nI znq), .ref Msort, .ref Mplace, .ref Mvalue, .int (nI anq), .int f_5, .ref Mwords, .int (nI hdq), .int (nI nxq), .ref Mgoes, .ref MgoLine, .ref Mends, .ref MendLine, .ref Mkinds, .ref MisName, .int (nI mnq), .ref Mrow, .ref MbyHand, .ref Mleast, .ref Msecond, .ref MendAt, .ref MgoAt, .ref MnodeBehind, .int lE, .ref MisOut, .ref MfirstEnd, .ref MfirstGo])), (Msort, .inl (cI, 1602, .inl msort)), (Mplace, .inl (cI, 1602, .inl mplace)), (Mvalue, .inl (cJ, 1602, .inr (.inl mvalue)))]) [1, 2, 3, 0] rfl
    have hD9 := hD.sub (ws' := [(h0, .inr (5, [.int th, .ref Mtape, .int (nI tnq), .int (nI znq), .ref Msort, .ref Mplace, .ref Mvalue, .int (nI anq), .int f_5, .ref Mwords, .int (nI hdq), .int (nI nxq), .ref Mgoes, .ref MgoLine, .ref Mends, .ref MendLine, .ref Mkinds, .ref MisName, .int (nI mnq), .ref Mrow, .ref MbyHand, .ref Mleast, .ref Msecond, .ref MendAt, .ref MgoAt, .ref MnodeBehind, .int lE, .ref MisOut, .ref MfirstEnd, .ref MfirstGo])), (Msort, .inl (cI, 1602, .inl msort)), (Mplace, .inl (cI, 1602, .inl mplace)), (Mvalue, .inl (cJ, 1602, .inr (.inl mvalue)))]) [1, 2, 3, 0] (by decide) rfl
    have hens0 : pI ntq anq f_5 := (Or.inr he_6)
    have hens1 : anq ≤ anq := (Nat.le_refl _)
    have hens2 : mQ (stS tq qs) anq f_5 := (mQ_of he_7 (eq_8.trans (mQ_S0 hR he_3 c_5)))
    exact W.vret hx hb hr (fun t ht hW => ⟨⟨(anq, f_5), rfl, ⟨hens0, hens1, hens2⟩, by rw [ht]; exact hP9, hD9⟩, hS.F ht⟩) hS.2.2 dX5_takeSign_26
  · skip
    refine lv_aload_n hx hb dX5_takeSign_8 rfl (lv_at hl 0 rfl) ?_
    refine lv_dup hx hb dX5_takeSign_9 rfl ?_
    refine va_get (D := (dC, dI)) (ci := 5) (v := .int (nI anq)) (C := RX5) (T := TX5) (N := 30) hx hb hts i5 hown hK hP 0 rfl rfl 7 (by decide) (hts (.fieldLink RX5 133 "StopSetterModel" "at" "I") (by decide +kernel)) (fun _ h9 => h9) rfl dX5_takeSign_10 ?_
    refine lv_iconst (v := 1) hx hb dX5_takeSign_13 (by decide) ?_
    refine lv_iadd hx hb dX5_takeSign_14 ?_
    refine lv_topi (fun v_ ev_ => ?_)
    obtain rfl : v_ = (nI (anq + 1)) := ev_.trans (nI_1 anq)
    refine va_put (D := (dC, dI)) (ci := 5) (v := .int (nI (anq + 1))) (ty := tyX5 7) (C := RX5) (T := TX5) (N := 30) hx hb hts i5 tyX5 tyX5_ok nmX5 hown hK hP hD hS 0 rfl rfl 7 (by decide) (hts (.fieldLink RX5 133 "StopSetterModel" "at" "I") (by decide +kernel)) (fun _ h9 => h9) rfl (by decide +kernel) rfl rfl (Nat.le_of_ble_eq_true rfl) dX5_takeSign_15 (fun H locs hP hD hS => ?_)
    have hP : va_P (dC, dI) vwCl [(h0, .inr (5, [.int th, .ref Mtape, .int (nI tnq), .int (nI znq), .ref Msort, .ref Mplace, .ref Mvalue, .int (nI (anq + 1)), .int ft, .ref Mwords, .int (nI hdq), .int (nI nxq), .ref Mgoes, .ref MgoLine, .ref Mends, .ref MendLine, .ref Mkinds, .ref MisName, .int (nI mnq), .ref Mrow, .ref MbyHand, .ref Mleast, .ref Msecond, .ref MendAt, .ref MgoAt, .ref MnodeBehind, .int lE, .ref MisOut, .ref MfirstEnd, .ref MfirstGo])), (Msort, .inl (cI, 1602, .inl msort)), (Mplace, .inl (cI, 1602, .inl mplace)), (Mvalue, .inl (cJ, 1602, .inr (.inl mvalue)))] H := hP
    have hD : va_D A [(h0, .inr (5, [.int th, .ref Mtape, .int (nI tnq), .int (nI znq), .ref Msort, .ref Mplace, .ref Mvalue, .int (nI (anq + 1)), .int ft, .ref Mwords, .int (nI hdq), .int (nI nxq), .ref Mgoes, .ref MgoLine, .ref Mends, .ref MendLine, .ref Mkinds, .ref MisName, .int (nI mnq), .ref Mrow, .ref MbyHand, .ref Mleast, .ref Msecond, .ref MendAt, .ref MgoAt, .ref MnodeBehind, .int lE, .ref MisOut, .ref MfirstEnd, .ref MfirstGo])), (Msort, .inl (cI, 1602, .inl msort)), (Mplace, .inl (cI, 1602, .inl mplace)), (Mvalue, .inl (cJ, 1602, .inr (.inl mvalue)))] := hD
    refine lv_goto (tgt := 26) hx hb dX5_takeSign_18 (by decide) ?_
    have hP9 := hP.sub (ws' := [(h0, .inr (5, [.int th, .ref Mtape, .int (nI tnq), .int (nI znq), .ref Msort, .ref Mplace, .ref Mvalue, .int (nI (anq + 1)), .int ft, .ref Mwords, .int (nI hdq), .int (nI nxq), .ref Mgoes, .ref MgoLine, .ref Mends, .ref MendLine, .ref Mkinds, .ref MisName, .int (nI mnq), .ref Mrow, .ref MbyHand, .ref Mleast, .ref Msecond, .ref MendAt, .ref MgoAt, .ref MnodeBehind, .int lE, .ref MisOut, .ref MfirstEnd, .ref MfirstGo])), (Msort, .inl (cI, 1602, .inl msort)), (Mplace, .inl (cI, 1602, .inl mplace)), (Mvalue, .inl (cJ, 1602, .inr (.inl mvalue)))]) [0, 1, 2, 3] rfl
    have hD9 := hD.sub (ws' := [(h0, .inr (5, [.int th, .ref Mtape, .int (nI tnq), .int (nI znq), .ref Msort, .ref Mplace, .ref Mvalue, .int (nI (anq + 1)), .int ft, .ref Mwords, .int (nI hdq), .int (nI nxq), .ref Mgoes, .ref MgoLine, .ref Mends, .ref MendLine, .ref Mkinds, .ref MisName, .int (nI mnq), .ref Mrow, .ref MbyHand, .ref Mleast, .ref Msecond, .ref MendAt, .ref MgoAt, .ref MnodeBehind, .int lE, .ref MisOut, .ref MfirstEnd, .ref MfirstGo])), (Msort, .inl (cI, 1602, .inl msort)), (Mplace, .inl (cI, 1602, .inl mplace)), (Mvalue, .inl (cJ, 1602, .inr (.inl mvalue)))]) [0, 1, 2, 3] (by decide) rfl
    have hens0 : pI ntq (anq + 1) ft := (Or.inl ⟨(Or.resolve_left he_2 c_5).1, by have := (Or.resolve_left he_2 c_5).2; omega⟩)
    have hens1 : anq ≤ (anq + 1) := (by omega)
    have hens2 : mQ (stS tq qs) (anq + 1) ft := (mQ_S1 hR he_3 c_5)
    exact W.vret hx hb hr (fun t ht hW => ⟨⟨((anq + 1), ft), rfl, ⟨hens0, hens1, hens2⟩, by rw [ht]; exact hP9, hD9⟩, hS.F ht⟩) hS.2.2 dX5_takeSign_26
set_option maxHeartbeats 4000000 in
set_option maxRecDepth 100000 in
theorem k_hasWord (l : Launch) (dC : Nat → ClassId) (dI : Nat → Nat → Nat) (cI cZ cC cJ : ClassId) (sz : Nat) (h0 : Nat) (th : Int32) (Mtape : Nat) (tnq : Nat) (znq : Nat) (Msort : Nat) (Mplace : Nat) (Mvalue : Nat) (anq : Nat) (ft : Int32) (Mwords : Nat) (hdq : Nat) (nxq : Nat) (Mgoes : Nat) (MgoLine : Nat) (Mends : Nat) (MendLine : Nat) (Mkinds : Nat) (MisName : Nat) (mnq : Nat) (Mrow : Nat) (MbyHand : Nat) (Mleast : Nat) (Msecond : Nat) (MendAt : Nat) (MgoAt : Nat) (MnodeBehind : Nat) (lE : Int32) (MisOut : Nat) (MfirstEnd : Nat) (MfirstGo : Nat) (msort : Nat → Int32) (mplace : Nat → Int32) (mvalue : Nat → Int64) (mwords : Nat → Int64) (wq : Nat) (ntq : Nat) (tq : TkS) (qs : Nat × Int32) (hp : pOK msort mplace ntq) (hI : pI ntq anq ft) (hw : wq < 12) (hSo : tkSo tq msort ntq) (hWo : tkWo tq mvalue mwords ntq) (hR : mQ qs anq ft) : Met l yX5_hasWord wsX5_hasWord ({ frames := 1, cells := 0, slots := 0, locals := 21 }) (va_Pc [.ref h0, .int (nI wq)] (sPre dC dI cI cZ cC cJ [(h0, .inr (5, [.int th, .ref Mtape, .int (nI tnq), .int (nI znq), .ref Msort, .ref Mplace, .ref Mvalue, .int (nI anq), .int ft, .ref Mwords, .int (nI hdq), .int (nI nxq), .ref Mgoes, .ref MgoLine, .ref Mends, .ref MendLine, .ref Mkinds, .ref MisName, .int (nI mnq), .ref Mrow, .ref MbyHand, .ref Mleast, .ref Msecond, .ref MendAt, .ref MgoAt, .ref MnodeBehind, .int lE, .ref MisOut, .ref MfirstEnd, .ref MfirstGo])), (Msort, .inl (cI, 1602, .inl msort)), (Mplace, .inl (cI, 1602, .inl mplace)), (Mvalue, .inl (cJ, 1602, .inr (.inl mvalue))), (Mwords, .inl (cJ, 12, .inr (.inl mwords)))] sz)) (va_Qi (fun (r : Int32) (u : (Nat)) => match u with | anq2 => (((r : Int32) = 0 ∧ anq2 = anq) ∨ (ft = 0 ∧ anq < ntq ∧ anq2 = anq + 1)) ∧ (pI ntq anq2 ft) ∧ (anq ≤ anq2) ∧ ((r : Int32) = 0 ∨ (r : Int32) = 1) ∧ ((r : Int32) = xW9 ft (tq.T qs.1 wq)) ∧ (mQ (hwQ tq wq qs) anq2 ft)) (fun (u : (Nat)) t => match u with | anq2 => sB dC dI (va_A [(h0, .inr (5, [.int th, .ref Mtape, .int (nI tnq), .int (nI znq), .ref Msort, .ref Mplace, .ref Mvalue, .int (nI anq), .int ft, .ref Mwords, .int (nI hdq), .int (nI nxq), .ref Mgoes, .ref MgoLine, .ref Mends, .ref MendLine, .ref Mkinds, .ref MisName, .int (nI mnq), .ref Mrow, .ref MbyHand, .ref Mleast, .ref Msecond, .ref MendAt, .ref MgoAt, .ref MnodeBehind, .int lE, .ref MisOut, .ref MfirstEnd, .ref MfirstGo])), (Msort, .inl (cI, 1602, .inl msort)), (Mplace, .inl (cI, 1602, .inl mplace)), (Mvalue, .inl (cJ, 1602, .inr (.inl mvalue))), (Mwords, .inl (cJ, 12, .inr (.inl mwords)))] sz) [(h0, .inr (5, [.int th, .ref Mtape, .int (nI tnq), .int (nI znq), .ref Msort, .ref Mplace, .ref Mvalue, .int (nI anq2), .int ft, .ref Mwords, .int (nI hdq), .int (nI nxq), .ref Mgoes, .ref MgoLine, .ref Mends, .ref MendLine, .ref Mkinds, .ref MisName, .int (nI mnq), .ref Mrow, .ref MbyHand, .ref Mleast, .ref Msecond, .ref MendAt, .ref MgoAt, .ref MnodeBehind, .int lE, .ref MisOut, .ref MfirstEnd, .ref MfirstGo])), (Msort, .inl (cI, 1602, .inl msort)), (Mplace, .inl (cI, 1602, .inl mplace)), (Mvalue, .inl (cJ, 1602, .inr (.inl mvalue))), (Mwords, .inl (cJ, 12, .inr (.inl mwords)))] t) (va_A [(h0, .inr (5, [.int th, .ref Mtape, .int (nI tnq), .int (nI znq), .ref Msort, .ref Mplace, .ref Mvalue, .int (nI anq), .int ft, .ref Mwords, .int (nI hdq), .int (nI nxq), .ref Mgoes, .ref MgoLine, .ref Mends, .ref MendLine, .ref Mkinds, .ref MisName, .int (nI mnq), .ref Mrow, .ref MbyHand, .ref Mleast, .ref Msecond, .ref MendAt, .ref MgoAt, .ref MnodeBehind, .int lE, .ref MisOut, .ref MfirstEnd, .ref MfirstGo])), (Msort, .inl (cI, 1602, .inl msort)), (Mplace, .inl (cI, 1602, .inl mplace)), (Mvalue, .inl (cJ, 1602, .inr (.inl mvalue))), (Mwords, .inl (cJ, 12, .inr (.inl mwords)))] sz)) 0 0 (va_A [(h0, .inr (5, [.int th, .ref Mtape, .int (nI tnq), .int (nI znq), .ref Msort, .ref Mplace, .ref Mvalue, .int (nI anq), .int ft, .ref Mwords, .int (nI hdq), .int (nI nxq), .ref Mgoes, .ref MgoLine, .ref Mends, .ref MendLine, .ref Mkinds, .ref MisName, .int (nI mnq), .ref Mrow, .ref MbyHand, .ref Mleast, .ref Msecond, .ref MendAt, .ref MgoAt, .ref MnodeBehind, .int lE, .ref MisOut, .ref MfirstEnd, .ref MfirstGo])), (Msort, .inl (cI, 1602, .inl msort)), (Mplace, .inl (cI, 1602, .inl mplace)), (Mvalue, .inl (cJ, 1602, .inr (.inl mvalue))), (Mwords, .inl (cJ, 12, .inr (.inl mwords)))] sz) := by
  refine Met.ofW (cc := cX5_hasWord) (maxL := 3) (ret := (some .boolean)) (by decide) rfl ?_
  intro p e s m args below meth c s₁ B hml hv
  obtain ⟨rfl, hsz, hP, hsk, hD0⟩ := hv
  have hx := B.exec
  have hb := B.bytes
  have hr := B.returns
  have hts := atoms_spec (ws := wsX5_hasWord) B.pre
  have hown : s.vm.findClass RX5 = some m.cls := findClass_of_methodNamed B.named
  have hlocks := B.notSynchronized
  have hK := hsk.1
  have i5 : ∀ w ∈ wsX50, w ∈ wsX5_hasWord := by decide +kernel
  subst hsz
  have hD := hD0.self (sz := s.heap.size)
  generalize hAe : va_A [(h0, .inr (5, [.int th, .ref Mtape, .int (nI tnq), .int (nI znq), .ref Msort, .ref Mplace, .ref Mvalue, .int (nI anq), .int ft, .ref Mwords, .int (nI hdq), .int (nI nxq), .ref Mgoes, .ref MgoLine, .ref Mends, .ref MendLine, .ref Mkinds, .ref MisName, .int (nI mnq), .ref Mrow, .ref MbyHand, .ref Mleast, .ref Msecond, .ref MendAt, .ref MgoAt, .ref MnodeBehind, .int lE, .ref MisOut, .ref MfirstEnd, .ref MfirstGo])), (Msort, .inl (cI, 1602, .inl msort)), (Mplace, .inl (cI, 1602, .inl mplace)), (Mvalue, .inl (cJ, 1602, .inr (.inl mvalue))), (Mwords, .inl (cJ, 12, .inr (.inl mwords)))] s.heap.size = A at hD ⊢
  have hA : ∀ q : Nat, s.heap.size ≤ q → A q := fun q h => by rw [← hAe]; exact Or.inr h
  have hS : va_S A s.heap s.heap [] := va_S.rf
  have hl := lv_entry ([.ref h0, .int (nI wq)]) (n := 3) (Nat.le_of_ble_eq_true rfl)
  rw [lg_entry_eq]
  generalize (lg_sl ([.ref h0, .int (nI wq)]) ++ List.replicate (3 - (lg_sl ([.ref h0, .int (nI wq)])).length) Slot.unset).toArray = ls at hl ⊢
  have hl : lv_has ls 3 [(0, .ref h0), (1, .int (nI wq))] := hl
  refine lv_aload_n hx hb dX5_hasWord_0 rfl (lv_at hl 0 rfl) ?_
  refine lv_iload_n hx hb dX5_hasWord_1 rfl (lv_at hl 1 rfl) ?_
  have hPc := hP.sub (ws' := [(h0, .inr (5, [.int th, .ref Mtape, .int (nI tnq), .int (nI znq), .ref Msort, .ref Mplace, .ref Mvalue, .int (nI anq), .int ft, .ref Mwords, .int (nI hdq), .int (nI nxq), .ref Mgoes, .ref MgoLine, .ref Mends, .ref MendLine, .ref Mkinds, .ref MisName, .int (nI mnq), .ref Mrow, .ref MbyHand, .ref Mleast, .ref Msecond, .ref MendAt, .ref MgoAt, .ref MnodeBehind, .int lE, .ref MisOut, .ref MfirstEnd, .ref MfirstGo])), (Msort, .inl (cI, 1602, .inl msort)), (Mplace, .inl (cI, 1602, .inl mplace)), (Mvalue, .inl (cJ, 1602, .inr (.inl mvalue))), (Mwords, .inl (cJ, 12, .inr (.inl mwords)))]) [0, 1, 2, 3, 4] rfl
  have hDc := hD.sub (ws' := [(h0, .inr (5, [.int th, .ref Mtape, .int (nI tnq), .int (nI znq), .ref Msort, .ref Mplace, .ref Mvalue, .int (nI anq), .int ft, .ref Mwords, .int (nI hdq), .int (nI nxq), .ref Mgoes, .ref MgoLine, .ref Mends, .ref MendLine, .ref Mkinds, .ref MisName, .int (nI mnq), .ref Mrow, .ref MbyHand, .ref Mleast, .ref Msecond, .ref MendAt, .ref MgoAt, .ref MnodeBehind, .int lE, .ref MisOut, .ref MfirstEnd, .ref MfirstGo])), (Msort, .inl (cI, 1602, .inl msort)), (Mplace, .inl (cI, 1602, .inl mplace)), (Mvalue, .inl (cJ, 1602, .inr (.inl mvalue))), (Mwords, .inl (cJ, 12, .inr (.inl mwords)))]) [0, 1, 2, 3, 4] (by decide) rfl
  have hFc := va_free (wc := [(h0, .inr (5, [.int th, .ref Mtape, .int (nI tnq), .int (nI znq), .ref Msort, .ref Mplace, .ref Mvalue, .int (nI anq), .int ft, .ref Mwords, .int (nI hdq), .int (nI nxq), .ref Mgoes, .ref MgoLine, .ref Mends, .ref MendLine, .ref Mkinds, .ref MisName, .int (nI mnq), .ref Mrow, .ref MbyHand, .ref Mleast, .ref Msecond, .ref MendAt, .ref MgoAt, .ref MnodeBehind, .int lE, .ref MisOut, .ref MfirstEnd, .ref MfirstGo])), (Msort, .inl (cI, 1602, .inl msort)), (Mplace, .inl (cI, 1602, .inl mplace)), (Mvalue, .inl (cJ, 1602, .inr (.inl mvalue))), (Mwords, .inl (cJ, 12, .inr (.inl mwords)))]) hD hS hA [0, 1, 2, 3, 4] rfl
  refine va_calli (va_runV (As := [.int (nI wq)]) (rest := []) ⟨hx, hb, hml, hown, hts⟩ (k_misWord l dC dI cI cZ cC cJ s.heap.size  h0 th Mtape tnq znq Msort Mplace Mvalue anq ft Mwords hdq nxq Mgoes MgoLine Mends MendLine Mkinds MisName mnq Mrow MbyHand Mleast Msecond MendAt MgoAt MnodeBehind lE MisOut MfirstEnd MfirstGo msort mplace mvalue mwords wq ntq tq qs (by first | assumption | decide | omega) (by first | assumption | decide | omega) (by first | assumption | decide | omega) (by first | assumption | decide | omega) (by first | assumption | decide | omega) (by first | assumption | decide | omega)) (cwV 1 hts gX5_hasWord_X5_isWord rfl rfl rfl (by decide +kernel) ⟨Nat.le_of_ble_eq_true rfl, Nat.le_of_ble_eq_true rfl⟩) ⟨sPre_blind, va_recv hK hPc (ci := 5) (q0 := 0) rfl rfl, fun U hU hW => ⟨rfl, sPre_ok hsk hPc hDc hU hW⟩⟩ rfl rfl hl.1 rfl (lv_room (Nat.le_of_ble_eq_true rfl)) dX5_hasWord_2 ⟨(show 0 + 0 ≤ 0 by omega), (show 0 + 0 ≤ 0 by omega)⟩) hS (fun q _ h => hFc q h) hFc (fun r_1 u t H1 locs ht hvm hw hB hz1 hk1 hS => ?_)
  try dsimp only at hw hB
  obtain ⟨he_2, he_3, he_4⟩ := hw
  have he_2 : (r_1 : Int32) = 0 ∨ (ft = 0 ∧ anq < ntq) := he_2
  have he_3 : (r_1 : Int32) = 0 ∨ (r_1 : Int32) = 1 := he_3
  have he_4 : (r_1 : Int32) = xW9 ft (tq.T qs.1 wq) := he_4
  obtain ⟨hP1, hD1⟩ := hB
  rw [ht] at hP1
  obtain ⟨hP, hD⟩ := va_join (wr := []) (w1 := [(h0, .inr (5, [.int th, .ref Mtape, .int (nI tnq), .int (nI znq), .ref Msort, .ref Mplace, .ref Mvalue, .int (nI anq), .int ft, .ref Mwords, .int (nI hdq), .int (nI nxq), .ref Mgoes, .ref MgoLine, .ref Mends, .ref MendLine, .ref Mkinds, .ref MisName, .int (nI mnq), .ref Mrow, .ref MbyHand, .ref Mleast, .ref Msecond, .ref MendAt, .ref MgoAt, .ref MnodeBehind, .int lE, .ref MisOut, .ref MfirstEnd, .ref MfirstGo])), (Msort, .inl (cI, 1602, .inl msort)), (Mplace, .inl (cI, 1602, .inl mplace)), (Mvalue, .inl (cJ, 1602, .inr (.inl mvalue))), (Mwords, .inl (cJ, 12, .inr (.inl mwords)))]) hP hD [0, 1, 2, 3, 4] [] rfl rfl (by decide) (by decide) hk1 hFc hP1 hD1
  generalize H1 = H at hP hS ⊢
  have hP : va_P (dC, dI) vwCl [(h0, .inr (5, [.int th, .ref Mtape, .int (nI tnq), .int (nI znq), .ref Msort, .ref Mplace, .ref Mvalue, .int (nI anq), .int ft, .ref Mwords, .int (nI hdq), .int (nI nxq), .ref Mgoes, .ref MgoLine, .ref Mends, .ref MendLine, .ref Mkinds, .ref MisName, .int (nI mnq), .ref Mrow, .ref MbyHand, .ref Mleast, .ref Msecond, .ref MendAt, .ref MgoAt, .ref MnodeBehind, .int lE, .ref MisOut, .ref MfirstEnd, .ref MfirstGo])), (Msort, .inl (cI, 1602, .inl msort)), (Mplace, .inl (cI, 1602, .inl mplace)), (Mvalue, .inl (cJ, 1602, .inr (.inl mvalue))), (Mwords, .inl (cJ, 12, .inr (.inl mwords)))] H := hP
  have hD : va_D A [(h0, .inr (5, [.int th, .ref Mtape, .int (nI tnq), .int (nI znq), .ref Msort, .ref Mplace, .ref Mvalue, .int (nI anq), .int ft, .ref Mwords, .int (nI hdq), .int (nI nxq), .ref Mgoes, .ref MgoLine, .ref Mends, .ref MendLine, .ref Mkinds, .ref MisName, .int (nI mnq), .ref Mrow, .ref MbyHand, .ref Mleast, .ref Msecond, .ref MendAt, .ref MgoAt, .ref MnodeBehind, .int lE, .ref MisOut, .ref MfirstEnd, .ref MfirstGo])), (Msort, .inl (cI, 1602, .inl msort)), (Mplace, .inl (cI, 1602, .inl mplace)), (Mvalue, .inl (cJ, 1602, .inr (.inl mvalue))), (Mwords, .inl (cJ, 12, .inr (.inl mwords)))] := hD
  refine lv_istore_n (lv' := [(2, .int r_1), (0, .ref h0), (1, .int (nI wq))]) hx hb dX5_hasWord_5 rfl hl (by decide) rfl (fun ls hl => ?_)
  refine lv_aload_n hx hb dX5_hasWord_6 rfl (lv_at hl 1 rfl) ?_
  refine lv_dup hx hb dX5_hasWord_7 rfl ?_
  refine va_get (D := (dC, dI)) (ci := 5) (v := .int (nI anq)) (C := RX5) (T := TX5) (N := 30) hx hb hts i5 hown hK hP 0 rfl rfl 7 (by decide) (hts (.fieldLink RX5 133 "StopSetterModel" "at" "I") (by decide +kernel)) (fun _ h9 => h9) rfl dX5_hasWord_8 ?_
  refine lv_iload_n hx hb dX5_hasWord_11 rfl (lv_at hl 0 rfl) ?_
  refine lv_if_eq (tgt := 19) hx hb dX5_hasWord_12 (by decide) (fun c_12 => ?_) (fun c_12 => ?_)
  · skip
    refine lv_iconst (v := 0) hx hb dX5_hasWord_19 (by decide) ?_
    refine lv_iadd hx hb dX5_hasWord_20 ?_
    refine lv_topi (fun v_ ev_ => ?_)
    obtain rfl : v_ = (nI anq) := ev_.trans (Int32.add_zero _)
    refine va_put (D := (dC, dI)) (ci := 5) (v := .int (nI anq)) (ty := tyX5 7) (C := RX5) (T := TX5) (N := 30) hx hb hts i5 tyX5 tyX5_ok nmX5 hown hK hP hD hS 0 rfl rfl 7 (by decide) (hts (.fieldLink RX5 133 "StopSetterModel" "at" "I") (by decide +kernel)) (fun _ h9 => h9) rfl (by decide +kernel) rfl rfl (Nat.le_of_ble_eq_true rfl) dX5_hasWord_21 (fun H locs hP hD hS => ?_)
    have hP : va_P (dC, dI) vwCl [(h0, .inr (5, [.int th, .ref Mtape, .int (nI tnq), .int (nI znq), .ref Msort, .ref Mplace, .ref Mvalue, .int (nI anq), .int ft, .ref Mwords, .int (nI hdq), .int (nI nxq), .ref Mgoes, .ref MgoLine, .ref Mends, .ref MendLine, .ref Mkinds, .ref MisName, .int (nI mnq), .ref Mrow, .ref MbyHand, .ref Mleast, .ref Msecond, .ref MendAt, .ref MgoAt, .ref MnodeBehind, .int lE, .ref MisOut, .ref MfirstEnd, .ref MfirstGo])), (Msort, .inl (cI, 1602, .inl msort)), (Mplace, .inl (cI, 1602, .inl mplace)), (Mvalue, .inl (cJ, 1602, .inr (.inl mvalue))), (Mwords, .inl (cJ, 12, .inr (.inl mwords)))] H := hP
    have hD : va_D A [(h0, .inr (5, [.int th, .ref Mtape, .int (nI tnq), .int (nI znq), .ref Msort, .ref Mplace, .ref Mvalue, .int (nI anq), .int ft, .ref Mwords, .int (nI hdq), .int (nI nxq), .ref Mgoes, .ref MgoLine, .ref Mends, .ref MendLine, .ref Mkinds, .ref MisName, .int (nI mnq), .ref Mrow, .ref MbyHand, .ref Mleast, .ref Msecond, .ref MendAt, .ref MgoAt, .ref MnodeBehind, .int lE, .ref MisOut, .ref MfirstEnd, .ref MfirstGo])), (Msort, .inl (cI, 1602, .inl msort)), (Mplace, .inl (cI, 1602, .inl mplace)), (Mvalue, .inl (cJ, 1602, .inr (.inl mvalue))), (Mwords, .inl (cJ, 12, .inr (.inl mwords)))] := hD
    refine lv_iload_n hx hb dX5_hasWord_24 rfl (lv_at hl 0 rfl) ?_
    have hP9 := hP.sub (ws' := [(h0, .inr (5, [.int th, .ref Mtape, .int (nI tnq), .int (nI znq), .ref Msort, .ref Mplace, .ref Mvalue, .int (nI anq), .int ft, .ref Mwords, .int (nI hdq), .int (nI nxq), .ref Mgoes, .ref MgoLine, .ref Mends, .ref MendLine, .ref Mkinds, .ref MisName, .int (nI mnq), .ref Mrow, .ref MbyHand, .ref Mleast, .ref Msecond, .ref MendAt, .ref MgoAt, .ref MnodeBehind, .int lE, .ref MisOut, .ref MfirstEnd, .ref MfirstGo])), (Msort, .inl (cI, 1602, .inl msort)), (Mplace, .inl (cI, 1602, .inl mplace)), (Mvalue, .inl (cJ, 1602, .inr (.inl mvalue))), (Mwords, .inl (cJ, 12, .inr (.inl mwords)))]) [0, 1, 2, 3, 4] rfl
    have hD9 := hD.sub (ws' := [(h0, .inr (5, [.int th, .ref Mtape, .int (nI tnq), .int (nI znq), .ref Msort, .ref Mplace, .ref Mvalue, .int (nI anq), .int ft, .ref Mwords, .int (nI hdq), .int (nI nxq), .ref Mgoes, .ref MgoLine, .ref Mends, .ref MendLine, .ref Mkinds, .ref MisName, .int (nI mnq), .ref Mrow, .ref MbyHand, .ref Mleast, .ref Msecond, .ref MendAt, .ref MgoAt, .ref MnodeBehind, .int lE, .ref MisOut, .ref MfirstEnd, .ref MfirstGo])), (Msort, .inl (cI, 1602, .inl msort)), (Mplace, .inl (cI, 1602, .inl mplace)), (Mvalue, .inl (cJ, 1602, .inr (.inl mvalue))), (Mwords, .inl (cJ, 12, .inr (.inl mwords)))]) [0, 1, 2, 3, 4] (by decide) rfl
    have hens0 : ((r_1 : Int32) = 0 ∧ anq = anq) ∨ (ft = 0 ∧ anq < ntq ∧ anq = anq + 1) := (Or.inl ⟨c_12, rfl⟩)
    have hens1 : pI ntq anq ft := hI
    have hens2 : anq ≤ anq := (Nat.le_refl _)
    have hens3 : (r_1 : Int32) = 0 ∨ (r_1 : Int32) = 1 := he_3
    have hens4 : (r_1 : Int32) = xW9 ft (tq.T qs.1 wq) := he_4
    have hens5 : mQ (hwQ tq wq qs) anq ft := (mQ_of hR (hwQ_no hR he_4 c_12).symm)
    exact W.zret (v := r_1) (ty := .boolean) hx hb hr (nar01 he_3) (fun t ht hW => ⟨⟨r_1, (anq), rfl, ⟨hens0, hens1, hens2, hens3, hens4, hens5⟩, by rw [ht]; exact hP9, hD9⟩, hS.F ht⟩) hS.2.2 dX5_hasWord_25
  · skip
    refine lv_iconst (v := 1) hx hb dX5_hasWord_15 (by decide) ?_
    refine lv_goto (tgt := 20) hx hb dX5_hasWord_16 (by decide) ?_
    refine lv_iadd hx hb dX5_hasWord_20 ?_
    refine lv_topi (fun v_ ev_ => ?_)
    obtain rfl : v_ = (nI (anq + 1)) := ev_.trans (nI_1 anq)
    refine va_put (D := (dC, dI)) (ci := 5) (v := .int (nI (anq + 1))) (ty := tyX5 7) (C := RX5) (T := TX5) (N := 30) hx hb hts i5 tyX5 tyX5_ok nmX5 hown hK hP hD hS 0 rfl rfl 7 (by decide) (hts (.fieldLink RX5 133 "StopSetterModel" "at" "I") (by decide +kernel)) (fun _ h9 => h9) rfl (by decide +kernel) rfl rfl (Nat.le_of_ble_eq_true rfl) dX5_hasWord_21 (fun H locs hP hD hS => ?_)
    have hP : va_P (dC, dI) vwCl [(h0, .inr (5, [.int th, .ref Mtape, .int (nI tnq), .int (nI znq), .ref Msort, .ref Mplace, .ref Mvalue, .int (nI (anq + 1)), .int ft, .ref Mwords, .int (nI hdq), .int (nI nxq), .ref Mgoes, .ref MgoLine, .ref Mends, .ref MendLine, .ref Mkinds, .ref MisName, .int (nI mnq), .ref Mrow, .ref MbyHand, .ref Mleast, .ref Msecond, .ref MendAt, .ref MgoAt, .ref MnodeBehind, .int lE, .ref MisOut, .ref MfirstEnd, .ref MfirstGo])), (Msort, .inl (cI, 1602, .inl msort)), (Mplace, .inl (cI, 1602, .inl mplace)), (Mvalue, .inl (cJ, 1602, .inr (.inl mvalue))), (Mwords, .inl (cJ, 12, .inr (.inl mwords)))] H := hP
    have hD : va_D A [(h0, .inr (5, [.int th, .ref Mtape, .int (nI tnq), .int (nI znq), .ref Msort, .ref Mplace, .ref Mvalue, .int (nI (anq + 1)), .int ft, .ref Mwords, .int (nI hdq), .int (nI nxq), .ref Mgoes, .ref MgoLine, .ref Mends, .ref MendLine, .ref Mkinds, .ref MisName, .int (nI mnq), .ref Mrow, .ref MbyHand, .ref Mleast, .ref Msecond, .ref MendAt, .ref MgoAt, .ref MnodeBehind, .int lE, .ref MisOut, .ref MfirstEnd, .ref MfirstGo])), (Msort, .inl (cI, 1602, .inl msort)), (Mplace, .inl (cI, 1602, .inl mplace)), (Mvalue, .inl (cJ, 1602, .inr (.inl mvalue))), (Mwords, .inl (cJ, 12, .inr (.inl mwords)))] := hD
    refine lv_iload_n hx hb dX5_hasWord_24 rfl (lv_at hl 0 rfl) ?_
    have hP9 := hP.sub (ws' := [(h0, .inr (5, [.int th, .ref Mtape, .int (nI tnq), .int (nI znq), .ref Msort, .ref Mplace, .ref Mvalue, .int (nI (anq + 1)), .int ft, .ref Mwords, .int (nI hdq), .int (nI nxq), .ref Mgoes, .ref MgoLine, .ref Mends, .ref MendLine, .ref Mkinds, .ref MisName, .int (nI mnq), .ref Mrow, .ref MbyHand, .ref Mleast, .ref Msecond, .ref MendAt, .ref MgoAt, .ref MnodeBehind, .int lE, .ref MisOut, .ref MfirstEnd, .ref MfirstGo])), (Msort, .inl (cI, 1602, .inl msort)), (Mplace, .inl (cI, 1602, .inl mplace)), (Mvalue, .inl (cJ, 1602, .inr (.inl mvalue))), (Mwords, .inl (cJ, 12, .inr (.inl mwords)))]) [0, 1, 2, 3, 4] rfl
    have hD9 := hD.sub (ws' := [(h0, .inr (5, [.int th, .ref Mtape, .int (nI tnq), .int (nI znq), .ref Msort, .ref Mplace, .ref Mvalue, .int (nI (anq + 1)), .int ft, .ref Mwords, .int (nI hdq), .int (nI nxq), .ref Mgoes, .ref MgoLine, .ref Mends, .ref MendLine, .ref Mkinds, .ref MisName, .int (nI mnq), .ref Mrow, .ref MbyHand, .ref Mleast, .ref Msecond, .ref MendAt, .ref MgoAt, .ref MnodeBehind, .int lE, .ref MisOut, .ref MfirstEnd, .ref MfirstGo])), (Msort, .inl (cI, 1602, .inl msort)), (Mplace, .inl (cI, 1602, .inl mplace)), (Mvalue, .inl (cJ, 1602, .inr (.inl mvalue))), (Mwords, .inl (cJ, 12, .inr (.inl mwords)))]) [0, 1, 2, 3, 4] (by decide) rfl
    have hens0 : ((r_1 : Int32) = 0 ∧ (anq + 1) = anq) ∨ (ft = 0 ∧ anq < ntq ∧ (anq + 1) = anq + 1) := (Or.inr ⟨(Or.resolve_left he_2 c_12).1, (Or.resolve_left he_2 c_12).2, rfl⟩)
    have hens1 : pI ntq (anq + 1) ft := (Or.inl ⟨(Or.resolve_left he_2 c_12).1, (Or.resolve_left he_2 c_12).2⟩)
    have hens2 : anq ≤ (anq + 1) := (by omega)
    have hens3 : (r_1 : Int32) = 0 ∨ (r_1 : Int32) = 1 := he_3
    have hens4 : (r_1 : Int32) = xW9 ft (tq.T qs.1 wq) := he_4
    have hens5 : mQ (hwQ tq wq qs) (anq + 1) ft := (mQ_H1 hR he_4 c_12)
    exact W.zret (v := r_1) (ty := .boolean) hx hb hr (nar01 he_3) (fun t ht hW => ⟨⟨r_1, ((anq + 1)), rfl, ⟨hens0, hens1, hens2, hens3, hens4, hens5⟩, by rw [ht]; exact hP9, hD9⟩, hS.F ht⟩) hS.2.2 dX5_hasWord_25
set_option maxHeartbeats 4000000 in
set_option maxRecDepth 100000 in
theorem k_takeWord (l : Launch) (dC : Nat → ClassId) (dI : Nat → Nat → Nat) (cI cZ cC cJ : ClassId) (sz : Nat) (h0 : Nat) (th : Int32) (Mtape : Nat) (tnq : Nat) (znq : Nat) (Msort : Nat) (Mplace : Nat) (Mvalue : Nat) (anq : Nat) (ft : Int32) (Mwords : Nat) (hdq : Nat) (nxq : Nat) (Mgoes : Nat) (MgoLine : Nat) (Mends : Nat) (MendLine : Nat) (Mkinds : Nat) (MisName : Nat) (mnq : Nat) (Mrow : Nat) (MbyHand : Nat) (Mleast : Nat) (Msecond : Nat) (MendAt : Nat) (MgoAt : Nat) (MnodeBehind : Nat) (lE : Int32) (MisOut : Nat) (MfirstEnd : Nat) (MfirstGo : Nat) (msort : Nat → Int32) (mplace : Nat → Int32) (mvalue : Nat → Int64) (mwords : Nat → Int64) (wq : Nat) (ntq : Nat) (tq : TkS) (qs : Nat × Int32) (hp : pOK msort mplace ntq) (hI : pI ntq anq ft) (hw : wq < 12) (hPl : tkPl tq mplace ntq) (hSo : tkSo tq msort ntq) (hWo : tkWo tq mvalue mwords ntq) (hR : mQ qs anq ft) : Met l yX5_takeWord wsX5_takeWord ({ frames := 2, cells := 0, slots := 0, locals := 43 }) (va_Pc [.ref h0, .int (nI wq)] (sPre dC dI cI cZ cC cJ [(h0, .inr (5, [.int th, .ref Mtape, .int (nI tnq), .int (nI znq), .ref Msort, .ref Mplace, .ref Mvalue, .int (nI anq), .int ft, .ref Mwords, .int (nI hdq), .int (nI nxq), .ref Mgoes, .ref MgoLine, .ref Mends, .ref MendLine, .ref Mkinds, .ref MisName, .int (nI mnq), .ref Mrow, .ref MbyHand, .ref Mleast, .ref Msecond, .ref MendAt, .ref MgoAt, .ref MnodeBehind, .int lE, .ref MisOut, .ref MfirstEnd, .ref MfirstGo])), (Msort, .inl (cI, 1602, .inl msort)), (Mplace, .inl (cI, 1602, .inl mplace)), (Mvalue, .inl (cJ, 1602, .inr (.inl mvalue))), (Mwords, .inl (cJ, 12, .inr (.inl mwords)))] sz)) (va_Qv (fun (u : (Nat) × (Int32)) => match u with | (anq2, ft2) => (pI ntq anq2 ft2) ∧ (anq ≤ anq2) ∧ (mQ (stW tq wq qs) anq2 ft2)) (fun (u : (Nat) × (Int32)) t => match u with | (anq2, ft2) => sB dC dI (va_A [(h0, .inr (5, [.int th, .ref Mtape, .int (nI tnq), .int (nI znq), .ref Msort, .ref Mplace, .ref Mvalue, .int (nI anq), .int ft, .ref Mwords, .int (nI hdq), .int (nI nxq), .ref Mgoes, .ref MgoLine, .ref Mends, .ref MendLine, .ref Mkinds, .ref MisName, .int (nI mnq), .ref Mrow, .ref MbyHand, .ref Mleast, .ref Msecond, .ref MendAt, .ref MgoAt, .ref MnodeBehind, .int lE, .ref MisOut, .ref MfirstEnd, .ref MfirstGo])), (Msort, .inl (cI, 1602, .inl msort)), (Mplace, .inl (cI, 1602, .inl mplace)), (Mvalue, .inl (cJ, 1602, .inr (.inl mvalue))), (Mwords, .inl (cJ, 12, .inr (.inl mwords)))] sz) [(h0, .inr (5, [.int th, .ref Mtape, .int (nI tnq), .int (nI znq), .ref Msort, .ref Mplace, .ref Mvalue, .int (nI anq2), .int ft2, .ref Mwords, .int (nI hdq), .int (nI nxq), .ref Mgoes, .ref MgoLine, .ref Mends, .ref MendLine, .ref Mkinds, .ref MisName, .int (nI mnq), .ref Mrow, .ref MbyHand, .ref Mleast, .ref Msecond, .ref MendAt, .ref MgoAt, .ref MnodeBehind, .int lE, .ref MisOut, .ref MfirstEnd, .ref MfirstGo])), (Msort, .inl (cI, 1602, .inl msort)), (Mplace, .inl (cI, 1602, .inl mplace)), (Mvalue, .inl (cJ, 1602, .inr (.inl mvalue))), (Mwords, .inl (cJ, 12, .inr (.inl mwords)))] t) (va_A [(h0, .inr (5, [.int th, .ref Mtape, .int (nI tnq), .int (nI znq), .ref Msort, .ref Mplace, .ref Mvalue, .int (nI anq), .int ft, .ref Mwords, .int (nI hdq), .int (nI nxq), .ref Mgoes, .ref MgoLine, .ref Mends, .ref MendLine, .ref Mkinds, .ref MisName, .int (nI mnq), .ref Mrow, .ref MbyHand, .ref Mleast, .ref Msecond, .ref MendAt, .ref MgoAt, .ref MnodeBehind, .int lE, .ref MisOut, .ref MfirstEnd, .ref MfirstGo])), (Msort, .inl (cI, 1602, .inl msort)), (Mplace, .inl (cI, 1602, .inl mplace)), (Mvalue, .inl (cJ, 1602, .inr (.inl mvalue))), (Mwords, .inl (cJ, 12, .inr (.inl mwords)))] sz)) 0 0 (va_A [(h0, .inr (5, [.int th, .ref Mtape, .int (nI tnq), .int (nI znq), .ref Msort, .ref Mplace, .ref Mvalue, .int (nI anq), .int ft, .ref Mwords, .int (nI hdq), .int (nI nxq), .ref Mgoes, .ref MgoLine, .ref Mends, .ref MendLine, .ref Mkinds, .ref MisName, .int (nI mnq), .ref Mrow, .ref MbyHand, .ref Mleast, .ref Msecond, .ref MendAt, .ref MgoAt, .ref MnodeBehind, .int lE, .ref MisOut, .ref MfirstEnd, .ref MfirstGo])), (Msort, .inl (cI, 1602, .inl msort)), (Mplace, .inl (cI, 1602, .inl mplace)), (Mvalue, .inl (cJ, 1602, .inr (.inl mvalue))), (Mwords, .inl (cJ, 12, .inr (.inl mwords)))] sz) := by
  refine Met.ofW (cc := cX5_takeWord) (maxL := 2) (ret := none) (by decide) rfl ?_
  intro p e s m args below meth c s₁ B hml hv
  obtain ⟨rfl, hsz, hP, hsk, hD0⟩ := hv
  have hx := B.exec
  have hb := B.bytes
  have hr := B.returns
  have hts := atoms_spec (ws := wsX5_takeWord) B.pre
  have hown : s.vm.findClass RX5 = some m.cls := findClass_of_methodNamed B.named
  have hlocks := B.notSynchronized
  have hK := hsk.1
  subst hsz
  have hD := hD0.self (sz := s.heap.size)
  generalize hAe : va_A [(h0, .inr (5, [.int th, .ref Mtape, .int (nI tnq), .int (nI znq), .ref Msort, .ref Mplace, .ref Mvalue, .int (nI anq), .int ft, .ref Mwords, .int (nI hdq), .int (nI nxq), .ref Mgoes, .ref MgoLine, .ref Mends, .ref MendLine, .ref Mkinds, .ref MisName, .int (nI mnq), .ref Mrow, .ref MbyHand, .ref Mleast, .ref Msecond, .ref MendAt, .ref MgoAt, .ref MnodeBehind, .int lE, .ref MisOut, .ref MfirstEnd, .ref MfirstGo])), (Msort, .inl (cI, 1602, .inl msort)), (Mplace, .inl (cI, 1602, .inl mplace)), (Mvalue, .inl (cJ, 1602, .inr (.inl mvalue))), (Mwords, .inl (cJ, 12, .inr (.inl mwords)))] s.heap.size = A at hD ⊢
  have hA : ∀ q : Nat, s.heap.size ≤ q → A q := fun q h => by rw [← hAe]; exact Or.inr h
  have hS : va_S A s.heap s.heap [] := va_S.rf
  have hl := lv_entry ([.ref h0, .int (nI wq)]) (n := 2) (Nat.le_of_ble_eq_true rfl)
  rw [lg_entry_eq]
  generalize (lg_sl ([.ref h0, .int (nI wq)]) ++ List.replicate (2 - (lg_sl ([.ref h0, .int (nI wq)])).length) Slot.unset).toArray = ls at hl ⊢
  have hl : lv_has ls 2 [(0, .ref h0), (1, .int (nI wq))] := hl
  refine lv_aload_n hx hb dX5_takeWord_0 rfl (lv_at hl 0 rfl) ?_
  refine lv_iload_n hx hb dX5_takeWord_1 rfl (lv_at hl 1 rfl) ?_
  have hPc := hP.sub (ws' := [(h0, .inr (5, [.int th, .ref Mtape, .int (nI tnq), .int (nI znq), .ref Msort, .ref Mplace, .ref Mvalue, .int (nI anq), .int ft, .ref Mwords, .int (nI hdq), .int (nI nxq), .ref Mgoes, .ref MgoLine, .ref Mends, .ref MendLine, .ref Mkinds, .ref MisName, .int (nI mnq), .ref Mrow, .ref MbyHand, .ref Mleast, .ref Msecond, .ref MendAt, .ref MgoAt, .ref MnodeBehind, .int lE, .ref MisOut, .ref MfirstEnd, .ref MfirstGo])), (Msort, .inl (cI, 1602, .inl msort)), (Mplace, .inl (cI, 1602, .inl mplace)), (Mvalue, .inl (cJ, 1602, .inr (.inl mvalue))), (Mwords, .inl (cJ, 12, .inr (.inl mwords)))]) [0, 1, 2, 3, 4] rfl
  have hDc := hD.sub (ws' := [(h0, .inr (5, [.int th, .ref Mtape, .int (nI tnq), .int (nI znq), .ref Msort, .ref Mplace, .ref Mvalue, .int (nI anq), .int ft, .ref Mwords, .int (nI hdq), .int (nI nxq), .ref Mgoes, .ref MgoLine, .ref Mends, .ref MendLine, .ref Mkinds, .ref MisName, .int (nI mnq), .ref Mrow, .ref MbyHand, .ref Mleast, .ref Msecond, .ref MendAt, .ref MgoAt, .ref MnodeBehind, .int lE, .ref MisOut, .ref MfirstEnd, .ref MfirstGo])), (Msort, .inl (cI, 1602, .inl msort)), (Mplace, .inl (cI, 1602, .inl mplace)), (Mvalue, .inl (cJ, 1602, .inr (.inl mvalue))), (Mwords, .inl (cJ, 12, .inr (.inl mwords)))]) [0, 1, 2, 3, 4] (by decide) rfl
  have hFc := va_free (wc := [(h0, .inr (5, [.int th, .ref Mtape, .int (nI tnq), .int (nI znq), .ref Msort, .ref Mplace, .ref Mvalue, .int (nI anq), .int ft, .ref Mwords, .int (nI hdq), .int (nI nxq), .ref Mgoes, .ref MgoLine, .ref Mends, .ref MendLine, .ref Mkinds, .ref MisName, .int (nI mnq), .ref Mrow, .ref MbyHand, .ref Mleast, .ref Msecond, .ref MendAt, .ref MgoAt, .ref MnodeBehind, .int lE, .ref MisOut, .ref MfirstEnd, .ref MfirstGo])), (Msort, .inl (cI, 1602, .inl msort)), (Mplace, .inl (cI, 1602, .inl mplace)), (Mvalue, .inl (cJ, 1602, .inr (.inl mvalue))), (Mwords, .inl (cJ, 12, .inr (.inl mwords)))]) hD hS hA [0, 1, 2, 3, 4] rfl
  refine va_calli (va_runV (As := [.int (nI wq)]) (rest := []) ⟨hx, hb, hml, hown, hts⟩ (k_hasWord l dC dI cI cZ cC cJ s.heap.size  h0 th Mtape tnq znq Msort Mplace Mvalue anq ft Mwords hdq nxq Mgoes MgoLine Mends MendLine Mkinds MisName mnq Mrow MbyHand Mleast Msecond MendAt MgoAt MnodeBehind lE MisOut MfirstEnd MfirstGo msort mplace mvalue mwords wq ntq tq qs (by first | assumption | decide | omega) (by first | assumption | decide | omega) (by first | assumption | decide | omega) (by first | assumption | decide | omega) (by first | assumption | decide | omega) (by first | assumption | decide | omega)) (cwV 1 hts gX5_takeWord_X5_hasWord rfl rfl rfl (by decide +kernel) ⟨Nat.le_of_ble_eq_true rfl, Nat.le_of_ble_eq_true rfl⟩) ⟨sPre_blind, va_recv hK hPc (ci := 5) (q0 := 0) rfl rfl, fun U hU hW => ⟨rfl, sPre_ok hsk hPc hDc hU hW⟩⟩ rfl rfl hl.1 rfl (lv_room (Nat.le_of_ble_eq_true rfl)) dX5_takeWord_2 ⟨(show 0 + 0 ≤ 0 by omega), (show 0 + 0 ≤ 0 by omega)⟩) hS (fun q _ h => hFc q h) hFc (fun r_1 u t H1 locs ht hvm hw hB hz1 hk1 hS => ?_)
  obtain ⟨a_2, rfl⟩ : ∃ z, z = u := ⟨_, rfl⟩
  try dsimp only at hw hB
  obtain ⟨he_3, he_4, he_5, he_6, he_7, he_8⟩ := hw
  have he_3 : ((r_1 : Int32) = 0 ∧ a_2 = anq) ∨ (ft = 0 ∧ anq < ntq ∧ a_2 = anq + 1) := he_3
  have he_4 : pI ntq a_2 ft := he_4
  have he_5 : anq ≤ a_2 := he_5
  have he_6 : (r_1 : Int32) = 0 ∨ (r_1 : Int32) = 1 := he_6
  have he_7 : (r_1 : Int32) = xW9 ft (tq.T qs.1 wq) := he_7
  have he_8 : mQ (hwQ tq wq qs) a_2 ft := he_8
  obtain ⟨q_9, eq_9⟩ : ∃ x9 : Nat × Int32, x9 = hwQ tq wq qs := ⟨_, rfl⟩
  rw [← eq_9] at he_8
  obtain ⟨hP1, hD1⟩ := hB
  rw [ht] at hP1
  obtain ⟨hP, hD⟩ := va_join (wr := []) (w1 := [(h0, .inr (5, [.int th, .ref Mtape, .int (nI tnq), .int (nI znq), .ref Msort, .ref Mplace, .ref Mvalue, .int (nI a_2), .int ft, .ref Mwords, .int (nI hdq), .int (nI nxq), .ref Mgoes, .ref MgoLine, .ref Mends, .ref MendLine, .ref Mkinds, .ref MisName, .int (nI mnq), .ref Mrow, .ref MbyHand, .ref Mleast, .ref Msecond, .ref MendAt, .ref MgoAt, .ref MnodeBehind, .int lE, .ref MisOut, .ref MfirstEnd, .ref MfirstGo])), (Msort, .inl (cI, 1602, .inl msort)), (Mplace, .inl (cI, 1602, .inl mplace)), (Mvalue, .inl (cJ, 1602, .inr (.inl mvalue))), (Mwords, .inl (cJ, 12, .inr (.inl mwords)))]) hP hD [0, 1, 2, 3, 4] [] rfl rfl (by decide) (by decide) hk1 hFc hP1 hD1
  generalize H1 = H at hP hS ⊢
  have hP : va_P (dC, dI) vwCl [(h0, .inr (5, [.int th, .ref Mtape, .int (nI tnq), .int (nI znq), .ref Msort, .ref Mplace, .ref Mvalue, .int (nI a_2), .int ft, .ref Mwords, .int (nI hdq), .int (nI nxq), .ref Mgoes, .ref MgoLine, .ref Mends, .ref MendLine, .ref Mkinds, .ref MisName, .int (nI mnq), .ref Mrow, .ref MbyHand, .ref Mleast, .ref Msecond, .ref MendAt, .ref MgoAt, .ref MnodeBehind, .int lE, .ref MisOut, .ref MfirstEnd, .ref MfirstGo])), (Msort, .inl (cI, 1602, .inl msort)), (Mplace, .inl (cI, 1602, .inl mplace)), (Mvalue, .inl (cJ, 1602, .inr (.inl mvalue))), (Mwords, .inl (cJ, 12, .inr (.inl mwords)))] H := hP
  have hD : va_D A [(h0, .inr (5, [.int th, .ref Mtape, .int (nI tnq), .int (nI znq), .ref Msort, .ref Mplace, .ref Mvalue, .int (nI a_2), .int ft, .ref Mwords, .int (nI hdq), .int (nI nxq), .ref Mgoes, .ref MgoLine, .ref Mends, .ref MendLine, .ref Mkinds, .ref MisName, .int (nI mnq), .ref Mrow, .ref MbyHand, .ref Mleast, .ref Msecond, .ref MendAt, .ref MgoAt, .ref MnodeBehind, .int lE, .ref MisOut, .ref MfirstEnd, .ref MfirstGo])), (Msort, .inl (cI, 1602, .inl msort)), (Mplace, .inl (cI, 1602, .inl mplace)), (Mvalue, .inl (cJ, 1602, .inr (.inl mvalue))), (Mwords, .inl (cJ, 12, .inr (.inl mwords)))] := hD
  refine lv_if_ne (tgt := 13) hx hb dX5_takeWord_5 (by decide) (fun c_5 => ?_) (fun c_5 => ?_)
  · skip
    have hP9 := hP.sub (ws' := [(h0, .inr (5, [.int th, .ref Mtape, .int (nI tnq), .int (nI znq), .ref Msort, .ref Mplace, .ref Mvalue, .int (nI a_2), .int ft, .ref Mwords, .int (nI hdq), .int (nI nxq), .ref Mgoes, .ref MgoLine, .ref Mends, .ref MendLine, .ref Mkinds, .ref MisName, .int (nI mnq), .ref Mrow, .ref MbyHand, .ref Mleast, .ref Msecond, .ref MendAt, .ref MgoAt, .ref MnodeBehind, .int lE, .ref MisOut, .ref MfirstEnd, .ref MfirstGo])), (Msort, .inl (cI, 1602, .inl msort)), (Mplace, .inl (cI, 1602, .inl mplace)), (Mvalue, .inl (cJ, 1602, .inr (.inl mvalue))), (Mwords, .inl (cJ, 12, .inr (.inl mwords)))]) [0, 1, 2, 3, 4] rfl
    have hD9 := hD.sub (ws' := [(h0, .inr (5, [.int th, .ref Mtape, .int (nI tnq), .int (nI znq), .ref Msort, .ref Mplace, .ref Mvalue, .int (nI a_2), .int ft, .ref Mwords, .int (nI hdq), .int (nI nxq), .ref Mgoes, .ref MgoLine, .ref Mends, .ref MendLine, .ref Mkinds, .ref MisName, .int (nI mnq), .ref Mrow, .ref MbyHand, .ref Mleast, .ref Msecond, .ref MendAt, .ref MgoAt, .ref MnodeBehind, .int lE, .ref MisOut, .ref MfirstEnd, .ref MfirstGo])), (Msort, .inl (cI, 1602, .inl msort)), (Mplace, .inl (cI, 1602, .inl mplace)), (Mvalue, .inl (cJ, 1602, .inr (.inl mvalue))), (Mwords, .inl (cJ, 12, .inr (.inl mwords)))]) [0, 1, 2, 3, 4] (by decide) rfl
    have hens0 : pI ntq a_2 ft := (by first | exact Or.inr (by assumption) | assumption)
    have hens1 : anq ≤ a_2 := (by omega)
    have hens2 : mQ (stW tq wq qs) a_2 ft := (mQ_of he_8 (eq_9.trans ((hwQ_yes hR he_7 c_5).1.trans (stW_yes (hwQ_yes hR he_7 c_5).2.1 (hwQ_yes hR he_7 c_5).2.2).symm)))
    exact W.vret hx hb hr (fun t ht hW => ⟨⟨(a_2, ft), rfl, ⟨hens0, hens1, hens2⟩, by rw [ht]; exact hP9, hD9⟩, hS.F ht⟩) hS.2.2 dX5_takeWord_13
  · skip
    refine lv_aload_n hx hb dX5_takeWord_8 rfl (lv_at hl 0 rfl) ?_
    refine lv_iconst (v := 1) hx hb dX5_takeWord_9 (by decide) ?_
    have hPc := hP.sub (ws' := [(h0, .inr (5, [.int th, .ref Mtape, .int (nI tnq), .int (nI znq), .ref Msort, .ref Mplace, .ref Mvalue, .int (nI a_2), .int ft, .ref Mwords, .int (nI hdq), .int (nI nxq), .ref Mgoes, .ref MgoLine, .ref Mends, .ref MendLine, .ref Mkinds, .ref MisName, .int (nI mnq), .ref Mrow, .ref MbyHand, .ref Mleast, .ref Msecond, .ref MendAt, .ref MgoAt, .ref MnodeBehind, .int lE, .ref MisOut, .ref MfirstEnd, .ref MfirstGo])), (Msort, .inl (cI, 1602, .inl msort)), (Mplace, .inl (cI, 1602, .inl mplace))]) [0, 1, 2] rfl
    have hDc := hD.sub (ws' := [(h0, .inr (5, [.int th, .ref Mtape, .int (nI tnq), .int (nI znq), .ref Msort, .ref Mplace, .ref Mvalue, .int (nI a_2), .int ft, .ref Mwords, .int (nI hdq), .int (nI nxq), .ref Mgoes, .ref MgoLine, .ref Mends, .ref MendLine, .ref Mkinds, .ref MisName, .int (nI mnq), .ref Mrow, .ref MbyHand, .ref Mleast, .ref Msecond, .ref MendAt, .ref MgoAt, .ref MnodeBehind, .int lE, .ref MisOut, .ref MfirstEnd, .ref MfirstGo])), (Msort, .inl (cI, 1602, .inl msort)), (Mplace, .inl (cI, 1602, .inl mplace))]) [0, 1, 2] (by decide) rfl
    have hFc := va_free (wc := [(h0, .inr (5, [.int th, .ref Mtape, .int (nI tnq), .int (nI znq), .ref Msort, .ref Mplace, .ref Mvalue, .int (nI a_2), .int ft, .ref Mwords, .int (nI hdq), .int (nI nxq), .ref Mgoes, .ref MgoLine, .ref Mends, .ref MendLine, .ref Mkinds, .ref MisName, .int (nI mnq), .ref Mrow, .ref MbyHand, .ref Mleast, .ref Msecond, .ref MendAt, .ref MgoAt, .ref MnodeBehind, .int lE, .ref MisOut, .ref MfirstEnd, .ref MfirstGo])), (Msort, .inl (cI, 1602, .inl msort)), (Mplace, .inl (cI, 1602, .inl mplace))]) hD hS hA [0, 1, 2] rfl
    refine va_callv (va_runV (As := [.int 1]) (rest := []) ⟨hx, hb, hml, hown, hts⟩ (k_wrong l dC dI cI cZ cC cJ H.size  h0 th Mtape tnq znq Msort Mplace Mvalue a_2 ft Mwords hdq nxq Mgoes MgoLine Mends MendLine Mkinds MisName mnq Mrow MbyHand Mleast Msecond MendAt MgoAt MnodeBehind lE MisOut MfirstEnd MfirstGo msort mplace 1 ntq tq q_9 (by first | assumption | decide | omega) (by first | assumption | decide | omega) (by first | assumption | decide | omega) (by first | assumption | decide | omega) (by first | assumption | decide | omega) (by first | assumption | decide | omega)) (cwV 1 hts gX5_takeWord_X5_wrong rfl rfl rfl (by decide +kernel) ⟨Nat.le_of_ble_eq_true rfl, Nat.le_of_ble_eq_true rfl⟩) ⟨sPre_blind, va_recv hK hPc (ci := 5) (q0 := 0) rfl rfl, fun U hU hW => ⟨rfl, sPre_ok hsk hPc hDc hU hW⟩⟩ rfl rfl hl.1 rfl (lv_room (Nat.le_of_ble_eq_true rfl)) dX5_takeWord_10 ⟨(show 0 + 0 ≤ 0 by omega), (show 0 + 0 ≤ 0 by omega)⟩) hS (fun q _ h => hFc q h) hFc (fun u t H1 locs ht hvm hw hB hz1 hk1 hS => ?_)
    obtain ⟨f_11, rfl⟩ : ∃ z, z = u := ⟨_, rfl⟩
    try dsimp only at hw hB
    obtain ⟨he_12, he_13⟩ := hw
    have he_12 : 0 < f_11 := he_12
    have he_13 : mQ (stR tq 1 q_9) a_2 f_11 := he_13
    obtain ⟨q_14, eq_14⟩ : ∃ x9 : Nat × Int32, x9 = stR tq 1 q_9 := ⟨_, rfl⟩
    rw [← eq_14] at he_13
    obtain ⟨hP1, hD1⟩ := hB
    rw [ht] at hP1
    obtain ⟨hP, hD⟩ := va_join (wr := [(Mvalue, .inl (cJ, 1602, .inr (.inl mvalue))), (Mwords, .inl (cJ, 12, .inr (.inl mwords)))]) (w1 := [(h0, .inr (5, [.int th, .ref Mtape, .int (nI tnq), .int (nI znq), .ref Msort, .ref Mplace, .ref Mvalue, .int (nI a_2), .int f_11, .ref Mwords, .int (nI hdq), .int (nI nxq), .ref Mgoes, .ref MgoLine, .ref Mends, .ref MendLine, .ref Mkinds, .ref MisName, .int (nI mnq), .ref Mrow, .ref MbyHand, .ref Mleast, .ref Msecond, .ref MendAt, .ref MgoAt, .ref MnodeBehind, .int lE, .ref MisOut, .ref MfirstEnd, .ref MfirstGo])), (Msort, .inl (cI, 1602, .inl msort)), (Mplace, .inl (cI, 1602, .inl mplace))]) hP hD [0, 1, 2] [3, 4] rfl rfl (by decide) (by decide) hk1 hFc hP1 hD1
    generalize H1 = H at hP hS ⊢
    have hP : va_P (dC, dI) vwCl [(Mvalue, .inl (cJ, 1602, .inr (.inl mvalue))), (Mwords, .inl (cJ, 12, .inr (.inl mwords))), (h0, .inr (5, [.int th, .ref Mtape, .int (nI tnq), .int (nI znq), .ref Msort, .ref Mplace, .ref Mvalue, .int (nI a_2), .int f_11, .ref Mwords, .int (nI hdq), .int (nI nxq), .ref Mgoes, .ref MgoLine, .ref Mends, .ref MendLine, .ref Mkinds, .ref MisName, .int (nI mnq), .ref Mrow, .ref MbyHand, .ref Mleast, .ref Msecond, .ref MendAt, .ref MgoAt, .ref MnodeBehind, .int lE, .ref MisOut, .ref MfirstEnd, .ref MfirstGo])), (Msort, .inl (cI, 1602, .inl msort)), (Mplace, .inl (cI, 1602, .inl mplace))] H := hP
    have hD : va_D A [(Mvalue, .inl (cJ, 1602, .inr (.inl mvalue))), (Mwords, .inl (cJ, 12, .inr (.inl mwords))), (h0, .inr (5, [.int th, .ref Mtape, .int (nI tnq), .int (nI znq), .ref Msort, .ref Mplace, .ref Mvalue, .int (nI a_2), .int f_11, .ref Mwords, .int (nI hdq), .int (nI nxq), .ref Mgoes, .ref MgoLine, .ref Mends, .ref MendLine, .ref Mkinds, .ref MisName, .int (nI mnq), .ref Mrow, .ref MbyHand, .ref Mleast, .ref Msecond, .ref MendAt, .ref MgoAt, .ref MnodeBehind, .int lE, .ref MisOut, .ref MfirstEnd, .ref MfirstGo])), (Msort, .inl (cI, 1602, .inl msort)), (Mplace, .inl (cI, 1602, .inl mplace))] := hD
    have hP9 := hP.sub (ws' := [(h0, .inr (5, [.int th, .ref Mtape, .int (nI tnq), .int (nI znq), .ref Msort, .ref Mplace, .ref Mvalue, .int (nI a_2), .int f_11, .ref Mwords, .int (nI hdq), .int (nI nxq), .ref Mgoes, .ref MgoLine, .ref Mends, .ref MendLine, .ref Mkinds, .ref MisName, .int (nI mnq), .ref Mrow, .ref MbyHand, .ref Mleast, .ref Msecond, .ref MendAt, .ref MgoAt, .ref MnodeBehind, .int lE, .ref MisOut, .ref MfirstEnd, .ref MfirstGo])), (Msort, .inl (cI, 1602, .inl msort)), (Mplace, .inl (cI, 1602, .inl mplace)), (Mvalue, .inl (cJ, 1602, .inr (.inl mvalue))), (Mwords, .inl (cJ, 12, .inr (.inl mwords)))]) [2, 3, 4, 0, 1] rfl
    have hD9 := hD.sub (ws' := [(h0, .inr (5, [.int th, .ref Mtape, .int (nI tnq), .int (nI znq), .ref Msort, .ref Mplace, .ref Mvalue, .int (nI a_2), .int f_11, .ref Mwords, .int (nI hdq), .int (nI nxq), .ref Mgoes, .ref MgoLine, .ref Mends, .ref MendLine, .ref Mkinds, .ref MisName, .int (nI mnq), .ref Mrow, .ref MbyHand, .ref Mleast, .ref Msecond, .ref MendAt, .ref MgoAt, .ref MnodeBehind, .int lE, .ref MisOut, .ref MfirstEnd, .ref MfirstGo])), (Msort, .inl (cI, 1602, .inl msort)), (Mplace, .inl (cI, 1602, .inl mplace)), (Mvalue, .inl (cJ, 1602, .inr (.inl mvalue))), (Mwords, .inl (cJ, 12, .inr (.inl mwords)))]) [2, 3, 4, 0, 1] (by decide) rfl
    have hens0 : pI ntq a_2 f_11 := (by first | exact Or.inr (by assumption) | assumption)
    have hens1 : anq ≤ a_2 := (by omega)
    have hens2 : mQ (stW tq wq qs) a_2 f_11 := (mQ_of he_13 (by rw [eq_14, eq_9, hwQ_no hR he_7 c_5]; exact stW_no hR.1 he_7 c_5))
    exact W.vret hx hb hr (fun t ht hW => ⟨⟨(a_2, f_11), rfl, ⟨hens0, hens1, hens2⟩, by rw [ht]; exact hP9, hD9⟩, hS.F ht⟩) hS.2.2 dX5_takeWord_13
set_option maxHeartbeats 4000000 in
set_option maxRecDepth 100000 in
theorem k_takeNumber (l : Launch) (dC : Nat → ClassId) (dI : Nat → Nat → Nat) (cI cZ cC cJ : ClassId) (sz : Nat) (h0 : Nat) (th : Int32) (Mtape : Nat) (tnq : Nat) (znq : Nat) (Msort : Nat) (Mplace : Nat) (Mvalue : Nat) (anq : Nat) (ft : Int32) (Mwords : Nat) (hdq : Nat) (nxq : Nat) (Mgoes : Nat) (MgoLine : Nat) (Mends : Nat) (MendLine : Nat) (Mkinds : Nat) (MisName : Nat) (mnq : Nat) (Mrow : Nat) (MbyHand : Nat) (Mleast : Nat) (Msecond : Nat) (MendAt : Nat) (MgoAt : Nat) (MnodeBehind : Nat) (lE : Int32) (MisOut : Nat) (MfirstEnd : Nat) (MfirstGo : Nat) (msort : Nat → Int32) (mplace : Nat → Int32) (mvalue : Nat → Int64) (bq : Nat) (ntq : Nat) (tq : TkS) (qs : Nat × Int32) (hp : pOK msort mplace ntq) (hI : pI ntq anq ft) (hb9 : bq < 2 ^ 31) (hPl : tkPl tq mplace ntq) (hSo : tkSo tq msort ntq) (hVa : tkVa tq mvalue ntq) (hR : mQ qs anq ft) : Met l yX5_takeNumber wsX5_takeNumber ({ frames := 1, cells := 0, slots := 0, locals := 21 }) (va_Pc [.ref h0, .int 0, .int (nI bq)] (sPre dC dI cI cZ cC cJ [(h0, .inr (5, [.int th, .ref Mtape, .int (nI tnq), .int (nI znq), .ref Msort, .ref Mplace, .ref Mvalue, .int (nI anq), .int ft, .ref Mwords, .int (nI hdq), .int (nI nxq), .ref Mgoes, .ref MgoLine, .ref Mends, .ref MendLine, .ref Mkinds, .ref MisName, .int (nI mnq), .ref Mrow, .ref MbyHand, .ref Mleast, .ref Msecond, .ref MendAt, .ref MgoAt, .ref MnodeBehind, .int lE, .ref MisOut, .ref MfirstEnd, .ref MfirstGo])), (Msort, .inl (cI, 1602, .inl msort)), (Mplace, .inl (cI, 1602, .inl mplace)), (Mvalue, .inl (cJ, 1602, .inr (.inl mvalue)))] sz)) (va_Qi (fun (r : Int32) (u : (Nat) × (Int32)) => match u with | (anq2, ft2) => (pI ntq anq2 ft2) ∧ (anq ≤ anq2) ∧ (∃ v : Nat, v ≤ bq ∧ (r : Int32) = nI v) ∧ (mQ (stN tq bq qs) anq2 ft2) ∧ (ft2 = 0 → (r : Int32) = nV tq qs)) (fun (u : (Nat) × (Int32)) t => match u with | (anq2, ft2) => sB dC dI (va_A [(h0, .inr (5, [.int th, .ref Mtape, .int (nI tnq), .int (nI znq), .ref Msort, .ref Mplace, .ref Mvalue, .int (nI anq), .int ft, .ref Mwords, .int (nI hdq), .int (nI nxq), .ref Mgoes, .ref MgoLine, .ref Mends, .ref MendLine, .ref Mkinds, .ref MisName, .int (nI mnq), .ref Mrow, .ref MbyHand, .ref Mleast, .ref Msecond, .ref MendAt, .ref MgoAt, .ref MnodeBehind, .int lE, .ref MisOut, .ref MfirstEnd, .ref MfirstGo])), (Msort, .inl (cI, 1602, .inl msort)), (Mplace, .inl (cI, 1602, .inl mplace)), (Mvalue, .inl (cJ, 1602, .inr (.inl mvalue)))] sz) [(h0, .inr (5, [.int th, .ref Mtape, .int (nI tnq), .int (nI znq), .ref Msort, .ref Mplace, .ref Mvalue, .int (nI anq2), .int ft2, .ref Mwords, .int (nI hdq), .int (nI nxq), .ref Mgoes, .ref MgoLine, .ref Mends, .ref MendLine, .ref Mkinds, .ref MisName, .int (nI mnq), .ref Mrow, .ref MbyHand, .ref Mleast, .ref Msecond, .ref MendAt, .ref MgoAt, .ref MnodeBehind, .int lE, .ref MisOut, .ref MfirstEnd, .ref MfirstGo])), (Msort, .inl (cI, 1602, .inl msort)), (Mplace, .inl (cI, 1602, .inl mplace)), (Mvalue, .inl (cJ, 1602, .inr (.inl mvalue)))] t) (va_A [(h0, .inr (5, [.int th, .ref Mtape, .int (nI tnq), .int (nI znq), .ref Msort, .ref Mplace, .ref Mvalue, .int (nI anq), .int ft, .ref Mwords, .int (nI hdq), .int (nI nxq), .ref Mgoes, .ref MgoLine, .ref Mends, .ref MendLine, .ref Mkinds, .ref MisName, .int (nI mnq), .ref Mrow, .ref MbyHand, .ref Mleast, .ref Msecond, .ref MendAt, .ref MgoAt, .ref MnodeBehind, .int lE, .ref MisOut, .ref MfirstEnd, .ref MfirstGo])), (Msort, .inl (cI, 1602, .inl msort)), (Mplace, .inl (cI, 1602, .inl mplace)), (Mvalue, .inl (cJ, 1602, .inr (.inl mvalue)))] sz)) 0 0 (va_A [(h0, .inr (5, [.int th, .ref Mtape, .int (nI tnq), .int (nI znq), .ref Msort, .ref Mplace, .ref Mvalue, .int (nI anq), .int ft, .ref Mwords, .int (nI hdq), .int (nI nxq), .ref Mgoes, .ref MgoLine, .ref Mends, .ref MendLine, .ref Mkinds, .ref MisName, .int (nI mnq), .ref Mrow, .ref MbyHand, .ref Mleast, .ref Msecond, .ref MendAt, .ref MgoAt, .ref MnodeBehind, .int lE, .ref MisOut, .ref MfirstEnd, .ref MfirstGo])), (Msort, .inl (cI, 1602, .inl msort)), (Mplace, .inl (cI, 1602, .inl mplace)), (Mvalue, .inl (cJ, 1602, .inr (.inl mvalue)))] sz) := by
  refine Met.ofW (cc := cX5_takeNumber) (maxL := 3) (ret := (some .int)) (by decide) rfl ?_
  intro p e s m args below meth c s₁ B hml hv
  obtain ⟨rfl, hsz, hP, hsk, hD0⟩ := hv
  have hx := B.exec
  have hb := B.bytes
  have hr := B.returns
  have hts := atoms_spec (ws := wsX5_takeNumber) B.pre
  have hown : s.vm.findClass RX5 = some m.cls := findClass_of_methodNamed B.named
  have hlocks := B.notSynchronized
  have hK := hsk.1
  have i5 : ∀ w ∈ wsX50, w ∈ wsX5_takeNumber := by decide +kernel
  subst hsz
  have hD := hD0.self (sz := s.heap.size)
  generalize hAe : va_A [(h0, .inr (5, [.int th, .ref Mtape, .int (nI tnq), .int (nI znq), .ref Msort, .ref Mplace, .ref Mvalue, .int (nI anq), .int ft, .ref Mwords, .int (nI hdq), .int (nI nxq), .ref Mgoes, .ref MgoLine, .ref Mends, .ref MendLine, .ref Mkinds, .ref MisName, .int (nI mnq), .ref Mrow, .ref MbyHand, .ref Mleast, .ref Msecond, .ref MendAt, .ref MgoAt, .ref MnodeBehind, .int lE, .ref MisOut, .ref MfirstEnd, .ref MfirstGo])), (Msort, .inl (cI, 1602, .inl msort)), (Mplace, .inl (cI, 1602, .inl mplace)), (Mvalue, .inl (cJ, 1602, .inr (.inl mvalue)))] s.heap.size = A at hD ⊢
  have hA : ∀ q : Nat, s.heap.size ≤ q → A q := fun q h => by rw [← hAe]; exact Or.inr h
  have hS : va_S A s.heap s.heap [] := va_S.rf
  have hl := lv_entry ([.ref h0, .int 0, .int (nI bq)]) (n := 3) (Nat.le_of_ble_eq_true rfl)
  rw [lg_entry_eq]
  generalize (lg_sl ([.ref h0, .int 0, .int (nI bq)]) ++ List.replicate (3 - (lg_sl ([.ref h0, .int 0, .int (nI bq)])).length) Slot.unset).toArray = ls at hl ⊢
  have hl : lv_has ls 3 [(0, .ref h0), (1, .int 0), (2, .int (nI bq))] := hl
  refine lv_aload_n hx hb dX5_takeNumber_0 rfl (lv_at hl 0 rfl) ?_
  refine va_get (D := (dC, dI)) (ci := 5) (v := .int ft) (C := RX5) (T := TX5) (N := 30) hx hb hts i5 hown hK hP 0 rfl rfl 8 (by decide) (hts (.fieldLink RX5 136 "StopSetterModel" "fault" "I") (by decide +kernel)) (fun _ h9 => h9) rfl dX5_takeNumber_1 ?_
  refine lv_if_ne (tgt := 28) hx hb dX5_takeNumber_4 (by decide) (fun c_4 => ?_) (fun c_4 => ?_)
  · skip
    refine lv_aload_n hx hb dX5_takeNumber_28 rfl (lv_at hl 0 rfl) ?_
    refine va_get (D := (dC, dI)) (ci := 5) (v := .int ft) (C := RX5) (T := TX5) (N := 30) hx hb hts i5 hown hK hP 0 rfl rfl 8 (by decide) (hts (.fieldLink RX5 136 "StopSetterModel" "fault" "I") (by decide +kernel)) (fun _ h9 => h9) rfl dX5_takeNumber_29 ?_
    refine lv_if_ne (tgt := 70) hx hb dX5_takeNumber_32 (by decide) (fun _ => ?_) (fun h9 => absurd h9 c_4)
    refine lv_aload_n hx hb dX5_takeNumber_70 rfl (lv_at hl 0 rfl) ?_
    refine lv_dup hx hb dX5_takeNumber_71 rfl ?_
    refine va_get (D := (dC, dI)) (ci := 5) (v := .int (nI anq)) (C := RX5) (T := TX5) (N := 30) hx hb hts i5 hown hK hP 0 rfl rfl 7 (by decide) (hts (.fieldLink RX5 133 "StopSetterModel" "at" "I") (by decide +kernel)) (fun _ h9 => h9) rfl dX5_takeNumber_72 ?_
    refine lv_iconst (v := 1) hx hb dX5_takeNumber_75 (by decide) ?_
    refine lv_iadd hx hb dX5_takeNumber_76 ?_
    refine lv_topi (fun v_ ev_ => ?_)
    obtain rfl : v_ = (nI (anq + 1)) := ev_.trans (nI_1 anq)
    refine va_put (D := (dC, dI)) (ci := 5) (v := .int (nI (anq + 1))) (ty := tyX5 7) (C := RX5) (T := TX5) (N := 30) hx hb hts i5 tyX5 tyX5_ok nmX5 hown hK hP hD hS 0 rfl rfl 7 (by decide) (hts (.fieldLink RX5 133 "StopSetterModel" "at" "I") (by decide +kernel)) (fun _ h9 => h9) rfl (by decide +kernel) rfl rfl (Nat.le_of_ble_eq_true rfl) dX5_takeNumber_77 (fun H locs hP hD hS => ?_)
    have hP : va_P (dC, dI) vwCl [(h0, .inr (5, [.int th, .ref Mtape, .int (nI tnq), .int (nI znq), .ref Msort, .ref Mplace, .ref Mvalue, .int (nI (anq + 1)), .int ft, .ref Mwords, .int (nI hdq), .int (nI nxq), .ref Mgoes, .ref MgoLine, .ref Mends, .ref MendLine, .ref Mkinds, .ref MisName, .int (nI mnq), .ref Mrow, .ref MbyHand, .ref Mleast, .ref Msecond, .ref MendAt, .ref MgoAt, .ref MnodeBehind, .int lE, .ref MisOut, .ref MfirstEnd, .ref MfirstGo])), (Msort, .inl (cI, 1602, .inl msort)), (Mplace, .inl (cI, 1602, .inl mplace)), (Mvalue, .inl (cJ, 1602, .inr (.inl mvalue)))] H := hP
    have hD : va_D A [(h0, .inr (5, [.int th, .ref Mtape, .int (nI tnq), .int (nI znq), .ref Msort, .ref Mplace, .ref Mvalue, .int (nI (anq + 1)), .int ft, .ref Mwords, .int (nI hdq), .int (nI nxq), .ref Mgoes, .ref MgoLine, .ref Mends, .ref MendLine, .ref Mkinds, .ref MisName, .int (nI mnq), .ref Mrow, .ref MbyHand, .ref Mleast, .ref Msecond, .ref MendAt, .ref MgoAt, .ref MnodeBehind, .int lE, .ref MisOut, .ref MfirstEnd, .ref MfirstGo])), (Msort, .inl (cI, 1602, .inl msort)), (Mplace, .inl (cI, 1602, .inl mplace)), (Mvalue, .inl (cJ, 1602, .inr (.inl mvalue)))] := hD
    refine lv_aload_n hx hb dX5_takeNumber_80 rfl (lv_at hl 0 rfl) ?_
    refine va_get (D := (dC, dI)) (ci := 5) (v := .int ft) (C := RX5) (T := TX5) (N := 30) hx hb hts i5 hown hK hP 0 rfl rfl 8 (by decide) (hts (.fieldLink RX5 136 "StopSetterModel" "fault" "I") (by decide +kernel)) (fun _ h9 => h9) rfl dX5_takeNumber_81 ?_
    refine lv_if_le (tgt := 91) hx hb dX5_takeNumber_84 (by decide) (fun h9 => absurd h9 (pI_np hI c_4)) (fun _ => ?_)
    refine lv_iconst (v := 0) hx hb dX5_takeNumber_87 (by decide) ?_
    refine lv_goto (tgt := 103) hx hb dX5_takeNumber_88 (by decide) ?_
    have hP9 := hP.sub (ws' := [(h0, .inr (5, [.int th, .ref Mtape, .int (nI tnq), .int (nI znq), .ref Msort, .ref Mplace, .ref Mvalue, .int (nI (anq + 1)), .int ft, .ref Mwords, .int (nI hdq), .int (nI nxq), .ref Mgoes, .ref MgoLine, .ref Mends, .ref MendLine, .ref Mkinds, .ref MisName, .int (nI mnq), .ref Mrow, .ref MbyHand, .ref Mleast, .ref Msecond, .ref MendAt, .ref MgoAt, .ref MnodeBehind, .int lE, .ref MisOut, .ref MfirstEnd, .ref MfirstGo])), (Msort, .inl (cI, 1602, .inl msort)), (Mplace, .inl (cI, 1602, .inl mplace)), (Mvalue, .inl (cJ, 1602, .inr (.inl mvalue)))]) [0, 1, 2, 3] rfl
    have hD9 := hD.sub (ws' := [(h0, .inr (5, [.int th, .ref Mtape, .int (nI tnq), .int (nI znq), .ref Msort, .ref Mplace, .ref Mvalue, .int (nI (anq + 1)), .int ft, .ref Mwords, .int (nI hdq), .int (nI nxq), .ref Mgoes, .ref MgoLine, .ref Mends, .ref MendLine, .ref Mkinds, .ref MisName, .int (nI mnq), .ref Mrow, .ref MbyHand, .ref Mleast, .ref Msecond, .ref MendAt, .ref MgoAt, .ref MnodeBehind, .int lE, .ref MisOut, .ref MfirstEnd, .ref MfirstGo])), (Msort, .inl (cI, 1602, .inl msort)), (Mplace, .inl (cI, 1602, .inl mplace)), (Mvalue, .inl (cJ, 1602, .inr (.inl mvalue)))]) [0, 1, 2, 3] (by decide) rfl
    have hens0 : pI ntq (anq + 1) ft := (Or.inr (pI_pos hI c_4))
    have hens1 : anq ≤ (anq + 1) := (by omega)
    have hens2 : ∃ v : Nat, v ≤ bq ∧ (0 : Int32) = nI v := ⟨0, by omega, rfl⟩
    have hens3 : mQ (stN tq bq qs) (anq + 1) ft := (mQ_of (mQ_f hR c_4) (stN_keep (fun z => c_4 (hR.1.trans z))))
    have hens4 : ft = 0 → (0 : Int32) = nV tq qs := (fun z => absurd z c_4)
    exact W.iret (v := 0) hx hb hr (fun t ht hW => ⟨⟨0, ((anq + 1), ft), rfl, ⟨hens0, hens1, hens2, hens3, hens4⟩, by rw [ht]; exact hP9, hD9⟩, hS.F ht⟩) hS.2.2 dX5_takeNumber_103
  · skip
    have han := pI_at hI c_4
    have hn16 := hp.1
    have eq9 := hR.2 c_4
    refine lv_aload_n hx hb dX5_takeNumber_7 rfl (lv_at hl 0 rfl) ?_
    refine va_get (D := (dC, dI)) (ci := 5) (v := .ref Msort) (C := RX5) (T := TX5) (N := 30) hx hb hts i5 hown hK hP 0 rfl rfl 4 (by decide) (hts (.fieldLink RX5 24 "StopSetterModel" "sort" "[I") (by decide +kernel)) (fun _ h9 => h9) rfl dX5_takeNumber_8 ?_
    refine lv_aload_n hx hb dX5_takeNumber_11 rfl (lv_at hl 0 rfl) ?_
    refine va_get (D := (dC, dI)) (ci := 5) (v := .int (nI anq)) (C := RX5) (T := TX5) (N := 30) hx hb hts i5 hown hK hP 0 rfl rfl 7 (by decide) (hts (.fieldLink RX5 133 "StopSetterModel" "at" "I") (by decide +kernel)) (fun _ h9 => h9) rfl dX5_takeNumber_12 ?_
    refine va_iald hx hb hK hP 1 0 rfl rfl (vp_in_nI (by omega) (by decide)) dX5_takeNumber_15 ?_
    refine lv_topi (fun v_ ev_ => ?_)
    obtain rfl : v_ = (msort qs.1) := ev_.trans (by rw [nI_clamp (by omega), eq9])
    refine lv_iconst (v := 2) hx hb dX5_takeNumber_16 (by decide) ?_
    refine lv_icmp_eq (tgt := 28) hx hb dX5_takeNumber_17 (by decide) (fun c_17 => ?_) (fun c_17 => ?_)
    · skip
      have hS3 : tq.S qs.1 = 3 := ((hSo qs.1 (by omega)).2.2.1).mp c_17
      refine lv_aload_n hx hb dX5_takeNumber_28 rfl (lv_at hl 0 rfl) ?_
      refine va_get (D := (dC, dI)) (ci := 5) (v := .int ft) (C := RX5) (T := TX5) (N := 30) hx hb hts i5 hown hK hP 0 rfl rfl 8 (by decide) (hts (.fieldLink RX5 136 "StopSetterModel" "fault" "I") (by decide +kernel)) (fun _ h9 => h9) rfl dX5_takeNumber_29 ?_
      refine lv_if_ne (tgt := 70) hx hb dX5_takeNumber_32 (by decide) (fun h9 => absurd c_4 h9) (fun _ => ?_)
      refine lv_aload_n hx hb dX5_takeNumber_35 rfl (lv_at hl 0 rfl) ?_
      refine va_get (D := (dC, dI)) (ci := 5) (v := .ref Mvalue) (C := RX5) (T := TX5) (N := 30) hx hb hts i5 hown hK hP 0 rfl rfl 6 (by decide) (hts (.fieldLink RX5 30 "StopSetterModel" "value" "[J") (by decide +kernel)) (fun _ h9 => h9) rfl dX5_takeNumber_36 ?_
      refine lv_aload_n hx hb dX5_takeNumber_39 rfl (lv_at hl 0 rfl) ?_
      refine va_get (D := (dC, dI)) (ci := 5) (v := .int (nI anq)) (C := RX5) (T := TX5) (N := 30) hx hb hts i5 hown hK hP 0 rfl rfl 7 (by decide) (hts (.fieldLink RX5 133 "StopSetterModel" "at" "I") (by decide +kernel)) (fun _ h9 => h9) rfl dX5_takeNumber_40 ?_
      refine va_lald hx hb hK hP 3 3 rfl rfl (vp_in_nI (by omega) (by decide)) dX5_takeNumber_43 ?_
      refine lv_topl (fun v_ ev_ => ?_)
      obtain rfl : v_ = (mvalue qs.1) := ev_.trans (by rw [nI_clamp (by omega), eq9])
      refine lv_iload_n hx hb dX5_takeNumber_44 rfl (lv_at hl 1 rfl) ?_
      refine lv_i2l (v := (0 : Int32).toInt64) hx hb dX5_takeNumber_45 rfl ?_
      refine W.lcmp hx hb dX5_takeNumber_46 ?_
      refine lv_if_lt (tgt := 65) hx hb dX5_takeNumber_47 (by decide) (fun c_47 => ?_) (fun c_47 => ?_)
      · skip
        refine lv_aload_n hx hb dX5_takeNumber_65 rfl (lv_at hl 0 rfl) ?_
        refine lv_iconst (v := 4) hx hb dX5_takeNumber_66 (by decide) ?_
        have hPc := hP.sub (ws' := [(h0, .inr (5, [.int th, .ref Mtape, .int (nI tnq), .int (nI znq), .ref Msort, .ref Mplace, .ref Mvalue, .int (nI anq), .int ft, .ref Mwords, .int (nI hdq), .int (nI nxq), .ref Mgoes, .ref MgoLine, .ref Mends, .ref MendLine, .ref Mkinds, .ref MisName, .int (nI mnq), .ref Mrow, .ref MbyHand, .ref Mleast, .ref Msecond, .ref MendAt, .ref MgoAt, .ref MnodeBehind, .int lE, .ref MisOut, .ref MfirstEnd, .ref MfirstGo])), (Msort, .inl (cI, 1602, .inl msort)), (Mplace, .inl (cI, 1602, .inl mplace))]) [0, 1, 2] rfl
        have hDc := hD.sub (ws' := [(h0, .inr (5, [.int th, .ref Mtape, .int (nI tnq), .int (nI znq), .ref Msort, .ref Mplace, .ref Mvalue, .int (nI anq), .int ft, .ref Mwords, .int (nI hdq), .int (nI nxq), .ref Mgoes, .ref MgoLine, .ref Mends, .ref MendLine, .ref Mkinds, .ref MisName, .int (nI mnq), .ref Mrow, .ref MbyHand, .ref Mleast, .ref Msecond, .ref MendAt, .ref MgoAt, .ref MnodeBehind, .int lE, .ref MisOut, .ref MfirstEnd, .ref MfirstGo])), (Msort, .inl (cI, 1602, .inl msort)), (Mplace, .inl (cI, 1602, .inl mplace))]) [0, 1, 2] (by decide) rfl
        have hFc := va_free (wc := [(h0, .inr (5, [.int th, .ref Mtape, .int (nI tnq), .int (nI znq), .ref Msort, .ref Mplace, .ref Mvalue, .int (nI anq), .int ft, .ref Mwords, .int (nI hdq), .int (nI nxq), .ref Mgoes, .ref MgoLine, .ref Mends, .ref MendLine, .ref Mkinds, .ref MisName, .int (nI mnq), .ref Mrow, .ref MbyHand, .ref Mleast, .ref Msecond, .ref MendAt, .ref MgoAt, .ref MnodeBehind, .int lE, .ref MisOut, .ref MfirstEnd, .ref MfirstGo])), (Msort, .inl (cI, 1602, .inl msort)), (Mplace, .inl (cI, 1602, .inl mplace))]) hD hS hA [0, 1, 2] rfl
        refine va_callv (va_runV (As := [.int 4]) (rest := []) ⟨hx, hb, hml, hown, hts⟩ (k_wrong l dC dI cI cZ cC cJ s.heap.size  h0 th Mtape tnq znq Msort Mplace Mvalue anq ft Mwords hdq nxq Mgoes MgoLine Mends MendLine Mkinds MisName mnq Mrow MbyHand Mleast Msecond MendAt MgoAt MnodeBehind lE MisOut MfirstEnd MfirstGo msort mplace 4 ntq tq qs (by first | assumption | decide | omega) (by first | assumption | decide | omega) (by first | assumption | decide | omega) (by first | assumption | decide | omega) (by first | assumption | decide | omega) (by first | assumption | decide | omega)) (cwV 1 hts gX5_takeNumber_X5_wrong rfl rfl rfl (by decide +kernel) ⟨Nat.le_of_ble_eq_true rfl, Nat.le_of_ble_eq_true rfl⟩) ⟨sPre_blind, va_recv hK hPc (ci := 5) (q0 := 0) rfl rfl, fun U hU hW => ⟨rfl, sPre_ok hsk hPc hDc hU hW⟩⟩ rfl rfl hl.1 rfl (lv_room (Nat.le_of_ble_eq_true rfl)) dX5_takeNumber_67 ⟨(show 0 + 0 ≤ 0 by omega), (show 0 + 0 ≤ 0 by omega)⟩) hS (fun q _ h => hFc q h) hFc (fun u t H1 locs ht hvm hw hB hz1 hk1 hS => ?_)
        obtain ⟨f_2, rfl⟩ : ∃ z, z = u := ⟨_, rfl⟩
        try dsimp only at hw hB
        obtain ⟨he_3, he_4⟩ := hw
        have he_3 : 0 < f_2 := he_3
        have he_4 : mQ (stR tq 4 qs) anq f_2 := he_4
        obtain ⟨q_5, eq_5⟩ : ∃ x9 : Nat × Int32, x9 = stR tq 4 qs := ⟨_, rfl⟩
        rw [← eq_5] at he_4
        obtain ⟨hP1, hD1⟩ := hB
        rw [ht] at hP1
        obtain ⟨hP, hD⟩ := va_join (wr := [(Mvalue, .inl (cJ, 1602, .inr (.inl mvalue)))]) (w1 := [(h0, .inr (5, [.int th, .ref Mtape, .int (nI tnq), .int (nI znq), .ref Msort, .ref Mplace, .ref Mvalue, .int (nI anq), .int f_2, .ref Mwords, .int (nI hdq), .int (nI nxq), .ref Mgoes, .ref MgoLine, .ref Mends, .ref MendLine, .ref Mkinds, .ref MisName, .int (nI mnq), .ref Mrow, .ref MbyHand, .ref Mleast, .ref Msecond, .ref MendAt, .ref MgoAt, .ref MnodeBehind, .int lE, .ref MisOut, .ref MfirstEnd, .ref MfirstGo])), (Msort, .inl (cI, 1602, .inl msort)), (Mplace, .inl (cI, 1602, .inl mplace))]) hP hD [0, 1, 2] [3] rfl rfl (by decide) (by decide) hk1 hFc hP1 hD1
        generalize H1 = H at hP hS ⊢
        have hP : va_P (dC, dI) vwCl [(Mvalue, .inl (cJ, 1602, .inr (.inl mvalue))), (h0, .inr (5, [.int th, .ref Mtape, .int (nI tnq), .int (nI znq), .ref Msort, .ref Mplace, .ref Mvalue, .int (nI anq), .int f_2, .ref Mwords, .int (nI hdq), .int (nI nxq), .ref Mgoes, .ref MgoLine, .ref Mends, .ref MendLine, .ref Mkinds, .ref MisName, .int (nI mnq), .ref Mrow, .ref MbyHand, .ref Mleast, .ref Msecond, .ref MendAt, .ref MgoAt, .ref MnodeBehind, .int lE, .ref MisOut, .ref MfirstEnd, .ref MfirstGo])), (Msort, .inl (cI, 1602, .inl msort)), (Mplace, .inl (cI, 1602, .inl mplace))] H := hP
        have hD : va_D A [(Mvalue, .inl (cJ, 1602, .inr (.inl mvalue))), (h0, .inr (5, [.int th, .ref Mtape, .int (nI tnq), .int (nI znq), .ref Msort, .ref Mplace, .ref Mvalue, .int (nI anq), .int f_2, .ref Mwords, .int (nI hdq), .int (nI nxq), .ref Mgoes, .ref MgoLine, .ref Mends, .ref MendLine, .ref Mkinds, .ref MisName, .int (nI mnq), .ref Mrow, .ref MbyHand, .ref Mleast, .ref Msecond, .ref MendAt, .ref MgoAt, .ref MnodeBehind, .int lE, .ref MisOut, .ref MfirstEnd, .ref MfirstGo])), (Msort, .inl (cI, 1602, .inl msort)), (Mplace, .inl (cI, 1602, .inl mplace))] := hD
        refine lv_aload_n hx hb dX5_takeNumber_70 rfl (lv_at hl 0 rfl) ?_
        refine lv_dup hx hb dX5_takeNumber_71 rfl ?_
        refine va_get (D := (dC, dI)) (ci := 5) (v := .int (nI anq)) (C := RX5) (T := TX5) (N := 30) hx hb hts i5 hown hK hP 1 rfl rfl 7 (by decide) (hts (.fieldLink RX5 133 "StopSetterModel" "at" "I") (by decide +kernel)) (fun _ h9 => h9) rfl dX5_takeNumber_72 ?_
        refine lv_iconst (v := 1) hx hb dX5_takeNumber_75 (by decide) ?_
        refine lv_iadd hx hb dX5_takeNumber_76 ?_
        refine lv_topi (fun v_ ev_ => ?_)
        obtain rfl : v_ = (nI (anq + 1)) := ev_.trans (nI_1 anq)
        refine va_put (D := (dC, dI)) (ci := 5) (v := .int (nI (anq + 1))) (ty := tyX5 7) (C := RX5) (T := TX5) (N := 30) hx hb hts i5 tyX5 tyX5_ok nmX5 hown hK hP hD hS 1 rfl rfl 7 (by decide) (hts (.fieldLink RX5 133 "StopSetterModel" "at" "I") (by decide +kernel)) (fun _ h9 => h9) rfl (by decide +kernel) rfl rfl (Nat.le_of_ble_eq_true rfl) dX5_takeNumber_77 (fun H locs hP hD hS => ?_)
        have hP : va_P (dC, dI) vwCl [(Mvalue, .inl (cJ, 1602, .inr (.inl mvalue))), (h0, .inr (5, [.int th, .ref Mtape, .int (nI tnq), .int (nI znq), .ref Msort, .ref Mplace, .ref Mvalue, .int (nI (anq + 1)), .int f_2, .ref Mwords, .int (nI hdq), .int (nI nxq), .ref Mgoes, .ref MgoLine, .ref Mends, .ref MendLine, .ref Mkinds, .ref MisName, .int (nI mnq), .ref Mrow, .ref MbyHand, .ref Mleast, .ref Msecond, .ref MendAt, .ref MgoAt, .ref MnodeBehind, .int lE, .ref MisOut, .ref MfirstEnd, .ref MfirstGo])), (Msort, .inl (cI, 1602, .inl msort)), (Mplace, .inl (cI, 1602, .inl mplace))] H := hP
        have hD : va_D A [(Mvalue, .inl (cJ, 1602, .inr (.inl mvalue))), (h0, .inr (5, [.int th, .ref Mtape, .int (nI tnq), .int (nI znq), .ref Msort, .ref Mplace, .ref Mvalue, .int (nI (anq + 1)), .int f_2, .ref Mwords, .int (nI hdq), .int (nI nxq), .ref Mgoes, .ref MgoLine, .ref Mends, .ref MendLine, .ref Mkinds, .ref MisName, .int (nI mnq), .ref Mrow, .ref MbyHand, .ref Mleast, .ref Msecond, .ref MendAt, .ref MgoAt, .ref MnodeBehind, .int lE, .ref MisOut, .ref MfirstEnd, .ref MfirstGo])), (Msort, .inl (cI, 1602, .inl msort)), (Mplace, .inl (cI, 1602, .inl mplace))] := hD
        refine lv_aload_n hx hb dX5_takeNumber_80 rfl (lv_at hl 0 rfl) ?_
        refine va_get (D := (dC, dI)) (ci := 5) (v := .int f_2) (C := RX5) (T := TX5) (N := 30) hx hb hts i5 hown hK hP 1 rfl rfl 8 (by decide) (hts (.fieldLink RX5 136 "StopSetterModel" "fault" "I") (by decide +kernel)) (fun _ h9 => h9) rfl dX5_takeNumber_81 ?_
        refine lv_if_le (tgt := 91) hx hb dX5_takeNumber_84 (by decide) (fun h9 => absurd h9 (Int32.not_le.mpr he_3)) (fun _ => ?_)
        refine lv_iconst (v := 0) hx hb dX5_takeNumber_87 (by decide) ?_
        refine lv_goto (tgt := 103) hx hb dX5_takeNumber_88 (by decide) ?_
        have hP9 := hP.sub (ws' := [(h0, .inr (5, [.int th, .ref Mtape, .int (nI tnq), .int (nI znq), .ref Msort, .ref Mplace, .ref Mvalue, .int (nI (anq + 1)), .int f_2, .ref Mwords, .int (nI hdq), .int (nI nxq), .ref Mgoes, .ref MgoLine, .ref Mends, .ref MendLine, .ref Mkinds, .ref MisName, .int (nI mnq), .ref Mrow, .ref MbyHand, .ref Mleast, .ref Msecond, .ref MendAt, .ref MgoAt, .ref MnodeBehind, .int lE, .ref MisOut, .ref MfirstEnd, .ref MfirstGo])), (Msort, .inl (cI, 1602, .inl msort)), (Mplace, .inl (cI, 1602, .inl mplace)), (Mvalue, .inl (cJ, 1602, .inr (.inl mvalue)))]) [1, 2, 3, 0] rfl
        have hD9 := hD.sub (ws' := [(h0, .inr (5, [.int th, .ref Mtape, .int (nI tnq), .int (nI znq), .ref Msort, .ref Mplace, .ref Mvalue, .int (nI (anq + 1)), .int f_2, .ref Mwords, .int (nI hdq), .int (nI nxq), .ref Mgoes, .ref MgoLine, .ref Mends, .ref MendLine, .ref Mkinds, .ref MisName, .int (nI mnq), .ref Mrow, .ref MbyHand, .ref Mleast, .ref Msecond, .ref MendAt, .ref MgoAt, .ref MnodeBehind, .int lE, .ref MisOut, .ref MfirstEnd, .ref MfirstGo])), (Msort, .inl (cI, 1602, .inl msort)), (Mplace, .inl (cI, 1602, .inl mplace)), (Mvalue, .inl (cJ, 1602, .inr (.inl mvalue)))]) [1, 2, 3, 0] (by decide) rfl
        have hens0 : pI ntq (anq + 1) f_2 := (Or.inr he_3)
        have hens1 : anq ≤ (anq + 1) := (by omega)
        have hens2 : ∃ v : Nat, v ≤ bq ∧ (0 : Int32) = nI v := ⟨0, by omega, rfl⟩
        have hens3 : mQ (stN tq bq qs) (anq + 1) f_2 := (mQ_of (mQ_f he_4 (pos_ne he_3)) (eq_5.trans (absurd ((lg_cmp_lt _ _).mp c_47) (by rw [((hVa qs.1 (by omega)).1 hS3).2]; exact fun z => ((hVa qs.1 (by omega)).1 hS3).1 (i64_lt.mp z)))))
        have hens4 : f_2 = 0 → (0 : Int32) = nV tq qs := (fun z => absurd z (pos_ne he_3))
        exact W.iret (v := 0) hx hb hr (fun t ht hW => ⟨⟨0, ((anq + 1), f_2), rfl, ⟨hens0, hens1, hens2, hens3, hens4⟩, by rw [ht]; exact hP9, hD9⟩, hS.F ht⟩) hS.2.2 dX5_takeNumber_103
      · skip
        refine lv_aload_n hx hb dX5_takeNumber_50 rfl (lv_at hl 0 rfl) ?_
        refine va_get (D := (dC, dI)) (ci := 5) (v := .ref Mvalue) (C := RX5) (T := TX5) (N := 30) hx hb hts i5 hown hK hP 0 rfl rfl 6 (by decide) (hts (.fieldLink RX5 30 "StopSetterModel" "value" "[J") (by decide +kernel)) (fun _ h9 => h9) rfl dX5_takeNumber_51 ?_
        refine lv_aload_n hx hb dX5_takeNumber_54 rfl (lv_at hl 0 rfl) ?_
        refine va_get (D := (dC, dI)) (ci := 5) (v := .int (nI anq)) (C := RX5) (T := TX5) (N := 30) hx hb hts i5 hown hK hP 0 rfl rfl 7 (by decide) (hts (.fieldLink RX5 133 "StopSetterModel" "at" "I") (by decide +kernel)) (fun _ h9 => h9) rfl dX5_takeNumber_55 ?_
        refine va_lald hx hb hK hP 3 3 rfl rfl (vp_in_nI (by omega) (by decide)) dX5_takeNumber_58 ?_
        refine lv_topl (fun v_ ev_ => ?_)
        obtain rfl : v_ = (mvalue qs.1) := ev_.trans (by rw [nI_clamp (by omega), eq9])
        refine lv_iload_n hx hb dX5_takeNumber_59 rfl (lv_at hl 2 rfl) ?_
        refine lv_i2l (v := (nI bq).toInt64) hx hb dX5_takeNumber_60 rfl ?_
        refine W.lcmp hx hb dX5_takeNumber_61 ?_
        refine lv_if_le (tgt := 70) hx hb dX5_takeNumber_62 (by decide) (fun c_62 => ?_) (fun c_62 => ?_)
        · skip
          refine lv_aload_n hx hb dX5_takeNumber_70 rfl (lv_at hl 0 rfl) ?_
          refine lv_dup hx hb dX5_takeNumber_71 rfl ?_
          refine va_get (D := (dC, dI)) (ci := 5) (v := .int (nI anq)) (C := RX5) (T := TX5) (N := 30) hx hb hts i5 hown hK hP 0 rfl rfl 7 (by decide) (hts (.fieldLink RX5 133 "StopSetterModel" "at" "I") (by decide +kernel)) (fun _ h9 => h9) rfl dX5_takeNumber_72 ?_
          refine lv_iconst (v := 1) hx hb dX5_takeNumber_75 (by decide) ?_
          refine lv_iadd hx hb dX5_takeNumber_76 ?_
          refine lv_topi (fun v_ ev_ => ?_)
          obtain rfl : v_ = (nI (anq + 1)) := ev_.trans (nI_1 anq)
          refine va_put (D := (dC, dI)) (ci := 5) (v := .int (nI (anq + 1))) (ty := tyX5 7) (C := RX5) (T := TX5) (N := 30) hx hb hts i5 tyX5 tyX5_ok nmX5 hown hK hP hD hS 0 rfl rfl 7 (by decide) (hts (.fieldLink RX5 133 "StopSetterModel" "at" "I") (by decide +kernel)) (fun _ h9 => h9) rfl (by decide +kernel) rfl rfl (Nat.le_of_ble_eq_true rfl) dX5_takeNumber_77 (fun H locs hP hD hS => ?_)
          have hP : va_P (dC, dI) vwCl [(h0, .inr (5, [.int th, .ref Mtape, .int (nI tnq), .int (nI znq), .ref Msort, .ref Mplace, .ref Mvalue, .int (nI (anq + 1)), .int ft, .ref Mwords, .int (nI hdq), .int (nI nxq), .ref Mgoes, .ref MgoLine, .ref Mends, .ref MendLine, .ref Mkinds, .ref MisName, .int (nI mnq), .ref Mrow, .ref MbyHand, .ref Mleast, .ref Msecond, .ref MendAt, .ref MgoAt, .ref MnodeBehind, .int lE, .ref MisOut, .ref MfirstEnd, .ref MfirstGo])), (Msort, .inl (cI, 1602, .inl msort)), (Mplace, .inl (cI, 1602, .inl mplace)), (Mvalue, .inl (cJ, 1602, .inr (.inl mvalue)))] H := hP
          have hD : va_D A [(h0, .inr (5, [.int th, .ref Mtape, .int (nI tnq), .int (nI znq), .ref Msort, .ref Mplace, .ref Mvalue, .int (nI (anq + 1)), .int ft, .ref Mwords, .int (nI hdq), .int (nI nxq), .ref Mgoes, .ref MgoLine, .ref Mends, .ref MendLine, .ref Mkinds, .ref MisName, .int (nI mnq), .ref Mrow, .ref MbyHand, .ref Mleast, .ref Msecond, .ref MendAt, .ref MgoAt, .ref MnodeBehind, .int lE, .ref MisOut, .ref MfirstEnd, .ref MfirstGo])), (Msort, .inl (cI, 1602, .inl msort)), (Mplace, .inl (cI, 1602, .inl mplace)), (Mvalue, .inl (cJ, 1602, .inr (.inl mvalue)))] := hD
          refine lv_aload_n hx hb dX5_takeNumber_80 rfl (lv_at hl 0 rfl) ?_
          refine va_get (D := (dC, dI)) (ci := 5) (v := .int ft) (C := RX5) (T := TX5) (N := 30) hx hb hts i5 hown hK hP 0 rfl rfl 8 (by decide) (hts (.fieldLink RX5 136 "StopSetterModel" "fault" "I") (by decide +kernel)) (fun _ h9 => h9) rfl dX5_takeNumber_81 ?_
          refine lv_if_le (tgt := 91) hx hb dX5_takeNumber_84 (by decide) (fun _ => ?_) (fun h9 => absurd (by rw [c_4]; decide) h9)
          refine lv_aload_n hx hb dX5_takeNumber_91 rfl (lv_at hl 0 rfl) ?_
          refine va_get (D := (dC, dI)) (ci := 5) (v := .ref Mvalue) (C := RX5) (T := TX5) (N := 30) hx hb hts i5 hown hK hP 0 rfl rfl 6 (by decide) (hts (.fieldLink RX5 30 "StopSetterModel" "value" "[J") (by decide +kernel)) (fun _ h9 => h9) rfl dX5_takeNumber_92 ?_
          refine lv_aload_n hx hb dX5_takeNumber_95 rfl (lv_at hl 0 rfl) ?_
          refine va_get (D := (dC, dI)) (ci := 5) (v := .int (nI (anq + 1))) (C := RX5) (T := TX5) (N := 30) hx hb hts i5 hown hK hP 0 rfl rfl 7 (by decide) (hts (.fieldLink RX5 133 "StopSetterModel" "at" "I") (by decide +kernel)) (fun _ h9 => h9) rfl dX5_takeNumber_96 ?_
          refine lv_iconst (v := 1) hx hb dX5_takeNumber_99 (by decide) ?_
          refine lv_isub hx hb dX5_takeNumber_100 ?_
          refine lv_topi (fun v_ ev_ => ?_)
          obtain rfl : v_ = (nI anq) := ev_.trans (sub1 anq)
          refine va_lald hx hb hK hP 3 3 rfl rfl (vp_in_nI (by omega) (by decide)) dX5_takeNumber_101 ?_
          refine lv_topl (fun v_ ev_ => ?_)
          obtain rfl : v_ = (mvalue qs.1) := ev_.trans (by rw [nI_clamp (by omega), eq9])
          refine lv_l2i (v := (mvalue qs.1).toInt32) hx hb dX5_takeNumber_102 rfl ?_
          have hP9 := hP.sub (ws' := [(h0, .inr (5, [.int th, .ref Mtape, .int (nI tnq), .int (nI znq), .ref Msort, .ref Mplace, .ref Mvalue, .int (nI (anq + 1)), .int ft, .ref Mwords, .int (nI hdq), .int (nI nxq), .ref Mgoes, .ref MgoLine, .ref Mends, .ref MendLine, .ref Mkinds, .ref MisName, .int (nI mnq), .ref Mrow, .ref MbyHand, .ref Mleast, .ref Msecond, .ref MendAt, .ref MgoAt, .ref MnodeBehind, .int lE, .ref MisOut, .ref MfirstEnd, .ref MfirstGo])), (Msort, .inl (cI, 1602, .inl msort)), (Mplace, .inl (cI, 1602, .inl mplace)), (Mvalue, .inl (cJ, 1602, .inr (.inl mvalue)))]) [0, 1, 2, 3] rfl
          have hD9 := hD.sub (ws' := [(h0, .inr (5, [.int th, .ref Mtape, .int (nI tnq), .int (nI znq), .ref Msort, .ref Mplace, .ref Mvalue, .int (nI (anq + 1)), .int ft, .ref Mwords, .int (nI hdq), .int (nI nxq), .ref Mgoes, .ref MgoLine, .ref Mends, .ref MendLine, .ref Mkinds, .ref MisName, .int (nI mnq), .ref Mrow, .ref MbyHand, .ref Mleast, .ref Msecond, .ref MendAt, .ref MgoAt, .ref MnodeBehind, .int lE, .ref MisOut, .ref MfirstEnd, .ref MfirstGo])), (Msort, .inl (cI, 1602, .inl msort)), (Mplace, .inl (cI, 1602, .inl mplace)), (Mvalue, .inl (cJ, 1602, .inr (.inl mvalue)))]) [0, 1, 2, 3] (by decide) rfl
          have hens0 : pI ntq (anq + 1) ft := (Or.inl ⟨c_4, tok_lt hp (pI_at hI c_4) (by rw [nI_clamp (by omega), eq9]) c_17 (by decide)⟩)
          have hens1 : anq ≤ (anq + 1) := (by omega)
          have hens2 : ∃ v : Nat, v ≤ bq ∧ (((mvalue qs.1).toInt32) : Int32) = nI v := (num_ok (x := mvalue qs.1) c_47 c_62 hb9)
          have hens3 : mQ (stN tq bq qs) (anq + 1) ft := (mQ_of (show mQ (qs.1 + 1, ft) (anq + 1) ft from ⟨rfl, fun _ => congrArg (· + 1) eq9⟩) (stN_ok hS3 (i64_le.mp (by rw [← ((hVa qs.1 (by omega)).1 hS3).2]; exact (lg_cmp_le _ _).mp c_62)) hR.1 c_4))
          have hens4 : ft = 0 → (((mvalue qs.1).toInt32) : Int32) = nV tq qs := (fun _ => by unfold nV; rw [if_pos hS3, ((hVa qs.1 (by omega)).1 hS3).2]; exact Int32.toInt32_toInt64 _)
          exact W.iret (v := (mvalue qs.1).toInt32) hx hb hr (fun t ht hW => ⟨⟨(mvalue qs.1).toInt32, ((anq + 1), ft), rfl, ⟨hens0, hens1, hens2, hens3, hens4⟩, by rw [ht]; exact hP9, hD9⟩, hS.F ht⟩) hS.2.2 dX5_takeNumber_103
        · skip
          refine lv_aload_n hx hb dX5_takeNumber_65 rfl (lv_at hl 0 rfl) ?_
          refine lv_iconst (v := 4) hx hb dX5_takeNumber_66 (by decide) ?_
          have hPc := hP.sub (ws' := [(h0, .inr (5, [.int th, .ref Mtape, .int (nI tnq), .int (nI znq), .ref Msort, .ref Mplace, .ref Mvalue, .int (nI anq), .int ft, .ref Mwords, .int (nI hdq), .int (nI nxq), .ref Mgoes, .ref MgoLine, .ref Mends, .ref MendLine, .ref Mkinds, .ref MisName, .int (nI mnq), .ref Mrow, .ref MbyHand, .ref Mleast, .ref Msecond, .ref MendAt, .ref MgoAt, .ref MnodeBehind, .int lE, .ref MisOut, .ref MfirstEnd, .ref MfirstGo])), (Msort, .inl (cI, 1602, .inl msort)), (Mplace, .inl (cI, 1602, .inl mplace))]) [0, 1, 2] rfl
          have hDc := hD.sub (ws' := [(h0, .inr (5, [.int th, .ref Mtape, .int (nI tnq), .int (nI znq), .ref Msort, .ref Mplace, .ref Mvalue, .int (nI anq), .int ft, .ref Mwords, .int (nI hdq), .int (nI nxq), .ref Mgoes, .ref MgoLine, .ref Mends, .ref MendLine, .ref Mkinds, .ref MisName, .int (nI mnq), .ref Mrow, .ref MbyHand, .ref Mleast, .ref Msecond, .ref MendAt, .ref MgoAt, .ref MnodeBehind, .int lE, .ref MisOut, .ref MfirstEnd, .ref MfirstGo])), (Msort, .inl (cI, 1602, .inl msort)), (Mplace, .inl (cI, 1602, .inl mplace))]) [0, 1, 2] (by decide) rfl
          have hFc := va_free (wc := [(h0, .inr (5, [.int th, .ref Mtape, .int (nI tnq), .int (nI znq), .ref Msort, .ref Mplace, .ref Mvalue, .int (nI anq), .int ft, .ref Mwords, .int (nI hdq), .int (nI nxq), .ref Mgoes, .ref MgoLine, .ref Mends, .ref MendLine, .ref Mkinds, .ref MisName, .int (nI mnq), .ref Mrow, .ref MbyHand, .ref Mleast, .ref Msecond, .ref MendAt, .ref MgoAt, .ref MnodeBehind, .int lE, .ref MisOut, .ref MfirstEnd, .ref MfirstGo])), (Msort, .inl (cI, 1602, .inl msort)), (Mplace, .inl (cI, 1602, .inl mplace))]) hD hS hA [0, 1, 2] rfl
          refine va_callv (va_runV (As := [.int 4]) (rest := []) ⟨hx, hb, hml, hown, hts⟩ (k_wrong l dC dI cI cZ cC cJ s.heap.size  h0 th Mtape tnq znq Msort Mplace Mvalue anq ft Mwords hdq nxq Mgoes MgoLine Mends MendLine Mkinds MisName mnq Mrow MbyHand Mleast Msecond MendAt MgoAt MnodeBehind lE MisOut MfirstEnd MfirstGo msort mplace 4 ntq tq qs (by first | assumption | decide | omega) (by first | assumption | decide | omega) (by first | assumption | decide | omega) (by first | assumption | decide | omega) (by first | assumption | decide | omega) (by first | assumption | decide | omega)) (cwV 1 hts gX5_takeNumber_X5_wrong rfl rfl rfl (by decide +kernel) ⟨Nat.le_of_ble_eq_true rfl, Nat.le_of_ble_eq_true rfl⟩) ⟨sPre_blind, va_recv hK hPc (ci := 5) (q0 := 0) rfl rfl, fun U hU hW => ⟨rfl, sPre_ok hsk hPc hDc hU hW⟩⟩ rfl rfl hl.1 rfl (lv_room (Nat.le_of_ble_eq_true rfl)) dX5_takeNumber_67 ⟨(show 0 + 0 ≤ 0 by omega), (show 0 + 0 ≤ 0 by omega)⟩) hS (fun q _ h => hFc q h) hFc (fun u t H1 locs ht hvm hw hB hz1 hk1 hS => ?_)
          obtain ⟨f_7, rfl⟩ : ∃ z, z = u := ⟨_, rfl⟩
          try dsimp only at hw hB
          obtain ⟨he_8, he_9⟩ := hw
          have he_8 : 0 < f_7 := he_8
          have he_9 : mQ (stR tq 4 qs) anq f_7 := he_9
          obtain ⟨q_10, eq_10⟩ : ∃ x9 : Nat × Int32, x9 = stR tq 4 qs := ⟨_, rfl⟩
          rw [← eq_10] at he_9
          obtain ⟨hP1, hD1⟩ := hB
          rw [ht] at hP1
          obtain ⟨hP, hD⟩ := va_join (wr := [(Mvalue, .inl (cJ, 1602, .inr (.inl mvalue)))]) (w1 := [(h0, .inr (5, [.int th, .ref Mtape, .int (nI tnq), .int (nI znq), .ref Msort, .ref Mplace, .ref Mvalue, .int (nI anq), .int f_7, .ref Mwords, .int (nI hdq), .int (nI nxq), .ref Mgoes, .ref MgoLine, .ref Mends, .ref MendLine, .ref Mkinds, .ref MisName, .int (nI mnq), .ref Mrow, .ref MbyHand, .ref Mleast, .ref Msecond, .ref MendAt, .ref MgoAt, .ref MnodeBehind, .int lE, .ref MisOut, .ref MfirstEnd, .ref MfirstGo])), (Msort, .inl (cI, 1602, .inl msort)), (Mplace, .inl (cI, 1602, .inl mplace))]) hP hD [0, 1, 2] [3] rfl rfl (by decide) (by decide) hk1 hFc hP1 hD1
          generalize H1 = H at hP hS ⊢
          have hP : va_P (dC, dI) vwCl [(Mvalue, .inl (cJ, 1602, .inr (.inl mvalue))), (h0, .inr (5, [.int th, .ref Mtape, .int (nI tnq), .int (nI znq), .ref Msort, .ref Mplace, .ref Mvalue, .int (nI anq), .int f_7, .ref Mwords, .int (nI hdq), .int (nI nxq), .ref Mgoes, .ref MgoLine, .ref Mends, .ref MendLine, .ref Mkinds, .ref MisName, .int (nI mnq), .ref Mrow, .ref MbyHand, .ref Mleast, .ref Msecond, .ref MendAt, .ref MgoAt, .ref MnodeBehind, .int lE, .ref MisOut, .ref MfirstEnd, .ref MfirstGo])), (Msort, .inl (cI, 1602, .inl msort)), (Mplace, .inl (cI, 1602, .inl mplace))] H := hP
          have hD : va_D A [(Mvalue, .inl (cJ, 1602, .inr (.inl mvalue))), (h0, .inr (5, [.int th, .ref Mtape, .int (nI tnq), .int (nI znq), .ref Msort, .ref Mplace, .ref Mvalue, .int (nI anq), .int f_7, .ref Mwords, .int (nI hdq), .int (nI nxq), .ref Mgoes, .ref MgoLine, .ref Mends, .ref MendLine, .ref Mkinds, .ref MisName, .int (nI mnq), .ref Mrow, .ref MbyHand, .ref Mleast, .ref Msecond, .ref MendAt, .ref MgoAt, .ref MnodeBehind, .int lE, .ref MisOut, .ref MfirstEnd, .ref MfirstGo])), (Msort, .inl (cI, 1602, .inl msort)), (Mplace, .inl (cI, 1602, .inl mplace))] := hD
          refine lv_aload_n hx hb dX5_takeNumber_70 rfl (lv_at hl 0 rfl) ?_
          refine lv_dup hx hb dX5_takeNumber_71 rfl ?_
          refine va_get (D := (dC, dI)) (ci := 5) (v := .int (nI anq)) (C := RX5) (T := TX5) (N := 30) hx hb hts i5 hown hK hP 1 rfl rfl 7 (by decide) (hts (.fieldLink RX5 133 "StopSetterModel" "at" "I") (by decide +kernel)) (fun _ h9 => h9) rfl dX5_takeNumber_72 ?_
          refine lv_iconst (v := 1) hx hb dX5_takeNumber_75 (by decide) ?_
          refine lv_iadd hx hb dX5_takeNumber_76 ?_
          refine lv_topi (fun v_ ev_ => ?_)
          obtain rfl : v_ = (nI (anq + 1)) := ev_.trans (nI_1 anq)
          refine va_put (D := (dC, dI)) (ci := 5) (v := .int (nI (anq + 1))) (ty := tyX5 7) (C := RX5) (T := TX5) (N := 30) hx hb hts i5 tyX5 tyX5_ok nmX5 hown hK hP hD hS 1 rfl rfl 7 (by decide) (hts (.fieldLink RX5 133 "StopSetterModel" "at" "I") (by decide +kernel)) (fun _ h9 => h9) rfl (by decide +kernel) rfl rfl (Nat.le_of_ble_eq_true rfl) dX5_takeNumber_77 (fun H locs hP hD hS => ?_)
          have hP : va_P (dC, dI) vwCl [(Mvalue, .inl (cJ, 1602, .inr (.inl mvalue))), (h0, .inr (5, [.int th, .ref Mtape, .int (nI tnq), .int (nI znq), .ref Msort, .ref Mplace, .ref Mvalue, .int (nI (anq + 1)), .int f_7, .ref Mwords, .int (nI hdq), .int (nI nxq), .ref Mgoes, .ref MgoLine, .ref Mends, .ref MendLine, .ref Mkinds, .ref MisName, .int (nI mnq), .ref Mrow, .ref MbyHand, .ref Mleast, .ref Msecond, .ref MendAt, .ref MgoAt, .ref MnodeBehind, .int lE, .ref MisOut, .ref MfirstEnd, .ref MfirstGo])), (Msort, .inl (cI, 1602, .inl msort)), (Mplace, .inl (cI, 1602, .inl mplace))] H := hP
          have hD : va_D A [(Mvalue, .inl (cJ, 1602, .inr (.inl mvalue))), (h0, .inr (5, [.int th, .ref Mtape, .int (nI tnq), .int (nI znq), .ref Msort, .ref Mplace, .ref Mvalue, .int (nI (anq + 1)), .int f_7, .ref Mwords, .int (nI hdq), .int (nI nxq), .ref Mgoes, .ref MgoLine, .ref Mends, .ref MendLine, .ref Mkinds, .ref MisName, .int (nI mnq), .ref Mrow, .ref MbyHand, .ref Mleast, .ref Msecond, .ref MendAt, .ref MgoAt, .ref MnodeBehind, .int lE, .ref MisOut, .ref MfirstEnd, .ref MfirstGo])), (Msort, .inl (cI, 1602, .inl msort)), (Mplace, .inl (cI, 1602, .inl mplace))] := hD
          refine lv_aload_n hx hb dX5_takeNumber_80 rfl (lv_at hl 0 rfl) ?_
          refine va_get (D := (dC, dI)) (ci := 5) (v := .int f_7) (C := RX5) (T := TX5) (N := 30) hx hb hts i5 hown hK hP 1 rfl rfl 8 (by decide) (hts (.fieldLink RX5 136 "StopSetterModel" "fault" "I") (by decide +kernel)) (fun _ h9 => h9) rfl dX5_takeNumber_81 ?_
          refine lv_if_le (tgt := 91) hx hb dX5_takeNumber_84 (by decide) (fun h9 => absurd h9 (Int32.not_le.mpr he_8)) (fun _ => ?_)
          refine lv_iconst (v := 0) hx hb dX5_takeNumber_87 (by decide) ?_
          refine lv_goto (tgt := 103) hx hb dX5_takeNumber_88 (by decide) ?_
          have hP9 := hP.sub (ws' := [(h0, .inr (5, [.int th, .ref Mtape, .int (nI tnq), .int (nI znq), .ref Msort, .ref Mplace, .ref Mvalue, .int (nI (anq + 1)), .int f_7, .ref Mwords, .int (nI hdq), .int (nI nxq), .ref Mgoes, .ref MgoLine, .ref Mends, .ref MendLine, .ref Mkinds, .ref MisName, .int (nI mnq), .ref Mrow, .ref MbyHand, .ref Mleast, .ref Msecond, .ref MendAt, .ref MgoAt, .ref MnodeBehind, .int lE, .ref MisOut, .ref MfirstEnd, .ref MfirstGo])), (Msort, .inl (cI, 1602, .inl msort)), (Mplace, .inl (cI, 1602, .inl mplace)), (Mvalue, .inl (cJ, 1602, .inr (.inl mvalue)))]) [1, 2, 3, 0] rfl
          have hD9 := hD.sub (ws' := [(h0, .inr (5, [.int th, .ref Mtape, .int (nI tnq), .int (nI znq), .ref Msort, .ref Mplace, .ref Mvalue, .int (nI (anq + 1)), .int f_7, .ref Mwords, .int (nI hdq), .int (nI nxq), .ref Mgoes, .ref MgoLine, .ref Mends, .ref MendLine, .ref Mkinds, .ref MisName, .int (nI mnq), .ref Mrow, .ref MbyHand, .ref Mleast, .ref Msecond, .ref MendAt, .ref MgoAt, .ref MnodeBehind, .int lE, .ref MisOut, .ref MfirstEnd, .ref MfirstGo])), (Msort, .inl (cI, 1602, .inl msort)), (Mplace, .inl (cI, 1602, .inl mplace)), (Mvalue, .inl (cJ, 1602, .inr (.inl mvalue)))]) [1, 2, 3, 0] (by decide) rfl
          have hens0 : pI ntq (anq + 1) f_7 := (Or.inr he_8)
          have hens1 : anq ≤ (anq + 1) := (by omega)
          have hens2 : ∃ v : Nat, v ≤ bq ∧ (0 : Int32) = nI v := ⟨0, by omega, rfl⟩
          have hens3 : mQ (stN tq bq qs) (anq + 1) f_7 := (mQ_of (mQ_f he_9 (pos_ne he_8)) (eq_10.trans (stN_big hS3 (fun z => c_62 ((lg_cmp_le _ _).mpr (by rw [((hVa qs.1 (by omega)).1 hS3).2]; exact i64_le.mpr z))))))
          have hens4 : f_7 = 0 → (0 : Int32) = nV tq qs := (fun z => absurd z (pos_ne he_8))
          exact W.iret (v := 0) hx hb hr (fun t ht hW => ⟨⟨0, ((anq + 1), f_7), rfl, ⟨hens0, hens1, hens2, hens3, hens4⟩, by rw [ht]; exact hP9, hD9⟩, hS.F ht⟩) hS.2.2 dX5_takeNumber_103
    · skip
      refine lv_aload_n hx hb dX5_takeNumber_20 rfl (lv_at hl 0 rfl) ?_
      refine lv_iconst (v := 1) hx hb dX5_takeNumber_21 (by decide) ?_
      have hPc := hP.sub (ws' := [(h0, .inr (5, [.int th, .ref Mtape, .int (nI tnq), .int (nI znq), .ref Msort, .ref Mplace, .ref Mvalue, .int (nI anq), .int ft, .ref Mwords, .int (nI hdq), .int (nI nxq), .ref Mgoes, .ref MgoLine, .ref Mends, .ref MendLine, .ref Mkinds, .ref MisName, .int (nI mnq), .ref Mrow, .ref MbyHand, .ref Mleast, .ref Msecond, .ref MendAt, .ref MgoAt, .ref MnodeBehind, .int lE, .ref MisOut, .ref MfirstEnd, .ref MfirstGo])), (Msort, .inl (cI, 1602, .inl msort)), (Mplace, .inl (cI, 1602, .inl mplace))]) [0, 1, 2] rfl
      have hDc := hD.sub (ws' := [(h0, .inr (5, [.int th, .ref Mtape, .int (nI tnq), .int (nI znq), .ref Msort, .ref Mplace, .ref Mvalue, .int (nI anq), .int ft, .ref Mwords, .int (nI hdq), .int (nI nxq), .ref Mgoes, .ref MgoLine, .ref Mends, .ref MendLine, .ref Mkinds, .ref MisName, .int (nI mnq), .ref Mrow, .ref MbyHand, .ref Mleast, .ref Msecond, .ref MendAt, .ref MgoAt, .ref MnodeBehind, .int lE, .ref MisOut, .ref MfirstEnd, .ref MfirstGo])), (Msort, .inl (cI, 1602, .inl msort)), (Mplace, .inl (cI, 1602, .inl mplace))]) [0, 1, 2] (by decide) rfl
      have hFc := va_free (wc := [(h0, .inr (5, [.int th, .ref Mtape, .int (nI tnq), .int (nI znq), .ref Msort, .ref Mplace, .ref Mvalue, .int (nI anq), .int ft, .ref Mwords, .int (nI hdq), .int (nI nxq), .ref Mgoes, .ref MgoLine, .ref Mends, .ref MendLine, .ref Mkinds, .ref MisName, .int (nI mnq), .ref Mrow, .ref MbyHand, .ref Mleast, .ref Msecond, .ref MendAt, .ref MgoAt, .ref MnodeBehind, .int lE, .ref MisOut, .ref MfirstEnd, .ref MfirstGo])), (Msort, .inl (cI, 1602, .inl msort)), (Mplace, .inl (cI, 1602, .inl mplace))]) hD hS hA [0, 1, 2] rfl
      refine va_callv (va_runV (As := [.int 1]) (rest := []) ⟨hx, hb, hml, hown, hts⟩ (k_wrong l dC dI cI cZ cC cJ s.heap.size  h0 th Mtape tnq znq Msort Mplace Mvalue anq ft Mwords hdq nxq Mgoes MgoLine Mends MendLine Mkinds MisName mnq Mrow MbyHand Mleast Msecond MendAt MgoAt MnodeBehind lE MisOut MfirstEnd MfirstGo msort mplace 1 ntq tq qs (by first | assumption | decide | omega) (by first | assumption | decide | omega) (by first | assumption | decide | omega) (by first | assumption | decide | omega) (by first | assumption | decide | omega) (by first | assumption | decide | omega)) (cwV 1 hts gX5_takeNumber_X5_wrong rfl rfl rfl (by decide +kernel) ⟨Nat.le_of_ble_eq_true rfl, Nat.le_of_ble_eq_true rfl⟩) ⟨sPre_blind, va_recv hK hPc (ci := 5) (q0 := 0) rfl rfl, fun U hU hW => ⟨rfl, sPre_ok hsk hPc hDc hU hW⟩⟩ rfl rfl hl.1 rfl (lv_room (Nat.le_of_ble_eq_true rfl)) dX5_takeNumber_22 ⟨(show 0 + 0 ≤ 0 by omega), (show 0 + 0 ≤ 0 by omega)⟩) hS (fun q _ h => hFc q h) hFc (fun u t H1 locs ht hvm hw hB hz1 hk1 hS => ?_)
      obtain ⟨f_12, rfl⟩ : ∃ z, z = u := ⟨_, rfl⟩
      try dsimp only at hw hB
      obtain ⟨he_13, he_14⟩ := hw
      have he_13 : 0 < f_12 := he_13
      have he_14 : mQ (stR tq 1 qs) anq f_12 := he_14
      obtain ⟨q_15, eq_15⟩ : ∃ x9 : Nat × Int32, x9 = stR tq 1 qs := ⟨_, rfl⟩
      rw [← eq_15] at he_14
      obtain ⟨hP1, hD1⟩ := hB
      rw [ht] at hP1
      obtain ⟨hP, hD⟩ := va_join (wr := [(Mvalue, .inl (cJ, 1602, .inr (.inl mvalue)))]) (w1 := [(h0, .inr (5, [.int th, .ref Mtape, .int (nI tnq), .int (nI znq), .ref Msort, .ref Mplace, .ref Mvalue, .int (nI anq), .int f_12, .ref Mwords, .int (nI hdq), .int (nI nxq), .ref Mgoes, .ref MgoLine, .ref Mends, .ref MendLine, .ref Mkinds, .ref MisName, .int (nI mnq), .ref Mrow, .ref MbyHand, .ref Mleast, .ref Msecond, .ref MendAt, .ref MgoAt, .ref MnodeBehind, .int lE, .ref MisOut, .ref MfirstEnd, .ref MfirstGo])), (Msort, .inl (cI, 1602, .inl msort)), (Mplace, .inl (cI, 1602, .inl mplace))]) hP hD [0, 1, 2] [3] rfl rfl (by decide) (by decide) hk1 hFc hP1 hD1
      generalize H1 = H at hP hS ⊢
      have hP : va_P (dC, dI) vwCl [(Mvalue, .inl (cJ, 1602, .inr (.inl mvalue))), (h0, .inr (5, [.int th, .ref Mtape, .int (nI tnq), .int (nI znq), .ref Msort, .ref Mplace, .ref Mvalue, .int (nI anq), .int f_12, .ref Mwords, .int (nI hdq), .int (nI nxq), .ref Mgoes, .ref MgoLine, .ref Mends, .ref MendLine, .ref Mkinds, .ref MisName, .int (nI mnq), .ref Mrow, .ref MbyHand, .ref Mleast, .ref Msecond, .ref MendAt, .ref MgoAt, .ref MnodeBehind, .int lE, .ref MisOut, .ref MfirstEnd, .ref MfirstGo])), (Msort, .inl (cI, 1602, .inl msort)), (Mplace, .inl (cI, 1602, .inl mplace))] H := hP
      have hD : va_D A [(Mvalue, .inl (cJ, 1602, .inr (.inl mvalue))), (h0, .inr (5, [.int th, .ref Mtape, .int (nI tnq), .int (nI znq), .ref Msort, .ref Mplace, .ref Mvalue, .int (nI anq), .int f_12, .ref Mwords, .int (nI hdq), .int (nI nxq), .ref Mgoes, .ref MgoLine, .ref Mends, .ref MendLine, .ref Mkinds, .ref MisName, .int (nI mnq), .ref Mrow, .ref MbyHand, .ref Mleast, .ref Msecond, .ref MendAt, .ref MgoAt, .ref MnodeBehind, .int lE, .ref MisOut, .ref MfirstEnd, .ref MfirstGo])), (Msort, .inl (cI, 1602, .inl msort)), (Mplace, .inl (cI, 1602, .inl mplace))] := hD
      refine lv_goto (tgt := 70) hx hb dX5_takeNumber_25 (by decide) ?_
      refine lv_aload_n hx hb dX5_takeNumber_70 rfl (lv_at hl 0 rfl) ?_
      refine lv_dup hx hb dX5_takeNumber_71 rfl ?_
      refine va_get (D := (dC, dI)) (ci := 5) (v := .int (nI anq)) (C := RX5) (T := TX5) (N := 30) hx hb hts i5 hown hK hP 1 rfl rfl 7 (by decide) (hts (.fieldLink RX5 133 "StopSetterModel" "at" "I") (by decide +kernel)) (fun _ h9 => h9) rfl dX5_takeNumber_72 ?_
      refine lv_iconst (v := 1) hx hb dX5_takeNumber_75 (by decide) ?_
      refine lv_iadd hx hb dX5_takeNumber_76 ?_
      refine lv_topi (fun v_ ev_ => ?_)
      obtain rfl : v_ = (nI (anq + 1)) := ev_.trans (nI_1 anq)
      refine va_put (D := (dC, dI)) (ci := 5) (v := .int (nI (anq + 1))) (ty := tyX5 7) (C := RX5) (T := TX5) (N := 30) hx hb hts i5 tyX5 tyX5_ok nmX5 hown hK hP hD hS 1 rfl rfl 7 (by decide) (hts (.fieldLink RX5 133 "StopSetterModel" "at" "I") (by decide +kernel)) (fun _ h9 => h9) rfl (by decide +kernel) rfl rfl (Nat.le_of_ble_eq_true rfl) dX5_takeNumber_77 (fun H locs hP hD hS => ?_)
      have hP : va_P (dC, dI) vwCl [(Mvalue, .inl (cJ, 1602, .inr (.inl mvalue))), (h0, .inr (5, [.int th, .ref Mtape, .int (nI tnq), .int (nI znq), .ref Msort, .ref Mplace, .ref Mvalue, .int (nI (anq + 1)), .int f_12, .ref Mwords, .int (nI hdq), .int (nI nxq), .ref Mgoes, .ref MgoLine, .ref Mends, .ref MendLine, .ref Mkinds, .ref MisName, .int (nI mnq), .ref Mrow, .ref MbyHand, .ref Mleast, .ref Msecond, .ref MendAt, .ref MgoAt, .ref MnodeBehind, .int lE, .ref MisOut, .ref MfirstEnd, .ref MfirstGo])), (Msort, .inl (cI, 1602, .inl msort)), (Mplace, .inl (cI, 1602, .inl mplace))] H := hP
      have hD : va_D A [(Mvalue, .inl (cJ, 1602, .inr (.inl mvalue))), (h0, .inr (5, [.int th, .ref Mtape, .int (nI tnq), .int (nI znq), .ref Msort, .ref Mplace, .ref Mvalue, .int (nI (anq + 1)), .int f_12, .ref Mwords, .int (nI hdq), .int (nI nxq), .ref Mgoes, .ref MgoLine, .ref Mends, .ref MendLine, .ref Mkinds, .ref MisName, .int (nI mnq), .ref Mrow, .ref MbyHand, .ref Mleast, .ref Msecond, .ref MendAt, .ref MgoAt, .ref MnodeBehind, .int lE, .ref MisOut, .ref MfirstEnd, .ref MfirstGo])), (Msort, .inl (cI, 1602, .inl msort)), (Mplace, .inl (cI, 1602, .inl mplace))] := hD
      refine lv_aload_n hx hb dX5_takeNumber_80 rfl (lv_at hl 0 rfl) ?_
      refine va_get (D := (dC, dI)) (ci := 5) (v := .int f_12) (C := RX5) (T := TX5) (N := 30) hx hb hts i5 hown hK hP 1 rfl rfl 8 (by decide) (hts (.fieldLink RX5 136 "StopSetterModel" "fault" "I") (by decide +kernel)) (fun _ h9 => h9) rfl dX5_takeNumber_81 ?_
      refine lv_if_le (tgt := 91) hx hb dX5_takeNumber_84 (by decide) (fun h9 => absurd h9 (Int32.not_le.mpr he_13)) (fun _ => ?_)
      refine lv_iconst (v := 0) hx hb dX5_takeNumber_87 (by decide) ?_
      refine lv_goto (tgt := 103) hx hb dX5_takeNumber_88 (by decide) ?_
      have hP9 := hP.sub (ws' := [(h0, .inr (5, [.int th, .ref Mtape, .int (nI tnq), .int (nI znq), .ref Msort, .ref Mplace, .ref Mvalue, .int (nI (anq + 1)), .int f_12, .ref Mwords, .int (nI hdq), .int (nI nxq), .ref Mgoes, .ref MgoLine, .ref Mends, .ref MendLine, .ref Mkinds, .ref MisName, .int (nI mnq), .ref Mrow, .ref MbyHand, .ref Mleast, .ref Msecond, .ref MendAt, .ref MgoAt, .ref MnodeBehind, .int lE, .ref MisOut, .ref MfirstEnd, .ref MfirstGo])), (Msort, .inl (cI, 1602, .inl msort)), (Mplace, .inl (cI, 1602, .inl mplace)), (Mvalue, .inl (cJ, 1602, .inr (.inl mvalue)))]) [1, 2, 3, 0] rfl
      have hD9 := hD.sub (ws' := [(h0, .inr (5, [.int th, .ref Mtape, .int (nI tnq), .int (nI znq), .ref Msort, .ref Mplace, .ref Mvalue, .int (nI (anq + 1)), .int f_12, .ref Mwords, .int (nI hdq), .int (nI nxq), .ref Mgoes, .ref MgoLine, .ref Mends, .ref MendLine, .ref Mkinds, .ref MisName, .int (nI mnq), .ref Mrow, .ref MbyHand, .ref Mleast, .ref Msecond, .ref MendAt, .ref MgoAt, .ref MnodeBehind, .int lE, .ref MisOut, .ref MfirstEnd, .ref MfirstGo])), (Msort, .inl (cI, 1602, .inl msort)), (Mplace, .inl (cI, 1602, .inl mplace)), (Mvalue, .inl (cJ, 1602, .inr (.inl mvalue)))]) [1, 2, 3, 0] (by decide) rfl
      have hens0 : pI ntq (anq + 1) f_12 := (Or.inr he_13)
      have hens1 : anq ≤ (anq + 1) := (by omega)
      have hens2 : ∃ v : Nat, v ≤ bq ∧ (0 : Int32) = nI v := ⟨0, by omega, rfl⟩
      have hens3 : mQ (stN tq bq qs) (anq + 1) f_12 := (mQ_of (mQ_f he_14 (pos_ne he_13)) (eq_15.trans (stN_no (fun z => c_17 (((hSo qs.1 (by omega)).2.2.1).mpr z)))))
      have hens4 : f_12 = 0 → (0 : Int32) = nV tq qs := (fun z => absurd z (pos_ne he_13))
      exact W.iret (v := 0) hx hb hr (fun t ht hW => ⟨⟨0, ((anq + 1), f_12), rfl, ⟨hens0, hens1, hens2, hens3, hens4⟩, by rw [ht]; exact hP9, hD9⟩, hS.F ht⟩) hS.2.2 dX5_takeNumber_103
set_option maxHeartbeats 4000000 in
set_option maxRecDepth 100000 in
theorem k_takeOneOf (l : Launch) (dC : Nat → ClassId) (dI : Nat → Nat → Nat) (cI cZ cC cJ : ClassId) (sz : Nat) (h0 : Nat) (th : Int32) (Mtape : Nat) (tnq : Nat) (znq : Nat) (Msort : Nat) (Mplace : Nat) (Mvalue : Nat) (anq : Nat) (ft : Int32) (Mwords : Nat) (hdq : Nat) (nxq : Nat) (Mgoes : Nat) (MgoLine : Nat) (Mends : Nat) (MendLine : Nat) (Mkinds : Nat) (MisName : Nat) (mnq : Nat) (Mrow : Nat) (MbyHand : Nat) (Mleast : Nat) (Msecond : Nat) (MendAt : Nat) (MgoAt : Nat) (MnodeBehind : Nat) (lE : Int32) (MisOut : Nat) (MfirstEnd : Nat) (MfirstGo : Nat) (msort : Nat → Int32) (mplace : Nat → Int32) (mvalue : Nat → Int64) (mwords : Nat → Int64) (wq : Nat) (ntq : Nat) (tq : TkS) (qs : Nat × Int32) (hp : pOK msort mplace ntq) (hI : pI ntq anq ft) (hw : wq ≤ 9) (hPl : tkPl tq mplace ntq) (hSo : tkSo tq msort ntq) (hWo : tkWo tq mvalue mwords ntq) (hR : mQ qs anq ft) : Met l yX5_takeOneOf wsX5_takeOneOf ({ frames := 2, cells := 0, slots := 0, locals := 43 }) (va_Pc [.ref h0, .int (nI wq)] (sPre dC dI cI cZ cC cJ [(h0, .inr (5, [.int th, .ref Mtape, .int (nI tnq), .int (nI znq), .ref Msort, .ref Mplace, .ref Mvalue, .int (nI anq), .int ft, .ref Mwords, .int (nI hdq), .int (nI nxq), .ref Mgoes, .ref MgoLine, .ref Mends, .ref MendLine, .ref Mkinds, .ref MisName, .int (nI mnq), .ref Mrow, .ref MbyHand, .ref Mleast, .ref Msecond, .ref MendAt, .ref MgoAt, .ref MnodeBehind, .int lE, .ref MisOut, .ref MfirstEnd, .ref MfirstGo])), (Msort, .inl (cI, 1602, .inl msort)), (Mplace, .inl (cI, 1602, .inl mplace)), (Mvalue, .inl (cJ, 1602, .inr (.inl mvalue))), (Mwords, .inl (cJ, 12, .inr (.inl mwords)))] sz)) (va_Qi (fun (r : Int32) (u : (Nat) × (Int32)) => match u with | (anq2, ft2) => (pI ntq anq2 ft2) ∧ (anq ≤ anq2) ∧ (mQ (stM tq wq qs) anq2 ft2) ∧ (ft2 = 0 → ¬ mkV tq wq qs.1 = 0 ∧ (r : Int32) = nI (mkV tq wq qs.1 - 1))) (fun (u : (Nat) × (Int32)) t => match u with | (anq2, ft2) => sB dC dI (va_A [(h0, .inr (5, [.int th, .ref Mtape, .int (nI tnq), .int (nI znq), .ref Msort, .ref Mplace, .ref Mvalue, .int (nI anq), .int ft, .ref Mwords, .int (nI hdq), .int (nI nxq), .ref Mgoes, .ref MgoLine, .ref Mends, .ref MendLine, .ref Mkinds, .ref MisName, .int (nI mnq), .ref Mrow, .ref MbyHand, .ref Mleast, .ref Msecond, .ref MendAt, .ref MgoAt, .ref MnodeBehind, .int lE, .ref MisOut, .ref MfirstEnd, .ref MfirstGo])), (Msort, .inl (cI, 1602, .inl msort)), (Mplace, .inl (cI, 1602, .inl mplace)), (Mvalue, .inl (cJ, 1602, .inr (.inl mvalue))), (Mwords, .inl (cJ, 12, .inr (.inl mwords)))] sz) [(h0, .inr (5, [.int th, .ref Mtape, .int (nI tnq), .int (nI znq), .ref Msort, .ref Mplace, .ref Mvalue, .int (nI anq2), .int ft2, .ref Mwords, .int (nI hdq), .int (nI nxq), .ref Mgoes, .ref MgoLine, .ref Mends, .ref MendLine, .ref Mkinds, .ref MisName, .int (nI mnq), .ref Mrow, .ref MbyHand, .ref Mleast, .ref Msecond, .ref MendAt, .ref MgoAt, .ref MnodeBehind, .int lE, .ref MisOut, .ref MfirstEnd, .ref MfirstGo])), (Msort, .inl (cI, 1602, .inl msort)), (Mplace, .inl (cI, 1602, .inl mplace)), (Mvalue, .inl (cJ, 1602, .inr (.inl mvalue))), (Mwords, .inl (cJ, 12, .inr (.inl mwords)))] t) (va_A [(h0, .inr (5, [.int th, .ref Mtape, .int (nI tnq), .int (nI znq), .ref Msort, .ref Mplace, .ref Mvalue, .int (nI anq), .int ft, .ref Mwords, .int (nI hdq), .int (nI nxq), .ref Mgoes, .ref MgoLine, .ref Mends, .ref MendLine, .ref Mkinds, .ref MisName, .int (nI mnq), .ref Mrow, .ref MbyHand, .ref Mleast, .ref Msecond, .ref MendAt, .ref MgoAt, .ref MnodeBehind, .int lE, .ref MisOut, .ref MfirstEnd, .ref MfirstGo])), (Msort, .inl (cI, 1602, .inl msort)), (Mplace, .inl (cI, 1602, .inl mplace)), (Mvalue, .inl (cJ, 1602, .inr (.inl mvalue))), (Mwords, .inl (cJ, 12, .inr (.inl mwords)))] sz)) 0 0 (va_A [(h0, .inr (5, [.int th, .ref Mtape, .int (nI tnq), .int (nI znq), .ref Msort, .ref Mplace, .ref Mvalue, .int (nI anq), .int ft, .ref Mwords, .int (nI hdq), .int (nI nxq), .ref Mgoes, .ref MgoLine, .ref Mends, .ref MendLine, .ref Mkinds, .ref MisName, .int (nI mnq), .ref Mrow, .ref MbyHand, .ref Mleast, .ref Msecond, .ref MendAt, .ref MgoAt, .ref MnodeBehind, .int lE, .ref MisOut, .ref MfirstEnd, .ref MfirstGo])), (Msort, .inl (cI, 1602, .inl msort)), (Mplace, .inl (cI, 1602, .inl mplace)), (Mvalue, .inl (cJ, 1602, .inr (.inl mvalue))), (Mwords, .inl (cJ, 12, .inr (.inl mwords)))] sz) := by
  refine Met.ofW (cc := cX5_takeOneOf) (maxL := 3) (ret := (some .int)) (by decide) rfl ?_
  intro p e s m args below meth c s₁ B hml hv
  obtain ⟨rfl, hsz, hP, hsk, hD0⟩ := hv
  have hx := B.exec
  have hb := B.bytes
  have hr := B.returns
  have hts := atoms_spec (ws := wsX5_takeOneOf) B.pre
  have hown : s.vm.findClass RX5 = some m.cls := findClass_of_methodNamed B.named
  have hlocks := B.notSynchronized
  have hK := hsk.1
  have i5 : ∀ w ∈ wsX50, w ∈ wsX5_takeOneOf := by decide +kernel
  subst hsz
  have hD := hD0.self (sz := s.heap.size)
  generalize hAe : va_A [(h0, .inr (5, [.int th, .ref Mtape, .int (nI tnq), .int (nI znq), .ref Msort, .ref Mplace, .ref Mvalue, .int (nI anq), .int ft, .ref Mwords, .int (nI hdq), .int (nI nxq), .ref Mgoes, .ref MgoLine, .ref Mends, .ref MendLine, .ref Mkinds, .ref MisName, .int (nI mnq), .ref Mrow, .ref MbyHand, .ref Mleast, .ref Msecond, .ref MendAt, .ref MgoAt, .ref MnodeBehind, .int lE, .ref MisOut, .ref MfirstEnd, .ref MfirstGo])), (Msort, .inl (cI, 1602, .inl msort)), (Mplace, .inl (cI, 1602, .inl mplace)), (Mvalue, .inl (cJ, 1602, .inr (.inl mvalue))), (Mwords, .inl (cJ, 12, .inr (.inl mwords)))] s.heap.size = A at hD ⊢
  have hA : ∀ q : Nat, s.heap.size ≤ q → A q := fun q h => by rw [← hAe]; exact Or.inr h
  have hS : va_S A s.heap s.heap [] := va_S.rf
  have hl := lv_entry ([.ref h0, .int (nI wq)]) (n := 3) (Nat.le_of_ble_eq_true rfl)
  rw [lg_entry_eq]
  generalize (lg_sl ([.ref h0, .int (nI wq)]) ++ List.replicate (3 - (lg_sl ([.ref h0, .int (nI wq)])).length) Slot.unset).toArray = ls at hl ⊢
  have hl : lv_has ls 3 [(0, .ref h0), (1, .int (nI wq))] := hl
  refine lv_iconst (v := 0) hx hb dX5_takeOneOf_0 (by decide) ?_
  refine lv_istore_n (lv' := [(2, .int 0), (0, .ref h0), (1, .int (nI wq))]) hx hb dX5_takeOneOf_1 rfl hl (by decide) rfl (fun ls hl => ?_)
  refine lv_iload_n hx hb dX5_takeOneOf_2 rfl (lv_at hl 0 rfl) ?_
  refine lv_iconst (v := 3) hx hb dX5_takeOneOf_3 (by decide) ?_
  refine lv_icmp_ge (tgt := 25) hx hb dX5_takeOneOf_4 (by decide) (fun h9 => absurd h9 (by decide)) (fun _ => ?_)
  refine lv_aload_n hx hb dX5_takeOneOf_7 rfl (lv_at hl 1 rfl) ?_
  refine lv_iload_n hx hb dX5_takeOneOf_8 rfl (lv_at hl 2 rfl) ?_
  refine lv_iload_n hx hb dX5_takeOneOf_9 rfl (lv_at hl 0 rfl) ?_
  refine lv_iadd hx hb dX5_takeOneOf_10 ?_
  refine lv_topi (fun v_ ev_ => ?_)
  obtain rfl : v_ = (nI (wq + 0)) := ev_.trans (nI_add wq 0)
  have hPc := hP.sub (ws' := [(h0, .inr (5, [.int th, .ref Mtape, .int (nI tnq), .int (nI znq), .ref Msort, .ref Mplace, .ref Mvalue, .int (nI anq), .int ft, .ref Mwords, .int (nI hdq), .int (nI nxq), .ref Mgoes, .ref MgoLine, .ref Mends, .ref MendLine, .ref Mkinds, .ref MisName, .int (nI mnq), .ref Mrow, .ref MbyHand, .ref Mleast, .ref Msecond, .ref MendAt, .ref MgoAt, .ref MnodeBehind, .int lE, .ref MisOut, .ref MfirstEnd, .ref MfirstGo])), (Msort, .inl (cI, 1602, .inl msort)), (Mplace, .inl (cI, 1602, .inl mplace)), (Mvalue, .inl (cJ, 1602, .inr (.inl mvalue))), (Mwords, .inl (cJ, 12, .inr (.inl mwords)))]) [0, 1, 2, 3, 4] rfl
  have hDc := hD.sub (ws' := [(h0, .inr (5, [.int th, .ref Mtape, .int (nI tnq), .int (nI znq), .ref Msort, .ref Mplace, .ref Mvalue, .int (nI anq), .int ft, .ref Mwords, .int (nI hdq), .int (nI nxq), .ref Mgoes, .ref MgoLine, .ref Mends, .ref MendLine, .ref Mkinds, .ref MisName, .int (nI mnq), .ref Mrow, .ref MbyHand, .ref Mleast, .ref Msecond, .ref MendAt, .ref MgoAt, .ref MnodeBehind, .int lE, .ref MisOut, .ref MfirstEnd, .ref MfirstGo])), (Msort, .inl (cI, 1602, .inl msort)), (Mplace, .inl (cI, 1602, .inl mplace)), (Mvalue, .inl (cJ, 1602, .inr (.inl mvalue))), (Mwords, .inl (cJ, 12, .inr (.inl mwords)))]) [0, 1, 2, 3, 4] (by decide) rfl
  have hFc := va_free (wc := [(h0, .inr (5, [.int th, .ref Mtape, .int (nI tnq), .int (nI znq), .ref Msort, .ref Mplace, .ref Mvalue, .int (nI anq), .int ft, .ref Mwords, .int (nI hdq), .int (nI nxq), .ref Mgoes, .ref MgoLine, .ref Mends, .ref MendLine, .ref Mkinds, .ref MisName, .int (nI mnq), .ref Mrow, .ref MbyHand, .ref Mleast, .ref Msecond, .ref MendAt, .ref MgoAt, .ref MnodeBehind, .int lE, .ref MisOut, .ref MfirstEnd, .ref MfirstGo])), (Msort, .inl (cI, 1602, .inl msort)), (Mplace, .inl (cI, 1602, .inl mplace)), (Mvalue, .inl (cJ, 1602, .inr (.inl mvalue))), (Mwords, .inl (cJ, 12, .inr (.inl mwords)))]) hD hS hA [0, 1, 2, 3, 4] rfl
  refine va_calli (va_runV (As := [.int (nI (wq + 0))]) (rest := []) ⟨hx, hb, hml, hown, hts⟩ (k_hasWord l dC dI cI cZ cC cJ s.heap.size  h0 th Mtape tnq znq Msort Mplace Mvalue anq ft Mwords hdq nxq Mgoes MgoLine Mends MendLine Mkinds MisName mnq Mrow MbyHand Mleast Msecond MendAt MgoAt MnodeBehind lE MisOut MfirstEnd MfirstGo msort mplace mvalue mwords (wq + 0) ntq tq qs (by first | assumption | decide | omega) hI (by omega) (by first | assumption | decide | omega) (by first | assumption | decide | omega) hR) (cwV 1 hts gX5_takeOneOf_X5_hasWord rfl rfl rfl (by decide +kernel) ⟨Nat.le_of_ble_eq_true rfl, Nat.le_of_ble_eq_true rfl⟩) ⟨sPre_blind, va_recv hK hPc (ci := 5) (q0 := 0) rfl rfl, fun U hU hW => ⟨rfl, sPre_ok hsk hPc hDc hU hW⟩⟩ rfl rfl hl.1 rfl (lv_room (Nat.le_of_ble_eq_true rfl)) dX5_takeOneOf_11 ⟨(show 0 + 0 ≤ 0 by omega), (show 0 + 0 ≤ 0 by omega)⟩) hS (fun q _ h => hFc q h) hFc (fun r_1 u t H1 locs ht hvm hw hB hz1 hk1 hS => ?_)
  obtain ⟨a_2, rfl⟩ : ∃ z, z = u := ⟨_, rfl⟩
  try dsimp only at hw hB
  obtain ⟨he_3, he_4, he_5, he_6, he_7, he_8⟩ := hw
  have he_3 : ((r_1 : Int32) = 0 ∧ a_2 = anq) ∨ (ft = 0 ∧ anq < ntq ∧ a_2 = anq + 1) := he_3
  have he_4 : pI ntq a_2 ft := he_4
  have he_5 : anq ≤ a_2 := he_5
  have he_6 : (r_1 : Int32) = 0 ∨ (r_1 : Int32) = 1 := he_6
  have he_7 : (r_1 : Int32) = xW9 ft (tq.T qs.1 (wq + 0)) := he_7
  have he_8 : mQ (hwQ tq (wq + 0) qs) a_2 ft := he_8
  obtain ⟨q_9, eq_9⟩ : ∃ x9 : Nat × Int32, x9 = hwQ tq (wq + 0) qs := ⟨_, rfl⟩
  rw [← eq_9] at he_8
  obtain ⟨hP1, hD1⟩ := hB
  rw [ht] at hP1
  obtain ⟨hP, hD⟩ := va_join (wr := []) (w1 := [(h0, .inr (5, [.int th, .ref Mtape, .int (nI tnq), .int (nI znq), .ref Msort, .ref Mplace, .ref Mvalue, .int (nI a_2), .int ft, .ref Mwords, .int (nI hdq), .int (nI nxq), .ref Mgoes, .ref MgoLine, .ref Mends, .ref MendLine, .ref Mkinds, .ref MisName, .int (nI mnq), .ref Mrow, .ref MbyHand, .ref Mleast, .ref Msecond, .ref MendAt, .ref MgoAt, .ref MnodeBehind, .int lE, .ref MisOut, .ref MfirstEnd, .ref MfirstGo])), (Msort, .inl (cI, 1602, .inl msort)), (Mplace, .inl (cI, 1602, .inl mplace)), (Mvalue, .inl (cJ, 1602, .inr (.inl mvalue))), (Mwords, .inl (cJ, 12, .inr (.inl mwords)))]) hP hD [0, 1, 2, 3, 4] [] rfl rfl (by decide) (by decide) hk1 hFc hP1 hD1
  generalize H1 = H at hP hS ⊢
  have hP : va_P (dC, dI) vwCl [(h0, .inr (5, [.int th, .ref Mtape, .int (nI tnq), .int (nI znq), .ref Msort, .ref Mplace, .ref Mvalue, .int (nI a_2), .int ft, .ref Mwords, .int (nI hdq), .int (nI nxq), .ref Mgoes, .ref MgoLine, .ref Mends, .ref MendLine, .ref Mkinds, .ref MisName, .int (nI mnq), .ref Mrow, .ref MbyHand, .ref Mleast, .ref Msecond, .ref MendAt, .ref MgoAt, .ref MnodeBehind, .int lE, .ref MisOut, .ref MfirstEnd, .ref MfirstGo])), (Msort, .inl (cI, 1602, .inl msort)), (Mplace, .inl (cI, 1602, .inl mplace)), (Mvalue, .inl (cJ, 1602, .inr (.inl mvalue))), (Mwords, .inl (cJ, 12, .inr (.inl mwords)))] H := hP
  have hD : va_D A [(h0, .inr (5, [.int th, .ref Mtape, .int (nI tnq), .int (nI znq), .ref Msort, .ref Mplace, .ref Mvalue, .int (nI a_2), .int ft, .ref Mwords, .int (nI hdq), .int (nI nxq), .ref Mgoes, .ref MgoLine, .ref Mends, .ref MendLine, .ref Mkinds, .ref MisName, .int (nI mnq), .ref Mrow, .ref MbyHand, .ref Mleast, .ref Msecond, .ref MendAt, .ref MgoAt, .ref MnodeBehind, .int lE, .ref MisOut, .ref MfirstEnd, .ref MfirstGo])), (Msort, .inl (cI, 1602, .inl msort)), (Mplace, .inl (cI, 1602, .inl mplace)), (Mvalue, .inl (cJ, 1602, .inr (.inl mvalue))), (Mwords, .inl (cJ, 12, .inr (.inl mwords)))] := hD
  have hR_1 := he_8
  have hX_0 := he_7
  have hI_1 := he_4
  refine lv_if_eq (tgt := 19) hx hb dX5_takeOneOf_14 (by decide) (fun c_14_0 => ?_) (fun c_14_0 => ?_)
  · skip
    have ez_1 : q_9 = qs := by rw [eq_9]; exact hwQ_no hR hX_0 c_14_0
    refine lv_iinc (v := 1) (lv' := [(2, .int 1), (0, .ref h0), (1, .int (nI wq))]) hx hb dX5_takeOneOf_19 hl (k := 0) rfl (by decide) (by decide) rfl (fun ls hl => ?_)
    refine lv_goto (tgt := 2) hx hb dX5_takeOneOf_22 (by decide) ?_
    refine lv_iload_n hx hb dX5_takeOneOf_2 rfl (lv_at hl 0 rfl) ?_
    refine lv_iconst (v := 3) hx hb dX5_takeOneOf_3 (by decide) ?_
    refine lv_icmp_ge (tgt := 25) hx hb dX5_takeOneOf_4 (by decide) (fun h9 => absurd h9 (by decide)) (fun _ => ?_)
    refine lv_aload_n hx hb dX5_takeOneOf_7 rfl (lv_at hl 1 rfl) ?_
    refine lv_iload_n hx hb dX5_takeOneOf_8 rfl (lv_at hl 2 rfl) ?_
    refine lv_iload_n hx hb dX5_takeOneOf_9 rfl (lv_at hl 0 rfl) ?_
    refine lv_iadd hx hb dX5_takeOneOf_10 ?_
    refine lv_topi (fun v_ ev_ => ?_)
    obtain rfl : v_ = (nI (wq + 1)) := ev_.trans (nI_add wq 1)
    have hPc := hP.sub (ws' := [(h0, .inr (5, [.int th, .ref Mtape, .int (nI tnq), .int (nI znq), .ref Msort, .ref Mplace, .ref Mvalue, .int (nI a_2), .int ft, .ref Mwords, .int (nI hdq), .int (nI nxq), .ref Mgoes, .ref MgoLine, .ref Mends, .ref MendLine, .ref Mkinds, .ref MisName, .int (nI mnq), .ref Mrow, .ref MbyHand, .ref Mleast, .ref Msecond, .ref MendAt, .ref MgoAt, .ref MnodeBehind, .int lE, .ref MisOut, .ref MfirstEnd, .ref MfirstGo])), (Msort, .inl (cI, 1602, .inl msort)), (Mplace, .inl (cI, 1602, .inl mplace)), (Mvalue, .inl (cJ, 1602, .inr (.inl mvalue))), (Mwords, .inl (cJ, 12, .inr (.inl mwords)))]) [0, 1, 2, 3, 4] rfl
    have hDc := hD.sub (ws' := [(h0, .inr (5, [.int th, .ref Mtape, .int (nI tnq), .int (nI znq), .ref Msort, .ref Mplace, .ref Mvalue, .int (nI a_2), .int ft, .ref Mwords, .int (nI hdq), .int (nI nxq), .ref Mgoes, .ref MgoLine, .ref Mends, .ref MendLine, .ref Mkinds, .ref MisName, .int (nI mnq), .ref Mrow, .ref MbyHand, .ref Mleast, .ref Msecond, .ref MendAt, .ref MgoAt, .ref MnodeBehind, .int lE, .ref MisOut, .ref MfirstEnd, .ref MfirstGo])), (Msort, .inl (cI, 1602, .inl msort)), (Mplace, .inl (cI, 1602, .inl mplace)), (Mvalue, .inl (cJ, 1602, .inr (.inl mvalue))), (Mwords, .inl (cJ, 12, .inr (.inl mwords)))]) [0, 1, 2, 3, 4] (by decide) rfl
    have hFc := va_free (wc := [(h0, .inr (5, [.int th, .ref Mtape, .int (nI tnq), .int (nI znq), .ref Msort, .ref Mplace, .ref Mvalue, .int (nI a_2), .int ft, .ref Mwords, .int (nI hdq), .int (nI nxq), .ref Mgoes, .ref MgoLine, .ref Mends, .ref MendLine, .ref Mkinds, .ref MisName, .int (nI mnq), .ref Mrow, .ref MbyHand, .ref Mleast, .ref Msecond, .ref MendAt, .ref MgoAt, .ref MnodeBehind, .int lE, .ref MisOut, .ref MfirstEnd, .ref MfirstGo])), (Msort, .inl (cI, 1602, .inl msort)), (Mplace, .inl (cI, 1602, .inl mplace)), (Mvalue, .inl (cJ, 1602, .inr (.inl mvalue))), (Mwords, .inl (cJ, 12, .inr (.inl mwords)))]) hD hS hA [0, 1, 2, 3, 4] rfl
    refine va_calli (va_runV (As := [.int (nI (wq + 1))]) (rest := []) ⟨hx, hb, hml, hown, hts⟩ (k_hasWord l dC dI cI cZ cC cJ H.size  h0 th Mtape tnq znq Msort Mplace Mvalue a_2 ft Mwords hdq nxq Mgoes MgoLine Mends MendLine Mkinds MisName mnq Mrow MbyHand Mleast Msecond MendAt MgoAt MnodeBehind lE MisOut MfirstEnd MfirstGo msort mplace mvalue mwords (wq + 1) ntq tq q_9 (by first | assumption | decide | omega) hI_1 (by omega) (by first | assumption | decide | omega) (by first | assumption | decide | omega) he_8) (cwV 1 hts gX5_takeOneOf_X5_hasWord rfl rfl rfl (by decide +kernel) ⟨Nat.le_of_ble_eq_true rfl, Nat.le_of_ble_eq_true rfl⟩) ⟨sPre_blind, va_recv hK hPc (ci := 5) (q0 := 0) rfl rfl, fun U hU hW => ⟨rfl, sPre_ok hsk hPc hDc hU hW⟩⟩ rfl rfl hl.1 rfl (lv_room (Nat.le_of_ble_eq_true rfl)) dX5_takeOneOf_11 ⟨(show 0 + 0 ≤ 0 by omega), (show 0 + 0 ≤ 0 by omega)⟩) hS (fun q _ h => hFc q h) hFc (fun r_10 u t H1 locs ht hvm hw hB hz1 hk1 hS => ?_)
    obtain ⟨a_11, rfl⟩ : ∃ z, z = u := ⟨_, rfl⟩
    try dsimp only at hw hB
    obtain ⟨he_12, he_13, he_14, he_15, he_16, he_17⟩ := hw
    have he_12 : ((r_10 : Int32) = 0 ∧ a_11 = a_2) ∨ (ft = 0 ∧ a_2 < ntq ∧ a_11 = a_2 + 1) := he_12
    have he_13 : pI ntq a_11 ft := he_13
    have he_14 : a_2 ≤ a_11 := he_14
    have he_15 : (r_10 : Int32) = 0 ∨ (r_10 : Int32) = 1 := he_15
    have he_16 : (r_10 : Int32) = xW9 ft (tq.T q_9.1 (wq + 1)) := he_16
    have he_17 : mQ (hwQ tq (wq + 1) q_9) a_11 ft := he_17
    obtain ⟨q_18, eq_18⟩ : ∃ x9 : Nat × Int32, x9 = hwQ tq (wq + 1) q_9 := ⟨_, rfl⟩
    rw [← eq_18] at he_17
    obtain ⟨hP1, hD1⟩ := hB
    rw [ht] at hP1
    obtain ⟨hP, hD⟩ := va_join (wr := []) (w1 := [(h0, .inr (5, [.int th, .ref Mtape, .int (nI tnq), .int (nI znq), .ref Msort, .ref Mplace, .ref Mvalue, .int (nI a_11), .int ft, .ref Mwords, .int (nI hdq), .int (nI nxq), .ref Mgoes, .ref MgoLine, .ref Mends, .ref MendLine, .ref Mkinds, .ref MisName, .int (nI mnq), .ref Mrow, .ref MbyHand, .ref Mleast, .ref Msecond, .ref MendAt, .ref MgoAt, .ref MnodeBehind, .int lE, .ref MisOut, .ref MfirstEnd, .ref MfirstGo])), (Msort, .inl (cI, 1602, .inl msort)), (Mplace, .inl (cI, 1602, .inl mplace)), (Mvalue, .inl (cJ, 1602, .inr (.inl mvalue))), (Mwords, .inl (cJ, 12, .inr (.inl mwords)))]) hP hD [0, 1, 2, 3, 4] [] rfl rfl (by decide) (by decide) hk1 hFc hP1 hD1
    generalize H1 = H at hP hS ⊢
    have hP : va_P (dC, dI) vwCl [(h0, .inr (5, [.int th, .ref Mtape, .int (nI tnq), .int (nI znq), .ref Msort, .ref Mplace, .ref Mvalue, .int (nI a_11), .int ft, .ref Mwords, .int (nI hdq), .int (nI nxq), .ref Mgoes, .ref MgoLine, .ref Mends, .ref MendLine, .ref Mkinds, .ref MisName, .int (nI mnq), .ref Mrow, .ref MbyHand, .ref Mleast, .ref Msecond, .ref MendAt, .ref MgoAt, .ref MnodeBehind, .int lE, .ref MisOut, .ref MfirstEnd, .ref MfirstGo])), (Msort, .inl (cI, 1602, .inl msort)), (Mplace, .inl (cI, 1602, .inl mplace)), (Mvalue, .inl (cJ, 1602, .inr (.inl mvalue))), (Mwords, .inl (cJ, 12, .inr (.inl mwords)))] H := hP
    have hD : va_D A [(h0, .inr (5, [.int th, .ref Mtape, .int (nI tnq), .int (nI znq), .ref Msort, .ref Mplace, .ref Mvalue, .int (nI a_11), .int ft, .ref Mwords, .int (nI hdq), .int (nI nxq), .ref Mgoes, .ref MgoLine, .ref Mends, .ref MendLine, .ref Mkinds, .ref MisName, .int (nI mnq), .ref Mrow, .ref MbyHand, .ref Mleast, .ref Msecond, .ref MendAt, .ref MgoAt, .ref MnodeBehind, .int lE, .ref MisOut, .ref MfirstEnd, .ref MfirstGo])), (Msort, .inl (cI, 1602, .inl msort)), (Mplace, .inl (cI, 1602, .inl mplace)), (Mvalue, .inl (cJ, 1602, .inr (.inl mvalue))), (Mwords, .inl (cJ, 12, .inr (.inl mwords)))] := hD
    have hR_2 := he_17
    have hX_1 := he_16
    have hI_2 := he_13
    rw [ez_1] at hX_1
    refine lv_if_eq (tgt := 19) hx hb dX5_takeOneOf_14 (by decide) (fun c_14_1 => ?_) (fun c_14_1 => ?_)
    · skip
      have ez_2 : q_18 = qs := by rw [eq_18, ez_1]; exact hwQ_no hR hX_1 c_14_1
      refine lv_iinc (v := 2) (lv' := [(2, .int 2), (0, .ref h0), (1, .int (nI wq))]) hx hb dX5_takeOneOf_19 hl (k := 0) rfl (by decide) (by decide) rfl (fun ls hl => ?_)
      refine lv_goto (tgt := 2) hx hb dX5_takeOneOf_22 (by decide) ?_
      refine lv_iload_n hx hb dX5_takeOneOf_2 rfl (lv_at hl 0 rfl) ?_
      refine lv_iconst (v := 3) hx hb dX5_takeOneOf_3 (by decide) ?_
      refine lv_icmp_ge (tgt := 25) hx hb dX5_takeOneOf_4 (by decide) (fun h9 => absurd h9 (by decide)) (fun _ => ?_)
      refine lv_aload_n hx hb dX5_takeOneOf_7 rfl (lv_at hl 1 rfl) ?_
      refine lv_iload_n hx hb dX5_takeOneOf_8 rfl (lv_at hl 2 rfl) ?_
      refine lv_iload_n hx hb dX5_takeOneOf_9 rfl (lv_at hl 0 rfl) ?_
      refine lv_iadd hx hb dX5_takeOneOf_10 ?_
      refine lv_topi (fun v_ ev_ => ?_)
      obtain rfl : v_ = (nI (wq + 2)) := ev_.trans (nI_add wq 2)
      have hPc := hP.sub (ws' := [(h0, .inr (5, [.int th, .ref Mtape, .int (nI tnq), .int (nI znq), .ref Msort, .ref Mplace, .ref Mvalue, .int (nI a_11), .int ft, .ref Mwords, .int (nI hdq), .int (nI nxq), .ref Mgoes, .ref MgoLine, .ref Mends, .ref MendLine, .ref Mkinds, .ref MisName, .int (nI mnq), .ref Mrow, .ref MbyHand, .ref Mleast, .ref Msecond, .ref MendAt, .ref MgoAt, .ref MnodeBehind, .int lE, .ref MisOut, .ref MfirstEnd, .ref MfirstGo])), (Msort, .inl (cI, 1602, .inl msort)), (Mplace, .inl (cI, 1602, .inl mplace)), (Mvalue, .inl (cJ, 1602, .inr (.inl mvalue))), (Mwords, .inl (cJ, 12, .inr (.inl mwords)))]) [0, 1, 2, 3, 4] rfl
      have hDc := hD.sub (ws' := [(h0, .inr (5, [.int th, .ref Mtape, .int (nI tnq), .int (nI znq), .ref Msort, .ref Mplace, .ref Mvalue, .int (nI a_11), .int ft, .ref Mwords, .int (nI hdq), .int (nI nxq), .ref Mgoes, .ref MgoLine, .ref Mends, .ref MendLine, .ref Mkinds, .ref MisName, .int (nI mnq), .ref Mrow, .ref MbyHand, .ref Mleast, .ref Msecond, .ref MendAt, .ref MgoAt, .ref MnodeBehind, .int lE, .ref MisOut, .ref MfirstEnd, .ref MfirstGo])), (Msort, .inl (cI, 1602, .inl msort)), (Mplace, .inl (cI, 1602, .inl mplace)), (Mvalue, .inl (cJ, 1602, .inr (.inl mvalue))), (Mwords, .inl (cJ, 12, .inr (.inl mwords)))]) [0, 1, 2, 3, 4] (by decide) rfl
      have hFc := va_free (wc := [(h0, .inr (5, [.int th, .ref Mtape, .int (nI tnq), .int (nI znq), .ref Msort, .ref Mplace, .ref Mvalue, .int (nI a_11), .int ft, .ref Mwords, .int (nI hdq), .int (nI nxq), .ref Mgoes, .ref MgoLine, .ref Mends, .ref MendLine, .ref Mkinds, .ref MisName, .int (nI mnq), .ref Mrow, .ref MbyHand, .ref Mleast, .ref Msecond, .ref MendAt, .ref MgoAt, .ref MnodeBehind, .int lE, .ref MisOut, .ref MfirstEnd, .ref MfirstGo])), (Msort, .inl (cI, 1602, .inl msort)), (Mplace, .inl (cI, 1602, .inl mplace)), (Mvalue, .inl (cJ, 1602, .inr (.inl mvalue))), (Mwords, .inl (cJ, 12, .inr (.inl mwords)))]) hD hS hA [0, 1, 2, 3, 4] rfl
      refine va_calli (va_runV (As := [.int (nI (wq + 2))]) (rest := []) ⟨hx, hb, hml, hown, hts⟩ (k_hasWord l dC dI cI cZ cC cJ H.size  h0 th Mtape tnq znq Msort Mplace Mvalue a_11 ft Mwords hdq nxq Mgoes MgoLine Mends MendLine Mkinds MisName mnq Mrow MbyHand Mleast Msecond MendAt MgoAt MnodeBehind lE MisOut MfirstEnd MfirstGo msort mplace mvalue mwords (wq + 2) ntq tq q_18 (by first | assumption | decide | omega) hI_2 (by omega) (by first | assumption | decide | omega) (by first | assumption | decide | omega) he_17) (cwV 1 hts gX5_takeOneOf_X5_hasWord rfl rfl rfl (by decide +kernel) ⟨Nat.le_of_ble_eq_true rfl, Nat.le_of_ble_eq_true rfl⟩) ⟨sPre_blind, va_recv hK hPc (ci := 5) (q0 := 0) rfl rfl, fun U hU hW => ⟨rfl, sPre_ok hsk hPc hDc hU hW⟩⟩ rfl rfl hl.1 rfl (lv_room (Nat.le_of_ble_eq_true rfl)) dX5_takeOneOf_11 ⟨(show 0 + 0 ≤ 0 by omega), (show 0 + 0 ≤ 0 by omega)⟩) hS (fun q _ h => hFc q h) hFc (fun r_19 u t H1 locs ht hvm hw hB hz1 hk1 hS => ?_)
      obtain ⟨a_20, rfl⟩ : ∃ z, z = u := ⟨_, rfl⟩
      try dsimp only at hw hB
      obtain ⟨he_21, he_22, he_23, he_24, he_25, he_26⟩ := hw
      have he_21 : ((r_19 : Int32) = 0 ∧ a_20 = a_11) ∨ (ft = 0 ∧ a_11 < ntq ∧ a_20 = a_11 + 1) := he_21
      have he_22 : pI ntq a_20 ft := he_22
      have he_23 : a_11 ≤ a_20 := he_23
      have he_24 : (r_19 : Int32) = 0 ∨ (r_19 : Int32) = 1 := he_24
      have he_25 : (r_19 : Int32) = xW9 ft (tq.T q_18.1 (wq + 2)) := he_25
      have he_26 : mQ (hwQ tq (wq + 2) q_18) a_20 ft := he_26
      obtain ⟨q_27, eq_27⟩ : ∃ x9 : Nat × Int32, x9 = hwQ tq (wq + 2) q_18 := ⟨_, rfl⟩
      rw [← eq_27] at he_26
      obtain ⟨hP1, hD1⟩ := hB
      rw [ht] at hP1
      obtain ⟨hP, hD⟩ := va_join (wr := []) (w1 := [(h0, .inr (5, [.int th, .ref Mtape, .int (nI tnq), .int (nI znq), .ref Msort, .ref Mplace, .ref Mvalue, .int (nI a_20), .int ft, .ref Mwords, .int (nI hdq), .int (nI nxq), .ref Mgoes, .ref MgoLine, .ref Mends, .ref MendLine, .ref Mkinds, .ref MisName, .int (nI mnq), .ref Mrow, .ref MbyHand, .ref Mleast, .ref Msecond, .ref MendAt, .ref MgoAt, .ref MnodeBehind, .int lE, .ref MisOut, .ref MfirstEnd, .ref MfirstGo])), (Msort, .inl (cI, 1602, .inl msort)), (Mplace, .inl (cI, 1602, .inl mplace)), (Mvalue, .inl (cJ, 1602, .inr (.inl mvalue))), (Mwords, .inl (cJ, 12, .inr (.inl mwords)))]) hP hD [0, 1, 2, 3, 4] [] rfl rfl (by decide) (by decide) hk1 hFc hP1 hD1
      generalize H1 = H at hP hS ⊢
      have hP : va_P (dC, dI) vwCl [(h0, .inr (5, [.int th, .ref Mtape, .int (nI tnq), .int (nI znq), .ref Msort, .ref Mplace, .ref Mvalue, .int (nI a_20), .int ft, .ref Mwords, .int (nI hdq), .int (nI nxq), .ref Mgoes, .ref MgoLine, .ref Mends, .ref MendLine, .ref Mkinds, .ref MisName, .int (nI mnq), .ref Mrow, .ref MbyHand, .ref Mleast, .ref Msecond, .ref MendAt, .ref MgoAt, .ref MnodeBehind, .int lE, .ref MisOut, .ref MfirstEnd, .ref MfirstGo])), (Msort, .inl (cI, 1602, .inl msort)), (Mplace, .inl (cI, 1602, .inl mplace)), (Mvalue, .inl (cJ, 1602, .inr (.inl mvalue))), (Mwords, .inl (cJ, 12, .inr (.inl mwords)))] H := hP
      have hD : va_D A [(h0, .inr (5, [.int th, .ref Mtape, .int (nI tnq), .int (nI znq), .ref Msort, .ref Mplace, .ref Mvalue, .int (nI a_20), .int ft, .ref Mwords, .int (nI hdq), .int (nI nxq), .ref Mgoes, .ref MgoLine, .ref Mends, .ref MendLine, .ref Mkinds, .ref MisName, .int (nI mnq), .ref Mrow, .ref MbyHand, .ref Mleast, .ref Msecond, .ref MendAt, .ref MgoAt, .ref MnodeBehind, .int lE, .ref MisOut, .ref MfirstEnd, .ref MfirstGo])), (Msort, .inl (cI, 1602, .inl msort)), (Mplace, .inl (cI, 1602, .inl mplace)), (Mvalue, .inl (cJ, 1602, .inr (.inl mvalue))), (Mwords, .inl (cJ, 12, .inr (.inl mwords)))] := hD
      have hR_3 := he_26
      have hX_2 := he_25
      have hI_3 := he_22
      rw [ez_2] at hX_2
      refine lv_if_eq (tgt := 19) hx hb dX5_takeOneOf_14 (by decide) (fun c_14_2 => ?_) (fun c_14_2 => ?_)
      · skip
        have ez_3 : q_27 = qs := by rw [eq_27, ez_2]; exact hwQ_no hR hX_2 c_14_2
        refine lv_iinc (v := 3) (lv' := [(2, .int 3), (0, .ref h0), (1, .int (nI wq))]) hx hb dX5_takeOneOf_19 hl (k := 0) rfl (by decide) (by decide) rfl (fun ls hl => ?_)
        refine lv_goto (tgt := 2) hx hb dX5_takeOneOf_22 (by decide) ?_
        refine lv_iload_n hx hb dX5_takeOneOf_2 rfl (lv_at hl 0 rfl) ?_
        refine lv_iconst (v := 3) hx hb dX5_takeOneOf_3 (by decide) ?_
        refine lv_icmp_ge (tgt := 25) hx hb dX5_takeOneOf_4 (by decide) (fun _ => ?_) (fun h9 => absurd (by decide) h9)
        refine lv_aload_n hx hb dX5_takeOneOf_25 rfl (lv_at hl 1 rfl) ?_
        refine va_get (D := (dC, dI)) (ci := 5) (v := .int ft) (C := RX5) (T := TX5) (N := 30) hx hb hts i5 hown hK hP 0 rfl rfl 8 (by decide) (hts (.fieldLink RX5 136 "StopSetterModel" "fault" "I") (by decide +kernel)) (fun _ h9 => h9) rfl dX5_takeOneOf_26 ?_
        refine lv_if_ne (tgt := 37) hx hb dX5_takeOneOf_29 (by decide) (fun c_29 => ?_) (fun c_29 => ?_)
        · skip
          refine lv_iconst (v := 0) hx hb dX5_takeOneOf_37 (by decide) ?_
          have hP9 := hP.sub (ws' := [(h0, .inr (5, [.int th, .ref Mtape, .int (nI tnq), .int (nI znq), .ref Msort, .ref Mplace, .ref Mvalue, .int (nI a_20), .int ft, .ref Mwords, .int (nI hdq), .int (nI nxq), .ref Mgoes, .ref MgoLine, .ref Mends, .ref MendLine, .ref Mkinds, .ref MisName, .int (nI mnq), .ref Mrow, .ref MbyHand, .ref Mleast, .ref Msecond, .ref MendAt, .ref MgoAt, .ref MnodeBehind, .int lE, .ref MisOut, .ref MfirstEnd, .ref MfirstGo])), (Msort, .inl (cI, 1602, .inl msort)), (Mplace, .inl (cI, 1602, .inl mplace)), (Mvalue, .inl (cJ, 1602, .inr (.inl mvalue))), (Mwords, .inl (cJ, 12, .inr (.inl mwords)))]) [0, 1, 2, 3, 4] rfl
          have hD9 := hD.sub (ws' := [(h0, .inr (5, [.int th, .ref Mtape, .int (nI tnq), .int (nI znq), .ref Msort, .ref Mplace, .ref Mvalue, .int (nI a_20), .int ft, .ref Mwords, .int (nI hdq), .int (nI nxq), .ref Mgoes, .ref MgoLine, .ref Mends, .ref MendLine, .ref Mkinds, .ref MisName, .int (nI mnq), .ref Mrow, .ref MbyHand, .ref Mleast, .ref Msecond, .ref MendAt, .ref MgoAt, .ref MnodeBehind, .int lE, .ref MisOut, .ref MfirstEnd, .ref MfirstGo])), (Msort, .inl (cI, 1602, .inl msort)), (Mplace, .inl (cI, 1602, .inl mplace)), (Mvalue, .inl (cJ, 1602, .inr (.inl mvalue))), (Mwords, .inl (cJ, 12, .inr (.inl mwords)))]) [0, 1, 2, 3, 4] (by decide) rfl
          have hens0 : pI ntq a_20 ft := (by first | exact Or.inr (by assumption) | assumption)
          have hens1 : anq ≤ a_20 := (by omega)
          have hens2 : mQ (stM tq wq qs) a_20 ft := (mQ_of hR_3 (by rw [ez_3]; exact stM_keep (fun z => c_29 (hR.1.trans z))))
          have hens3 : ft = 0 → ¬ mkV tq wq qs.1 = 0 ∧ (0 : Int32) = nI (mkV tq wq qs.1 - 1) := (fun z => absurd z c_29)
          exact W.iret (v := 0) hx hb hr (fun t ht hW => ⟨⟨0, (a_20, ft), rfl, ⟨hens0, hens1, hens2, hens3⟩, by rw [ht]; exact hP9, hD9⟩, hS.F ht⟩) hS.2.2 dX5_takeOneOf_38
        · skip
          refine lv_aload_n hx hb dX5_takeOneOf_32 rfl (lv_at hl 1 rfl) ?_
          refine lv_iconst (v := 1) hx hb dX5_takeOneOf_33 (by decide) ?_
          have hPc := hP.sub (ws' := [(h0, .inr (5, [.int th, .ref Mtape, .int (nI tnq), .int (nI znq), .ref Msort, .ref Mplace, .ref Mvalue, .int (nI a_20), .int ft, .ref Mwords, .int (nI hdq), .int (nI nxq), .ref Mgoes, .ref MgoLine, .ref Mends, .ref MendLine, .ref Mkinds, .ref MisName, .int (nI mnq), .ref Mrow, .ref MbyHand, .ref Mleast, .ref Msecond, .ref MendAt, .ref MgoAt, .ref MnodeBehind, .int lE, .ref MisOut, .ref MfirstEnd, .ref MfirstGo])), (Msort, .inl (cI, 1602, .inl msort)), (Mplace, .inl (cI, 1602, .inl mplace))]) [0, 1, 2] rfl
          have hDc := hD.sub (ws' := [(h0, .inr (5, [.int th, .ref Mtape, .int (nI tnq), .int (nI znq), .ref Msort, .ref Mplace, .ref Mvalue, .int (nI a_20), .int ft, .ref Mwords, .int (nI hdq), .int (nI nxq), .ref Mgoes, .ref MgoLine, .ref Mends, .ref MendLine, .ref Mkinds, .ref MisName, .int (nI mnq), .ref Mrow, .ref MbyHand, .ref Mleast, .ref Msecond, .ref MendAt, .ref MgoAt, .ref MnodeBehind, .int lE, .ref MisOut, .ref MfirstEnd, .ref MfirstGo])), (Msort, .inl (cI, 1602, .inl msort)), (Mplace, .inl (cI, 1602, .inl mplace))]) [0, 1, 2] (by decide) rfl
          have hFc := va_free (wc := [(h0, .inr (5, [.int th, .ref Mtape, .int (nI tnq), .int (nI znq), .ref Msort, .ref Mplace, .ref Mvalue, .int (nI a_20), .int ft, .ref Mwords, .int (nI hdq), .int (nI nxq), .ref Mgoes, .ref MgoLine, .ref Mends, .ref MendLine, .ref Mkinds, .ref MisName, .int (nI mnq), .ref Mrow, .ref MbyHand, .ref Mleast, .ref Msecond, .ref MendAt, .ref MgoAt, .ref MnodeBehind, .int lE, .ref MisOut, .ref MfirstEnd, .ref MfirstGo])), (Msort, .inl (cI, 1602, .inl msort)), (Mplace, .inl (cI, 1602, .inl mplace))]) hD hS hA [0, 1, 2] rfl
          refine va_callv (va_runV (As := [.int 1]) (rest := []) ⟨hx, hb, hml, hown, hts⟩ (k_wrong l dC dI cI cZ cC cJ H.size  h0 th Mtape tnq znq Msort Mplace Mvalue a_20 ft Mwords hdq nxq Mgoes MgoLine Mends MendLine Mkinds MisName mnq Mrow MbyHand Mleast Msecond MendAt MgoAt MnodeBehind lE MisOut MfirstEnd MfirstGo msort mplace 1 ntq tq q_27 (by first | assumption | decide | omega) hI_3 (by first | assumption | decide | omega) (by first | assumption | decide | omega) (by first | assumption | decide | omega) hR_3) (cwV 1 hts gX5_takeOneOf_X5_wrong rfl rfl rfl (by decide +kernel) ⟨Nat.le_of_ble_eq_true rfl, Nat.le_of_ble_eq_true rfl⟩) ⟨sPre_blind, va_recv hK hPc (ci := 5) (q0 := 0) rfl rfl, fun U hU hW => ⟨rfl, sPre_ok hsk hPc hDc hU hW⟩⟩ rfl rfl hl.1 rfl (lv_room (Nat.le_of_ble_eq_true rfl)) dX5_takeOneOf_34 ⟨(show 0 + 0 ≤ 0 by omega), (show 0 + 0 ≤ 0 by omega)⟩) hS (fun q _ h => hFc q h) hFc (fun u t H1 locs ht hvm hw hB hz1 hk1 hS => ?_)
          obtain ⟨f_29, rfl⟩ : ∃ z, z = u := ⟨_, rfl⟩
          try dsimp only at hw hB
          obtain ⟨he_30, he_31⟩ := hw
          have he_30 : 0 < f_29 := he_30
          have he_31 : mQ (stR tq 1 q_27) a_20 f_29 := he_31
          obtain ⟨q_32, eq_32⟩ : ∃ x9 : Nat × Int32, x9 = stR tq 1 q_27 := ⟨_, rfl⟩
          rw [← eq_32] at he_31
          obtain ⟨hP1, hD1⟩ := hB
          rw [ht] at hP1
          obtain ⟨hP, hD⟩ := va_join (wr := [(Mvalue, .inl (cJ, 1602, .inr (.inl mvalue))), (Mwords, .inl (cJ, 12, .inr (.inl mwords)))]) (w1 := [(h0, .inr (5, [.int th, .ref Mtape, .int (nI tnq), .int (nI znq), .ref Msort, .ref Mplace, .ref Mvalue, .int (nI a_20), .int f_29, .ref Mwords, .int (nI hdq), .int (nI nxq), .ref Mgoes, .ref MgoLine, .ref Mends, .ref MendLine, .ref Mkinds, .ref MisName, .int (nI mnq), .ref Mrow, .ref MbyHand, .ref Mleast, .ref Msecond, .ref MendAt, .ref MgoAt, .ref MnodeBehind, .int lE, .ref MisOut, .ref MfirstEnd, .ref MfirstGo])), (Msort, .inl (cI, 1602, .inl msort)), (Mplace, .inl (cI, 1602, .inl mplace))]) hP hD [0, 1, 2] [3, 4] rfl rfl (by decide) (by decide) hk1 hFc hP1 hD1
          generalize H1 = H at hP hS ⊢
          have hP : va_P (dC, dI) vwCl [(Mvalue, .inl (cJ, 1602, .inr (.inl mvalue))), (Mwords, .inl (cJ, 12, .inr (.inl mwords))), (h0, .inr (5, [.int th, .ref Mtape, .int (nI tnq), .int (nI znq), .ref Msort, .ref Mplace, .ref Mvalue, .int (nI a_20), .int f_29, .ref Mwords, .int (nI hdq), .int (nI nxq), .ref Mgoes, .ref MgoLine, .ref Mends, .ref MendLine, .ref Mkinds, .ref MisName, .int (nI mnq), .ref Mrow, .ref MbyHand, .ref Mleast, .ref Msecond, .ref MendAt, .ref MgoAt, .ref MnodeBehind, .int lE, .ref MisOut, .ref MfirstEnd, .ref MfirstGo])), (Msort, .inl (cI, 1602, .inl msort)), (Mplace, .inl (cI, 1602, .inl mplace))] H := hP
          have hD : va_D A [(Mvalue, .inl (cJ, 1602, .inr (.inl mvalue))), (Mwords, .inl (cJ, 12, .inr (.inl mwords))), (h0, .inr (5, [.int th, .ref Mtape, .int (nI tnq), .int (nI znq), .ref Msort, .ref Mplace, .ref Mvalue, .int (nI a_20), .int f_29, .ref Mwords, .int (nI hdq), .int (nI nxq), .ref Mgoes, .ref MgoLine, .ref Mends, .ref MendLine, .ref Mkinds, .ref MisName, .int (nI mnq), .ref Mrow, .ref MbyHand, .ref Mleast, .ref Msecond, .ref MendAt, .ref MgoAt, .ref MnodeBehind, .int lE, .ref MisOut, .ref MfirstEnd, .ref MfirstGo])), (Msort, .inl (cI, 1602, .inl msort)), (Mplace, .inl (cI, 1602, .inl mplace))] := hD
          refine lv_iconst (v := 0) hx hb dX5_takeOneOf_37 (by decide) ?_
          have hP9 := hP.sub (ws' := [(h0, .inr (5, [.int th, .ref Mtape, .int (nI tnq), .int (nI znq), .ref Msort, .ref Mplace, .ref Mvalue, .int (nI a_20), .int f_29, .ref Mwords, .int (nI hdq), .int (nI nxq), .ref Mgoes, .ref MgoLine, .ref Mends, .ref MendLine, .ref Mkinds, .ref MisName, .int (nI mnq), .ref Mrow, .ref MbyHand, .ref Mleast, .ref Msecond, .ref MendAt, .ref MgoAt, .ref MnodeBehind, .int lE, .ref MisOut, .ref MfirstEnd, .ref MfirstGo])), (Msort, .inl (cI, 1602, .inl msort)), (Mplace, .inl (cI, 1602, .inl mplace)), (Mvalue, .inl (cJ, 1602, .inr (.inl mvalue))), (Mwords, .inl (cJ, 12, .inr (.inl mwords)))]) [2, 3, 4, 0, 1] rfl
          have hD9 := hD.sub (ws' := [(h0, .inr (5, [.int th, .ref Mtape, .int (nI tnq), .int (nI znq), .ref Msort, .ref Mplace, .ref Mvalue, .int (nI a_20), .int f_29, .ref Mwords, .int (nI hdq), .int (nI nxq), .ref Mgoes, .ref MgoLine, .ref Mends, .ref MendLine, .ref Mkinds, .ref MisName, .int (nI mnq), .ref Mrow, .ref MbyHand, .ref Mleast, .ref Msecond, .ref MendAt, .ref MgoAt, .ref MnodeBehind, .int lE, .ref MisOut, .ref MfirstEnd, .ref MfirstGo])), (Msort, .inl (cI, 1602, .inl msort)), (Mplace, .inl (cI, 1602, .inl mplace)), (Mvalue, .inl (cJ, 1602, .inr (.inl mvalue))), (Mwords, .inl (cJ, 12, .inr (.inl mwords)))]) [2, 3, 4, 0, 1] (by decide) rfl
          have hens0 : pI ntq a_20 f_29 := (by first | exact Or.inr (by assumption) | assumption)
          have hens1 : anq ≤ a_20 := (by omega)
          have hens2 : mQ (stM tq wq qs) a_20 f_29 := (mQ_of he_31 (by rw [eq_32, ez_3]; exact stM_none (fun _ => (mkV_n (i := wq) (xW_n hX_0 c_14_0 c_29) (xW_n hX_1 c_14_1 c_29) (xW_n hX_2 c_14_2 c_29)))))
          have hens3 : f_29 = 0 → ¬ mkV tq wq qs.1 = 0 ∧ (0 : Int32) = nI (mkV tq wq qs.1 - 1) := (fun z => absurd z (pos_ne he_30))
          exact W.iret (v := 0) hx hb hr (fun t ht hW => ⟨⟨0, (a_20, f_29), rfl, ⟨hens0, hens1, hens2, hens3⟩, by rw [ht]; exact hP9, hD9⟩, hS.F ht⟩) hS.2.2 dX5_takeOneOf_38
      · skip
        refine lv_iload_n hx hb dX5_takeOneOf_17 rfl (lv_at hl 0 rfl) ?_
        have hP9 := hP.sub (ws' := [(h0, .inr (5, [.int th, .ref Mtape, .int (nI tnq), .int (nI znq), .ref Msort, .ref Mplace, .ref Mvalue, .int (nI a_20), .int ft, .ref Mwords, .int (nI hdq), .int (nI nxq), .ref Mgoes, .ref MgoLine, .ref Mends, .ref MendLine, .ref Mkinds, .ref MisName, .int (nI mnq), .ref Mrow, .ref MbyHand, .ref Mleast, .ref Msecond, .ref MendAt, .ref MgoAt, .ref MnodeBehind, .int lE, .ref MisOut, .ref MfirstEnd, .ref MfirstGo])), (Msort, .inl (cI, 1602, .inl msort)), (Mplace, .inl (cI, 1602, .inl mplace)), (Mvalue, .inl (cJ, 1602, .inr (.inl mvalue))), (Mwords, .inl (cJ, 12, .inr (.inl mwords)))]) [0, 1, 2, 3, 4] rfl
        have hD9 := hD.sub (ws' := [(h0, .inr (5, [.int th, .ref Mtape, .int (nI tnq), .int (nI znq), .ref Msort, .ref Mplace, .ref Mvalue, .int (nI a_20), .int ft, .ref Mwords, .int (nI hdq), .int (nI nxq), .ref Mgoes, .ref MgoLine, .ref Mends, .ref MendLine, .ref Mkinds, .ref MisName, .int (nI mnq), .ref Mrow, .ref MbyHand, .ref Mleast, .ref Msecond, .ref MendAt, .ref MgoAt, .ref MnodeBehind, .int lE, .ref MisOut, .ref MfirstEnd, .ref MfirstGo])), (Msort, .inl (cI, 1602, .inl msort)), (Mplace, .inl (cI, 1602, .inl mplace)), (Mvalue, .inl (cJ, 1602, .inr (.inl mvalue))), (Mwords, .inl (cJ, 12, .inr (.inl mwords)))]) [0, 1, 2, 3, 4] (by decide) rfl
        have hens0 : pI ntq a_20 ft := (by first | exact Or.inr (by assumption) | assumption)
        have hens1 : anq ≤ a_20 := (by omega)
        have hens2 : mQ (stM tq wq qs) a_20 ft := (mQ_of hR_3 (by rw [eq_27, ez_2]; exact (hwQ_yes hR hX_2 c_14_2).1.trans (stM_yes (hwQ_yes hR hX_2 c_14_2).2.1 (mkV_3 (i := wq) (xW_n hX_0 c_14_0 (hR.1.trans (hwQ_yes hR hX_2 c_14_2).2.1)) (xW_n hX_1 c_14_1 (hR.1.trans (hwQ_yes hR hX_2 c_14_2).2.1)) (hwQ_yes hR hX_2 c_14_2).2.2) (by decide) (by decide))))
        have hens3 : ft = 0 → ¬ mkV tq wq qs.1 = 0 ∧ (2 : Int32) = nI (mkV tq wq qs.1 - 1) := (fun _ => ⟨by rw [(mkV_3 (i := wq) (xW_n hX_0 c_14_0 (hR.1.trans (hwQ_yes hR hX_2 c_14_2).2.1)) (xW_n hX_1 c_14_1 (hR.1.trans (hwQ_yes hR hX_2 c_14_2).2.1)) (hwQ_yes hR hX_2 c_14_2).2.2)]; decide, by rw [(mkV_3 (i := wq) (xW_n hX_0 c_14_0 (hR.1.trans (hwQ_yes hR hX_2 c_14_2).2.1)) (xW_n hX_1 c_14_1 (hR.1.trans (hwQ_yes hR hX_2 c_14_2).2.1)) (hwQ_yes hR hX_2 c_14_2).2.2)]; rfl⟩)
        exact W.iret (v := 2) hx hb hr (fun t ht hW => ⟨⟨2, (a_20, ft), rfl, ⟨hens0, hens1, hens2, hens3⟩, by rw [ht]; exact hP9, hD9⟩, hS.F ht⟩) hS.2.2 dX5_takeOneOf_18
    · skip
      refine lv_iload_n hx hb dX5_takeOneOf_17 rfl (lv_at hl 0 rfl) ?_
      have hP9 := hP.sub (ws' := [(h0, .inr (5, [.int th, .ref Mtape, .int (nI tnq), .int (nI znq), .ref Msort, .ref Mplace, .ref Mvalue, .int (nI a_11), .int ft, .ref Mwords, .int (nI hdq), .int (nI nxq), .ref Mgoes, .ref MgoLine, .ref Mends, .ref MendLine, .ref Mkinds, .ref MisName, .int (nI mnq), .ref Mrow, .ref MbyHand, .ref Mleast, .ref Msecond, .ref MendAt, .ref MgoAt, .ref MnodeBehind, .int lE, .ref MisOut, .ref MfirstEnd, .ref MfirstGo])), (Msort, .inl (cI, 1602, .inl msort)), (Mplace, .inl (cI, 1602, .inl mplace)), (Mvalue, .inl (cJ, 1602, .inr (.inl mvalue))), (Mwords, .inl (cJ, 12, .inr (.inl mwords)))]) [0, 1, 2, 3, 4] rfl
      have hD9 := hD.sub (ws' := [(h0, .inr (5, [.int th, .ref Mtape, .int (nI tnq), .int (nI znq), .ref Msort, .ref Mplace, .ref Mvalue, .int (nI a_11), .int ft, .ref Mwords, .int (nI hdq), .int (nI nxq), .ref Mgoes, .ref MgoLine, .ref Mends, .ref MendLine, .ref Mkinds, .ref MisName, .int (nI mnq), .ref Mrow, .ref MbyHand, .ref Mleast, .ref Msecond, .ref MendAt, .ref MgoAt, .ref MnodeBehind, .int lE, .ref MisOut, .ref MfirstEnd, .ref MfirstGo])), (Msort, .inl (cI, 1602, .inl msort)), (Mplace, .inl (cI, 1602, .inl mplace)), (Mvalue, .inl (cJ, 1602, .inr (.inl mvalue))), (Mwords, .inl (cJ, 12, .inr (.inl mwords)))]) [0, 1, 2, 3, 4] (by decide) rfl
      have hens0 : pI ntq a_11 ft := (by first | exact Or.inr (by assumption) | assumption)
      have hens1 : anq ≤ a_11 := (by omega)
      have hens2 : mQ (stM tq wq qs) a_11 ft := (mQ_of hR_2 (by rw [eq_18, ez_1]; exact (hwQ_yes hR hX_1 c_14_1).1.trans (stM_yes (hwQ_yes hR hX_1 c_14_1).2.1 (mkV_2 (i := wq) (xW_n hX_0 c_14_0 (hR.1.trans (hwQ_yes hR hX_1 c_14_1).2.1)) (hwQ_yes hR hX_1 c_14_1).2.2) (by decide) (by decide))))
      have hens3 : ft = 0 → ¬ mkV tq wq qs.1 = 0 ∧ (1 : Int32) = nI (mkV tq wq qs.1 - 1) := (fun _ => ⟨by rw [(mkV_2 (i := wq) (xW_n hX_0 c_14_0 (hR.1.trans (hwQ_yes hR hX_1 c_14_1).2.1)) (hwQ_yes hR hX_1 c_14_1).2.2)]; decide, by rw [(mkV_2 (i := wq) (xW_n hX_0 c_14_0 (hR.1.trans (hwQ_yes hR hX_1 c_14_1).2.1)) (hwQ_yes hR hX_1 c_14_1).2.2)]; rfl⟩)
      exact W.iret (v := 1) hx hb hr (fun t ht hW => ⟨⟨1, (a_11, ft), rfl, ⟨hens0, hens1, hens2, hens3⟩, by rw [ht]; exact hP9, hD9⟩, hS.F ht⟩) hS.2.2 dX5_takeOneOf_18
  · skip
    refine lv_iload_n hx hb dX5_takeOneOf_17 rfl (lv_at hl 0 rfl) ?_
    have hP9 := hP.sub (ws' := [(h0, .inr (5, [.int th, .ref Mtape, .int (nI tnq), .int (nI znq), .ref Msort, .ref Mplace, .ref Mvalue, .int (nI a_2), .int ft, .ref Mwords, .int (nI hdq), .int (nI nxq), .ref Mgoes, .ref MgoLine, .ref Mends, .ref MendLine, .ref Mkinds, .ref MisName, .int (nI mnq), .ref Mrow, .ref MbyHand, .ref Mleast, .ref Msecond, .ref MendAt, .ref MgoAt, .ref MnodeBehind, .int lE, .ref MisOut, .ref MfirstEnd, .ref MfirstGo])), (Msort, .inl (cI, 1602, .inl msort)), (Mplace, .inl (cI, 1602, .inl mplace)), (Mvalue, .inl (cJ, 1602, .inr (.inl mvalue))), (Mwords, .inl (cJ, 12, .inr (.inl mwords)))]) [0, 1, 2, 3, 4] rfl
    have hD9 := hD.sub (ws' := [(h0, .inr (5, [.int th, .ref Mtape, .int (nI tnq), .int (nI znq), .ref Msort, .ref Mplace, .ref Mvalue, .int (nI a_2), .int ft, .ref Mwords, .int (nI hdq), .int (nI nxq), .ref Mgoes, .ref MgoLine, .ref Mends, .ref MendLine, .ref Mkinds, .ref MisName, .int (nI mnq), .ref Mrow, .ref MbyHand, .ref Mleast, .ref Msecond, .ref MendAt, .ref MgoAt, .ref MnodeBehind, .int lE, .ref MisOut, .ref MfirstEnd, .ref MfirstGo])), (Msort, .inl (cI, 1602, .inl msort)), (Mplace, .inl (cI, 1602, .inl mplace)), (Mvalue, .inl (cJ, 1602, .inr (.inl mvalue))), (Mwords, .inl (cJ, 12, .inr (.inl mwords)))]) [0, 1, 2, 3, 4] (by decide) rfl
    have hens0 : pI ntq a_2 ft := (by first | exact Or.inr (by assumption) | assumption)
    have hens1 : anq ≤ a_2 := (by omega)
    have hens2 : mQ (stM tq wq qs) a_2 ft := (mQ_of hR_1 (by rw [eq_9]; exact (hwQ_yes hR hX_0 c_14_0).1.trans (stM_yes (hwQ_yes hR hX_0 c_14_0).2.1 (mkV_1 (i := wq) (hwQ_yes hR hX_0 c_14_0).2.2) (by decide) (by decide))))
    have hens3 : ft = 0 → ¬ mkV tq wq qs.1 = 0 ∧ (0 : Int32) = nI (mkV tq wq qs.1 - 1) := (fun _ => ⟨by rw [(mkV_1 (i := wq) (hwQ_yes hR hX_0 c_14_0).2.2)]; decide, by rw [(mkV_1 (i := wq) (hwQ_yes hR hX_0 c_14_0).2.2)]; rfl⟩)
    exact W.iret (v := 0) hx hb hr (fun t ht hW => ⟨⟨0, (a_2, ft), rfl, ⟨hens0, hens1, hens2, hens3⟩, by rw [ht]; exact hP9, hD9⟩, hS.F ht⟩) hS.2.2 dX5_takeOneOf_18


def rName (w : Int32) : Int32 := if isW w = 0 then 0 else 1
def rWord (w : Int32) : Int32 := if isW w = 0 then (-1) else 1
def rCount (w : Int32) : Int32 := if w = 0 then 0 else if w = 1 then 0 else if w = 2 then 0 else if w = 3 then 0 else if w = 4 then 0 else (-1)
theorem nk_lt {k N : Nat} {x : Int32} (hx : x = nI N) (h : ¬ x ≤ nI k) (hk : k < 2 ^ 31) : k < N := by
  rcases Nat.lt_or_ge k N with q | q
  · exact q
  · exact absurd (by rw [hx]; exact nI_le q hk) h
theorem upd_zero (k : Nat) : upd (fun _ => 0) k (vp_nar .boolean 0) = (fun _ => (0 : Int32)) := by
  funext j
  unfold upd
  split
  · decide
  · rfl
set_option maxHeartbeats 4000000 in
set_option maxRecDepth 100000 in
theorem k_name (l : Launch) (dC : Nat → ClassId) (dI : Nat → Nat → Nat) (cI cZ cC cJ : ClassId) (sz : Nat) (h0 : Nat) (kO : Nat) (nO : Nat) (rO : Nat) (mO : Nat) (tO : Nat) (rdO : Nat) (lnO : Nat) (drO : Nat) (chO : Nat) (fn : Nat → Int32) (p0 : Int32) (p1 : Int32)  : Met l yX4_name wsX4_name ({ frames := 1, cells := 0, slots := 0, locals := 20 }) (va_Pc [.ref h0, .int p0, .int p1] (sPre dC dI cI cZ cC cJ [(h0, .inr (4, [.ref kO, .ref nO, .ref rO, .ref mO, .int 0, .ref tO, .ref rdO, .ref lnO, .ref drO, .ref chO])), (nO, .inl (cZ, 100, .inl fn))] sz)) (va_Qi (fun (r : Int32) (u : Unit) => r = rName p0) (fun _ => sB dC dI (va_A [(h0, .inr (4, [.ref kO, .ref nO, .ref rO, .ref mO, .int 0, .ref tO, .ref rdO, .ref lnO, .ref drO, .ref chO])), (nO, .inl (cZ, 100, .inl fn))] sz) []) (va_A [(h0, .inr (4, [.ref kO, .ref nO, .ref rO, .ref mO, .int 0, .ref tO, .ref rdO, .ref lnO, .ref drO, .ref chO])), (nO, .inl (cZ, 100, .inl fn))] sz)) 0 0 (va_A [(h0, .inr (4, [.ref kO, .ref nO, .ref rO, .ref mO, .int 0, .ref tO, .ref rdO, .ref lnO, .ref drO, .ref chO])), (nO, .inl (cZ, 100, .inl fn))] sz) := by
  refine Met.ofW (cc := cX4_name) (maxL := 3) (ret := (some .boolean)) (by decide) rfl ?_
  intro p e s m args below meth c s₁ B hml hv
  obtain ⟨rfl, hsz, hP, hsk, hD0⟩ := hv
  have hx := B.exec
  have hb := B.bytes
  have hr := B.returns
  have hts := atoms_spec (ws := wsX4_name) B.pre
  have hown : s.vm.findClass RX4 = some m.cls := findClass_of_methodNamed B.named
  have hlocks := B.notSynchronized
  have hK := hsk.1
  have i4 : ∀ w ∈ wsX40, w ∈ wsX4_name := by decide +kernel
  subst hsz
  have hD := hD0.self (sz := s.heap.size)
  generalize hAe : va_A [(h0, .inr (4, [.ref kO, .ref nO, .ref rO, .ref mO, .int 0, .ref tO, .ref rdO, .ref lnO, .ref drO, .ref chO])), (nO, .inl (cZ, 100, .inl fn))] s.heap.size = A at hD ⊢
  have hA : ∀ q : Nat, s.heap.size ≤ q → A q := fun q h => by rw [← hAe]; exact Or.inr h
  have hS : va_S A s.heap s.heap [] := va_S.rf
  have hl := lv_entry ([.ref h0, .int p0, .int p1]) (n := 3) (Nat.le_of_ble_eq_true rfl)
  rw [lg_entry_eq]
  generalize (lg_sl ([.ref h0, .int p0, .int p1]) ++ List.replicate (3 - (lg_sl ([.ref h0, .int p0, .int p1])).length) Slot.unset).toArray = ls at hl ⊢
  have hl : lv_has ls 3 [(0, .ref h0), (1, .int p0), (2, .int p1)] := hl
  refine lv_iload_n hx hb dX4_name_0 rfl (lv_at hl 1 rfl) ?_
  have hPc := hP.sub (ws' := []) [] rfl
  have hDc := hD.sub (ws' := []) [] (by decide) rfl
  have hFc := va_free (wc := []) hD hS hA [] rfl
  refine va_calli (va_runS (As := [.int p0]) (rest := []) ⟨hx, hb, hml, hown, hts⟩ (k_isWord l dC dI cI cZ cC cJ s.heap.size p0 ) (va_cwS 1 hts gX4_name_X4_isWord rfl rfl rfl (by decide +kernel) ⟨Nat.le_of_ble_eq_true rfl, Nat.le_of_ble_eq_true rfl⟩) ⟨sPre_blind, fun U hU hW => ⟨rfl, sPre_ok hsk hPc hDc hU hW⟩⟩ rfl rfl hl.1 rfl (lv_room (Nat.le_of_ble_eq_true rfl)) dX4_name_1 ⟨(show 0 + 0 ≤ 0 by omega), (show 0 + 0 ≤ 0 by omega)⟩) hS (fun q _ h => hFc q h) hFc (fun r_1 u t H1 locs ht hvm hw hB hz1 hk1 hS => ?_)
  try dsimp only at hw hB
  have hw_2 := hw
  obtain rfl : r_1 = isW p0 := hw_2
  obtain ⟨hP1, hD1⟩ := hB
  rw [ht] at hP1
  obtain ⟨hP, hD⟩ := va_join (wr := [(h0, .inr (4, [.ref kO, .ref nO, .ref rO, .ref mO, .int 0, .ref tO, .ref rdO, .ref lnO, .ref drO, .ref chO])), (nO, .inl (cZ, 100, .inl fn))]) (w1 := []) hP hD [] [0, 1] rfl rfl (by decide) (by decide) hk1 hFc hP1 hD1
  generalize H1 = H at hP hS ⊢
  have hP : va_P (dC, dI) vwCl [(h0, .inr (4, [.ref kO, .ref nO, .ref rO, .ref mO, .int 0, .ref tO, .ref rdO, .ref lnO, .ref drO, .ref chO])), (nO, .inl (cZ, 100, .inl fn))] H := hP
  have hD : va_D A [(h0, .inr (4, [.ref kO, .ref nO, .ref rO, .ref mO, .int 0, .ref tO, .ref rdO, .ref lnO, .ref drO, .ref chO])), (nO, .inl (cZ, 100, .inl fn))] := hD
  refine lv_if_ne (tgt := 9) hx hb dX4_name_4 (by decide) (fun c_4 => ?_) (fun c_4 => ?_)
  · skip
    refine lv_aload_n hx hb dX4_name_9 rfl (lv_at hl 0 rfl) ?_
    refine va_get (D := (dC, dI)) (ci := 4) (v := .ref nO) (C := RX4) (T := TX4) (N := 10) hx hb hts i4 hown hK hP 0 rfl rfl 1 (by decide) (hts (.fieldLink RX4 13 "StopSetter" "isName" "[Z") (by decide +kernel)) (fun _ h9 => h9) rfl dX4_name_10 ?_
    refine lv_iload_n hx hb dX4_name_13 rfl (lv_at hl 1 rfl) ?_
    refine lv_iload_n hx hb dX4_name_14 rfl (lv_at hl 2 rfl) ?_
    refine va_zast hx hb hK hP hD hS 1 1 rfl rfl (isW_in c_4) dX4_name_15 (fun H locs hP hD hS => ?_)
    have hP : va_P (dC, dI) vwCl [(h0, .inr (4, [.ref kO, .ref nO, .ref rO, .ref mO, .int 0, .ref tO, .ref rdO, .ref lnO, .ref drO, .ref chO])), (nO, .inl (cZ, 100, .inl (upd fn (p0.toNatClampNeg) (vp_nar .boolean p1))))] H := hP
    have hD : va_D A [(h0, .inr (4, [.ref kO, .ref nO, .ref rO, .ref mO, .int 0, .ref tO, .ref rdO, .ref lnO, .ref drO, .ref chO])), (nO, .inl (cZ, 100, .inl (upd fn (p0.toNatClampNeg) (vp_nar .boolean p1))))] := hD
    refine lv_iconst (v := 1) hx hb dX4_name_16 (by decide) ?_
    have hP9 := hP.sub (ws' := []) [] rfl
    have hD9 := hD.sub (ws' := []) [] (by decide) rfl
    exact W.zret (v := 1) (ty := .boolean) hx hb hr rfl (fun t ht hW => ⟨⟨1, (), rfl, (by simp only [rName, if_neg c_4]), by rw [ht]; exact hP9, hD9⟩, hS.F ht⟩) hS.2.2 dX4_name_17
  · skip
    refine lv_iconst (v := 0) hx hb dX4_name_7 (by decide) ?_
    have hP9 := hP.sub (ws' := []) [] rfl
    have hD9 := hD.sub (ws' := []) [] (by decide) rfl
    exact W.zret (v := 0) (ty := .boolean) hx hb hr rfl (fun t ht hW => ⟨⟨0, (), rfl, (by simp only [rName, if_pos c_4]), by rw [ht]; exact hP9, hD9⟩, hS.F ht⟩) hS.2.2 dX4_name_8
set_option maxHeartbeats 4000000 in
set_option maxRecDepth 100000 in
theorem k_mname (l : Launch) (dC : Nat → ClassId) (dI : Nat → Nat → Nat) (cI cZ cC cJ : ClassId) (sz : Nat) (h0 : Nat) (Mtape : Nat) (Msort : Nat) (Mplace : Nat) (Mvalue : Nat) (Mwords : Nat) (Mgoes : Nat) (MgoLine : Nat) (Mends : Nat) (MendLine : Nat) (Mkinds : Nat) (MisName : Nat) (Mrow : Nat) (MbyHand : Nat) (Mleast : Nat) (Msecond : Nat) (MendAt : Nat) (MgoAt : Nat) (MnodeBehind : Nat) (MisOut : Nat) (MfirstEnd : Nat) (MfirstGo : Nat) (fn : Nat → Int32) (p0 : Int32) (p1 : Int32)  : Met l yX5_name wsX5_name ({ frames := 1, cells := 0, slots := 0, locals := 20 }) (va_Pc [.ref h0, .int p0, .int p1] (sPre dC dI cI cZ cC cJ [(h0, .inr (5, [.int 0, .ref Mtape, .int 0, .int 0, .ref Msort, .ref Mplace, .ref Mvalue, .int 0, .int 0, .ref Mwords, .int 0, .int 0, .ref Mgoes, .ref MgoLine, .ref Mends, .ref MendLine, .ref Mkinds, .ref MisName, .int 0, .ref Mrow, .ref MbyHand, .ref Mleast, .ref Msecond, .ref MendAt, .ref MgoAt, .ref MnodeBehind, .int 0, .ref MisOut, .ref MfirstEnd, .ref MfirstGo])), (MisName, .inl (cZ, 100, .inl fn))] sz)) (va_Qi (fun (r : Int32) (u : Unit) => r = rName p0) (fun _ => sB dC dI (va_A [(h0, .inr (5, [.int 0, .ref Mtape, .int 0, .int 0, .ref Msort, .ref Mplace, .ref Mvalue, .int 0, .int 0, .ref Mwords, .int 0, .int 0, .ref Mgoes, .ref MgoLine, .ref Mends, .ref MendLine, .ref Mkinds, .ref MisName, .int 0, .ref Mrow, .ref MbyHand, .ref Mleast, .ref Msecond, .ref MendAt, .ref MgoAt, .ref MnodeBehind, .int 0, .ref MisOut, .ref MfirstEnd, .ref MfirstGo])), (MisName, .inl (cZ, 100, .inl fn))] sz) []) (va_A [(h0, .inr (5, [.int 0, .ref Mtape, .int 0, .int 0, .ref Msort, .ref Mplace, .ref Mvalue, .int 0, .int 0, .ref Mwords, .int 0, .int 0, .ref Mgoes, .ref MgoLine, .ref Mends, .ref MendLine, .ref Mkinds, .ref MisName, .int 0, .ref Mrow, .ref MbyHand, .ref Mleast, .ref Msecond, .ref MendAt, .ref MgoAt, .ref MnodeBehind, .int 0, .ref MisOut, .ref MfirstEnd, .ref MfirstGo])), (MisName, .inl (cZ, 100, .inl fn))] sz)) 0 0 (va_A [(h0, .inr (5, [.int 0, .ref Mtape, .int 0, .int 0, .ref Msort, .ref Mplace, .ref Mvalue, .int 0, .int 0, .ref Mwords, .int 0, .int 0, .ref Mgoes, .ref MgoLine, .ref Mends, .ref MendLine, .ref Mkinds, .ref MisName, .int 0, .ref Mrow, .ref MbyHand, .ref Mleast, .ref Msecond, .ref MendAt, .ref MgoAt, .ref MnodeBehind, .int 0, .ref MisOut, .ref MfirstEnd, .ref MfirstGo])), (MisName, .inl (cZ, 100, .inl fn))] sz) := by
  refine Met.ofW (cc := cX5_name) (maxL := 3) (ret := (some .boolean)) (by decide) rfl ?_
  intro p e s m args below meth c s₁ B hml hv
  obtain ⟨rfl, hsz, hP, hsk, hD0⟩ := hv
  have hx := B.exec
  have hb := B.bytes
  have hr := B.returns
  have hts := atoms_spec (ws := wsX5_name) B.pre
  have hown : s.vm.findClass RX5 = some m.cls := findClass_of_methodNamed B.named
  have hlocks := B.notSynchronized
  have hK := hsk.1
  have i5 : ∀ w ∈ wsX50, w ∈ wsX5_name := by decide +kernel
  subst hsz
  have hD := hD0.self (sz := s.heap.size)
  generalize hAe : va_A [(h0, .inr (5, [.int 0, .ref Mtape, .int 0, .int 0, .ref Msort, .ref Mplace, .ref Mvalue, .int 0, .int 0, .ref Mwords, .int 0, .int 0, .ref Mgoes, .ref MgoLine, .ref Mends, .ref MendLine, .ref Mkinds, .ref MisName, .int 0, .ref Mrow, .ref MbyHand, .ref Mleast, .ref Msecond, .ref MendAt, .ref MgoAt, .ref MnodeBehind, .int 0, .ref MisOut, .ref MfirstEnd, .ref MfirstGo])), (MisName, .inl (cZ, 100, .inl fn))] s.heap.size = A at hD ⊢
  have hA : ∀ q : Nat, s.heap.size ≤ q → A q := fun q h => by rw [← hAe]; exact Or.inr h
  have hS : va_S A s.heap s.heap [] := va_S.rf
  have hl := lv_entry ([.ref h0, .int p0, .int p1]) (n := 3) (Nat.le_of_ble_eq_true rfl)
  rw [lg_entry_eq]
  generalize (lg_sl ([.ref h0, .int p0, .int p1]) ++ List.replicate (3 - (lg_sl ([.ref h0, .int p0, .int p1])).length) Slot.unset).toArray = ls at hl ⊢
  have hl : lv_has ls 3 [(0, .ref h0), (1, .int p0), (2, .int p1)] := hl
  refine lv_aload_n hx hb dX5_name_0 rfl (lv_at hl 0 rfl) ?_
  refine lv_iconst (v := 0) hx hb dX5_name_1 (by decide) ?_
  refine va_put (D := (dC, dI)) (ci := 5) (v := .int 0) (ty := tyX5 0) (C := RX5) (T := TX5) (N := 30) hx hb hts i5 tyX5 tyX5_ok nmX5 hown hK hP hD hS 0 rfl rfl 0 (by decide) (hts (.fieldLink RX5 1 "StopSetterModel" "thrown" "I") (by decide +kernel)) (fun _ h9 => h9) rfl (by decide +kernel) rfl rfl (Nat.le_of_ble_eq_true rfl) dX5_name_2 (fun H locs hP hD hS => ?_)
  have hP : va_P (dC, dI) vwCl [(h0, .inr (5, [.int 0, .ref Mtape, .int 0, .int 0, .ref Msort, .ref Mplace, .ref Mvalue, .int 0, .int 0, .ref Mwords, .int 0, .int 0, .ref Mgoes, .ref MgoLine, .ref Mends, .ref MendLine, .ref Mkinds, .ref MisName, .int 0, .ref Mrow, .ref MbyHand, .ref Mleast, .ref Msecond, .ref MendAt, .ref MgoAt, .ref MnodeBehind, .int 0, .ref MisOut, .ref MfirstEnd, .ref MfirstGo])), (MisName, .inl (cZ, 100, .inl fn))] H := hP
  have hD : va_D A [(h0, .inr (5, [.int 0, .ref Mtape, .int 0, .int 0, .ref Msort, .ref Mplace, .ref Mvalue, .int 0, .int 0, .ref Mwords, .int 0, .int 0, .ref Mgoes, .ref MgoLine, .ref Mends, .ref MendLine, .ref Mkinds, .ref MisName, .int 0, .ref Mrow, .ref MbyHand, .ref Mleast, .ref Msecond, .ref MendAt, .ref MgoAt, .ref MnodeBehind, .int 0, .ref MisOut, .ref MfirstEnd, .ref MfirstGo])), (MisName, .inl (cZ, 100, .inl fn))] := hD
  refine lv_iload_n hx hb dX5_name_5 rfl (lv_at hl 1 rfl) ?_
  have hPc := hP.sub (ws' := []) [] rfl
  have hDc := hD.sub (ws' := []) [] (by decide) rfl
  have hFc := va_free (wc := []) hD hS hA [] rfl
  refine va_calli (va_runS (As := [.int p0]) (rest := []) ⟨hx, hb, hml, hown, hts⟩ (k_isOne l dC dI cI cZ cC cJ H.size p0 ) (va_cwS 1 hts gX5_name_X5_isOne rfl rfl rfl (by decide +kernel) ⟨Nat.le_of_ble_eq_true rfl, Nat.le_of_ble_eq_true rfl⟩) ⟨sPre_blind, fun U hU hW => ⟨rfl, sPre_ok hsk hPc hDc hU hW⟩⟩ rfl rfl hl.1 rfl (lv_room (Nat.le_of_ble_eq_true rfl)) dX5_name_6 ⟨(show 0 + 0 ≤ 0 by omega), (show 0 + 0 ≤ 0 by omega)⟩) hS (fun q _ h => hFc q h) hFc (fun r_1 u t H1 locs ht hvm hw hB hz1 hk1 hS => ?_)
  try dsimp only at hw hB
  have hw_2 := hw
  obtain rfl : r_1 = isW p0 := hw_2
  obtain ⟨hP1, hD1⟩ := hB
  rw [ht] at hP1
  obtain ⟨hP, hD⟩ := va_join (wr := [(h0, .inr (5, [.int 0, .ref Mtape, .int 0, .int 0, .ref Msort, .ref Mplace, .ref Mvalue, .int 0, .int 0, .ref Mwords, .int 0, .int 0, .ref Mgoes, .ref MgoLine, .ref Mends, .ref MendLine, .ref Mkinds, .ref MisName, .int 0, .ref Mrow, .ref MbyHand, .ref Mleast, .ref Msecond, .ref MendAt, .ref MgoAt, .ref MnodeBehind, .int 0, .ref MisOut, .ref MfirstEnd, .ref MfirstGo])), (MisName, .inl (cZ, 100, .inl fn))]) (w1 := []) hP hD [] [0, 1] rfl rfl (by decide) (by decide) hk1 hFc hP1 hD1
  generalize H1 = H at hP hS ⊢
  have hP : va_P (dC, dI) vwCl [(h0, .inr (5, [.int 0, .ref Mtape, .int 0, .int 0, .ref Msort, .ref Mplace, .ref Mvalue, .int 0, .int 0, .ref Mwords, .int 0, .int 0, .ref Mgoes, .ref MgoLine, .ref Mends, .ref MendLine, .ref Mkinds, .ref MisName, .int 0, .ref Mrow, .ref MbyHand, .ref Mleast, .ref Msecond, .ref MendAt, .ref MgoAt, .ref MnodeBehind, .int 0, .ref MisOut, .ref MfirstEnd, .ref MfirstGo])), (MisName, .inl (cZ, 100, .inl fn))] H := hP
  have hD : va_D A [(h0, .inr (5, [.int 0, .ref Mtape, .int 0, .int 0, .ref Msort, .ref Mplace, .ref Mvalue, .int 0, .int 0, .ref Mwords, .int 0, .int 0, .ref Mgoes, .ref MgoLine, .ref Mends, .ref MendLine, .ref Mkinds, .ref MisName, .int 0, .ref Mrow, .ref MbyHand, .ref Mleast, .ref Msecond, .ref MendAt, .ref MgoAt, .ref MnodeBehind, .int 0, .ref MisOut, .ref MfirstEnd, .ref MfirstGo])), (MisName, .inl (cZ, 100, .inl fn))] := hD
  refine lv_if_ne (tgt := 14) hx hb dX5_name_9 (by decide) (fun c_9 => ?_) (fun c_9 => ?_)
  · skip
    refine lv_aload_n hx hb dX5_name_14 rfl (lv_at hl 0 rfl) ?_
    refine va_get (D := (dC, dI)) (ci := 5) (v := .ref MisName) (C := RX5) (T := TX5) (N := 30) hx hb hts i5 hown hK hP 0 rfl rfl 17 (by decide) (hts (.fieldLink RX5 76 "StopSetterModel" "isName" "[Z") (by decide +kernel)) (fun _ h9 => h9) rfl dX5_name_15 ?_
    refine lv_iload_n hx hb dX5_name_18 rfl (lv_at hl 1 rfl) ?_
    refine lv_iload_n hx hb dX5_name_19 rfl (lv_at hl 2 rfl) ?_
    refine va_zast hx hb hK hP hD hS 1 1 rfl rfl (isW_in c_9) dX5_name_20 (fun H locs hP hD hS => ?_)
    have hP : va_P (dC, dI) vwCl [(h0, .inr (5, [.int 0, .ref Mtape, .int 0, .int 0, .ref Msort, .ref Mplace, .ref Mvalue, .int 0, .int 0, .ref Mwords, .int 0, .int 0, .ref Mgoes, .ref MgoLine, .ref Mends, .ref MendLine, .ref Mkinds, .ref MisName, .int 0, .ref Mrow, .ref MbyHand, .ref Mleast, .ref Msecond, .ref MendAt, .ref MgoAt, .ref MnodeBehind, .int 0, .ref MisOut, .ref MfirstEnd, .ref MfirstGo])), (MisName, .inl (cZ, 100, .inl (upd fn (p0.toNatClampNeg) (vp_nar .boolean p1))))] H := hP
    have hD : va_D A [(h0, .inr (5, [.int 0, .ref Mtape, .int 0, .int 0, .ref Msort, .ref Mplace, .ref Mvalue, .int 0, .int 0, .ref Mwords, .int 0, .int 0, .ref Mgoes, .ref MgoLine, .ref Mends, .ref MendLine, .ref Mkinds, .ref MisName, .int 0, .ref Mrow, .ref MbyHand, .ref Mleast, .ref Msecond, .ref MendAt, .ref MgoAt, .ref MnodeBehind, .int 0, .ref MisOut, .ref MfirstEnd, .ref MfirstGo])), (MisName, .inl (cZ, 100, .inl (upd fn (p0.toNatClampNeg) (vp_nar .boolean p1))))] := hD
    refine lv_iconst (v := 1) hx hb dX5_name_21 (by decide) ?_
    have hP9 := hP.sub (ws' := []) [] rfl
    have hD9 := hD.sub (ws' := []) [] (by decide) rfl
    exact W.zret (v := 1) (ty := .boolean) hx hb hr rfl (fun t ht hW => ⟨⟨1, (), rfl, (by simp only [rName, if_neg c_9]), by rw [ht]; exact hP9, hD9⟩, hS.F ht⟩) hS.2.2 dX5_name_22
  · skip
    refine lv_iconst (v := 0) hx hb dX5_name_12 (by decide) ?_
    have hP9 := hP.sub (ws' := []) [] rfl
    have hD9 := hD.sub (ws' := []) [] (by decide) rfl
    exact W.zret (v := 0) (ty := .boolean) hx hb hr rfl (fun t ht hW => ⟨⟨0, (), rfl, (by simp only [rName, if_pos c_9]), by rw [ht]; exact hP9, hD9⟩, hS.F ht⟩) hS.2.2 dX5_name_13
set_option maxHeartbeats 4000000 in
set_option maxRecDepth 100000 in
theorem k_word (l : Launch) (dC : Nat → ClassId) (dI : Nat → Nat → Nat) (cI cZ cC cJ : ClassId) (sz : Nat) (h0 : Nat) (kO : Nat) (nO : Nat) (rO : Nat) (mO : Nat) (tO : Nat) (rdO : Nat) (lnO : Nat) (drO : Nat) (chO : Nat) (fr : Nat → Int32) (fm : Nat → Int32) (p0 : Int32)  : Met l yX4_word wsX4_word ({ frames := 1, cells := 0, slots := 0, locals := 20 }) (va_Pc [.ref h0, .int p0] (sPre dC dI cI cZ cC cJ [(h0, .inr (4, [.ref kO, .ref nO, .ref rO, .ref mO, .int 0, .ref tO, .ref rdO, .ref lnO, .ref drO, .ref chO])), (rO, .inl (cI, 60, .inl fr)), (mO, .inl (cI, 60, .inl fm))] sz)) (va_Qi (fun (r : Int32) (u : Unit) => r = rWord p0) (fun _ => sB dC dI (va_A [(h0, .inr (4, [.ref kO, .ref nO, .ref rO, .ref mO, .int 0, .ref tO, .ref rdO, .ref lnO, .ref drO, .ref chO])), (rO, .inl (cI, 60, .inl fr)), (mO, .inl (cI, 60, .inl fm))] sz) []) (va_A [(h0, .inr (4, [.ref kO, .ref nO, .ref rO, .ref mO, .int 0, .ref tO, .ref rdO, .ref lnO, .ref drO, .ref chO])), (rO, .inl (cI, 60, .inl fr)), (mO, .inl (cI, 60, .inl fm))] sz)) 0 0 (va_A [(h0, .inr (4, [.ref kO, .ref nO, .ref rO, .ref mO, .int 0, .ref tO, .ref rdO, .ref lnO, .ref drO, .ref chO])), (rO, .inl (cI, 60, .inl fr)), (mO, .inl (cI, 60, .inl fm))] sz) := by
  refine Met.ofW (cc := cX4_word) (maxL := 2) (ret := (some .int)) (by decide) rfl ?_
  intro p e s m args below meth c s₁ B hml hv
  obtain ⟨rfl, hsz, hP, hsk, hD0⟩ := hv
  have hx := B.exec
  have hb := B.bytes
  have hr := B.returns
  have hts := atoms_spec (ws := wsX4_word) B.pre
  have hown : s.vm.findClass RX4 = some m.cls := findClass_of_methodNamed B.named
  have hlocks := B.notSynchronized
  have hK := hsk.1
  have i4 : ∀ w ∈ wsX40, w ∈ wsX4_word := by decide +kernel
  subst hsz
  have hD := hD0.self (sz := s.heap.size)
  generalize hAe : va_A [(h0, .inr (4, [.ref kO, .ref nO, .ref rO, .ref mO, .int 0, .ref tO, .ref rdO, .ref lnO, .ref drO, .ref chO])), (rO, .inl (cI, 60, .inl fr)), (mO, .inl (cI, 60, .inl fm))] s.heap.size = A at hD ⊢
  have hA : ∀ q : Nat, s.heap.size ≤ q → A q := fun q h => by rw [← hAe]; exact Or.inr h
  have hS : va_S A s.heap s.heap [] := va_S.rf
  have hl := lv_entry ([.ref h0, .int p0]) (n := 2) (Nat.le_of_ble_eq_true rfl)
  rw [lg_entry_eq]
  generalize (lg_sl ([.ref h0, .int p0]) ++ List.replicate (2 - (lg_sl ([.ref h0, .int p0])).length) Slot.unset).toArray = ls at hl ⊢
  have hl : lv_has ls 2 [(0, .ref h0), (1, .int p0)] := hl
  refine lv_iload_n hx hb dX4_word_0 rfl (lv_at hl 1 rfl) ?_
  have hPc := hP.sub (ws' := []) [] rfl
  have hDc := hD.sub (ws' := []) [] (by decide) rfl
  have hFc := va_free (wc := []) hD hS hA [] rfl
  refine va_calli (va_runS (As := [.int p0]) (rest := []) ⟨hx, hb, hml, hown, hts⟩ (k_isWord l dC dI cI cZ cC cJ s.heap.size p0 ) (va_cwS 1 hts gX4_word_X4_isWord rfl rfl rfl (by decide +kernel) ⟨Nat.le_of_ble_eq_true rfl, Nat.le_of_ble_eq_true rfl⟩) ⟨sPre_blind, fun U hU hW => ⟨rfl, sPre_ok hsk hPc hDc hU hW⟩⟩ rfl rfl hl.1 rfl (lv_room (Nat.le_of_ble_eq_true rfl)) dX4_word_1 ⟨(show 0 + 0 ≤ 0 by omega), (show 0 + 0 ≤ 0 by omega)⟩) hS (fun q _ h => hFc q h) hFc (fun r_1 u t H1 locs ht hvm hw hB hz1 hk1 hS => ?_)
  try dsimp only at hw hB
  have hw_2 := hw
  obtain rfl : r_1 = isW p0 := hw_2
  obtain ⟨hP1, hD1⟩ := hB
  rw [ht] at hP1
  obtain ⟨hP, hD⟩ := va_join (wr := [(h0, .inr (4, [.ref kO, .ref nO, .ref rO, .ref mO, .int 0, .ref tO, .ref rdO, .ref lnO, .ref drO, .ref chO])), (rO, .inl (cI, 60, .inl fr)), (mO, .inl (cI, 60, .inl fm))]) (w1 := []) hP hD [] [0, 1, 2] rfl rfl (by decide) (by decide) hk1 hFc hP1 hD1
  generalize H1 = H at hP hS ⊢
  have hP : va_P (dC, dI) vwCl [(h0, .inr (4, [.ref kO, .ref nO, .ref rO, .ref mO, .int 0, .ref tO, .ref rdO, .ref lnO, .ref drO, .ref chO])), (rO, .inl (cI, 60, .inl fr)), (mO, .inl (cI, 60, .inl fm))] H := hP
  have hD : va_D A [(h0, .inr (4, [.ref kO, .ref nO, .ref rO, .ref mO, .int 0, .ref tO, .ref rdO, .ref lnO, .ref drO, .ref chO])), (rO, .inl (cI, 60, .inl fr)), (mO, .inl (cI, 60, .inl fm))] := hD
  refine lv_if_eq (tgt := 23) hx hb dX4_word_4 (by decide) (fun c_4 => ?_) (fun c_4 => ?_)
  · skip
    refine lv_iconst (v := (-1)) hx hb dX4_word_23 (by decide) ?_
    have hP9 := hP.sub (ws' := []) [] rfl
    have hD9 := hD.sub (ws' := []) [] (by decide) rfl
    exact W.iret (v := (-1)) hx hb hr (fun t ht hW => ⟨⟨(-1), (), rfl, (by simp only [rWord, if_pos c_4]), by rw [ht]; exact hP9, hD9⟩, hS.F ht⟩) hS.2.2 dX4_word_24
  · skip
    refine lv_aload_n hx hb dX4_word_7 rfl (lv_at hl 0 rfl) ?_
    refine va_get (D := (dC, dI)) (ci := 4) (v := .int 0) (C := RX4) (T := TX4) (N := 10) hx hb hts i4 hown hK hP 0 rfl rfl 4 (by decide) (hts (.fieldLink RX4 74 "StopSetter" "size" "I") (by decide +kernel)) (fun _ h9 => h9) rfl dX4_word_8 ?_
    refine lv_if_lt (tgt := 23) hx hb dX4_word_11 (by decide) (fun h9 => absurd h9 (by decide)) (fun _ => ?_)
    refine lv_aload_n hx hb dX4_word_14 rfl (lv_at hl 0 rfl) ?_
    refine va_get (D := (dC, dI)) (ci := 4) (v := .int 0) (C := RX4) (T := TX4) (N := 10) hx hb hts i4 hown hK hP 0 rfl rfl 4 (by decide) (hts (.fieldLink RX4 74 "StopSetter" "size" "I") (by decide +kernel)) (fun _ h9 => h9) rfl dX4_word_15 ?_
    refine lv_bipush (v := 60) hx hb dX4_word_18 (by decide) ?_
    refine lv_icmp_lt (tgt := 25) hx hb dX4_word_20 (by decide) (fun _ => ?_) (fun h9 => absurd (by decide) h9)
    refine lv_aload_n hx hb dX4_word_25 rfl (lv_at hl 0 rfl) ?_
    refine va_get (D := (dC, dI)) (ci := 4) (v := .ref rO) (C := RX4) (T := TX4) (N := 10) hx hb hts i4 hown hK hP 0 rfl rfl 2 (by decide) (hts (.fieldLink RX4 17 "StopSetter" "row" "[I") (by decide +kernel)) (fun _ h9 => h9) rfl dX4_word_26 ?_
    refine lv_aload_n hx hb dX4_word_29 rfl (lv_at hl 0 rfl) ?_
    refine va_get (D := (dC, dI)) (ci := 4) (v := .int 0) (C := RX4) (T := TX4) (N := 10) hx hb hts i4 hown hK hP 0 rfl rfl 4 (by decide) (hts (.fieldLink RX4 74 "StopSetter" "size" "I") (by decide +kernel)) (fun _ h9 => h9) rfl dX4_word_30 ?_
    refine lv_iload_n hx hb dX4_word_33 rfl (lv_at hl 1 rfl) ?_
    refine va_iast hx hb hK hP hD hS 1 0 rfl rfl (by unfold vp_in; decide) dX4_word_34 (fun H locs hP hD hS => ?_)
    have hP : va_P (dC, dI) vwCl [(h0, .inr (4, [.ref kO, .ref nO, .ref rO, .ref mO, .int 0, .ref tO, .ref rdO, .ref lnO, .ref drO, .ref chO])), (rO, .inl (cI, 60, .inl (upd fr ((0 : Int32).toNatClampNeg) p0))), (mO, .inl (cI, 60, .inl fm))] H := hP
    have hD : va_D A [(h0, .inr (4, [.ref kO, .ref nO, .ref rO, .ref mO, .int 0, .ref tO, .ref rdO, .ref lnO, .ref drO, .ref chO])), (rO, .inl (cI, 60, .inl (upd fr ((0 : Int32).toNatClampNeg) p0))), (mO, .inl (cI, 60, .inl fm))] := hD
    refine lv_aload_n hx hb dX4_word_35 rfl (lv_at hl 0 rfl) ?_
    refine va_get (D := (dC, dI)) (ci := 4) (v := .ref mO) (C := RX4) (T := TX4) (N := 10) hx hb hts i4 hown hK hP 0 rfl rfl 3 (by decide) (hts (.fieldLink RX4 20 "StopSetter" "marks" "[I") (by decide +kernel)) (fun _ h9 => h9) rfl dX4_word_36 ?_
    refine lv_aload_n hx hb dX4_word_39 rfl (lv_at hl 0 rfl) ?_
    refine va_get (D := (dC, dI)) (ci := 4) (v := .int 0) (C := RX4) (T := TX4) (N := 10) hx hb hts i4 hown hK hP 0 rfl rfl 4 (by decide) (hts (.fieldLink RX4 74 "StopSetter" "size" "I") (by decide +kernel)) (fun _ h9 => h9) rfl dX4_word_40 ?_
    refine lv_iconst (v := (-1)) hx hb dX4_word_43 (by decide) ?_
    refine va_iast hx hb hK hP hD hS 2 0 rfl rfl (by unfold vp_in; decide) dX4_word_44 (fun H locs hP hD hS => ?_)
    have hP : va_P (dC, dI) vwCl [(h0, .inr (4, [.ref kO, .ref nO, .ref rO, .ref mO, .int 0, .ref tO, .ref rdO, .ref lnO, .ref drO, .ref chO])), (rO, .inl (cI, 60, .inl (upd fr ((0 : Int32).toNatClampNeg) p0))), (mO, .inl (cI, 60, .inl (upd fm ((0 : Int32).toNatClampNeg) (-1))))] H := hP
    have hD : va_D A [(h0, .inr (4, [.ref kO, .ref nO, .ref rO, .ref mO, .int 0, .ref tO, .ref rdO, .ref lnO, .ref drO, .ref chO])), (rO, .inl (cI, 60, .inl (upd fr ((0 : Int32).toNatClampNeg) p0))), (mO, .inl (cI, 60, .inl (upd fm ((0 : Int32).toNatClampNeg) (-1))))] := hD
    refine lv_aload_n hx hb dX4_word_45 rfl (lv_at hl 0 rfl) ?_
    refine lv_dup hx hb dX4_word_46 rfl ?_
    refine va_get (D := (dC, dI)) (ci := 4) (v := .int 0) (C := RX4) (T := TX4) (N := 10) hx hb hts i4 hown hK hP 0 rfl rfl 4 (by decide) (hts (.fieldLink RX4 74 "StopSetter" "size" "I") (by decide +kernel)) (fun _ h9 => h9) rfl dX4_word_47 ?_
    refine lv_iconst (v := 1) hx hb dX4_word_50 (by decide) ?_
    refine lv_iadd hx hb dX4_word_51 ?_
    refine lv_topi (fun v_ ev_ => ?_)
    obtain rfl : v_ = 1 := ev_.trans (by decide)
    refine va_put (D := (dC, dI)) (ci := 4) (v := .int 1) (ty := tyX4 4) (C := RX4) (T := TX4) (N := 10) hx hb hts i4 tyX4 tyX4_ok nmX4 hown hK hP hD hS 0 rfl rfl 4 (by decide) (hts (.fieldLink RX4 74 "StopSetter" "size" "I") (by decide +kernel)) (fun _ h9 => h9) rfl (by decide +kernel) rfl rfl (Nat.le_of_ble_eq_true rfl) dX4_word_52 (fun H locs hP hD hS => ?_)
    have hP : va_P (dC, dI) vwCl [(h0, .inr (4, [.ref kO, .ref nO, .ref rO, .ref mO, .int 1, .ref tO, .ref rdO, .ref lnO, .ref drO, .ref chO])), (rO, .inl (cI, 60, .inl (upd fr ((0 : Int32).toNatClampNeg) p0))), (mO, .inl (cI, 60, .inl (upd fm ((0 : Int32).toNatClampNeg) (-1))))] H := hP
    have hD : va_D A [(h0, .inr (4, [.ref kO, .ref nO, .ref rO, .ref mO, .int 1, .ref tO, .ref rdO, .ref lnO, .ref drO, .ref chO])), (rO, .inl (cI, 60, .inl (upd fr ((0 : Int32).toNatClampNeg) p0))), (mO, .inl (cI, 60, .inl (upd fm ((0 : Int32).toNatClampNeg) (-1))))] := hD
    refine lv_aload_n hx hb dX4_word_55 rfl (lv_at hl 0 rfl) ?_
    refine va_get (D := (dC, dI)) (ci := 4) (v := .int 1) (C := RX4) (T := TX4) (N := 10) hx hb hts i4 hown hK hP 0 rfl rfl 4 (by decide) (hts (.fieldLink RX4 74 "StopSetter" "size" "I") (by decide +kernel)) (fun _ h9 => h9) rfl dX4_word_56 ?_
    have hP9 := hP.sub (ws' := []) [] rfl
    have hD9 := hD.sub (ws' := []) [] (by decide) rfl
    exact W.iret (v := 1) hx hb hr (fun t ht hW => ⟨⟨1, (), rfl, (by simp only [rWord, if_neg c_4]), by rw [ht]; exact hP9, hD9⟩, hS.F ht⟩) hS.2.2 dX4_word_59
set_option maxHeartbeats 4000000 in
set_option maxRecDepth 100000 in
theorem k_mword (l : Launch) (dC : Nat → ClassId) (dI : Nat → Nat → Nat) (cI cZ cC cJ : ClassId) (sz : Nat) (h0 : Nat) (Mtape : Nat) (Msort : Nat) (Mplace : Nat) (Mvalue : Nat) (Mwords : Nat) (Mgoes : Nat) (MgoLine : Nat) (Mends : Nat) (MendLine : Nat) (Mkinds : Nat) (MisName : Nat) (Mrow : Nat) (MbyHand : Nat) (Mleast : Nat) (Msecond : Nat) (MendAt : Nat) (MgoAt : Nat) (MnodeBehind : Nat) (MisOut : Nat) (MfirstEnd : Nat) (MfirstGo : Nat) (fr : Nat → Int32) (fm : Nat → Int32) (p0 : Int32)  : Met l yX5_word wsX5_word ({ frames := 1, cells := 0, slots := 0, locals := 20 }) (va_Pc [.ref h0, .int p0] (sPre dC dI cI cZ cC cJ [(h0, .inr (5, [.int 0, .ref Mtape, .int 0, .int 0, .ref Msort, .ref Mplace, .ref Mvalue, .int 0, .int 0, .ref Mwords, .int 0, .int 0, .ref Mgoes, .ref MgoLine, .ref Mends, .ref MendLine, .ref Mkinds, .ref MisName, .int 0, .ref Mrow, .ref MbyHand, .ref Mleast, .ref Msecond, .ref MendAt, .ref MgoAt, .ref MnodeBehind, .int 0, .ref MisOut, .ref MfirstEnd, .ref MfirstGo])), (Mrow, .inl (cI, 60, .inl fr)), (MbyHand, .inl (cI, 60, .inl fm))] sz)) (va_Qi (fun (r : Int32) (u : Unit) => r = rWord p0) (fun _ => sB dC dI (va_A [(h0, .inr (5, [.int 0, .ref Mtape, .int 0, .int 0, .ref Msort, .ref Mplace, .ref Mvalue, .int 0, .int 0, .ref Mwords, .int 0, .int 0, .ref Mgoes, .ref MgoLine, .ref Mends, .ref MendLine, .ref Mkinds, .ref MisName, .int 0, .ref Mrow, .ref MbyHand, .ref Mleast, .ref Msecond, .ref MendAt, .ref MgoAt, .ref MnodeBehind, .int 0, .ref MisOut, .ref MfirstEnd, .ref MfirstGo])), (Mrow, .inl (cI, 60, .inl fr)), (MbyHand, .inl (cI, 60, .inl fm))] sz) []) (va_A [(h0, .inr (5, [.int 0, .ref Mtape, .int 0, .int 0, .ref Msort, .ref Mplace, .ref Mvalue, .int 0, .int 0, .ref Mwords, .int 0, .int 0, .ref Mgoes, .ref MgoLine, .ref Mends, .ref MendLine, .ref Mkinds, .ref MisName, .int 0, .ref Mrow, .ref MbyHand, .ref Mleast, .ref Msecond, .ref MendAt, .ref MgoAt, .ref MnodeBehind, .int 0, .ref MisOut, .ref MfirstEnd, .ref MfirstGo])), (Mrow, .inl (cI, 60, .inl fr)), (MbyHand, .inl (cI, 60, .inl fm))] sz)) 0 0 (va_A [(h0, .inr (5, [.int 0, .ref Mtape, .int 0, .int 0, .ref Msort, .ref Mplace, .ref Mvalue, .int 0, .int 0, .ref Mwords, .int 0, .int 0, .ref Mgoes, .ref MgoLine, .ref Mends, .ref MendLine, .ref Mkinds, .ref MisName, .int 0, .ref Mrow, .ref MbyHand, .ref Mleast, .ref Msecond, .ref MendAt, .ref MgoAt, .ref MnodeBehind, .int 0, .ref MisOut, .ref MfirstEnd, .ref MfirstGo])), (Mrow, .inl (cI, 60, .inl fr)), (MbyHand, .inl (cI, 60, .inl fm))] sz) := by
  refine Met.ofW (cc := cX5_word) (maxL := 2) (ret := (some .int)) (by decide) rfl ?_
  intro p e s m args below meth c s₁ B hml hv
  obtain ⟨rfl, hsz, hP, hsk, hD0⟩ := hv
  have hx := B.exec
  have hb := B.bytes
  have hr := B.returns
  have hts := atoms_spec (ws := wsX5_word) B.pre
  have hown : s.vm.findClass RX5 = some m.cls := findClass_of_methodNamed B.named
  have hlocks := B.notSynchronized
  have hK := hsk.1
  have i5 : ∀ w ∈ wsX50, w ∈ wsX5_word := by decide +kernel
  subst hsz
  have hD := hD0.self (sz := s.heap.size)
  generalize hAe : va_A [(h0, .inr (5, [.int 0, .ref Mtape, .int 0, .int 0, .ref Msort, .ref Mplace, .ref Mvalue, .int 0, .int 0, .ref Mwords, .int 0, .int 0, .ref Mgoes, .ref MgoLine, .ref Mends, .ref MendLine, .ref Mkinds, .ref MisName, .int 0, .ref Mrow, .ref MbyHand, .ref Mleast, .ref Msecond, .ref MendAt, .ref MgoAt, .ref MnodeBehind, .int 0, .ref MisOut, .ref MfirstEnd, .ref MfirstGo])), (Mrow, .inl (cI, 60, .inl fr)), (MbyHand, .inl (cI, 60, .inl fm))] s.heap.size = A at hD ⊢
  have hA : ∀ q : Nat, s.heap.size ≤ q → A q := fun q h => by rw [← hAe]; exact Or.inr h
  have hS : va_S A s.heap s.heap [] := va_S.rf
  have hl := lv_entry ([.ref h0, .int p0]) (n := 2) (Nat.le_of_ble_eq_true rfl)
  rw [lg_entry_eq]
  generalize (lg_sl ([.ref h0, .int p0]) ++ List.replicate (2 - (lg_sl ([.ref h0, .int p0])).length) Slot.unset).toArray = ls at hl ⊢
  have hl : lv_has ls 2 [(0, .ref h0), (1, .int p0)] := hl
  refine lv_aload_n hx hb dX5_word_0 rfl (lv_at hl 0 rfl) ?_
  refine lv_iconst (v := 0) hx hb dX5_word_1 (by decide) ?_
  refine va_put (D := (dC, dI)) (ci := 5) (v := .int 0) (ty := tyX5 0) (C := RX5) (T := TX5) (N := 30) hx hb hts i5 tyX5 tyX5_ok nmX5 hown hK hP hD hS 0 rfl rfl 0 (by decide) (hts (.fieldLink RX5 1 "StopSetterModel" "thrown" "I") (by decide +kernel)) (fun _ h9 => h9) rfl (by decide +kernel) rfl rfl (Nat.le_of_ble_eq_true rfl) dX5_word_2 (fun H locs hP hD hS => ?_)
  have hP : va_P (dC, dI) vwCl [(h0, .inr (5, [.int 0, .ref Mtape, .int 0, .int 0, .ref Msort, .ref Mplace, .ref Mvalue, .int 0, .int 0, .ref Mwords, .int 0, .int 0, .ref Mgoes, .ref MgoLine, .ref Mends, .ref MendLine, .ref Mkinds, .ref MisName, .int 0, .ref Mrow, .ref MbyHand, .ref Mleast, .ref Msecond, .ref MendAt, .ref MgoAt, .ref MnodeBehind, .int 0, .ref MisOut, .ref MfirstEnd, .ref MfirstGo])), (Mrow, .inl (cI, 60, .inl fr)), (MbyHand, .inl (cI, 60, .inl fm))] H := hP
  have hD : va_D A [(h0, .inr (5, [.int 0, .ref Mtape, .int 0, .int 0, .ref Msort, .ref Mplace, .ref Mvalue, .int 0, .int 0, .ref Mwords, .int 0, .int 0, .ref Mgoes, .ref MgoLine, .ref Mends, .ref MendLine, .ref Mkinds, .ref MisName, .int 0, .ref Mrow, .ref MbyHand, .ref Mleast, .ref Msecond, .ref MendAt, .ref MgoAt, .ref MnodeBehind, .int 0, .ref MisOut, .ref MfirstEnd, .ref MfirstGo])), (Mrow, .inl (cI, 60, .inl fr)), (MbyHand, .inl (cI, 60, .inl fm))] := hD
  refine lv_iload_n hx hb dX5_word_5 rfl (lv_at hl 1 rfl) ?_
  have hPc := hP.sub (ws' := []) [] rfl
  have hDc := hD.sub (ws' := []) [] (by decide) rfl
  have hFc := va_free (wc := []) hD hS hA [] rfl
  refine va_calli (va_runS (As := [.int p0]) (rest := []) ⟨hx, hb, hml, hown, hts⟩ (k_isOne l dC dI cI cZ cC cJ H.size p0 ) (va_cwS 1 hts gX5_word_X5_isOne rfl rfl rfl (by decide +kernel) ⟨Nat.le_of_ble_eq_true rfl, Nat.le_of_ble_eq_true rfl⟩) ⟨sPre_blind, fun U hU hW => ⟨rfl, sPre_ok hsk hPc hDc hU hW⟩⟩ rfl rfl hl.1 rfl (lv_room (Nat.le_of_ble_eq_true rfl)) dX5_word_6 ⟨(show 0 + 0 ≤ 0 by omega), (show 0 + 0 ≤ 0 by omega)⟩) hS (fun q _ h => hFc q h) hFc (fun r_1 u t H1 locs ht hvm hw hB hz1 hk1 hS => ?_)
  try dsimp only at hw hB
  have hw_2 := hw
  obtain rfl : r_1 = isW p0 := hw_2
  obtain ⟨hP1, hD1⟩ := hB
  rw [ht] at hP1
  obtain ⟨hP, hD⟩ := va_join (wr := [(h0, .inr (5, [.int 0, .ref Mtape, .int 0, .int 0, .ref Msort, .ref Mplace, .ref Mvalue, .int 0, .int 0, .ref Mwords, .int 0, .int 0, .ref Mgoes, .ref MgoLine, .ref Mends, .ref MendLine, .ref Mkinds, .ref MisName, .int 0, .ref Mrow, .ref MbyHand, .ref Mleast, .ref Msecond, .ref MendAt, .ref MgoAt, .ref MnodeBehind, .int 0, .ref MisOut, .ref MfirstEnd, .ref MfirstGo])), (Mrow, .inl (cI, 60, .inl fr)), (MbyHand, .inl (cI, 60, .inl fm))]) (w1 := []) hP hD [] [0, 1, 2] rfl rfl (by decide) (by decide) hk1 hFc hP1 hD1
  generalize H1 = H at hP hS ⊢
  have hP : va_P (dC, dI) vwCl [(h0, .inr (5, [.int 0, .ref Mtape, .int 0, .int 0, .ref Msort, .ref Mplace, .ref Mvalue, .int 0, .int 0, .ref Mwords, .int 0, .int 0, .ref Mgoes, .ref MgoLine, .ref Mends, .ref MendLine, .ref Mkinds, .ref MisName, .int 0, .ref Mrow, .ref MbyHand, .ref Mleast, .ref Msecond, .ref MendAt, .ref MgoAt, .ref MnodeBehind, .int 0, .ref MisOut, .ref MfirstEnd, .ref MfirstGo])), (Mrow, .inl (cI, 60, .inl fr)), (MbyHand, .inl (cI, 60, .inl fm))] H := hP
  have hD : va_D A [(h0, .inr (5, [.int 0, .ref Mtape, .int 0, .int 0, .ref Msort, .ref Mplace, .ref Mvalue, .int 0, .int 0, .ref Mwords, .int 0, .int 0, .ref Mgoes, .ref MgoLine, .ref Mends, .ref MendLine, .ref Mkinds, .ref MisName, .int 0, .ref Mrow, .ref MbyHand, .ref Mleast, .ref Msecond, .ref MendAt, .ref MgoAt, .ref MnodeBehind, .int 0, .ref MisOut, .ref MfirstEnd, .ref MfirstGo])), (Mrow, .inl (cI, 60, .inl fr)), (MbyHand, .inl (cI, 60, .inl fm))] := hD
  refine lv_if_eq (tgt := 21) hx hb dX5_word_9 (by decide) (fun c_9 => ?_) (fun c_9 => ?_)
  · skip
    refine lv_iconst (v := (-1)) hx hb dX5_word_21 (by decide) ?_
    have hP9 := hP.sub (ws' := []) [] rfl
    have hD9 := hD.sub (ws' := []) [] (by decide) rfl
    exact W.iret (v := (-1)) hx hb hr (fun t ht hW => ⟨⟨(-1), (), rfl, (by simp only [rWord, if_pos c_9]), by rw [ht]; exact hP9, hD9⟩, hS.F ht⟩) hS.2.2 dX5_word_22
  · skip
    refine lv_aload_n hx hb dX5_word_12 rfl (lv_at hl 0 rfl) ?_
    refine va_get (D := (dC, dI)) (ci := 5) (v := .int 0) (C := RX5) (T := TX5) (N := 30) hx hb hts i5 hown hK hP 0 rfl rfl 18 (by decide) (hts (.fieldLink RX5 186 "StopSetterModel" "many" "I") (by decide +kernel)) (fun _ h9 => h9) rfl dX5_word_13 ?_
    refine lv_bipush (v := 60) hx hb dX5_word_16 (by decide) ?_
    refine lv_icmp_ne (tgt := 23) hx hb dX5_word_18 (by decide) (fun _ => ?_) (fun h9 => absurd h9 (by decide))
    refine lv_aload_n hx hb dX5_word_23 rfl (lv_at hl 0 rfl) ?_
    refine va_get (D := (dC, dI)) (ci := 5) (v := .ref Mrow) (C := RX5) (T := TX5) (N := 30) hx hb hts i5 hown hK hP 0 rfl rfl 19 (by decide) (hts (.fieldLink RX5 80 "StopSetterModel" "row" "[I") (by decide +kernel)) (fun _ h9 => h9) rfl dX5_word_24 ?_
    refine lv_aload_n hx hb dX5_word_27 rfl (lv_at hl 0 rfl) ?_
    refine va_get (D := (dC, dI)) (ci := 5) (v := .int 0) (C := RX5) (T := TX5) (N := 30) hx hb hts i5 hown hK hP 0 rfl rfl 18 (by decide) (hts (.fieldLink RX5 186 "StopSetterModel" "many" "I") (by decide +kernel)) (fun _ h9 => h9) rfl dX5_word_28 ?_
    refine lv_iload_n hx hb dX5_word_31 rfl (lv_at hl 1 rfl) ?_
    refine va_iast hx hb hK hP hD hS 1 0 rfl rfl (by unfold vp_in; decide) dX5_word_32 (fun H locs hP hD hS => ?_)
    have hP : va_P (dC, dI) vwCl [(h0, .inr (5, [.int 0, .ref Mtape, .int 0, .int 0, .ref Msort, .ref Mplace, .ref Mvalue, .int 0, .int 0, .ref Mwords, .int 0, .int 0, .ref Mgoes, .ref MgoLine, .ref Mends, .ref MendLine, .ref Mkinds, .ref MisName, .int 0, .ref Mrow, .ref MbyHand, .ref Mleast, .ref Msecond, .ref MendAt, .ref MgoAt, .ref MnodeBehind, .int 0, .ref MisOut, .ref MfirstEnd, .ref MfirstGo])), (Mrow, .inl (cI, 60, .inl (upd fr ((0 : Int32).toNatClampNeg) p0))), (MbyHand, .inl (cI, 60, .inl fm))] H := hP
    have hD : va_D A [(h0, .inr (5, [.int 0, .ref Mtape, .int 0, .int 0, .ref Msort, .ref Mplace, .ref Mvalue, .int 0, .int 0, .ref Mwords, .int 0, .int 0, .ref Mgoes, .ref MgoLine, .ref Mends, .ref MendLine, .ref Mkinds, .ref MisName, .int 0, .ref Mrow, .ref MbyHand, .ref Mleast, .ref Msecond, .ref MendAt, .ref MgoAt, .ref MnodeBehind, .int 0, .ref MisOut, .ref MfirstEnd, .ref MfirstGo])), (Mrow, .inl (cI, 60, .inl (upd fr ((0 : Int32).toNatClampNeg) p0))), (MbyHand, .inl (cI, 60, .inl fm))] := hD
    refine lv_aload_n hx hb dX5_word_33 rfl (lv_at hl 0 rfl) ?_
    refine va_get (D := (dC, dI)) (ci := 5) (v := .ref MbyHand) (C := RX5) (T := TX5) (N := 30) hx hb hts i5 hown hK hP 0 rfl rfl 20 (by decide) (hts (.fieldLink RX5 83 "StopSetterModel" "byHand" "[I") (by decide +kernel)) (fun _ h9 => h9) rfl dX5_word_34 ?_
    refine lv_aload_n hx hb dX5_word_37 rfl (lv_at hl 0 rfl) ?_
    refine va_get (D := (dC, dI)) (ci := 5) (v := .int 0) (C := RX5) (T := TX5) (N := 30) hx hb hts i5 hown hK hP 0 rfl rfl 18 (by decide) (hts (.fieldLink RX5 186 "StopSetterModel" "many" "I") (by decide +kernel)) (fun _ h9 => h9) rfl dX5_word_38 ?_
    refine lv_iconst (v := (-1)) hx hb dX5_word_41 (by decide) ?_
    refine va_iast hx hb hK hP hD hS 2 0 rfl rfl (by unfold vp_in; decide) dX5_word_42 (fun H locs hP hD hS => ?_)
    have hP : va_P (dC, dI) vwCl [(h0, .inr (5, [.int 0, .ref Mtape, .int 0, .int 0, .ref Msort, .ref Mplace, .ref Mvalue, .int 0, .int 0, .ref Mwords, .int 0, .int 0, .ref Mgoes, .ref MgoLine, .ref Mends, .ref MendLine, .ref Mkinds, .ref MisName, .int 0, .ref Mrow, .ref MbyHand, .ref Mleast, .ref Msecond, .ref MendAt, .ref MgoAt, .ref MnodeBehind, .int 0, .ref MisOut, .ref MfirstEnd, .ref MfirstGo])), (Mrow, .inl (cI, 60, .inl (upd fr ((0 : Int32).toNatClampNeg) p0))), (MbyHand, .inl (cI, 60, .inl (upd fm ((0 : Int32).toNatClampNeg) (-1))))] H := hP
    have hD : va_D A [(h0, .inr (5, [.int 0, .ref Mtape, .int 0, .int 0, .ref Msort, .ref Mplace, .ref Mvalue, .int 0, .int 0, .ref Mwords, .int 0, .int 0, .ref Mgoes, .ref MgoLine, .ref Mends, .ref MendLine, .ref Mkinds, .ref MisName, .int 0, .ref Mrow, .ref MbyHand, .ref Mleast, .ref Msecond, .ref MendAt, .ref MgoAt, .ref MnodeBehind, .int 0, .ref MisOut, .ref MfirstEnd, .ref MfirstGo])), (Mrow, .inl (cI, 60, .inl (upd fr ((0 : Int32).toNatClampNeg) p0))), (MbyHand, .inl (cI, 60, .inl (upd fm ((0 : Int32).toNatClampNeg) (-1))))] := hD
    refine lv_aload_n hx hb dX5_word_43 rfl (lv_at hl 0 rfl) ?_
    refine lv_dup hx hb dX5_word_44 rfl ?_
    refine va_get (D := (dC, dI)) (ci := 5) (v := .int 0) (C := RX5) (T := TX5) (N := 30) hx hb hts i5 hown hK hP 0 rfl rfl 18 (by decide) (hts (.fieldLink RX5 186 "StopSetterModel" "many" "I") (by decide +kernel)) (fun _ h9 => h9) rfl dX5_word_45 ?_
    refine lv_iconst (v := 1) hx hb dX5_word_48 (by decide) ?_
    refine lv_iadd hx hb dX5_word_49 ?_
    refine lv_topi (fun v_ ev_ => ?_)
    obtain rfl : v_ = 1 := ev_.trans (by decide)
    refine va_put (D := (dC, dI)) (ci := 5) (v := .int 1) (ty := tyX5 18) (C := RX5) (T := TX5) (N := 30) hx hb hts i5 tyX5 tyX5_ok nmX5 hown hK hP hD hS 0 rfl rfl 18 (by decide) (hts (.fieldLink RX5 186 "StopSetterModel" "many" "I") (by decide +kernel)) (fun _ h9 => h9) rfl (by decide +kernel) rfl rfl (Nat.le_of_ble_eq_true rfl) dX5_word_50 (fun H locs hP hD hS => ?_)
    have hP : va_P (dC, dI) vwCl [(h0, .inr (5, [.int 0, .ref Mtape, .int 0, .int 0, .ref Msort, .ref Mplace, .ref Mvalue, .int 0, .int 0, .ref Mwords, .int 0, .int 0, .ref Mgoes, .ref MgoLine, .ref Mends, .ref MendLine, .ref Mkinds, .ref MisName, .int 1, .ref Mrow, .ref MbyHand, .ref Mleast, .ref Msecond, .ref MendAt, .ref MgoAt, .ref MnodeBehind, .int 0, .ref MisOut, .ref MfirstEnd, .ref MfirstGo])), (Mrow, .inl (cI, 60, .inl (upd fr ((0 : Int32).toNatClampNeg) p0))), (MbyHand, .inl (cI, 60, .inl (upd fm ((0 : Int32).toNatClampNeg) (-1))))] H := hP
    have hD : va_D A [(h0, .inr (5, [.int 0, .ref Mtape, .int 0, .int 0, .ref Msort, .ref Mplace, .ref Mvalue, .int 0, .int 0, .ref Mwords, .int 0, .int 0, .ref Mgoes, .ref MgoLine, .ref Mends, .ref MendLine, .ref Mkinds, .ref MisName, .int 1, .ref Mrow, .ref MbyHand, .ref Mleast, .ref Msecond, .ref MendAt, .ref MgoAt, .ref MnodeBehind, .int 0, .ref MisOut, .ref MfirstEnd, .ref MfirstGo])), (Mrow, .inl (cI, 60, .inl (upd fr ((0 : Int32).toNatClampNeg) p0))), (MbyHand, .inl (cI, 60, .inl (upd fm ((0 : Int32).toNatClampNeg) (-1))))] := hD
    refine lv_aload_n hx hb dX5_word_53 rfl (lv_at hl 0 rfl) ?_
    refine va_get (D := (dC, dI)) (ci := 5) (v := .int 1) (C := RX5) (T := TX5) (N := 30) hx hb hts i5 hown hK hP 0 rfl rfl 18 (by decide) (hts (.fieldLink RX5 186 "StopSetterModel" "many" "I") (by decide +kernel)) (fun _ h9 => h9) rfl dX5_word_54 ?_
    have hP9 := hP.sub (ws' := []) [] rfl
    have hD9 := hD.sub (ws' := []) [] (by decide) rfl
    exact W.iret (v := 1) hx hb hr (fun t ht hW => ⟨⟨1, (), rfl, (by simp only [rWord, if_neg c_9]), by rw [ht]; exact hP9, hD9⟩, hS.F ht⟩) hS.2.2 dX5_word_57
set_option maxHeartbeats 4000000 in
set_option maxRecDepth 100000 in
theorem k_drop (l : Launch) (dC : Nat → ClassId) (dI : Nat → Nat → Nat) (cI cZ cC cJ : ClassId) (sz : Nat) (h0 : Nat) (kO : Nat) (nO : Nat) (rO : Nat) (mO : Nat) (tO : Nat) (rdO : Nat) (lnO : Nat) (drO : Nat) (chO : Nat)  : Met l yX4_drop wsX4_drop ({ frames := 0, cells := 0, slots := 0, locals := 0 }) (va_Pc [.ref h0] (sPre dC dI cI cZ cC cJ [(h0, .inr (4, [.ref kO, .ref nO, .ref rO, .ref mO, .int 0, .ref tO, .ref rdO, .ref lnO, .ref drO, .ref chO]))] sz)) (va_Qi (fun (r : Int32) (u : Unit) => r = (-1)) (fun _ => sB dC dI (va_A [(h0, .inr (4, [.ref kO, .ref nO, .ref rO, .ref mO, .int 0, .ref tO, .ref rdO, .ref lnO, .ref drO, .ref chO]))] sz) []) (va_A [(h0, .inr (4, [.ref kO, .ref nO, .ref rO, .ref mO, .int 0, .ref tO, .ref rdO, .ref lnO, .ref drO, .ref chO]))] sz)) 0 0 (va_A [(h0, .inr (4, [.ref kO, .ref nO, .ref rO, .ref mO, .int 0, .ref tO, .ref rdO, .ref lnO, .ref drO, .ref chO]))] sz) := by
  refine Met.ofW (cc := cX4_drop) (maxL := 1) (ret := (some .int)) (by decide) rfl ?_
  intro p e s m args below meth c s₁ B hml hv
  obtain ⟨rfl, hsz, hP, hsk, hD0⟩ := hv
  have hx := B.exec
  have hb := B.bytes
  have hr := B.returns
  have hts := atoms_spec (ws := wsX4_drop) B.pre
  have hown : s.vm.findClass RX4 = some m.cls := findClass_of_methodNamed B.named
  have hlocks := B.notSynchronized
  have hK := hsk.1
  have i4 : ∀ w ∈ wsX40, w ∈ wsX4_drop := by decide +kernel
  subst hsz
  have hD := hD0.self (sz := s.heap.size)
  generalize hAe : va_A [(h0, .inr (4, [.ref kO, .ref nO, .ref rO, .ref mO, .int 0, .ref tO, .ref rdO, .ref lnO, .ref drO, .ref chO]))] s.heap.size = A at hD ⊢
  have hA : ∀ q : Nat, s.heap.size ≤ q → A q := fun q h => by rw [← hAe]; exact Or.inr h
  have hS : va_S A s.heap s.heap [] := va_S.rf
  have hl := lv_entry ([.ref h0]) (n := 1) (Nat.le_of_ble_eq_true rfl)
  rw [lg_entry_eq]
  generalize (lg_sl ([.ref h0]) ++ List.replicate (1 - (lg_sl ([.ref h0])).length) Slot.unset).toArray = ls at hl ⊢
  have hl : lv_has ls 1 [(0, .ref h0)] := hl
  refine lv_aload_n hx hb dX4_drop_0 rfl (lv_at hl 0 rfl) ?_
  refine va_get (D := (dC, dI)) (ci := 4) (v := .int 0) (C := RX4) (T := TX4) (N := 10) hx hb hts i4 hown hK hP 0 rfl rfl 4 (by decide) (hts (.fieldLink RX4 74 "StopSetter" "size" "I") (by decide +kernel)) (fun _ h9 => h9) rfl dX4_drop_1 ?_
  refine lv_if_gt (tgt := 9) hx hb dX4_drop_4 (by decide) (fun h9 => absurd h9 (by decide)) (fun _ => ?_)
  refine lv_iconst (v := (-1)) hx hb dX4_drop_7 (by decide) ?_
  have hP9 := hP.sub (ws' := []) [] rfl
  have hD9 := hD.sub (ws' := []) [] (by decide) rfl
  exact W.iret (v := (-1)) hx hb hr (fun t ht hW => ⟨⟨(-1), (), rfl, rfl, by rw [ht]; exact hP9, hD9⟩, hS.F ht⟩) hS.2.2 dX4_drop_8
set_option maxHeartbeats 4000000 in
set_option maxRecDepth 100000 in
theorem k_mdrop (l : Launch) (dC : Nat → ClassId) (dI : Nat → Nat → Nat) (cI cZ cC cJ : ClassId) (sz : Nat) (h0 : Nat) (Mtape : Nat) (Msort : Nat) (Mplace : Nat) (Mvalue : Nat) (Mwords : Nat) (Mgoes : Nat) (MgoLine : Nat) (Mends : Nat) (MendLine : Nat) (Mkinds : Nat) (MisName : Nat) (Mrow : Nat) (MbyHand : Nat) (Mleast : Nat) (Msecond : Nat) (MendAt : Nat) (MgoAt : Nat) (MnodeBehind : Nat) (MisOut : Nat) (MfirstEnd : Nat) (MfirstGo : Nat)  : Met l yX5_drop wsX5_drop ({ frames := 0, cells := 0, slots := 0, locals := 0 }) (va_Pc [.ref h0] (sPre dC dI cI cZ cC cJ [(h0, .inr (5, [.int 0, .ref Mtape, .int 0, .int 0, .ref Msort, .ref Mplace, .ref Mvalue, .int 0, .int 0, .ref Mwords, .int 0, .int 0, .ref Mgoes, .ref MgoLine, .ref Mends, .ref MendLine, .ref Mkinds, .ref MisName, .int 0, .ref Mrow, .ref MbyHand, .ref Mleast, .ref Msecond, .ref MendAt, .ref MgoAt, .ref MnodeBehind, .int 0, .ref MisOut, .ref MfirstEnd, .ref MfirstGo]))] sz)) (va_Qi (fun (r : Int32) (u : Unit) => r = (-1)) (fun _ => sB dC dI (va_A [(h0, .inr (5, [.int 0, .ref Mtape, .int 0, .int 0, .ref Msort, .ref Mplace, .ref Mvalue, .int 0, .int 0, .ref Mwords, .int 0, .int 0, .ref Mgoes, .ref MgoLine, .ref Mends, .ref MendLine, .ref Mkinds, .ref MisName, .int 0, .ref Mrow, .ref MbyHand, .ref Mleast, .ref Msecond, .ref MendAt, .ref MgoAt, .ref MnodeBehind, .int 0, .ref MisOut, .ref MfirstEnd, .ref MfirstGo]))] sz) []) (va_A [(h0, .inr (5, [.int 0, .ref Mtape, .int 0, .int 0, .ref Msort, .ref Mplace, .ref Mvalue, .int 0, .int 0, .ref Mwords, .int 0, .int 0, .ref Mgoes, .ref MgoLine, .ref Mends, .ref MendLine, .ref Mkinds, .ref MisName, .int 0, .ref Mrow, .ref MbyHand, .ref Mleast, .ref Msecond, .ref MendAt, .ref MgoAt, .ref MnodeBehind, .int 0, .ref MisOut, .ref MfirstEnd, .ref MfirstGo]))] sz)) 0 0 (va_A [(h0, .inr (5, [.int 0, .ref Mtape, .int 0, .int 0, .ref Msort, .ref Mplace, .ref Mvalue, .int 0, .int 0, .ref Mwords, .int 0, .int 0, .ref Mgoes, .ref MgoLine, .ref Mends, .ref MendLine, .ref Mkinds, .ref MisName, .int 0, .ref Mrow, .ref MbyHand, .ref Mleast, .ref Msecond, .ref MendAt, .ref MgoAt, .ref MnodeBehind, .int 0, .ref MisOut, .ref MfirstEnd, .ref MfirstGo]))] sz) := by
  refine Met.ofW (cc := cX5_drop) (maxL := 1) (ret := (some .int)) (by decide) rfl ?_
  intro p e s m args below meth c s₁ B hml hv
  obtain ⟨rfl, hsz, hP, hsk, hD0⟩ := hv
  have hx := B.exec
  have hb := B.bytes
  have hr := B.returns
  have hts := atoms_spec (ws := wsX5_drop) B.pre
  have hown : s.vm.findClass RX5 = some m.cls := findClass_of_methodNamed B.named
  have hlocks := B.notSynchronized
  have hK := hsk.1
  have i5 : ∀ w ∈ wsX50, w ∈ wsX5_drop := by decide +kernel
  subst hsz
  have hD := hD0.self (sz := s.heap.size)
  generalize hAe : va_A [(h0, .inr (5, [.int 0, .ref Mtape, .int 0, .int 0, .ref Msort, .ref Mplace, .ref Mvalue, .int 0, .int 0, .ref Mwords, .int 0, .int 0, .ref Mgoes, .ref MgoLine, .ref Mends, .ref MendLine, .ref Mkinds, .ref MisName, .int 0, .ref Mrow, .ref MbyHand, .ref Mleast, .ref Msecond, .ref MendAt, .ref MgoAt, .ref MnodeBehind, .int 0, .ref MisOut, .ref MfirstEnd, .ref MfirstGo]))] s.heap.size = A at hD ⊢
  have hA : ∀ q : Nat, s.heap.size ≤ q → A q := fun q h => by rw [← hAe]; exact Or.inr h
  have hS : va_S A s.heap s.heap [] := va_S.rf
  have hl := lv_entry ([.ref h0]) (n := 1) (Nat.le_of_ble_eq_true rfl)
  rw [lg_entry_eq]
  generalize (lg_sl ([.ref h0]) ++ List.replicate (1 - (lg_sl ([.ref h0])).length) Slot.unset).toArray = ls at hl ⊢
  have hl : lv_has ls 1 [(0, .ref h0)] := hl
  refine lv_aload_n hx hb dX5_drop_0 rfl (lv_at hl 0 rfl) ?_
  refine lv_iconst (v := 0) hx hb dX5_drop_1 (by decide) ?_
  refine va_put (D := (dC, dI)) (ci := 5) (v := .int 0) (ty := tyX5 0) (C := RX5) (T := TX5) (N := 30) hx hb hts i5 tyX5 tyX5_ok nmX5 hown hK hP hD hS 0 rfl rfl 0 (by decide) (hts (.fieldLink RX5 1 "StopSetterModel" "thrown" "I") (by decide +kernel)) (fun _ h9 => h9) rfl (by decide +kernel) rfl rfl (Nat.le_of_ble_eq_true rfl) dX5_drop_2 (fun H locs hP hD hS => ?_)
  have hP : va_P (dC, dI) vwCl [(h0, .inr (5, [.int 0, .ref Mtape, .int 0, .int 0, .ref Msort, .ref Mplace, .ref Mvalue, .int 0, .int 0, .ref Mwords, .int 0, .int 0, .ref Mgoes, .ref MgoLine, .ref Mends, .ref MendLine, .ref Mkinds, .ref MisName, .int 0, .ref Mrow, .ref MbyHand, .ref Mleast, .ref Msecond, .ref MendAt, .ref MgoAt, .ref MnodeBehind, .int 0, .ref MisOut, .ref MfirstEnd, .ref MfirstGo]))] H := hP
  have hD : va_D A [(h0, .inr (5, [.int 0, .ref Mtape, .int 0, .int 0, .ref Msort, .ref Mplace, .ref Mvalue, .int 0, .int 0, .ref Mwords, .int 0, .int 0, .ref Mgoes, .ref MgoLine, .ref Mends, .ref MendLine, .ref Mkinds, .ref MisName, .int 0, .ref Mrow, .ref MbyHand, .ref Mleast, .ref Msecond, .ref MendAt, .ref MgoAt, .ref MnodeBehind, .int 0, .ref MisOut, .ref MfirstEnd, .ref MfirstGo]))] := hD
  refine lv_aload_n hx hb dX5_drop_5 rfl (lv_at hl 0 rfl) ?_
  refine va_get (D := (dC, dI)) (ci := 5) (v := .int 0) (C := RX5) (T := TX5) (N := 30) hx hb hts i5 hown hK hP 0 rfl rfl 18 (by decide) (hts (.fieldLink RX5 186 "StopSetterModel" "many" "I") (by decide +kernel)) (fun _ h9 => h9) rfl dX5_drop_6 ?_
  refine lv_if_ne (tgt := 14) hx hb dX5_drop_9 (by decide) (fun h9 => absurd (by decide) h9) (fun _ => ?_)
  refine lv_iconst (v := (-1)) hx hb dX5_drop_12 (by decide) ?_
  have hP9 := hP.sub (ws' := []) [] rfl
  have hD9 := hD.sub (ws' := []) [] (by decide) rfl
  exact W.iret (v := (-1)) hx hb hr (fun t ht hW => ⟨⟨(-1), (), rfl, rfl, by rw [ht]; exact hP9, hD9⟩, hS.F ht⟩) hS.2.2 dX5_drop_13
set_option maxHeartbeats 4000000 in
set_option maxRecDepth 100000 in
theorem k_hand (l : Launch) (dC : Nat → ClassId) (dI : Nat → Nat → Nat) (cI cZ cC cJ : ClassId) (sz : Nat) (h0 : Nat) (kO : Nat) (nO : Nat) (rO : Nat) (mO : Nat) (tO : Nat) (rdO : Nat) (lnO : Nat) (drO : Nat) (chO : Nat) (p0 : Int32) (p1 : Int32)  : Met l yX4_hand wsX4_hand ({ frames := 1, cells := 0, slots := 0, locals := 21 }) (va_Pc [.ref h0, .int p0, .int p1] (sPre dC dI cI cZ cC cJ [(h0, .inr (4, [.ref kO, .ref nO, .ref rO, .ref mO, .int 0, .ref tO, .ref rdO, .ref lnO, .ref drO, .ref chO]))] sz)) (va_Qi (fun (r : Int32) (u : Unit) => r = 0) (fun _ => sB dC dI (va_A [(h0, .inr (4, [.ref kO, .ref nO, .ref rO, .ref mO, .int 0, .ref tO, .ref rdO, .ref lnO, .ref drO, .ref chO]))] sz) []) (va_A [(h0, .inr (4, [.ref kO, .ref nO, .ref rO, .ref mO, .int 0, .ref tO, .ref rdO, .ref lnO, .ref drO, .ref chO]))] sz)) 0 0 (va_A [(h0, .inr (4, [.ref kO, .ref nO, .ref rO, .ref mO, .int 0, .ref tO, .ref rdO, .ref lnO, .ref drO, .ref chO]))] sz) := by
  refine Met.ofW (cc := cX4_hand) (maxL := 3) (ret := (some .boolean)) (by decide) rfl ?_
  intro p e s m args below meth c s₁ B hml hv
  obtain ⟨rfl, hsz, hP, hsk, hD0⟩ := hv
  have hx := B.exec
  have hb := B.bytes
  have hr := B.returns
  have hts := atoms_spec (ws := wsX4_hand) B.pre
  have hown : s.vm.findClass RX4 = some m.cls := findClass_of_methodNamed B.named
  have hlocks := B.notSynchronized
  have hK := hsk.1
  subst hsz
  have hD := hD0.self (sz := s.heap.size)
  generalize hAe : va_A [(h0, .inr (4, [.ref kO, .ref nO, .ref rO, .ref mO, .int 0, .ref tO, .ref rdO, .ref lnO, .ref drO, .ref chO]))] s.heap.size = A at hD ⊢
  have hA : ∀ q : Nat, s.heap.size ≤ q → A q := fun q h => by rw [← hAe]; exact Or.inr h
  have hS : va_S A s.heap s.heap [] := va_S.rf
  have hl := lv_entry ([.ref h0, .int p0, .int p1]) (n := 3) (Nat.le_of_ble_eq_true rfl)
  rw [lg_entry_eq]
  generalize (lg_sl ([.ref h0, .int p0, .int p1]) ++ List.replicate (3 - (lg_sl ([.ref h0, .int p0, .int p1])).length) Slot.unset).toArray = ls at hl ⊢
  have hl : lv_has ls 3 [(0, .ref h0), (1, .int p0), (2, .int p1)] := hl
  refine lv_aload_n hx hb dX4_hand_0 rfl (lv_at hl 0 rfl) ?_
  refine lv_iload_n hx hb dX4_hand_1 rfl (lv_at hl 1 rfl) ?_
  have hPc := hP.sub (ws' := [(h0, .inr (4, [.ref kO, .ref nO, .ref rO, .ref mO, .int 0, .ref tO, .ref rdO, .ref lnO, .ref drO, .ref chO]))]) [0] rfl
  have hDc := hD.sub (ws' := [(h0, .inr (4, [.ref kO, .ref nO, .ref rO, .ref mO, .int 0, .ref tO, .ref rdO, .ref lnO, .ref drO, .ref chO]))]) [0] (by decide) rfl
  have hFc := va_free (wc := [(h0, .inr (4, [.ref kO, .ref nO, .ref rO, .ref mO, .int 0, .ref tO, .ref rdO, .ref lnO, .ref drO, .ref chO]))]) hD hS hA [0] rfl
  refine va_calli (va_runV (As := [.int p0]) (rest := []) ⟨hx, hb, hml, hown, hts⟩ (k_hasPlace0 l dC dI cI cZ cC cJ s.heap.size h0 kO nO rO mO tO rdO lnO drO chO p0 ) (cwV 1 hts gX4_hand_X4_hasPlace rfl rfl rfl (by decide +kernel) ⟨Nat.le_of_ble_eq_true rfl, Nat.le_of_ble_eq_true rfl⟩) ⟨sPre_blind, va_recv hK hPc (ci := 4) (q0 := 0) rfl rfl, fun U hU hW => ⟨rfl, sPre_ok hsk hPc hDc hU hW⟩⟩ rfl rfl hl.1 rfl (lv_room (Nat.le_of_ble_eq_true rfl)) dX4_hand_2 ⟨(show 0 + 0 ≤ 0 by omega), (show 0 + 0 ≤ 0 by omega)⟩) hS (fun q _ h => hFc q h) hFc (fun r_1 u t H1 locs ht hvm hw hB hz1 hk1 hS => ?_)
  try dsimp only at hw hB
  have hw_2 := hw
  obtain rfl : r_1 = 0 := hw_2
  obtain ⟨hP1, hD1⟩ := hB
  rw [ht] at hP1
  obtain ⟨hP, hD⟩ := va_join (wr := []) (w1 := [(h0, .inr (4, [.ref kO, .ref nO, .ref rO, .ref mO, .int 0, .ref tO, .ref rdO, .ref lnO, .ref drO, .ref chO]))]) hP hD [0] [] rfl rfl (by decide) (by decide) hk1 hFc hP1 hD1
  generalize H1 = H at hP hS ⊢
  have hP : va_P (dC, dI) vwCl [(h0, .inr (4, [.ref kO, .ref nO, .ref rO, .ref mO, .int 0, .ref tO, .ref rdO, .ref lnO, .ref drO, .ref chO]))] H := hP
  have hD : va_D A [(h0, .inr (4, [.ref kO, .ref nO, .ref rO, .ref mO, .int 0, .ref tO, .ref rdO, .ref lnO, .ref drO, .ref chO]))] := hD
  refine lv_if_eq (tgt := 28) hx hb dX4_hand_5 (by decide) (fun _ => ?_) (fun h9 => absurd (by decide) h9)
  refine lv_iconst (v := 0) hx hb dX4_hand_28 (by decide) ?_
  have hP9 := hP.sub (ws' := []) [] rfl
  have hD9 := hD.sub (ws' := []) [] (by decide) rfl
  exact W.zret (v := 0) (ty := .boolean) hx hb hr rfl (fun t ht hW => ⟨⟨0, (), rfl, rfl, by rw [ht]; exact hP9, hD9⟩, hS.F ht⟩) hS.2.2 dX4_hand_29
set_option maxHeartbeats 4000000 in
set_option maxRecDepth 100000 in
theorem k_mhand (l : Launch) (dC : Nat → ClassId) (dI : Nat → Nat → Nat) (cI cZ cC cJ : ClassId) (sz : Nat) (h0 : Nat) (Mtape : Nat) (Msort : Nat) (Mplace : Nat) (Mvalue : Nat) (Mwords : Nat) (Mgoes : Nat) (MgoLine : Nat) (Mends : Nat) (MendLine : Nat) (Mkinds : Nat) (MisName : Nat) (Mrow : Nat) (MbyHand : Nat) (Mleast : Nat) (Msecond : Nat) (MendAt : Nat) (MgoAt : Nat) (MnodeBehind : Nat) (MisOut : Nat) (MfirstEnd : Nat) (MfirstGo : Nat) (p0 : Int32) (p1 : Int32)  : Met l yX5_hand wsX5_hand ({ frames := 0, cells := 0, slots := 0, locals := 0 }) (va_Pc [.ref h0, .int p0, .int p1] (sPre dC dI cI cZ cC cJ [(h0, .inr (5, [.int 0, .ref Mtape, .int 0, .int 0, .ref Msort, .ref Mplace, .ref Mvalue, .int 0, .int 0, .ref Mwords, .int 0, .int 0, .ref Mgoes, .ref MgoLine, .ref Mends, .ref MendLine, .ref Mkinds, .ref MisName, .int 0, .ref Mrow, .ref MbyHand, .ref Mleast, .ref Msecond, .ref MendAt, .ref MgoAt, .ref MnodeBehind, .int 0, .ref MisOut, .ref MfirstEnd, .ref MfirstGo]))] sz)) (va_Qi (fun (r : Int32) (u : Unit) => r = 0) (fun _ => sB dC dI (va_A [(h0, .inr (5, [.int 0, .ref Mtape, .int 0, .int 0, .ref Msort, .ref Mplace, .ref Mvalue, .int 0, .int 0, .ref Mwords, .int 0, .int 0, .ref Mgoes, .ref MgoLine, .ref Mends, .ref MendLine, .ref Mkinds, .ref MisName, .int 0, .ref Mrow, .ref MbyHand, .ref Mleast, .ref Msecond, .ref MendAt, .ref MgoAt, .ref MnodeBehind, .int 0, .ref MisOut, .ref MfirstEnd, .ref MfirstGo]))] sz) []) (va_A [(h0, .inr (5, [.int 0, .ref Mtape, .int 0, .int 0, .ref Msort, .ref Mplace, .ref Mvalue, .int 0, .int 0, .ref Mwords, .int 0, .int 0, .ref Mgoes, .ref MgoLine, .ref Mends, .ref MendLine, .ref Mkinds, .ref MisName, .int 0, .ref Mrow, .ref MbyHand, .ref Mleast, .ref Msecond, .ref MendAt, .ref MgoAt, .ref MnodeBehind, .int 0, .ref MisOut, .ref MfirstEnd, .ref MfirstGo]))] sz)) 0 0 (va_A [(h0, .inr (5, [.int 0, .ref Mtape, .int 0, .int 0, .ref Msort, .ref Mplace, .ref Mvalue, .int 0, .int 0, .ref Mwords, .int 0, .int 0, .ref Mgoes, .ref MgoLine, .ref Mends, .ref MendLine, .ref Mkinds, .ref MisName, .int 0, .ref Mrow, .ref MbyHand, .ref Mleast, .ref Msecond, .ref MendAt, .ref MgoAt, .ref MnodeBehind, .int 0, .ref MisOut, .ref MfirstEnd, .ref MfirstGo]))] sz) := by
  refine Met.ofW (cc := cX5_hand) (maxL := 3) (ret := (some .boolean)) (by decide) rfl ?_
  intro p e s m args below meth c s₁ B hml hv
  obtain ⟨rfl, hsz, hP, hsk, hD0⟩ := hv
  have hx := B.exec
  have hb := B.bytes
  have hr := B.returns
  have hts := atoms_spec (ws := wsX5_hand) B.pre
  have hown : s.vm.findClass RX5 = some m.cls := findClass_of_methodNamed B.named
  have hlocks := B.notSynchronized
  have hK := hsk.1
  have i5 : ∀ w ∈ wsX50, w ∈ wsX5_hand := by decide +kernel
  subst hsz
  have hD := hD0.self (sz := s.heap.size)
  generalize hAe : va_A [(h0, .inr (5, [.int 0, .ref Mtape, .int 0, .int 0, .ref Msort, .ref Mplace, .ref Mvalue, .int 0, .int 0, .ref Mwords, .int 0, .int 0, .ref Mgoes, .ref MgoLine, .ref Mends, .ref MendLine, .ref Mkinds, .ref MisName, .int 0, .ref Mrow, .ref MbyHand, .ref Mleast, .ref Msecond, .ref MendAt, .ref MgoAt, .ref MnodeBehind, .int 0, .ref MisOut, .ref MfirstEnd, .ref MfirstGo]))] s.heap.size = A at hD ⊢
  have hA : ∀ q : Nat, s.heap.size ≤ q → A q := fun q h => by rw [← hAe]; exact Or.inr h
  have hS : va_S A s.heap s.heap [] := va_S.rf
  have hl := lv_entry ([.ref h0, .int p0, .int p1]) (n := 3) (Nat.le_of_ble_eq_true rfl)
  rw [lg_entry_eq]
  generalize (lg_sl ([.ref h0, .int p0, .int p1]) ++ List.replicate (3 - (lg_sl ([.ref h0, .int p0, .int p1])).length) Slot.unset).toArray = ls at hl ⊢
  have hl : lv_has ls 3 [(0, .ref h0), (1, .int p0), (2, .int p1)] := hl
  refine lv_aload_n hx hb dX5_hand_0 rfl (lv_at hl 0 rfl) ?_
  refine lv_iconst (v := 0) hx hb dX5_hand_1 (by decide) ?_
  refine va_put (D := (dC, dI)) (ci := 5) (v := .int 0) (ty := tyX5 0) (C := RX5) (T := TX5) (N := 30) hx hb hts i5 tyX5 tyX5_ok nmX5 hown hK hP hD hS 0 rfl rfl 0 (by decide) (hts (.fieldLink RX5 1 "StopSetterModel" "thrown" "I") (by decide +kernel)) (fun _ h9 => h9) rfl (by decide +kernel) rfl rfl (Nat.le_of_ble_eq_true rfl) dX5_hand_2 (fun H locs hP hD hS => ?_)
  have hP : va_P (dC, dI) vwCl [(h0, .inr (5, [.int 0, .ref Mtape, .int 0, .int 0, .ref Msort, .ref Mplace, .ref Mvalue, .int 0, .int 0, .ref Mwords, .int 0, .int 0, .ref Mgoes, .ref MgoLine, .ref Mends, .ref MendLine, .ref Mkinds, .ref MisName, .int 0, .ref Mrow, .ref MbyHand, .ref Mleast, .ref Msecond, .ref MendAt, .ref MgoAt, .ref MnodeBehind, .int 0, .ref MisOut, .ref MfirstEnd, .ref MfirstGo]))] H := hP
  have hD : va_D A [(h0, .inr (5, [.int 0, .ref Mtape, .int 0, .int 0, .ref Msort, .ref Mplace, .ref Mvalue, .int 0, .int 0, .ref Mwords, .int 0, .int 0, .ref Mgoes, .ref MgoLine, .ref Mends, .ref MendLine, .ref Mkinds, .ref MisName, .int 0, .ref Mrow, .ref MbyHand, .ref Mleast, .ref Msecond, .ref MendAt, .ref MgoAt, .ref MnodeBehind, .int 0, .ref MisOut, .ref MfirstEnd, .ref MfirstGo]))] := hD
  refine lv_iload_n hx hb dX5_hand_5 rfl (lv_at hl 1 rfl) ?_
  refine lv_if_lt (tgt := 37) hx hb dX5_hand_6 (by decide) (fun c_6 => ?_) (fun c_6 => ?_)
  · skip
    refine lv_iconst (v := 0) hx hb dX5_hand_37 (by decide) ?_
    have hP9 := hP.sub (ws' := []) [] rfl
    have hD9 := hD.sub (ws' := []) [] (by decide) rfl
    exact W.zret (v := 0) (ty := .boolean) hx hb hr rfl (fun t ht hW => ⟨⟨0, (), rfl, rfl, by rw [ht]; exact hP9, hD9⟩, hS.F ht⟩) hS.2.2 dX5_hand_38
  · skip
    refine lv_iload_n hx hb dX5_hand_9 rfl (lv_at hl 1 rfl) ?_
    refine lv_aload_n hx hb dX5_hand_10 rfl (lv_at hl 0 rfl) ?_
    refine va_get (D := (dC, dI)) (ci := 5) (v := .int 0) (C := RX5) (T := TX5) (N := 30) hx hb hts i5 hown hK hP 0 rfl rfl 18 (by decide) (hts (.fieldLink RX5 186 "StopSetterModel" "many" "I") (by decide +kernel)) (fun _ h9 => h9) rfl dX5_hand_11 ?_
    refine lv_icmp_ge (tgt := 37) hx hb dX5_hand_14 (by decide) (fun _ => ?_) (fun h9 => absurd (Int32.not_lt.mp c_6) h9)
    refine lv_iconst (v := 0) hx hb dX5_hand_37 (by decide) ?_
    have hP9 := hP.sub (ws' := []) [] rfl
    have hD9 := hD.sub (ws' := []) [] (by decide) rfl
    exact W.zret (v := 0) (ty := .boolean) hx hb hr rfl (fun t ht hW => ⟨⟨0, (), rfl, rfl, by rw [ht]; exact hP9, hD9⟩, hS.F ht⟩) hS.2.2 dX5_hand_38
set_option maxHeartbeats 4000000 in
set_option maxRecDepth 100000 in
theorem k_hasGo0 (l : Launch) (dC : Nat → ClassId) (dI : Nat → Nat → Nat) (cI cZ cC cJ : ClassId) (sz : Nat) (h0 : Nat) (gF : Nat) (gK : Nat) (gT : Nat) (gC : Nat) (gM : Nat) (eF : Nat) (eC : Nat) (eM : Nat) (hopA : Nat) (p0 : Int32)  : Met l yX1_hasGo wsX1_hasGo ({ frames := 0, cells := 0, slots := 0, locals := 0 }) (va_Pc [.ref h0, .int p0] (sPre dC dI cI cZ cC cJ [(h0, .inr (1, [.ref gF, .ref gK, .ref gT, .ref gC, .ref gM, .int 0, .ref eF, .ref eC, .ref eM, .int 0, .ref hopA]))] sz)) (va_Qi (fun (r : Int32) (u : Unit) => r = 0) (fun _ => sB dC dI (va_A [(h0, .inr (1, [.ref gF, .ref gK, .ref gT, .ref gC, .ref gM, .int 0, .ref eF, .ref eC, .ref eM, .int 0, .ref hopA]))] sz) [(h0, .inr (1, [.ref gF, .ref gK, .ref gT, .ref gC, .ref gM, .int 0, .ref eF, .ref eC, .ref eM, .int 0, .ref hopA]))]) (va_A [(h0, .inr (1, [.ref gF, .ref gK, .ref gT, .ref gC, .ref gM, .int 0, .ref eF, .ref eC, .ref eM, .int 0, .ref hopA]))] sz)) 0 0 (va_A [(h0, .inr (1, [.ref gF, .ref gK, .ref gT, .ref gC, .ref gM, .int 0, .ref eF, .ref eC, .ref eM, .int 0, .ref hopA]))] sz) := by
  refine Met.ofW (cc := cX1_hasGo) (maxL := 2) (ret := (some .boolean)) (by decide) rfl ?_
  intro p e s m args below meth c s₁ B hml hv
  obtain ⟨rfl, hsz, hP, hsk, hD0⟩ := hv
  have hx := B.exec
  have hb := B.bytes
  have hr := B.returns
  have hts := atoms_spec (ws := wsX1_hasGo) B.pre
  have hown : s.vm.findClass RX1 = some m.cls := findClass_of_methodNamed B.named
  have hlocks := B.notSynchronized
  have hK := hsk.1
  have i1 : ∀ w ∈ wsX10, w ∈ wsX1_hasGo := by decide +kernel
  subst hsz
  have hD := hD0.self (sz := s.heap.size)
  generalize hAe : va_A [(h0, .inr (1, [.ref gF, .ref gK, .ref gT, .ref gC, .ref gM, .int 0, .ref eF, .ref eC, .ref eM, .int 0, .ref hopA]))] s.heap.size = A at hD ⊢
  have hA : ∀ q : Nat, s.heap.size ≤ q → A q := fun q h => by rw [← hAe]; exact Or.inr h
  have hS : va_S A s.heap s.heap [] := va_S.rf
  have hl := lv_entry ([.ref h0, .int p0]) (n := 2) (Nat.le_of_ble_eq_true rfl)
  rw [lg_entry_eq]
  generalize (lg_sl ([.ref h0, .int p0]) ++ List.replicate (2 - (lg_sl ([.ref h0, .int p0])).length) Slot.unset).toArray = ls at hl ⊢
  have hl : lv_has ls 2 [(0, .ref h0), (1, .int p0)] := hl
  refine lv_iload_n hx hb dX1_hasGo_0 rfl (lv_at hl 1 rfl) ?_
  refine lv_if_lt (tgt := 22) hx hb dX1_hasGo_1 (by decide) (fun c_1 => ?_) (fun c_1 => ?_)
  · skip
    refine lv_iconst (v := 0) hx hb dX1_hasGo_22 (by decide) ?_
    have hP9 := hP.sub (ws' := [(h0, .inr (1, [.ref gF, .ref gK, .ref gT, .ref gC, .ref gM, .int 0, .ref eF, .ref eC, .ref eM, .int 0, .ref hopA]))]) [0] rfl
    have hD9 := hD.sub (ws' := [(h0, .inr (1, [.ref gF, .ref gK, .ref gT, .ref gC, .ref gM, .int 0, .ref eF, .ref eC, .ref eM, .int 0, .ref hopA]))]) [0] (by decide) rfl
    exact W.zret (v := 0) (ty := .boolean) hx hb hr rfl (fun t ht hW => ⟨⟨0, (), rfl, rfl, by rw [ht]; exact hP9, hD9⟩, hS.F ht⟩) hS.2.2 dX1_hasGo_23
  · skip
    refine lv_iload_n hx hb dX1_hasGo_4 rfl (lv_at hl 1 rfl) ?_
    refine lv_aload_n hx hb dX1_hasGo_5 rfl (lv_at hl 0 rfl) ?_
    refine va_get (D := (dC, dI)) (ci := 1) (v := .int 0) (C := RX1) (T := TX1) (N := 11) hx hb hts i1 hown hK hP 0 rfl rfl 5 (by decide) (hts (.fieldLink RX1 42 "StopSetter$Grammar" "goCount" "I") (by decide +kernel)) (fun _ h9 => h9) rfl dX1_hasGo_6 ?_
    refine lv_icmp_ge (tgt := 22) hx hb dX1_hasGo_9 (by decide) (fun _ => ?_) (fun h9 => absurd (Int32.not_lt.mp c_1) h9)
    refine lv_iconst (v := 0) hx hb dX1_hasGo_22 (by decide) ?_
    have hP9 := hP.sub (ws' := [(h0, .inr (1, [.ref gF, .ref gK, .ref gT, .ref gC, .ref gM, .int 0, .ref eF, .ref eC, .ref eM, .int 0, .ref hopA]))]) [0] rfl
    have hD9 := hD.sub (ws' := [(h0, .inr (1, [.ref gF, .ref gK, .ref gT, .ref gC, .ref gM, .int 0, .ref eF, .ref eC, .ref eM, .int 0, .ref hopA]))]) [0] (by decide) rfl
    exact W.zret (v := 0) (ty := .boolean) hx hb hr rfl (fun t ht hW => ⟨⟨0, (), rfl, rfl, by rw [ht]; exact hP9, hD9⟩, hS.F ht⟩) hS.2.2 dX1_hasGo_23
set_option maxHeartbeats 4000000 in
set_option maxRecDepth 100000 in
theorem k_go (l : Launch) (dC : Nat → ClassId) (dI : Nat → Nat → Nat) (cI cZ cC cJ : ClassId) (sz : Nat) (h0 : Nat) (kO : Nat) (nO : Nat) (rO : Nat) (mO : Nat) (tO : Nat) (rdO : Nat) (lnO : Nat) (drO : Nat) (chO : Nat) (gF : Nat) (gK : Nat) (gT : Nat) (gC : Nat) (gM : Nat) (eF : Nat) (eC : Nat) (eM : Nat) (hopA : Nat) (p0 : Int32) (p1 : Int32)  : Met l yX4_go wsX4_go ({ frames := 1, cells := 0, slots := 0, locals := 21 }) (va_Pc [.ref h0, .int p0, .int p1] (sPre dC dI cI cZ cC cJ [(h0, .inr (4, [.ref kO, .ref nO, .ref rO, .ref mO, .int 0, .ref tO, .ref rdO, .ref lnO, .ref drO, .ref chO])), (lnO, .inr (1, [.ref gF, .ref gK, .ref gT, .ref gC, .ref gM, .int 0, .ref eF, .ref eC, .ref eM, .int 0, .ref hopA]))] sz)) (va_Qi (fun (r : Int32) (u : Unit) => r = (-1)) (fun _ => sB dC dI (va_A [(h0, .inr (4, [.ref kO, .ref nO, .ref rO, .ref mO, .int 0, .ref tO, .ref rdO, .ref lnO, .ref drO, .ref chO])), (lnO, .inr (1, [.ref gF, .ref gK, .ref gT, .ref gC, .ref gM, .int 0, .ref eF, .ref eC, .ref eM, .int 0, .ref hopA]))] sz) []) (va_A [(h0, .inr (4, [.ref kO, .ref nO, .ref rO, .ref mO, .int 0, .ref tO, .ref rdO, .ref lnO, .ref drO, .ref chO])), (lnO, .inr (1, [.ref gF, .ref gK, .ref gT, .ref gC, .ref gM, .int 0, .ref eF, .ref eC, .ref eM, .int 0, .ref hopA]))] sz)) 0 0 (va_A [(h0, .inr (4, [.ref kO, .ref nO, .ref rO, .ref mO, .int 0, .ref tO, .ref rdO, .ref lnO, .ref drO, .ref chO])), (lnO, .inr (1, [.ref gF, .ref gK, .ref gT, .ref gC, .ref gM, .int 0, .ref eF, .ref eC, .ref eM, .int 0, .ref hopA]))] sz) := by
  refine Met.ofW (cc := cX4_go) (maxL := 3) (ret := (some .int)) (by decide) rfl ?_
  intro p e s m args below meth c s₁ B hml hv
  obtain ⟨rfl, hsz, hP, hsk, hD0⟩ := hv
  have hx := B.exec
  have hb := B.bytes
  have hr := B.returns
  have hts := atoms_spec (ws := wsX4_go) B.pre
  have hown : s.vm.findClass RX4 = some m.cls := findClass_of_methodNamed B.named
  have hlocks := B.notSynchronized
  have hK := hsk.1
  have i4 : ∀ w ∈ wsX40, w ∈ wsX4_go := by decide +kernel
  subst hsz
  have hD := hD0.self (sz := s.heap.size)
  generalize hAe : va_A [(h0, .inr (4, [.ref kO, .ref nO, .ref rO, .ref mO, .int 0, .ref tO, .ref rdO, .ref lnO, .ref drO, .ref chO])), (lnO, .inr (1, [.ref gF, .ref gK, .ref gT, .ref gC, .ref gM, .int 0, .ref eF, .ref eC, .ref eM, .int 0, .ref hopA]))] s.heap.size = A at hD ⊢
  have hA : ∀ q : Nat, s.heap.size ≤ q → A q := fun q h => by rw [← hAe]; exact Or.inr h
  have hS : va_S A s.heap s.heap [] := va_S.rf
  have hl := lv_entry ([.ref h0, .int p0, .int p1]) (n := 3) (Nat.le_of_ble_eq_true rfl)
  rw [lg_entry_eq]
  generalize (lg_sl ([.ref h0, .int p0, .int p1]) ++ List.replicate (3 - (lg_sl ([.ref h0, .int p0, .int p1])).length) Slot.unset).toArray = ls at hl ⊢
  have hl : lv_has ls 3 [(0, .ref h0), (1, .int p0), (2, .int p1)] := hl
  refine lv_aload_n hx hb dX4_go_0 rfl (lv_at hl 0 rfl) ?_
  refine va_get (D := (dC, dI)) (ci := 4) (v := .ref lnO) (C := RX4) (T := TX4) (N := 10) hx hb hts i4 hown hK hP 0 rfl rfl 7 (by decide) (hts (.fieldLink RX4 42 "StopSetter" "lines" "LStopSetter$Grammar;") (by decide +kernel)) (fun _ h9 => h9) rfl dX4_go_1 ?_
  refine lv_iload_n hx hb dX4_go_4 rfl (lv_at hl 1 rfl) ?_
  have hPc := hP.sub (ws' := [(lnO, .inr (1, [.ref gF, .ref gK, .ref gT, .ref gC, .ref gM, .int 0, .ref eF, .ref eC, .ref eM, .int 0, .ref hopA]))]) [1] rfl
  have hDc := hD.sub (ws' := [(lnO, .inr (1, [.ref gF, .ref gK, .ref gT, .ref gC, .ref gM, .int 0, .ref eF, .ref eC, .ref eM, .int 0, .ref hopA]))]) [1] (by decide) rfl
  have hFc := va_free (wc := [(lnO, .inr (1, [.ref gF, .ref gK, .ref gT, .ref gC, .ref gM, .int 0, .ref eF, .ref eC, .ref eM, .int 0, .ref hopA]))]) hD hS hA [1] rfl
  refine va_calli (va_runV (As := [.int p0]) (rest := []) ⟨hx, hb, hml, hown, hts⟩ (k_hasGo0 l dC dI cI cZ cC cJ s.heap.size lnO gF gK gT gC gM eF eC eM hopA p0 ) (cwV 1 hts gX4_go_X1_hasGo rfl rfl rfl (by decide +kernel) ⟨Nat.le_of_ble_eq_true rfl, Nat.le_of_ble_eq_true rfl⟩) ⟨sPre_blind, va_recv hK hPc (ci := 1) (q0 := 0) rfl rfl, fun U hU hW => ⟨rfl, sPre_ok hsk hPc hDc hU hW⟩⟩ rfl rfl hl.1 rfl (lv_room (Nat.le_of_ble_eq_true rfl)) dX4_go_5 ⟨(show 0 + 0 ≤ 0 by omega), (show 0 + 0 ≤ 0 by omega)⟩) hS (fun q _ h => hFc q h) hFc (fun r_1 u t H1 locs ht hvm hw hB hz1 hk1 hS => ?_)
  try dsimp only at hw hB
  have hw_2 := hw
  obtain rfl : r_1 = 0 := hw_2
  obtain ⟨hP1, hD1⟩ := hB
  rw [ht] at hP1
  obtain ⟨hP, hD⟩ := va_join (wr := [(h0, .inr (4, [.ref kO, .ref nO, .ref rO, .ref mO, .int 0, .ref tO, .ref rdO, .ref lnO, .ref drO, .ref chO]))]) (w1 := [(lnO, .inr (1, [.ref gF, .ref gK, .ref gT, .ref gC, .ref gM, .int 0, .ref eF, .ref eC, .ref eM, .int 0, .ref hopA]))]) hP hD [1] [0] rfl rfl (by decide) (by decide) hk1 hFc hP1 hD1
  generalize H1 = H at hP hS ⊢
  have hP : va_P (dC, dI) vwCl [(h0, .inr (4, [.ref kO, .ref nO, .ref rO, .ref mO, .int 0, .ref tO, .ref rdO, .ref lnO, .ref drO, .ref chO])), (lnO, .inr (1, [.ref gF, .ref gK, .ref gT, .ref gC, .ref gM, .int 0, .ref eF, .ref eC, .ref eM, .int 0, .ref hopA]))] H := hP
  have hD : va_D A [(h0, .inr (4, [.ref kO, .ref nO, .ref rO, .ref mO, .int 0, .ref tO, .ref rdO, .ref lnO, .ref drO, .ref chO])), (lnO, .inr (1, [.ref gF, .ref gK, .ref gT, .ref gC, .ref gM, .int 0, .ref eF, .ref eC, .ref eM, .int 0, .ref hopA]))] := hD
  refine lv_if_ne (tgt := 13) hx hb dX4_go_8 (by decide) (fun h9 => absurd (by decide) h9) (fun _ => ?_)
  refine lv_iconst (v := (-1)) hx hb dX4_go_11 (by decide) ?_
  have hP9 := hP.sub (ws' := []) [] rfl
  have hD9 := hD.sub (ws' := []) [] (by decide) rfl
  exact W.iret (v := (-1)) hx hb hr (fun t ht hW => ⟨⟨(-1), (), rfl, rfl, by rw [ht]; exact hP9, hD9⟩, hS.F ht⟩) hS.2.2 dX4_go_12
set_option maxHeartbeats 4000000 in
set_option maxRecDepth 100000 in
theorem k_mgo (l : Launch) (dC : Nat → ClassId) (dI : Nat → Nat → Nat) (cI cZ cC cJ : ClassId) (sz : Nat) (h0 : Nat) (Mtape : Nat) (Msort : Nat) (Mplace : Nat) (Mvalue : Nat) (Mwords : Nat) (Mgoes : Nat) (MgoLine : Nat) (Mends : Nat) (MendLine : Nat) (Mkinds : Nat) (MisName : Nat) (Mrow : Nat) (MbyHand : Nat) (Mleast : Nat) (Msecond : Nat) (MendAt : Nat) (MgoAt : Nat) (MnodeBehind : Nat) (MisOut : Nat) (MfirstEnd : Nat) (MfirstGo : Nat) (p0 : Int32) (p1 : Int32)  : Met l yX5_go wsX5_go ({ frames := 0, cells := 0, slots := 0, locals := 0 }) (va_Pc [.ref h0, .int p0, .int p1] (sPre dC dI cI cZ cC cJ [(h0, .inr (5, [.int 0, .ref Mtape, .int 0, .int 0, .ref Msort, .ref Mplace, .ref Mvalue, .int 0, .int 0, .ref Mwords, .int 0, .int 0, .ref Mgoes, .ref MgoLine, .ref Mends, .ref MendLine, .ref Mkinds, .ref MisName, .int 0, .ref Mrow, .ref MbyHand, .ref Mleast, .ref Msecond, .ref MendAt, .ref MgoAt, .ref MnodeBehind, .int 0, .ref MisOut, .ref MfirstEnd, .ref MfirstGo])), (Mgoes, .inl (cI, 2, .inl (fun _ => 0)))] sz)) (va_Qi (fun (r : Int32) (u : Unit) => r = (-1)) (fun _ => sB dC dI (va_A [(h0, .inr (5, [.int 0, .ref Mtape, .int 0, .int 0, .ref Msort, .ref Mplace, .ref Mvalue, .int 0, .int 0, .ref Mwords, .int 0, .int 0, .ref Mgoes, .ref MgoLine, .ref Mends, .ref MendLine, .ref Mkinds, .ref MisName, .int 0, .ref Mrow, .ref MbyHand, .ref Mleast, .ref Msecond, .ref MendAt, .ref MgoAt, .ref MnodeBehind, .int 0, .ref MisOut, .ref MfirstEnd, .ref MfirstGo])), (Mgoes, .inl (cI, 2, .inl (fun _ => 0)))] sz) []) (va_A [(h0, .inr (5, [.int 0, .ref Mtape, .int 0, .int 0, .ref Msort, .ref Mplace, .ref Mvalue, .int 0, .int 0, .ref Mwords, .int 0, .int 0, .ref Mgoes, .ref MgoLine, .ref Mends, .ref MendLine, .ref Mkinds, .ref MisName, .int 0, .ref Mrow, .ref MbyHand, .ref Mleast, .ref Msecond, .ref MendAt, .ref MgoAt, .ref MnodeBehind, .int 0, .ref MisOut, .ref MfirstEnd, .ref MfirstGo])), (Mgoes, .inl (cI, 2, .inl (fun _ => 0)))] sz)) 0 0 (va_A [(h0, .inr (5, [.int 0, .ref Mtape, .int 0, .int 0, .ref Msort, .ref Mplace, .ref Mvalue, .int 0, .int 0, .ref Mwords, .int 0, .int 0, .ref Mgoes, .ref MgoLine, .ref Mends, .ref MendLine, .ref Mkinds, .ref MisName, .int 0, .ref Mrow, .ref MbyHand, .ref Mleast, .ref Msecond, .ref MendAt, .ref MgoAt, .ref MnodeBehind, .int 0, .ref MisOut, .ref MfirstEnd, .ref MfirstGo])), (Mgoes, .inl (cI, 2, .inl (fun _ => 0)))] sz) := by
  refine Met.ofW (cc := cX5_go) (maxL := 3) (ret := (some .int)) (by decide) rfl ?_
  intro p e s m args below meth c s₁ B hml hv
  obtain ⟨rfl, hsz, hP, hsk, hD0⟩ := hv
  have hx := B.exec
  have hb := B.bytes
  have hr := B.returns
  have hts := atoms_spec (ws := wsX5_go) B.pre
  have hown : s.vm.findClass RX5 = some m.cls := findClass_of_methodNamed B.named
  have hlocks := B.notSynchronized
  have hK := hsk.1
  have i5 : ∀ w ∈ wsX50, w ∈ wsX5_go := by decide +kernel
  subst hsz
  have hD := hD0.self (sz := s.heap.size)
  generalize hAe : va_A [(h0, .inr (5, [.int 0, .ref Mtape, .int 0, .int 0, .ref Msort, .ref Mplace, .ref Mvalue, .int 0, .int 0, .ref Mwords, .int 0, .int 0, .ref Mgoes, .ref MgoLine, .ref Mends, .ref MendLine, .ref Mkinds, .ref MisName, .int 0, .ref Mrow, .ref MbyHand, .ref Mleast, .ref Msecond, .ref MendAt, .ref MgoAt, .ref MnodeBehind, .int 0, .ref MisOut, .ref MfirstEnd, .ref MfirstGo])), (Mgoes, .inl (cI, 2, .inl (fun _ => 0)))] s.heap.size = A at hD ⊢
  have hA : ∀ q : Nat, s.heap.size ≤ q → A q := fun q h => by rw [← hAe]; exact Or.inr h
  have hS : va_S A s.heap s.heap [] := va_S.rf
  have hl := lv_entry ([.ref h0, .int p0, .int p1]) (n := 3) (Nat.le_of_ble_eq_true rfl)
  rw [lg_entry_eq]
  generalize (lg_sl ([.ref h0, .int p0, .int p1]) ++ List.replicate (3 - (lg_sl ([.ref h0, .int p0, .int p1])).length) Slot.unset).toArray = ls at hl ⊢
  have hl : lv_has ls 3 [(0, .ref h0), (1, .int p0), (2, .int p1)] := hl
  refine lv_aload_n hx hb dX5_go_0 rfl (lv_at hl 0 rfl) ?_
  refine lv_iconst (v := 0) hx hb dX5_go_1 (by decide) ?_
  refine va_put (D := (dC, dI)) (ci := 5) (v := .int 0) (ty := tyX5 0) (C := RX5) (T := TX5) (N := 30) hx hb hts i5 tyX5 tyX5_ok nmX5 hown hK hP hD hS 0 rfl rfl 0 (by decide) (hts (.fieldLink RX5 1 "StopSetterModel" "thrown" "I") (by decide +kernel)) (fun _ h9 => h9) rfl (by decide +kernel) rfl rfl (Nat.le_of_ble_eq_true rfl) dX5_go_2 (fun H locs hP hD hS => ?_)
  have hP : va_P (dC, dI) vwCl [(h0, .inr (5, [.int 0, .ref Mtape, .int 0, .int 0, .ref Msort, .ref Mplace, .ref Mvalue, .int 0, .int 0, .ref Mwords, .int 0, .int 0, .ref Mgoes, .ref MgoLine, .ref Mends, .ref MendLine, .ref Mkinds, .ref MisName, .int 0, .ref Mrow, .ref MbyHand, .ref Mleast, .ref Msecond, .ref MendAt, .ref MgoAt, .ref MnodeBehind, .int 0, .ref MisOut, .ref MfirstEnd, .ref MfirstGo])), (Mgoes, .inl (cI, 2, .inl (fun _ => 0)))] H := hP
  have hD : va_D A [(h0, .inr (5, [.int 0, .ref Mtape, .int 0, .int 0, .ref Msort, .ref Mplace, .ref Mvalue, .int 0, .int 0, .ref Mwords, .int 0, .int 0, .ref Mgoes, .ref MgoLine, .ref Mends, .ref MendLine, .ref Mkinds, .ref MisName, .int 0, .ref Mrow, .ref MbyHand, .ref Mleast, .ref Msecond, .ref MendAt, .ref MgoAt, .ref MnodeBehind, .int 0, .ref MisOut, .ref MfirstEnd, .ref MfirstGo])), (Mgoes, .inl (cI, 2, .inl (fun _ => 0)))] := hD
  refine lv_iload_n hx hb dX5_go_5 rfl (lv_at hl 1 rfl) ?_
  refine lv_if_lt (tgt := 31) hx hb dX5_go_6 (by decide) (fun c_6 => ?_) (fun c_6 => ?_)
  · skip
    refine lv_iconst (v := (-1)) hx hb dX5_go_31 (by decide) ?_
    refine lv_goto (tgt := 41) hx hb dX5_go_32 (by decide) ?_
    have hP9 := hP.sub (ws' := []) [] rfl
    have hD9 := hD.sub (ws' := []) [] (by decide) rfl
    exact W.iret (v := (-1)) hx hb hr (fun t ht hW => ⟨⟨(-1), (), rfl, rfl, by rw [ht]; exact hP9, hD9⟩, hS.F ht⟩) hS.2.2 dX5_go_41
  · skip
    refine lv_iload_n hx hb dX5_go_9 rfl (lv_at hl 1 rfl) ?_
    refine lv_aload_n hx hb dX5_go_10 rfl (lv_at hl 0 rfl) ?_
    refine va_get (D := (dC, dI)) (ci := 5) (v := .ref Mgoes) (C := RX5) (T := TX5) (N := 30) hx hb hts i5 hown hK hP 0 rfl rfl 12 (by decide) (hts (.fieldLink RX5 61 "StopSetterModel" "goes" "[I") (by decide +kernel)) (fun _ h9 => h9) rfl dX5_go_11 ?_
    refine lv_aload_n hx hb dX5_go_14 rfl (lv_at hl 0 rfl) ?_
    refine va_get (D := (dC, dI)) (ci := 5) (v := .int 0) (C := RX5) (T := TX5) (N := 30) hx hb hts i5 hown hK hP 0 rfl rfl 10 (by decide) (hts (.fieldLink RX5 155 "StopSetterModel" "holds" "I") (by decide +kernel)) (fun _ h9 => h9) rfl dX5_go_15 ?_
    refine va_iald hx hb hK hP 1 0 rfl rfl (by unfold vp_in; decide) dX5_go_18 ?_
    refine lv_topi (fun v_ ev_ => ?_)
    obtain rfl : v_ = 0 := ev_.trans (rfl)
    refine lv_icmp_ge (tgt := 31) hx hb dX5_go_19 (by decide) (fun _ => ?_) (fun h9 => absurd (Int32.not_lt.mp c_6) h9)
    refine lv_iconst (v := (-1)) hx hb dX5_go_31 (by decide) ?_
    refine lv_goto (tgt := 41) hx hb dX5_go_32 (by decide) ?_
    have hP9 := hP.sub (ws' := []) [] rfl
    have hD9 := hD.sub (ws' := []) [] (by decide) rfl
    exact W.iret (v := (-1)) hx hb hr (fun t ht hW => ⟨⟨(-1), (), rfl, rfl, by rw [ht]; exact hP9, hD9⟩, hS.F ht⟩) hS.2.2 dX5_go_41
set_option maxHeartbeats 4000000 in
set_option maxRecDepth 100000 in
theorem k_handMarks0 (l : Launch) (dC : Nat → ClassId) (dI : Nat → Nat → Nat) (cI cZ cC cJ : ClassId) (sz : Nat) (h0 : Nat) (kO : Nat) (nO : Nat) (rO : Nat) (mO : Nat) (tO : Nat) (rdO : Nat) (lnO : Nat) (drO : Nat) (chO : Nat)  : Met l yX4_handMarks wsX4_handMarks ({ frames := 0, cells := 0, slots := 0, locals := 0 }) (va_Pc [.ref h0] (sPre dC dI cI cZ cC cJ [(h0, .inr (4, [.ref kO, .ref nO, .ref rO, .ref mO, .int 0, .ref tO, .ref rdO, .ref lnO, .ref drO, .ref chO]))] sz)) (va_Qi (fun (r : Int32) (u : Unit) => r = 0) (fun _ => sB dC dI (va_A [(h0, .inr (4, [.ref kO, .ref nO, .ref rO, .ref mO, .int 0, .ref tO, .ref rdO, .ref lnO, .ref drO, .ref chO]))] sz) [(h0, .inr (4, [.ref kO, .ref nO, .ref rO, .ref mO, .int 0, .ref tO, .ref rdO, .ref lnO, .ref drO, .ref chO]))]) (va_A [(h0, .inr (4, [.ref kO, .ref nO, .ref rO, .ref mO, .int 0, .ref tO, .ref rdO, .ref lnO, .ref drO, .ref chO]))] sz)) 0 0 (va_A [(h0, .inr (4, [.ref kO, .ref nO, .ref rO, .ref mO, .int 0, .ref tO, .ref rdO, .ref lnO, .ref drO, .ref chO]))] sz) := by
  refine Met.ofW (cc := cX4_handMarks) (maxL := 3) (ret := (some .int)) (by decide) rfl ?_
  intro p e s m args below meth c s₁ B hml hv
  obtain ⟨rfl, hsz, hP, hsk, hD0⟩ := hv
  have hx := B.exec
  have hb := B.bytes
  have hr := B.returns
  have hts := atoms_spec (ws := wsX4_handMarks) B.pre
  have hown : s.vm.findClass RX4 = some m.cls := findClass_of_methodNamed B.named
  have hlocks := B.notSynchronized
  have hK := hsk.1
  have i4 : ∀ w ∈ wsX40, w ∈ wsX4_handMarks := by decide +kernel
  subst hsz
  have hD := hD0.self (sz := s.heap.size)
  generalize hAe : va_A [(h0, .inr (4, [.ref kO, .ref nO, .ref rO, .ref mO, .int 0, .ref tO, .ref rdO, .ref lnO, .ref drO, .ref chO]))] s.heap.size = A at hD ⊢
  have hA : ∀ q : Nat, s.heap.size ≤ q → A q := fun q h => by rw [← hAe]; exact Or.inr h
  have hS : va_S A s.heap s.heap [] := va_S.rf
  have hl := lv_entry ([.ref h0]) (n := 3) (Nat.le_of_ble_eq_true rfl)
  rw [lg_entry_eq]
  generalize (lg_sl ([.ref h0]) ++ List.replicate (3 - (lg_sl ([.ref h0])).length) Slot.unset).toArray = ls at hl ⊢
  have hl : lv_has ls 3 [(0, .ref h0)] := hl
  refine lv_iconst (v := 0) hx hb dX4_handMarks_0 (by decide) ?_
  refine lv_istore_n (lv' := [(1, .int 0), (0, .ref h0)]) hx hb dX4_handMarks_1 rfl hl (by decide) rfl (fun ls hl => ?_)
  refine lv_iconst (v := 0) hx hb dX4_handMarks_2 (by decide) ?_
  refine lv_istore_n (lv' := [(2, .int 0), (1, .int 0), (0, .ref h0)]) hx hb dX4_handMarks_3 rfl hl (by decide) rfl (fun ls hl => ?_)
  refine lv_iload_n hx hb dX4_handMarks_4 rfl (lv_at hl 0 rfl) ?_
  refine lv_aload_n hx hb dX4_handMarks_5 rfl (lv_at hl 2 rfl) ?_
  refine va_get (D := (dC, dI)) (ci := 4) (v := .int 0) (C := RX4) (T := TX4) (N := 10) hx hb hts i4 hown hK hP 0 rfl rfl 4 (by decide) (hts (.fieldLink RX4 74 "StopSetter" "size" "I") (by decide +kernel)) (fun _ h9 => h9) rfl dX4_handMarks_6 ?_
  refine lv_icmp_ge (tgt := 37) hx hb dX4_handMarks_9 (by decide) (fun _ => ?_) (fun h9 => absurd (by decide) h9)
  refine lv_iload_n hx hb dX4_handMarks_37 rfl (lv_at hl 1 rfl) ?_
  have hP9 := hP.sub (ws' := [(h0, .inr (4, [.ref kO, .ref nO, .ref rO, .ref mO, .int 0, .ref tO, .ref rdO, .ref lnO, .ref drO, .ref chO]))]) [0] rfl
  have hD9 := hD.sub (ws' := [(h0, .inr (4, [.ref kO, .ref nO, .ref rO, .ref mO, .int 0, .ref tO, .ref rdO, .ref lnO, .ref drO, .ref chO]))]) [0] (by decide) rfl
  exact W.iret (v := 0) hx hb hr (fun t ht hW => ⟨⟨0, (), rfl, rfl, by rw [ht]; exact hP9, hD9⟩, hS.F ht⟩) hS.2.2 dX4_handMarks_38
set_option maxHeartbeats 4000000 in
set_option maxRecDepth 100000 in
theorem k_count (l : Launch) (dC : Nat → ClassId) (dI : Nat → Nat → Nat) (cI cZ cC cJ : ClassId) (sz : Nat) (h0 : Nat) (kO : Nat) (nO : Nat) (rO : Nat) (mO : Nat) (tO : Nat) (rdO : Nat) (lnO : Nat) (drO : Nat) (chO : Nat) (gF : Nat) (gK : Nat) (gT : Nat) (gC : Nat) (gM : Nat) (eF : Nat) (eC : Nat) (eM : Nat) (hopA : Nat) (sA : Nat) (p0 : Int32)  : Met l yX4_count wsX4_count ({ frames := 1, cells := 0, slots := 0, locals := 22 }) (va_Pc [.ref h0, .int p0] (sPre dC dI cI cZ cC cJ [(h0, .inr (4, [.ref kO, .ref nO, .ref rO, .ref mO, .int 0, .ref tO, .ref rdO, .ref lnO, .ref drO, .ref chO])), (lnO, .inr (1, [.ref gF, .ref gK, .ref gT, .ref gC, .ref gM, .int 0, .ref eF, .ref eC, .ref eM, .int 0, .ref hopA])), (tO, .inr (3, [.ref sA, .int 0]))] sz)) (va_Qi (fun (r : Int32) (u : Unit) => r = rCount p0) (fun _ => sB dC dI (va_A [(h0, .inr (4, [.ref kO, .ref nO, .ref rO, .ref mO, .int 0, .ref tO, .ref rdO, .ref lnO, .ref drO, .ref chO])), (lnO, .inr (1, [.ref gF, .ref gK, .ref gT, .ref gC, .ref gM, .int 0, .ref eF, .ref eC, .ref eM, .int 0, .ref hopA])), (tO, .inr (3, [.ref sA, .int 0]))] sz) []) (va_A [(h0, .inr (4, [.ref kO, .ref nO, .ref rO, .ref mO, .int 0, .ref tO, .ref rdO, .ref lnO, .ref drO, .ref chO])), (lnO, .inr (1, [.ref gF, .ref gK, .ref gT, .ref gC, .ref gM, .int 0, .ref eF, .ref eC, .ref eM, .int 0, .ref hopA])), (tO, .inr (3, [.ref sA, .int 0]))] sz)) 0 0 (va_A [(h0, .inr (4, [.ref kO, .ref nO, .ref rO, .ref mO, .int 0, .ref tO, .ref rdO, .ref lnO, .ref drO, .ref chO])), (lnO, .inr (1, [.ref gF, .ref gK, .ref gT, .ref gC, .ref gM, .int 0, .ref eF, .ref eC, .ref eM, .int 0, .ref hopA])), (tO, .inr (3, [.ref sA, .int 0]))] sz) := by
  refine Met.ofW (cc := cX4_count) (maxL := 2) (ret := (some .int)) (by decide) rfl ?_
  intro p e s m args below meth c s₁ B hml hv
  obtain ⟨rfl, hsz, hP, hsk, hD0⟩ := hv
  have hx := B.exec
  have hb := B.bytes
  have hr := B.returns
  have hts := atoms_spec (ws := wsX4_count) B.pre
  have hown : s.vm.findClass RX4 = some m.cls := findClass_of_methodNamed B.named
  have hlocks := B.notSynchronized
  have hK := hsk.1
  have i1 : ∀ w ∈ wsX10, w ∈ wsX4_count := by decide +kernel
  have i3 : ∀ w ∈ wsX30, w ∈ wsX4_count := by decide +kernel
  have i4 : ∀ w ∈ wsX40, w ∈ wsX4_count := by decide +kernel
  subst hsz
  have hD := hD0.self (sz := s.heap.size)
  generalize hAe : va_A [(h0, .inr (4, [.ref kO, .ref nO, .ref rO, .ref mO, .int 0, .ref tO, .ref rdO, .ref lnO, .ref drO, .ref chO])), (lnO, .inr (1, [.ref gF, .ref gK, .ref gT, .ref gC, .ref gM, .int 0, .ref eF, .ref eC, .ref eM, .int 0, .ref hopA])), (tO, .inr (3, [.ref sA, .int 0]))] s.heap.size = A at hD ⊢
  have hA : ∀ q : Nat, s.heap.size ≤ q → A q := fun q h => by rw [← hAe]; exact Or.inr h
  have hS : va_S A s.heap s.heap [] := va_S.rf
  have hl := lv_entry ([.ref h0, .int p0]) (n := 2) (Nat.le_of_ble_eq_true rfl)
  rw [lg_entry_eq]
  generalize (lg_sl ([.ref h0, .int p0]) ++ List.replicate (2 - (lg_sl ([.ref h0, .int p0])).length) Slot.unset).toArray = ls at hl ⊢
  have hl : lv_has ls 2 [(0, .ref h0), (1, .int p0)] := hl
  refine lv_iload_n hx hb dX4_count_0 rfl (lv_at hl 1 rfl) ?_
  by_cases e_1_0 : p0 = 0
  · skip
    refine lv_tableIn (off := 35) (tgt := 36) hx hb dX4_count_1 (by rw [e_1_0]; decide) (by rw [e_1_0]; decide) (by rw [e_1_0]; rfl) (by decide) ?_
    refine lv_aload_n hx hb dX4_count_36 rfl (lv_at hl 0 rfl) ?_
    refine va_get (D := (dC, dI)) (ci := 4) (v := .int 0) (C := RX4) (T := TX4) (N := 10) hx hb hts i4 hown hK hP 0 rfl rfl 4 (by decide) (hts (.fieldLink RX4 74 "StopSetter" "size" "I") (by decide +kernel)) (fun _ h9 => h9) rfl dX4_count_37 ?_
    have hP9 := hP.sub (ws' := []) [] rfl
    have hD9 := hD.sub (ws' := []) [] (by decide) rfl
    exact W.iret (v := 0) hx hb hr (fun t ht hW => ⟨⟨0, (), rfl, (by simp only [rCount, if_pos e_1_0]), by rw [ht]; exact hP9, hD9⟩, hS.F ht⟩) hS.2.2 dX4_count_40
  · skip
    by_cases e_1_1 : p0 = 1
    · skip
      refine lv_tableIn (off := 40) (tgt := 41) hx hb dX4_count_1 (by rw [e_1_1]; decide) (by rw [e_1_1]; decide) (by rw [e_1_1]; rfl) (by decide) ?_
      refine lv_aload_n hx hb dX4_count_41 rfl (lv_at hl 0 rfl) ?_
      refine va_get (D := (dC, dI)) (ci := 4) (v := .ref lnO) (C := RX4) (T := TX4) (N := 10) hx hb hts i4 hown hK hP 0 rfl rfl 7 (by decide) (hts (.fieldLink RX4 42 "StopSetter" "lines" "LStopSetter$Grammar;") (by decide +kernel)) (fun _ h9 => h9) rfl dX4_count_42 ?_
      refine va_getN (D := (dC, dI)) (ci := 1) (v := .int 0) (C := RX1) (T := TX1) (N := 11) hx hb hts i1 hown hK hP 1 rfl rfl 5 (by decide) (va_Nw.use rfl (hsk.2.1 ("StopSetter", 171, "StopSetter$Grammar", "goCount", "I", "StopSetter") (by decide +kernel))) (fun _ h9 => h9) rfl dX4_count_45 ?_
      have hP9 := hP.sub (ws' := []) [] rfl
      have hD9 := hD.sub (ws' := []) [] (by decide) rfl
      exact W.iret (v := 0) hx hb hr (fun t ht hW => ⟨⟨0, (), rfl, (by simp only [rCount, if_neg e_1_0, if_pos e_1_1]), by rw [ht]; exact hP9, hD9⟩, hS.F ht⟩) hS.2.2 dX4_count_48
    · skip
      by_cases e_1_2 : p0 = 2
      · skip
        refine lv_tableIn (off := 48) (tgt := 49) hx hb dX4_count_1 (by rw [e_1_2]; decide) (by rw [e_1_2]; decide) (by rw [e_1_2]; rfl) (by decide) ?_
        refine lv_aload_n hx hb dX4_count_49 rfl (lv_at hl 0 rfl) ?_
        refine va_get (D := (dC, dI)) (ci := 4) (v := .ref lnO) (C := RX4) (T := TX4) (N := 10) hx hb hts i4 hown hK hP 0 rfl rfl 7 (by decide) (hts (.fieldLink RX4 42 "StopSetter" "lines" "LStopSetter$Grammar;") (by decide +kernel)) (fun _ h9 => h9) rfl dX4_count_50 ?_
        refine va_getN (D := (dC, dI)) (ci := 1) (v := .int 0) (C := RX1) (T := TX1) (N := 11) hx hb hts i1 hown hK hP 1 rfl rfl 9 (by decide) (va_Nw.use rfl (hsk.2.1 ("StopSetter", 174, "StopSetter$Grammar", "endCount", "I", "StopSetter") (by decide +kernel))) (fun _ h9 => h9) rfl dX4_count_53 ?_
        have hP9 := hP.sub (ws' := []) [] rfl
        have hD9 := hD.sub (ws' := []) [] (by decide) rfl
        exact W.iret (v := 0) hx hb hr (fun t ht hW => ⟨⟨0, (), rfl, (by simp only [rCount, if_neg e_1_0, if_neg e_1_1, if_pos e_1_2]), by rw [ht]; exact hP9, hD9⟩, hS.F ht⟩) hS.2.2 dX4_count_56
      · skip
        by_cases e_1_3 : p0 = 3
        · skip
          refine lv_tableIn (off := 56) (tgt := 57) hx hb dX4_count_1 (by rw [e_1_3]; decide) (by rw [e_1_3]; decide) (by rw [e_1_3]; rfl) (by decide) ?_
          refine lv_aload_n hx hb dX4_count_57 rfl (lv_at hl 0 rfl) ?_
          refine va_get (D := (dC, dI)) (ci := 4) (v := .ref tO) (C := RX4) (T := TX4) (N := 10) hx hb hts i4 hown hK hP 0 rfl rfl 5 (by decide) (hts (.fieldLink RX4 26 "StopSetter" "tape" "LStopSetter$Tape;") (by decide +kernel)) (fun _ h9 => h9) rfl dX4_count_58 ?_
          refine va_getN (D := (dC, dI)) (ci := 3) (v := .int 0) (C := RX3) (T := TX3) (N := 2) hx hb hts i3 hown hK hP 2 rfl rfl 1 (by decide) (va_Nw.use rfl (hsk.2.1 ("StopSetter", 85, "StopSetter$Tape", "length", "I", "StopSetter") (by decide +kernel))) (fun _ h9 => h9) rfl dX4_count_61 ?_
          have hP9 := hP.sub (ws' := []) [] rfl
          have hD9 := hD.sub (ws' := []) [] (by decide) rfl
          exact W.iret (v := 0) hx hb hr (fun t ht hW => ⟨⟨0, (), rfl, (by simp only [rCount, if_neg e_1_0, if_neg e_1_1, if_neg e_1_2, if_pos e_1_3]), by rw [ht]; exact hP9, hD9⟩, hS.F ht⟩) hS.2.2 dX4_count_64
        · skip
          by_cases e_1_4 : p0 = 4
          · skip
            refine lv_tableIn (off := 64) (tgt := 65) hx hb dX4_count_1 (by rw [e_1_4]; decide) (by rw [e_1_4]; decide) (by rw [e_1_4]; rfl) (by decide) ?_
            refine lv_aload_n hx hb dX4_count_65 rfl (lv_at hl 0 rfl) ?_
            have hPc := hP.sub (ws' := [(h0, .inr (4, [.ref kO, .ref nO, .ref rO, .ref mO, .int 0, .ref tO, .ref rdO, .ref lnO, .ref drO, .ref chO]))]) [0] rfl
            have hDc := hD.sub (ws' := [(h0, .inr (4, [.ref kO, .ref nO, .ref rO, .ref mO, .int 0, .ref tO, .ref rdO, .ref lnO, .ref drO, .ref chO]))]) [0] (by decide) rfl
            have hFc := va_free (wc := [(h0, .inr (4, [.ref kO, .ref nO, .ref rO, .ref mO, .int 0, .ref tO, .ref rdO, .ref lnO, .ref drO, .ref chO]))]) hD hS hA [0] rfl
            refine va_calli (va_runV (As := []) (rest := []) ⟨hx, hb, hml, hown, hts⟩ (k_handMarks0 l dC dI cI cZ cC cJ s.heap.size h0 kO nO rO mO tO rdO lnO drO chO ) (cwV 0 hts gX4_count_X4_handMarks rfl rfl rfl (by decide +kernel) ⟨Nat.le_of_ble_eq_true rfl, Nat.le_of_ble_eq_true rfl⟩) ⟨sPre_blind, va_recv hK hPc (ci := 4) (q0 := 0) rfl rfl, fun U hU hW => ⟨rfl, sPre_ok hsk hPc hDc hU hW⟩⟩ rfl rfl hl.1 rfl (lv_room (Nat.le_of_ble_eq_true rfl)) dX4_count_66 ⟨(show 0 + 0 ≤ 0 by omega), (show 0 + 0 ≤ 0 by omega)⟩) hS (fun q _ h => hFc q h) hFc (fun r_1 u t H1 locs ht hvm hw hB hz1 hk1 hS => ?_)
            try dsimp only at hw hB
            have hw_2 := hw
            obtain rfl : r_1 = 0 := hw_2
            obtain ⟨hP1, hD1⟩ := hB
            rw [ht] at hP1
            obtain ⟨hP, hD⟩ := va_join (wr := [(lnO, .inr (1, [.ref gF, .ref gK, .ref gT, .ref gC, .ref gM, .int 0, .ref eF, .ref eC, .ref eM, .int 0, .ref hopA])), (tO, .inr (3, [.ref sA, .int 0]))]) (w1 := [(h0, .inr (4, [.ref kO, .ref nO, .ref rO, .ref mO, .int 0, .ref tO, .ref rdO, .ref lnO, .ref drO, .ref chO]))]) hP hD [0] [1, 2] rfl rfl (by decide) (by decide) hk1 hFc hP1 hD1
            generalize H1 = H at hP hS ⊢
            have hP : va_P (dC, dI) vwCl [(lnO, .inr (1, [.ref gF, .ref gK, .ref gT, .ref gC, .ref gM, .int 0, .ref eF, .ref eC, .ref eM, .int 0, .ref hopA])), (tO, .inr (3, [.ref sA, .int 0])), (h0, .inr (4, [.ref kO, .ref nO, .ref rO, .ref mO, .int 0, .ref tO, .ref rdO, .ref lnO, .ref drO, .ref chO]))] H := hP
            have hD : va_D A [(lnO, .inr (1, [.ref gF, .ref gK, .ref gT, .ref gC, .ref gM, .int 0, .ref eF, .ref eC, .ref eM, .int 0, .ref hopA])), (tO, .inr (3, [.ref sA, .int 0])), (h0, .inr (4, [.ref kO, .ref nO, .ref rO, .ref mO, .int 0, .ref tO, .ref rdO, .ref lnO, .ref drO, .ref chO]))] := hD
            have hP9 := hP.sub (ws' := []) [] rfl
            have hD9 := hD.sub (ws' := []) [] (by decide) rfl
            exact W.iret (v := 0) hx hb hr (fun t ht hW => ⟨⟨0, (), rfl, (by simp only [rCount, if_neg e_1_0, if_neg e_1_1, if_neg e_1_2, if_neg e_1_3, if_pos e_1_4]), by rw [ht]; exact hP9, hD9⟩, hS.F ht⟩) hS.2.2 dX4_count_69
          · skip
            refine lv_tableOut (tgt := 70) hx hb dX4_count_1 (by have _ := lv_neT e_1_0 (a := 0) (by decide); have _ := lv_neT e_1_1 (a := 1) (by decide); have _ := lv_neT e_1_2 (a := 2) (by decide); have _ := lv_neT e_1_3 (a := 3) (by decide); have _ := lv_neT e_1_4 (a := 4) (by decide); omega) (by decide) ?_
            refine lv_iconst (v := (-1)) hx hb dX4_count_70 (by decide) ?_
            have hP9 := hP.sub (ws' := []) [] rfl
            have hD9 := hD.sub (ws' := []) [] (by decide) rfl
            exact W.iret (v := (-1)) hx hb hr (fun t ht hW => ⟨⟨(-1), (), rfl, (by simp only [rCount, if_neg e_1_0, if_neg e_1_1, if_neg e_1_2, if_neg e_1_3, if_neg e_1_4]), by rw [ht]; exact hP9, hD9⟩, hS.F ht⟩) hS.2.2 dX4_count_71
set_option maxHeartbeats 4000000 in
set_option maxRecDepth 100000 in
theorem k_mcount (l : Launch) (dC : Nat → ClassId) (dI : Nat → Nat → Nat) (cI cZ cC cJ : ClassId) (sz : Nat) (h0 : Nat) (Mtape : Nat) (Msort : Nat) (Mplace : Nat) (Mvalue : Nat) (Mwords : Nat) (Mgoes : Nat) (MgoLine : Nat) (Mends : Nat) (MendLine : Nat) (Mkinds : Nat) (MisName : Nat) (Mrow : Nat) (MbyHand : Nat) (Mleast : Nat) (Msecond : Nat) (MendAt : Nat) (MgoAt : Nat) (MnodeBehind : Nat) (MisOut : Nat) (MfirstEnd : Nat) (MfirstGo : Nat) (p0 : Int32)  : Met l yX5_count wsX5_count ({ frames := 0, cells := 0, slots := 0, locals := 0 }) (va_Pc [.ref h0, .int p0] (sPre dC dI cI cZ cC cJ [(h0, .inr (5, [.int 0, .ref Mtape, .int 0, .int 0, .ref Msort, .ref Mplace, .ref Mvalue, .int 0, .int 0, .ref Mwords, .int 0, .int 0, .ref Mgoes, .ref MgoLine, .ref Mends, .ref MendLine, .ref Mkinds, .ref MisName, .int 0, .ref Mrow, .ref MbyHand, .ref Mleast, .ref Msecond, .ref MendAt, .ref MgoAt, .ref MnodeBehind, .int 0, .ref MisOut, .ref MfirstEnd, .ref MfirstGo])), (Mgoes, .inl (cI, 2, .inl (fun _ => 0))), (Mends, .inl (cI, 2, .inl (fun _ => 0)))] sz)) (va_Qi (fun (r : Int32) (u : Unit) => r = rCount p0) (fun _ => sB dC dI (va_A [(h0, .inr (5, [.int 0, .ref Mtape, .int 0, .int 0, .ref Msort, .ref Mplace, .ref Mvalue, .int 0, .int 0, .ref Mwords, .int 0, .int 0, .ref Mgoes, .ref MgoLine, .ref Mends, .ref MendLine, .ref Mkinds, .ref MisName, .int 0, .ref Mrow, .ref MbyHand, .ref Mleast, .ref Msecond, .ref MendAt, .ref MgoAt, .ref MnodeBehind, .int 0, .ref MisOut, .ref MfirstEnd, .ref MfirstGo])), (Mgoes, .inl (cI, 2, .inl (fun _ => 0))), (Mends, .inl (cI, 2, .inl (fun _ => 0)))] sz) []) (va_A [(h0, .inr (5, [.int 0, .ref Mtape, .int 0, .int 0, .ref Msort, .ref Mplace, .ref Mvalue, .int 0, .int 0, .ref Mwords, .int 0, .int 0, .ref Mgoes, .ref MgoLine, .ref Mends, .ref MendLine, .ref Mkinds, .ref MisName, .int 0, .ref Mrow, .ref MbyHand, .ref Mleast, .ref Msecond, .ref MendAt, .ref MgoAt, .ref MnodeBehind, .int 0, .ref MisOut, .ref MfirstEnd, .ref MfirstGo])), (Mgoes, .inl (cI, 2, .inl (fun _ => 0))), (Mends, .inl (cI, 2, .inl (fun _ => 0)))] sz)) 0 0 (va_A [(h0, .inr (5, [.int 0, .ref Mtape, .int 0, .int 0, .ref Msort, .ref Mplace, .ref Mvalue, .int 0, .int 0, .ref Mwords, .int 0, .int 0, .ref Mgoes, .ref MgoLine, .ref Mends, .ref MendLine, .ref Mkinds, .ref MisName, .int 0, .ref Mrow, .ref MbyHand, .ref Mleast, .ref Msecond, .ref MendAt, .ref MgoAt, .ref MnodeBehind, .int 0, .ref MisOut, .ref MfirstEnd, .ref MfirstGo])), (Mgoes, .inl (cI, 2, .inl (fun _ => 0))), (Mends, .inl (cI, 2, .inl (fun _ => 0)))] sz) := by
  refine Met.ofW (cc := cX5_count) (maxL := 4) (ret := (some .int)) (by decide) rfl ?_
  intro p e s m args below meth c s₁ B hml hv
  obtain ⟨rfl, hsz, hP, hsk, hD0⟩ := hv
  have hx := B.exec
  have hb := B.bytes
  have hr := B.returns
  have hts := atoms_spec (ws := wsX5_count) B.pre
  have hown : s.vm.findClass RX5 = some m.cls := findClass_of_methodNamed B.named
  have hlocks := B.notSynchronized
  have hK := hsk.1
  have i5 : ∀ w ∈ wsX50, w ∈ wsX5_count := by decide +kernel
  subst hsz
  have hD := hD0.self (sz := s.heap.size)
  generalize hAe : va_A [(h0, .inr (5, [.int 0, .ref Mtape, .int 0, .int 0, .ref Msort, .ref Mplace, .ref Mvalue, .int 0, .int 0, .ref Mwords, .int 0, .int 0, .ref Mgoes, .ref MgoLine, .ref Mends, .ref MendLine, .ref Mkinds, .ref MisName, .int 0, .ref Mrow, .ref MbyHand, .ref Mleast, .ref Msecond, .ref MendAt, .ref MgoAt, .ref MnodeBehind, .int 0, .ref MisOut, .ref MfirstEnd, .ref MfirstGo])), (Mgoes, .inl (cI, 2, .inl (fun _ => 0))), (Mends, .inl (cI, 2, .inl (fun _ => 0)))] s.heap.size = A at hD ⊢
  have hA : ∀ q : Nat, s.heap.size ≤ q → A q := fun q h => by rw [← hAe]; exact Or.inr h
  have hS : va_S A s.heap s.heap [] := va_S.rf
  have hl := lv_entry ([.ref h0, .int p0]) (n := 4) (Nat.le_of_ble_eq_true rfl)
  rw [lg_entry_eq]
  generalize (lg_sl ([.ref h0, .int p0]) ++ List.replicate (4 - (lg_sl ([.ref h0, .int p0])).length) Slot.unset).toArray = ls at hl ⊢
  have hl : lv_has ls 4 [(0, .ref h0), (1, .int p0)] := hl
  refine lv_aload_n hx hb dX5_count_0 rfl (lv_at hl 0 rfl) ?_
  refine lv_iconst (v := 0) hx hb dX5_count_1 (by decide) ?_
  refine va_put (D := (dC, dI)) (ci := 5) (v := .int 0) (ty := tyX5 0) (C := RX5) (T := TX5) (N := 30) hx hb hts i5 tyX5 tyX5_ok nmX5 hown hK hP hD hS 0 rfl rfl 0 (by decide) (hts (.fieldLink RX5 1 "StopSetterModel" "thrown" "I") (by decide +kernel)) (fun _ h9 => h9) rfl (by decide +kernel) rfl rfl (Nat.le_of_ble_eq_true rfl) dX5_count_2 (fun H locs hP hD hS => ?_)
  have hP : va_P (dC, dI) vwCl [(h0, .inr (5, [.int 0, .ref Mtape, .int 0, .int 0, .ref Msort, .ref Mplace, .ref Mvalue, .int 0, .int 0, .ref Mwords, .int 0, .int 0, .ref Mgoes, .ref MgoLine, .ref Mends, .ref MendLine, .ref Mkinds, .ref MisName, .int 0, .ref Mrow, .ref MbyHand, .ref Mleast, .ref Msecond, .ref MendAt, .ref MgoAt, .ref MnodeBehind, .int 0, .ref MisOut, .ref MfirstEnd, .ref MfirstGo])), (Mgoes, .inl (cI, 2, .inl (fun _ => 0))), (Mends, .inl (cI, 2, .inl (fun _ => 0)))] H := hP
  have hD : va_D A [(h0, .inr (5, [.int 0, .ref Mtape, .int 0, .int 0, .ref Msort, .ref Mplace, .ref Mvalue, .int 0, .int 0, .ref Mwords, .int 0, .int 0, .ref Mgoes, .ref MgoLine, .ref Mends, .ref MendLine, .ref Mkinds, .ref MisName, .int 0, .ref Mrow, .ref MbyHand, .ref Mleast, .ref Msecond, .ref MendAt, .ref MgoAt, .ref MnodeBehind, .int 0, .ref MisOut, .ref MfirstEnd, .ref MfirstGo])), (Mgoes, .inl (cI, 2, .inl (fun _ => 0))), (Mends, .inl (cI, 2, .inl (fun _ => 0)))] := hD
  refine lv_iconst (v := 0) hx hb dX5_count_5 (by decide) ?_
  refine lv_istore_n (lv' := [(2, .int 0), (0, .ref h0), (1, .int p0)]) hx hb dX5_count_6 rfl hl (by decide) rfl (fun ls hl => ?_)
  refine lv_iconst (v := 0) hx hb dX5_count_7 (by decide) ?_
  refine lv_istore_n (lv' := [(3, .int 0), (2, .int 0), (0, .ref h0), (1, .int p0)]) hx hb dX5_count_8 rfl hl (by decide) rfl (fun ls hl => ?_)
  refine lv_iload_n hx hb dX5_count_9 rfl (lv_at hl 0 rfl) ?_
  refine lv_aload_n hx hb dX5_count_10 rfl (lv_at hl 2 rfl) ?_
  refine va_get (D := (dC, dI)) (ci := 5) (v := .int 0) (C := RX5) (T := TX5) (N := 30) hx hb hts i5 hown hK hP 0 rfl rfl 18 (by decide) (hts (.fieldLink RX5 186 "StopSetterModel" "many" "I") (by decide +kernel)) (fun _ h9 => h9) rfl dX5_count_11 ?_
  refine lv_icmp_ge (tgt := 40) hx hb dX5_count_14 (by decide) (fun _ => ?_) (fun h9 => absurd (by decide) h9)
  refine lv_iload_n hx hb dX5_count_40 rfl (lv_at hl 3 rfl) ?_
  refine lv_if_ne (tgt := 51) hx hb dX5_count_41 (by decide) (fun c_41 => ?_) (fun c_41 => ?_)
  · skip
    refine lv_iload_n hx hb dX5_count_51 rfl (lv_at hl 3 rfl) ?_
    refine lv_iconst (v := 1) hx hb dX5_count_52 (by decide) ?_
    refine lv_icmp_ne (tgt := 68) hx hb dX5_count_53 (by decide) (fun c_53 => ?_) (fun c_53 => ?_)
    · skip
      refine lv_iload_n hx hb dX5_count_68 rfl (lv_at hl 3 rfl) ?_
      refine lv_iconst (v := 2) hx hb dX5_count_69 (by decide) ?_
      refine lv_icmp_ne (tgt := 85) hx hb dX5_count_70 (by decide) (fun c_70 => ?_) (fun c_70 => ?_)
      · skip
        refine lv_iload_n hx hb dX5_count_85 rfl (lv_at hl 3 rfl) ?_
        refine lv_iconst (v := 3) hx hb dX5_count_86 (by decide) ?_
        refine lv_icmp_ne (tgt := 97) hx hb dX5_count_87 (by decide) (fun c_87 => ?_) (fun c_87 => ?_)
        · skip
          refine lv_iload_n hx hb dX5_count_97 rfl (lv_at hl 3 rfl) ?_
          refine lv_iconst (v := 4) hx hb dX5_count_98 (by decide) ?_
          refine lv_icmp_ne (tgt := 106) hx hb dX5_count_99 (by decide) (fun c_99 => ?_) (fun c_99 => ?_)
          · skip
            refine lv_iconst (v := (-1)) hx hb dX5_count_106 (by decide) ?_
            have hP9 := hP.sub (ws' := []) [] rfl
            have hD9 := hD.sub (ws' := []) [] (by decide) rfl
            exact W.iret (v := (-1)) hx hb hr (fun t ht hW => ⟨⟨(-1), (), rfl, (by simp only [rCount, if_neg c_41, if_neg c_53, if_neg c_70, if_neg c_87, if_neg c_99]), by rw [ht]; exact hP9, hD9⟩, hS.F ht⟩) hS.2.2 dX5_count_107
          · skip
            refine lv_iload_n hx hb dX5_count_102 rfl (lv_at hl 1 rfl) ?_
            refine lv_goto (tgt := 107) hx hb dX5_count_103 (by decide) ?_
            have hP9 := hP.sub (ws' := []) [] rfl
            have hD9 := hD.sub (ws' := []) [] (by decide) rfl
            exact W.iret (v := 0) hx hb hr (fun t ht hW => ⟨⟨0, (), rfl, (by simp only [rCount, if_neg c_41, if_neg c_53, if_neg c_70, if_neg c_87, if_pos c_99]), by rw [ht]; exact hP9, hD9⟩, hS.F ht⟩) hS.2.2 dX5_count_107
        · skip
          refine lv_aload_n hx hb dX5_count_90 rfl (lv_at hl 2 rfl) ?_
          refine va_get (D := (dC, dI)) (ci := 5) (v := .int 0) (C := RX5) (T := TX5) (N := 30) hx hb hts i5 hown hK hP 0 rfl rfl 2 (by decide) (hts (.fieldLink RX5 11 "StopSetterModel" "taped" "I") (by decide +kernel)) (fun _ h9 => h9) rfl dX5_count_91 ?_
          refine lv_goto (tgt := 107) hx hb dX5_count_94 (by decide) ?_
          have hP9 := hP.sub (ws' := []) [] rfl
          have hD9 := hD.sub (ws' := []) [] (by decide) rfl
          exact W.iret (v := 0) hx hb hr (fun t ht hW => ⟨⟨0, (), rfl, (by simp only [rCount, if_neg c_41, if_neg c_53, if_neg c_70, if_pos c_87]), by rw [ht]; exact hP9, hD9⟩, hS.F ht⟩) hS.2.2 dX5_count_107
      · skip
        refine lv_aload_n hx hb dX5_count_73 rfl (lv_at hl 2 rfl) ?_
        refine va_get (D := (dC, dI)) (ci := 5) (v := .ref Mends) (C := RX5) (T := TX5) (N := 30) hx hb hts i5 hown hK hP 0 rfl rfl 14 (by decide) (hts (.fieldLink RX5 67 "StopSetterModel" "ends" "[I") (by decide +kernel)) (fun _ h9 => h9) rfl dX5_count_74 ?_
        refine lv_aload_n hx hb dX5_count_77 rfl (lv_at hl 2 rfl) ?_
        refine va_get (D := (dC, dI)) (ci := 5) (v := .int 0) (C := RX5) (T := TX5) (N := 30) hx hb hts i5 hown hK hP 0 rfl rfl 10 (by decide) (hts (.fieldLink RX5 155 "StopSetterModel" "holds" "I") (by decide +kernel)) (fun _ h9 => h9) rfl dX5_count_78 ?_
        refine va_iald hx hb hK hP 2 0 rfl rfl (by unfold vp_in; decide) dX5_count_81 ?_
        refine lv_topi (fun v_ ev_ => ?_)
        obtain rfl : v_ = 0 := ev_.trans (rfl)
        refine lv_goto (tgt := 107) hx hb dX5_count_82 (by decide) ?_
        have hP9 := hP.sub (ws' := []) [] rfl
        have hD9 := hD.sub (ws' := []) [] (by decide) rfl
        exact W.iret (v := 0) hx hb hr (fun t ht hW => ⟨⟨0, (), rfl, (by simp only [rCount, if_neg c_41, if_neg c_53, if_pos c_70]), by rw [ht]; exact hP9, hD9⟩, hS.F ht⟩) hS.2.2 dX5_count_107
    · skip
      refine lv_aload_n hx hb dX5_count_56 rfl (lv_at hl 2 rfl) ?_
      refine va_get (D := (dC, dI)) (ci := 5) (v := .ref Mgoes) (C := RX5) (T := TX5) (N := 30) hx hb hts i5 hown hK hP 0 rfl rfl 12 (by decide) (hts (.fieldLink RX5 61 "StopSetterModel" "goes" "[I") (by decide +kernel)) (fun _ h9 => h9) rfl dX5_count_57 ?_
      refine lv_aload_n hx hb dX5_count_60 rfl (lv_at hl 2 rfl) ?_
      refine va_get (D := (dC, dI)) (ci := 5) (v := .int 0) (C := RX5) (T := TX5) (N := 30) hx hb hts i5 hown hK hP 0 rfl rfl 10 (by decide) (hts (.fieldLink RX5 155 "StopSetterModel" "holds" "I") (by decide +kernel)) (fun _ h9 => h9) rfl dX5_count_61 ?_
      refine va_iald hx hb hK hP 1 0 rfl rfl (by unfold vp_in; decide) dX5_count_64 ?_
      refine lv_topi (fun v_ ev_ => ?_)
      obtain rfl : v_ = 0 := ev_.trans (rfl)
      refine lv_goto (tgt := 107) hx hb dX5_count_65 (by decide) ?_
      have hP9 := hP.sub (ws' := []) [] rfl
      have hD9 := hD.sub (ws' := []) [] (by decide) rfl
      exact W.iret (v := 0) hx hb hr (fun t ht hW => ⟨⟨0, (), rfl, (by simp only [rCount, if_neg c_41, if_pos c_53]), by rw [ht]; exact hP9, hD9⟩, hS.F ht⟩) hS.2.2 dX5_count_107
  · skip
    refine lv_aload_n hx hb dX5_count_44 rfl (lv_at hl 2 rfl) ?_
    refine va_get (D := (dC, dI)) (ci := 5) (v := .int 0) (C := RX5) (T := TX5) (N := 30) hx hb hts i5 hown hK hP 0 rfl rfl 18 (by decide) (hts (.fieldLink RX5 186 "StopSetterModel" "many" "I") (by decide +kernel)) (fun _ h9 => h9) rfl dX5_count_45 ?_
    refine lv_goto (tgt := 107) hx hb dX5_count_48 (by decide) ?_
    have hP9 := hP.sub (ws' := []) [] rfl
    have hD9 := hD.sub (ws' := []) [] (by decide) rfl
    exact W.iret (v := 0) hx hb hr (fun t ht hW => ⟨⟨0, (), rfl, (by simp only [rCount, if_pos c_41]), by rw [ht]; exact hP9, hD9⟩, hS.F ht⟩) hS.2.2 dX5_count_107

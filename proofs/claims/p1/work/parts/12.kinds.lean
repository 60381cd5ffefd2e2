set_option maxHeartbeats 4000000 in
set_option maxRecDepth 100000 in
theorem k_kinds (l : Launch) (dC : Nat → ClassId) (dI : Nat → Nat → Nat) (cI cZ cC cJ : ClassId) (sz : Nat) (h0 : Nat) (kO : Nat) (nO : Nat) (rO : Nat) (mO : Nat) (tO : Nat) (rdO : Nat) (lnO : Nat) (drO : Nat) (chO : Nat) (bA : Nat) (xA : Nat) (kA : Nat) (aA : Nat) (eA : Nat) (gA : Nat) (oA : Nat) (fk : Nat → Int32) (p0 : Int32) (p1 : Int32)  : Met l yX4_kinds wsX4_kinds ({ frames := 1, cells := 0, slots := 0, locals := 22 }) (va_Pc [.ref h0, .int p0, .int p1] (sPre dC dI cI cZ cC cJ [(h0, .inr (4, [.ref kO, .ref nO, .ref rO, .ref mO, .int 0, .ref tO, .ref rdO, .ref lnO, .ref drO, .ref chO])), (kO, .inl (cI, 100, .inl fk)), (chO, .inr (0, [.ref bA, .ref xA, .ref kA, .ref aA, .ref eA, .ref gA, .ref oA, .int 0, .int 1000000000, .int 1000000000, .int 0, .int 0]))] sz)) (va_Qi (fun (r : Int32) (u : Unit) => r = rKinds p0 p1) (fun _ => sB dC dI (va_A [(h0, .inr (4, [.ref kO, .ref nO, .ref rO, .ref mO, .int 0, .ref tO, .ref rdO, .ref lnO, .ref drO, .ref chO])), (kO, .inl (cI, 100, .inl fk)), (chO, .inr (0, [.ref bA, .ref xA, .ref kA, .ref aA, .ref eA, .ref gA, .ref oA, .int 0, .int 1000000000, .int 1000000000, .int 0, .int 0]))] sz) []) (va_A [(h0, .inr (4, [.ref kO, .ref nO, .ref rO, .ref mO, .int 0, .ref tO, .ref rdO, .ref lnO, .ref drO, .ref chO])), (kO, .inl (cI, 100, .inl fk)), (chO, .inr (0, [.ref bA, .ref xA, .ref kA, .ref aA, .ref eA, .ref gA, .ref oA, .int 0, .int 1000000000, .int 1000000000, .int 0, .int 0]))] sz)) 0 0 (va_A [(h0, .inr (4, [.ref kO, .ref nO, .ref rO, .ref mO, .int 0, .ref tO, .ref rdO, .ref lnO, .ref drO, .ref chO])), (kO, .inl (cI, 100, .inl fk)), (chO, .inr (0, [.ref bA, .ref xA, .ref kA, .ref aA, .ref eA, .ref gA, .ref oA, .int 0, .int 1000000000, .int 1000000000, .int 0, .int 0]))] sz) := by
  refine Met.ofW (cc := cX4_kinds) (maxL := 3) (ret := (some .boolean)) (by decide) rfl ?_
  intro p e s m args below meth c s₁ B hml hv
  obtain ⟨rfl, hsz, hP, hsk, hD0⟩ := hv
  have hx := B.exec
  have hb := B.bytes
  have hr := B.returns
  have hts := atoms_spec (ws := wsX4_kinds) B.pre
  have hown : s.vm.findClass RX4 = some m.cls := findClass_of_methodNamed B.named
  have hlocks := B.notSynchronized
  have hK := hsk.1
  have i4 : ∀ w ∈ wsX40, w ∈ wsX4_kinds := by decide +kernel
  subst hsz
  have hD := hD0.self (sz := s.heap.size)
  generalize hAe : va_A [(h0, .inr (4, [.ref kO, .ref nO, .ref rO, .ref mO, .int 0, .ref tO, .ref rdO, .ref lnO, .ref drO, .ref chO])), (kO, .inl (cI, 100, .inl fk)), (chO, .inr (0, [.ref bA, .ref xA, .ref kA, .ref aA, .ref eA, .ref gA, .ref oA, .int 0, .int 1000000000, .int 1000000000, .int 0, .int 0]))] s.heap.size = A at hD ⊢
  have hA : ∀ q : Nat, s.heap.size ≤ q → A q := fun q h => by rw [← hAe]; exact Or.inr h
  have hS : va_S A s.heap s.heap [] := va_S.rf
  have hl := lv_entry ([.ref h0, .int p0, .int p1]) (n := 3) (Nat.le_of_ble_eq_true rfl)
  rw [lg_entry_eq]
  generalize (lg_sl ([.ref h0, .int p0, .int p1]) ++ List.replicate (3 - (lg_sl ([.ref h0, .int p0, .int p1])).length) Slot.unset).toArray = ls at hl ⊢
  have hl : lv_has ls 3 [(0, .ref h0), (1, .int p0), (2, .int p1)] := hl
  refine lv_iload_n hx hb dX4_kinds_0 rfl (lv_at hl 1 rfl) ?_
  have hPc := hP.sub (ws' := []) [] rfl
  have hDc := hD.sub (ws' := []) [] (by decide) rfl
  have hFc := va_free (wc := []) hD hS hA [] rfl
  refine va_calli (va_runS (As := [.int p0]) (rest := []) ⟨hx, hb, hml, hown, hts⟩ (k_isWord l dC dI cI cZ cC cJ s.heap.size p0 ) (va_cwS 1 hts gX4_kinds_X4_isWord rfl rfl rfl (by decide +kernel) ⟨Nat.le_of_ble_eq_true rfl, Nat.le_of_ble_eq_true rfl⟩) ⟨sPre_blind, fun U hU hW => ⟨rfl, sPre_ok hsk hPc hDc hU hW⟩⟩ rfl rfl hl.1 rfl (lv_room (Nat.le_of_ble_eq_true rfl)) dX4_kinds_1 ⟨(show 0 + 0 ≤ 0 by omega), (show 0 + 0 ≤ 0 by omega)⟩) hS (fun q _ h => hFc q h) hFc (fun r_1 u t H1 locs ht hvm hw hB hz1 hk1 hS => ?_)
  try dsimp only at hw hB
  have hw_2 := hw
  obtain rfl : r_1 = isW p0 := hw_2
  obtain ⟨hP1, hD1⟩ := hB
  rw [ht] at hP1
  obtain ⟨hP, hD⟩ := va_join (wr := [(h0, .inr (4, [.ref kO, .ref nO, .ref rO, .ref mO, .int 0, .ref tO, .ref rdO, .ref lnO, .ref drO, .ref chO])), (kO, .inl (cI, 100, .inl fk)), (chO, .inr (0, [.ref bA, .ref xA, .ref kA, .ref aA, .ref eA, .ref gA, .ref oA, .int 0, .int 1000000000, .int 1000000000, .int 0, .int 0]))]) (w1 := []) hP hD [] [0, 1, 2] rfl rfl (by decide) (by decide) hk1 hFc hP1 hD1
  generalize H1 = H at hP hS ⊢
  have hP : va_P (dC, dI) vwCl [(h0, .inr (4, [.ref kO, .ref nO, .ref rO, .ref mO, .int 0, .ref tO, .ref rdO, .ref lnO, .ref drO, .ref chO])), (kO, .inl (cI, 100, .inl fk)), (chO, .inr (0, [.ref bA, .ref xA, .ref kA, .ref aA, .ref eA, .ref gA, .ref oA, .int 0, .int 1000000000, .int 1000000000, .int 0, .int 0]))] H := hP
  have hD : va_D A [(h0, .inr (4, [.ref kO, .ref nO, .ref rO, .ref mO, .int 0, .ref tO, .ref rdO, .ref lnO, .ref drO, .ref chO])), (kO, .inl (cI, 100, .inl fk)), (chO, .inr (0, [.ref bA, .ref xA, .ref kA, .ref aA, .ref eA, .ref gA, .ref oA, .int 0, .int 1000000000, .int 1000000000, .int 0, .int 0]))] := hD
  refine lv_if_eq (tgt := 19) hx hb dX4_kinds_4 (by decide) (fun c_4 => ?_) (fun c_4 => ?_)
  · skip
    refine lv_iconst (v := 0) hx hb dX4_kinds_19 (by decide) ?_
    have hP9 := hP.sub (ws' := []) [] rfl
    have hD9 := hD.sub (ws' := []) [] (by decide) rfl
    exact W.zret (v := 0) (ty := .boolean) hx hb hr rfl (fun t ht hW => ⟨⟨0, (), rfl, (by simp only [rKinds, if_pos c_4]), by rw [ht]; exact hP9, hD9⟩, hS.F ht⟩) hS.2.2 dX4_kinds_20
  · skip
    refine lv_iload_n hx hb dX4_kinds_7 rfl (lv_at hl 2 rfl) ?_
    refine lv_iconst (v := 1) hx hb dX4_kinds_8 (by decide) ?_
    refine lv_icmp_lt (tgt := 19) hx hb dX4_kinds_9 (by decide) (fun c_9 => ?_) (fun c_9 => ?_)
    · skip
      refine lv_iconst (v := 0) hx hb dX4_kinds_19 (by decide) ?_
      have hP9 := hP.sub (ws' := []) [] rfl
      have hD9 := hD.sub (ws' := []) [] (by decide) rfl
      exact W.zret (v := 0) (ty := .boolean) hx hb hr rfl (fun t ht hW => ⟨⟨0, (), rfl, (by simp only [rKinds, if_neg c_4, if_pos c_9]), by rw [ht]; exact hP9, hD9⟩, hS.F ht⟩) hS.2.2 dX4_kinds_20
    · skip
      refine lv_iload_n hx hb dX4_kinds_12 rfl (lv_at hl 2 rfl) ?_
      refine lv_sipush (v := 255) hx hb dX4_kinds_13 (by decide) ?_
      refine lv_icmp_le (tgt := 21) hx hb dX4_kinds_16 (by decide) (fun c_16 => ?_) (fun c_16 => ?_)
      · skip
        refine lv_aload_n hx hb dX4_kinds_21 rfl (lv_at hl 0 rfl) ?_
        refine va_get (D := (dC, dI)) (ci := 4) (v := .ref kO) (C := RX4) (T := TX4) (N := 10) hx hb hts i4 hown hK hP 0 rfl rfl 0 (by decide) (hts (.fieldLink RX4 9 "StopSetter" "kindsOf" "[I") (by decide +kernel)) (fun _ h9 => h9) rfl dX4_kinds_22 ?_
        refine lv_iload_n hx hb dX4_kinds_25 rfl (lv_at hl 1 rfl) ?_
        refine lv_iload_n hx hb dX4_kinds_26 rfl (lv_at hl 2 rfl) ?_
        refine va_iast hx hb hK hP hD hS 1 0 rfl rfl (isW_in c_4) dX4_kinds_27 (fun H locs hP hD hS => ?_)
        have hP : va_P (dC, dI) vwCl [(h0, .inr (4, [.ref kO, .ref nO, .ref rO, .ref mO, .int 0, .ref tO, .ref rdO, .ref lnO, .ref drO, .ref chO])), (kO, .inl (cI, 100, .inl (upd fk (p0.toNatClampNeg) p1))), (chO, .inr (0, [.ref bA, .ref xA, .ref kA, .ref aA, .ref eA, .ref gA, .ref oA, .int 0, .int 1000000000, .int 1000000000, .int 0, .int 0]))] H := hP
        have hD : va_D A [(h0, .inr (4, [.ref kO, .ref nO, .ref rO, .ref mO, .int 0, .ref tO, .ref rdO, .ref lnO, .ref drO, .ref chO])), (kO, .inl (cI, 100, .inl (upd fk (p0.toNatClampNeg) p1))), (chO, .inr (0, [.ref bA, .ref xA, .ref kA, .ref aA, .ref eA, .ref gA, .ref oA, .int 0, .int 1000000000, .int 1000000000, .int 0, .int 0]))] := hD
        refine lv_aload_n hx hb dX4_kinds_28 rfl (lv_at hl 0 rfl) ?_
        refine va_get (D := (dC, dI)) (ci := 4) (v := .ref chO) (C := RX4) (T := TX4) (N := 10) hx hb hts i4 hown hK hP 0 rfl rfl 9 (by decide) (hts (.fieldLink RX4 52 "StopSetter" "chart" "LStopSetter$Chart;") (by decide +kernel)) (fun _ h9 => h9) rfl dX4_kinds_29 ?_
        refine lv_aload_n hx hb dX4_kinds_32 rfl (lv_at hl 0 rfl) ?_
        refine lv_iload_n hx hb dX4_kinds_33 rfl (lv_at hl 1 rfl) ?_
        have hPc := hP.sub (ws' := [(h0, .inr (4, [.ref kO, .ref nO, .ref rO, .ref mO, .int 0, .ref tO, .ref rdO, .ref lnO, .ref drO, .ref chO]))]) [0] rfl
        have hDc := hD.sub (ws' := [(h0, .inr (4, [.ref kO, .ref nO, .ref rO, .ref mO, .int 0, .ref tO, .ref rdO, .ref lnO, .ref drO, .ref chO]))]) [0] (by decide) rfl
        have hFc := va_free (wc := [(h0, .inr (4, [.ref kO, .ref nO, .ref rO, .ref mO, .int 0, .ref tO, .ref rdO, .ref lnO, .ref drO, .ref chO]))]) hD hS hA [0] rfl
        refine va_calli (va_runV (As := [.int p0]) (rest := [.ref chO]) ⟨hx, hb, hml, hown, hts⟩ (k_firstPlaceOf0 l dC dI cI cZ cC cJ H.size h0 kO nO rO mO tO rdO lnO drO chO p0 ) (cwV 1 hts gX4_kinds_X4_firstPlaceOf rfl rfl rfl (by decide +kernel) ⟨Nat.le_of_ble_eq_true rfl, Nat.le_of_ble_eq_true rfl⟩) ⟨sPre_blind, va_recv hK hPc (ci := 4) (q0 := 0) rfl rfl, fun U hU hW => ⟨rfl, sPre_ok hsk hPc hDc hU hW⟩⟩ rfl rfl hl.1 rfl (lv_room (Nat.le_of_ble_eq_true rfl)) dX4_kinds_34 ⟨(show 0 + 0 ≤ 0 by omega), (show 0 + 0 ≤ 0 by omega)⟩) hS (fun q _ h => hFc q h) hFc (fun r_3 u t H1 locs ht hvm hw hB hz1 hk1 hS => ?_)
        try dsimp only at hw hB
        have hw_4 := hw
        obtain rfl : r_3 = 0 := hw_4
        obtain ⟨hP1, hD1⟩ := hB
        rw [ht] at hP1
        obtain ⟨hP, hD⟩ := va_join (wr := [(kO, .inl (cI, 100, .inl (upd fk (p0.toNatClampNeg) p1))), (chO, .inr (0, [.ref bA, .ref xA, .ref kA, .ref aA, .ref eA, .ref gA, .ref oA, .int 0, .int 1000000000, .int 1000000000, .int 0, .int 0]))]) (w1 := [(h0, .inr (4, [.ref kO, .ref nO, .ref rO, .ref mO, .int 0, .ref tO, .ref rdO, .ref lnO, .ref drO, .ref chO]))]) hP hD [0] [1, 2] rfl rfl (by decide) (by decide) hk1 hFc hP1 hD1
        generalize H1 = H at hP hS ⊢
        have hP : va_P (dC, dI) vwCl [(kO, .inl (cI, 100, .inl (upd fk (p0.toNatClampNeg) p1))), (chO, .inr (0, [.ref bA, .ref xA, .ref kA, .ref aA, .ref eA, .ref gA, .ref oA, .int 0, .int 1000000000, .int 1000000000, .int 0, .int 0])), (h0, .inr (4, [.ref kO, .ref nO, .ref rO, .ref mO, .int 0, .ref tO, .ref rdO, .ref lnO, .ref drO, .ref chO]))] H := hP
        have hD : va_D A [(kO, .inl (cI, 100, .inl (upd fk (p0.toNatClampNeg) p1))), (chO, .inr (0, [.ref bA, .ref xA, .ref kA, .ref aA, .ref eA, .ref gA, .ref oA, .int 0, .int 1000000000, .int 1000000000, .int 0, .int 0])), (h0, .inr (4, [.ref kO, .ref nO, .ref rO, .ref mO, .int 0, .ref tO, .ref rdO, .ref lnO, .ref drO, .ref chO]))] := hD
        have hPc := hP.sub (ws' := [(chO, .inr (0, [.ref bA, .ref xA, .ref kA, .ref aA, .ref eA, .ref gA, .ref oA, .int 0, .int 1000000000, .int 1000000000, .int 0, .int 0]))]) [1] rfl
        have hDc := hD.sub (ws' := [(chO, .inr (0, [.ref bA, .ref xA, .ref kA, .ref aA, .ref eA, .ref gA, .ref oA, .int 0, .int 1000000000, .int 1000000000, .int 0, .int 0]))]) [1] (by decide) rfl
        have hFc := va_free (wc := [(chO, .inr (0, [.ref bA, .ref xA, .ref kA, .ref aA, .ref eA, .ref gA, .ref oA, .int 0, .int 1000000000, .int 1000000000, .int 0, .int 0]))]) hD hS hA [1] rfl
        refine va_callv (va_runV (As := [.int 0]) (rest := []) ⟨hx, hb, hml, hown, hts⟩ (k_keep0 l dC dI cI cZ cC cJ H.size chO bA xA kA aA eA gA oA ) (cwV 1 hts gX4_kinds_X0_keep rfl rfl rfl (by decide +kernel) ⟨Nat.le_of_ble_eq_true rfl, Nat.le_of_ble_eq_true rfl⟩) ⟨sPre_blind, va_recv hK hPc (ci := 0) (q0 := 0) rfl rfl, fun U hU hW => ⟨rfl, sPre_ok hsk hPc hDc hU hW⟩⟩ rfl rfl hl.1 rfl (lv_room (Nat.le_of_ble_eq_true rfl)) dX4_kinds_37 ⟨(show 0 + 0 ≤ 0 by omega), (show 0 + 0 ≤ 0 by omega)⟩) hS (fun q _ h => hFc q h) hFc (fun u t H1 locs ht hvm hw hB hz1 hk1 hS => ?_)
        try dsimp only at hw hB
        obtain ⟨hP1, hD1⟩ := hB
        rw [ht] at hP1
        obtain ⟨hP, hD⟩ := va_join (wr := [(kO, .inl (cI, 100, .inl (upd fk (p0.toNatClampNeg) p1))), (h0, .inr (4, [.ref kO, .ref nO, .ref rO, .ref mO, .int 0, .ref tO, .ref rdO, .ref lnO, .ref drO, .ref chO]))]) (w1 := [(chO, .inr (0, [.ref bA, .ref xA, .ref kA, .ref aA, .ref eA, .ref gA, .ref oA, .int 0, .int 1000000000, .int 1000000000, .int 0, .int 0]))]) hP hD [1] [0, 2] rfl rfl (by decide) (by decide) hk1 hFc hP1 hD1
        generalize H1 = H at hP hS ⊢
        have hP : va_P (dC, dI) vwCl [(kO, .inl (cI, 100, .inl (upd fk (p0.toNatClampNeg) p1))), (h0, .inr (4, [.ref kO, .ref nO, .ref rO, .ref mO, .int 0, .ref tO, .ref rdO, .ref lnO, .ref drO, .ref chO])), (chO, .inr (0, [.ref bA, .ref xA, .ref kA, .ref aA, .ref eA, .ref gA, .ref oA, .int 0, .int 1000000000, .int 1000000000, .int 0, .int 0]))] H := hP
        have hD : va_D A [(kO, .inl (cI, 100, .inl (upd fk (p0.toNatClampNeg) p1))), (h0, .inr (4, [.ref kO, .ref nO, .ref rO, .ref mO, .int 0, .ref tO, .ref rdO, .ref lnO, .ref drO, .ref chO])), (chO, .inr (0, [.ref bA, .ref xA, .ref kA, .ref aA, .ref eA, .ref gA, .ref oA, .int 0, .int 1000000000, .int 1000000000, .int 0, .int 0]))] := hD
        refine lv_iconst (v := 1) hx hb dX4_kinds_40 (by decide) ?_
        have hP9 := hP.sub (ws' := []) [] rfl
        have hD9 := hD.sub (ws' := []) [] (by decide) rfl
        exact W.zret (v := 1) (ty := .boolean) hx hb hr rfl (fun t ht hW => ⟨⟨1, (), rfl, (by simp only [rKinds, if_neg c_4, if_neg c_9, if_pos c_16]), by rw [ht]; exact hP9, hD9⟩, hS.F ht⟩) hS.2.2 dX4_kinds_41
      · skip
        refine lv_iconst (v := 0) hx hb dX4_kinds_19 (by decide) ?_
        have hP9 := hP.sub (ws' := []) [] rfl
        have hD9 := hD.sub (ws' := []) [] (by decide) rfl
        exact W.zret (v := 0) (ty := .boolean) hx hb hr rfl (fun t ht hW => ⟨⟨0, (), rfl, (by simp only [rKinds, if_neg c_4, if_neg c_9, if_neg c_16]), by rw [ht]; exact hP9, hD9⟩, hS.F ht⟩) hS.2.2 dX4_kinds_20
set_option maxHeartbeats 4000000 in
set_option maxRecDepth 100000 in
theorem k_mkinds (l : Launch) (dC : Nat → ClassId) (dI : Nat → Nat → Nat) (cI cZ cC cJ : ClassId) (sz : Nat) (h0 : Nat) (Mtape : Nat) (Msort : Nat) (Mplace : Nat) (Mvalue : Nat) (Mwords : Nat) (Mgoes : Nat) (MgoLine : Nat) (Mends : Nat) (MendLine : Nat) (Mkinds : Nat) (MisName : Nat) (Mrow : Nat) (MbyHand : Nat) (Mleast : Nat) (Msecond : Nat) (MendAt : Nat) (MgoAt : Nat) (MnodeBehind : Nat) (MisOut : Nat) (MfirstEnd : Nat) (MfirstGo : Nat) (fk : Nat → Int32) (p0 : Int32) (p1 : Int32)  : Met l yX5_kinds wsX5_kinds ({ frames := 1, cells := 0, slots := 0, locals := 20 }) (va_Pc [.ref h0, .int p0, .int p1] (sPre dC dI cI cZ cC cJ [(h0, .inr (5, [.int 0, .ref Mtape, .int 0, .int 0, .ref Msort, .ref Mplace, .ref Mvalue, .int 0, .int 0, .ref Mwords, .int 0, .int 0, .ref Mgoes, .ref MgoLine, .ref Mends, .ref MendLine, .ref Mkinds, .ref MisName, .int 0, .ref Mrow, .ref MbyHand, .ref Mleast, .ref Msecond, .ref MendAt, .ref MgoAt, .ref MnodeBehind, .int 0, .ref MisOut, .ref MfirstEnd, .ref MfirstGo])), (Mkinds, .inl (cI, 100, .inl fk))] sz)) (va_Qi (fun (r : Int32) (u : Unit) => r = rKinds p0 p1) (fun _ => sB dC dI (va_A [(h0, .inr (5, [.int 0, .ref Mtape, .int 0, .int 0, .ref Msort, .ref Mplace, .ref Mvalue, .int 0, .int 0, .ref Mwords, .int 0, .int 0, .ref Mgoes, .ref MgoLine, .ref Mends, .ref MendLine, .ref Mkinds, .ref MisName, .int 0, .ref Mrow, .ref MbyHand, .ref Mleast, .ref Msecond, .ref MendAt, .ref MgoAt, .ref MnodeBehind, .int 0, .ref MisOut, .ref MfirstEnd, .ref MfirstGo])), (Mkinds, .inl (cI, 100, .inl fk))] sz) []) (va_A [(h0, .inr (5, [.int 0, .ref Mtape, .int 0, .int 0, .ref Msort, .ref Mplace, .ref Mvalue, .int 0, .int 0, .ref Mwords, .int 0, .int 0, .ref Mgoes, .ref MgoLine, .ref Mends, .ref MendLine, .ref Mkinds, .ref MisName, .int 0, .ref Mrow, .ref MbyHand, .ref Mleast, .ref Msecond, .ref MendAt, .ref MgoAt, .ref MnodeBehind, .int 0, .ref MisOut, .ref MfirstEnd, .ref MfirstGo])), (Mkinds, .inl (cI, 100, .inl fk))] sz)) 0 0 (va_A [(h0, .inr (5, [.int 0, .ref Mtape, .int 0, .int 0, .ref Msort, .ref Mplace, .ref Mvalue, .int 0, .int 0, .ref Mwords, .int 0, .int 0, .ref Mgoes, .ref MgoLine, .ref Mends, .ref MendLine, .ref Mkinds, .ref MisName, .int 0, .ref Mrow, .ref MbyHand, .ref Mleast, .ref Msecond, .ref MendAt, .ref MgoAt, .ref MnodeBehind, .int 0, .ref MisOut, .ref MfirstEnd, .ref MfirstGo])), (Mkinds, .inl (cI, 100, .inl fk))] sz) := by
  refine Met.ofW (cc := cX5_kinds) (maxL := 3) (ret := (some .boolean)) (by decide) rfl ?_
  intro p e s m args below meth c s₁ B hml hv
  obtain ⟨rfl, hsz, hP, hsk, hD0⟩ := hv
  have hx := B.exec
  have hb := B.bytes
  have hr := B.returns
  have hts := atoms_spec (ws := wsX5_kinds) B.pre
  have hown : s.vm.findClass RX5 = some m.cls := findClass_of_methodNamed B.named
  have hlocks := B.notSynchronized
  have hK := hsk.1
  have i5 : ∀ w ∈ wsX50, w ∈ wsX5_kinds := by decide +kernel
  subst hsz
  have hD := hD0.self (sz := s.heap.size)
  generalize hAe : va_A [(h0, .inr (5, [.int 0, .ref Mtape, .int 0, .int 0, .ref Msort, .ref Mplace, .ref Mvalue, .int 0, .int 0, .ref Mwords, .int 0, .int 0, .ref Mgoes, .ref MgoLine, .ref Mends, .ref MendLine, .ref Mkinds, .ref MisName, .int 0, .ref Mrow, .ref MbyHand, .ref Mleast, .ref Msecond, .ref MendAt, .ref MgoAt, .ref MnodeBehind, .int 0, .ref MisOut, .ref MfirstEnd, .ref MfirstGo])), (Mkinds, .inl (cI, 100, .inl fk))] s.heap.size = A at hD ⊢
  have hA : ∀ q : Nat, s.heap.size ≤ q → A q := fun q h => by rw [← hAe]; exact Or.inr h
  have hS : va_S A s.heap s.heap [] := va_S.rf
  have hl := lv_entry ([.ref h0, .int p0, .int p1]) (n := 3) (Nat.le_of_ble_eq_true rfl)
  rw [lg_entry_eq]
  generalize (lg_sl ([.ref h0, .int p0, .int p1]) ++ List.replicate (3 - (lg_sl ([.ref h0, .int p0, .int p1])).length) Slot.unset).toArray = ls at hl ⊢
  have hl : lv_has ls 3 [(0, .ref h0), (1, .int p0), (2, .int p1)] := hl
  refine lv_aload_n hx hb dX5_kinds_0 rfl (lv_at hl 0 rfl) ?_
  refine lv_iconst (v := 0) hx hb dX5_kinds_1 (by decide) ?_
  refine va_put (D := (dC, dI)) (ci := 5) (v := .int 0) (ty := tyX5 0) (C := RX5) (T := TX5) (N := 30) hx hb hts i5 tyX5 tyX5_ok nmX5 hown hK hP hD hS 0 rfl rfl 0 (by decide) (hts (.fieldLink RX5 1 "StopSetterModel" "thrown" "I") (by decide +kernel)) (fun _ h9 => h9) rfl (by decide +kernel) rfl rfl (Nat.le_of_ble_eq_true rfl) dX5_kinds_2 (fun H locs hP hD hS => ?_)
  have hP : va_P (dC, dI) vwCl [(h0, .inr (5, [.int 0, .ref Mtape, .int 0, .int 0, .ref Msort, .ref Mplace, .ref Mvalue, .int 0, .int 0, .ref Mwords, .int 0, .int 0, .ref Mgoes, .ref MgoLine, .ref Mends, .ref MendLine, .ref Mkinds, .ref MisName, .int 0, .ref Mrow, .ref MbyHand, .ref Mleast, .ref Msecond, .ref MendAt, .ref MgoAt, .ref MnodeBehind, .int 0, .ref MisOut, .ref MfirstEnd, .ref MfirstGo])), (Mkinds, .inl (cI, 100, .inl fk))] H := hP
  have hD : va_D A [(h0, .inr (5, [.int 0, .ref Mtape, .int 0, .int 0, .ref Msort, .ref Mplace, .ref Mvalue, .int 0, .int 0, .ref Mwords, .int 0, .int 0, .ref Mgoes, .ref MgoLine, .ref Mends, .ref MendLine, .ref Mkinds, .ref MisName, .int 0, .ref Mrow, .ref MbyHand, .ref Mleast, .ref Msecond, .ref MendAt, .ref MgoAt, .ref MnodeBehind, .int 0, .ref MisOut, .ref MfirstEnd, .ref MfirstGo])), (Mkinds, .inl (cI, 100, .inl fk))] := hD
  refine lv_iload_n hx hb dX5_kinds_5 rfl (lv_at hl 1 rfl) ?_
  have hPc := hP.sub (ws' := []) [] rfl
  have hDc := hD.sub (ws' := []) [] (by decide) rfl
  have hFc := va_free (wc := []) hD hS hA [] rfl
  refine va_calli (va_runS (As := [.int p0]) (rest := []) ⟨hx, hb, hml, hown, hts⟩ (k_isOne l dC dI cI cZ cC cJ H.size p0 ) (va_cwS 1 hts gX5_kinds_X5_isOne rfl rfl rfl (by decide +kernel) ⟨Nat.le_of_ble_eq_true rfl, Nat.le_of_ble_eq_true rfl⟩) ⟨sPre_blind, fun U hU hW => ⟨rfl, sPre_ok hsk hPc hDc hU hW⟩⟩ rfl rfl hl.1 rfl (lv_room (Nat.le_of_ble_eq_true rfl)) dX5_kinds_6 ⟨(show 0 + 0 ≤ 0 by omega), (show 0 + 0 ≤ 0 by omega)⟩) hS (fun q _ h => hFc q h) hFc (fun r_1 u t H1 locs ht hvm hw hB hz1 hk1 hS => ?_)
  try dsimp only at hw hB
  have hw_2 := hw
  obtain rfl : r_1 = isW p0 := hw_2
  obtain ⟨hP1, hD1⟩ := hB
  rw [ht] at hP1
  obtain ⟨hP, hD⟩ := va_join (wr := [(h0, .inr (5, [.int 0, .ref Mtape, .int 0, .int 0, .ref Msort, .ref Mplace, .ref Mvalue, .int 0, .int 0, .ref Mwords, .int 0, .int 0, .ref Mgoes, .ref MgoLine, .ref Mends, .ref MendLine, .ref Mkinds, .ref MisName, .int 0, .ref Mrow, .ref MbyHand, .ref Mleast, .ref Msecond, .ref MendAt, .ref MgoAt, .ref MnodeBehind, .int 0, .ref MisOut, .ref MfirstEnd, .ref MfirstGo])), (Mkinds, .inl (cI, 100, .inl fk))]) (w1 := []) hP hD [] [0, 1] rfl rfl (by decide) (by decide) hk1 hFc hP1 hD1
  generalize H1 = H at hP hS ⊢
  have hP : va_P (dC, dI) vwCl [(h0, .inr (5, [.int 0, .ref Mtape, .int 0, .int 0, .ref Msort, .ref Mplace, .ref Mvalue, .int 0, .int 0, .ref Mwords, .int 0, .int 0, .ref Mgoes, .ref MgoLine, .ref Mends, .ref MendLine, .ref Mkinds, .ref MisName, .int 0, .ref Mrow, .ref MbyHand, .ref Mleast, .ref Msecond, .ref MendAt, .ref MgoAt, .ref MnodeBehind, .int 0, .ref MisOut, .ref MfirstEnd, .ref MfirstGo])), (Mkinds, .inl (cI, 100, .inl fk))] H := hP
  have hD : va_D A [(h0, .inr (5, [.int 0, .ref Mtape, .int 0, .int 0, .ref Msort, .ref Mplace, .ref Mvalue, .int 0, .int 0, .ref Mwords, .int 0, .int 0, .ref Mgoes, .ref MgoLine, .ref Mends, .ref MendLine, .ref Mkinds, .ref MisName, .int 0, .ref Mrow, .ref MbyHand, .ref Mleast, .ref Msecond, .ref MendAt, .ref MgoAt, .ref MnodeBehind, .int 0, .ref MisOut, .ref MfirstEnd, .ref MfirstGo])), (Mkinds, .inl (cI, 100, .inl fk))] := hD
  refine lv_if_eq (tgt := 24) hx hb dX5_kinds_9 (by decide) (fun c_9 => ?_) (fun c_9 => ?_)
  · skip
    refine lv_iconst (v := 0) hx hb dX5_kinds_24 (by decide) ?_
    have hP9 := hP.sub (ws' := []) [] rfl
    have hD9 := hD.sub (ws' := []) [] (by decide) rfl
    exact W.zret (v := 0) (ty := .boolean) hx hb hr rfl (fun t ht hW => ⟨⟨0, (), rfl, (by simp only [rKinds, if_pos c_9]), by rw [ht]; exact hP9, hD9⟩, hS.F ht⟩) hS.2.2 dX5_kinds_25
  · skip
    refine lv_iload_n hx hb dX5_kinds_12 rfl (lv_at hl 2 rfl) ?_
    refine lv_iconst (v := 1) hx hb dX5_kinds_13 (by decide) ?_
    refine lv_icmp_lt (tgt := 24) hx hb dX5_kinds_14 (by decide) (fun c_14 => ?_) (fun c_14 => ?_)
    · skip
      refine lv_iconst (v := 0) hx hb dX5_kinds_24 (by decide) ?_
      have hP9 := hP.sub (ws' := []) [] rfl
      have hD9 := hD.sub (ws' := []) [] (by decide) rfl
      exact W.zret (v := 0) (ty := .boolean) hx hb hr rfl (fun t ht hW => ⟨⟨0, (), rfl, (by simp only [rKinds, if_neg c_9, if_pos c_14]), by rw [ht]; exact hP9, hD9⟩, hS.F ht⟩) hS.2.2 dX5_kinds_25
    · skip
      refine lv_iload_n hx hb dX5_kinds_17 rfl (lv_at hl 2 rfl) ?_
      refine lv_sipush (v := 255) hx hb dX5_kinds_18 (by decide) ?_
      refine lv_icmp_le (tgt := 26) hx hb dX5_kinds_21 (by decide) (fun c_21 => ?_) (fun c_21 => ?_)
      · skip
        refine lv_aload_n hx hb dX5_kinds_26 rfl (lv_at hl 0 rfl) ?_
        refine va_get (D := (dC, dI)) (ci := 5) (v := .ref Mkinds) (C := RX5) (T := TX5) (N := 30) hx hb hts i5 hown hK hP 0 rfl rfl 16 (by decide) (hts (.fieldLink RX5 73 "StopSetterModel" "kinds" "[I") (by decide +kernel)) (fun _ h9 => h9) rfl dX5_kinds_27 ?_
        refine lv_iload_n hx hb dX5_kinds_30 rfl (lv_at hl 1 rfl) ?_
        refine lv_iload_n hx hb dX5_kinds_31 rfl (lv_at hl 2 rfl) ?_
        refine va_iast hx hb hK hP hD hS 1 0 rfl rfl (isW_in c_9) dX5_kinds_32 (fun H locs hP hD hS => ?_)
        have hP : va_P (dC, dI) vwCl [(h0, .inr (5, [.int 0, .ref Mtape, .int 0, .int 0, .ref Msort, .ref Mplace, .ref Mvalue, .int 0, .int 0, .ref Mwords, .int 0, .int 0, .ref Mgoes, .ref MgoLine, .ref Mends, .ref MendLine, .ref Mkinds, .ref MisName, .int 0, .ref Mrow, .ref MbyHand, .ref Mleast, .ref Msecond, .ref MendAt, .ref MgoAt, .ref MnodeBehind, .int 0, .ref MisOut, .ref MfirstEnd, .ref MfirstGo])), (Mkinds, .inl (cI, 100, .inl (upd fk (p0.toNatClampNeg) p1)))] H := hP
        have hD : va_D A [(h0, .inr (5, [.int 0, .ref Mtape, .int 0, .int 0, .ref Msort, .ref Mplace, .ref Mvalue, .int 0, .int 0, .ref Mwords, .int 0, .int 0, .ref Mgoes, .ref MgoLine, .ref Mends, .ref MendLine, .ref Mkinds, .ref MisName, .int 0, .ref Mrow, .ref MbyHand, .ref Mleast, .ref Msecond, .ref MendAt, .ref MgoAt, .ref MnodeBehind, .int 0, .ref MisOut, .ref MfirstEnd, .ref MfirstGo])), (Mkinds, .inl (cI, 100, .inl (upd fk (p0.toNatClampNeg) p1)))] := hD
        refine lv_iconst (v := 1) hx hb dX5_kinds_33 (by decide) ?_
        have hP9 := hP.sub (ws' := []) [] rfl
        have hD9 := hD.sub (ws' := []) [] (by decide) rfl
        exact W.zret (v := 1) (ty := .boolean) hx hb hr rfl (fun t ht hW => ⟨⟨1, (), rfl, (by simp only [rKinds, if_neg c_9, if_neg c_14, if_pos c_21]), by rw [ht]; exact hP9, hD9⟩, hS.F ht⟩) hS.2.2 dX5_kinds_34
      · skip
        refine lv_iconst (v := 0) hx hb dX5_kinds_24 (by decide) ?_
        have hP9 := hP.sub (ws' := []) [] rfl
        have hD9 := hD.sub (ws' := []) [] (by decide) rfl
        exact W.zret (v := 0) (ty := .boolean) hx hb hr rfl (fun t ht hW => ⟨⟨0, (), rfl, (by simp only [rKinds, if_neg c_9, if_neg c_14, if_neg c_21]), by rw [ht]; exact hP9, hD9⟩, hS.F ht⟩) hS.2.2 dX5_kinds_25

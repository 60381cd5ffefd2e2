set_option maxHeartbeats 4000000 in
set_option maxRecDepth 100000 in
theorem k_firstPlaceOf (l : Launch) (dC : Nat → ClassId) (dI : Nat → Nat → Nat) (cI cZ cC cJ : ClassId) (sz : Nat) (h0 : Nat) (kO : Nat) (nO : Nat) (rO : Nat) (mO : Nat) (zs : Int32) (tO : Nat) (rdO : Nat) (lnO : Nat) (drO : Nat) (chO : Nat) (fr : Nat → Int32) (p0 : Int32)  : Met l yX4_firstPlaceOf wsX4_firstPlaceOf ({ frames := 2, cells := 0, slots := 0, locals := 42 }) (va_Pc [.ref h0, .int p0] (sPre dC dI cI cZ cC cJ [(h0, .inr (4, [.ref kO, .ref nO, .ref rO, .ref mO, .int zs, .ref tO, .ref rdO, .ref lnO, .ref drO, .ref chO])), (rO, .inl (cI, 60, .inl fr))] sz)) (va_Qi (fun (r : Int32) (u : Unit) => True) (fun _ => sB dC dI (va_A [(h0, .inr (4, [.ref kO, .ref nO, .ref rO, .ref mO, .int zs, .ref tO, .ref rdO, .ref lnO, .ref drO, .ref chO])), (rO, .inl (cI, 60, .inl fr))] sz) [(h0, .inr (4, [.ref kO, .ref nO, .ref rO, .ref mO, .int zs, .ref tO, .ref rdO, .ref lnO, .ref drO, .ref chO])), (rO, .inl (cI, 60, .inl fr))]) (va_A [(h0, .inr (4, [.ref kO, .ref nO, .ref rO, .ref mO, .int zs, .ref tO, .ref rdO, .ref lnO, .ref drO, .ref chO])), (rO, .inl (cI, 60, .inl fr))] sz)) 0 0 (va_A [(h0, .inr (4, [.ref kO, .ref nO, .ref rO, .ref mO, .int zs, .ref tO, .ref rdO, .ref lnO, .ref drO, .ref chO])), (rO, .inl (cI, 60, .inl fr))] sz) := by
  refine Met.ofW (cc := cX4_firstPlaceOf) (maxL := 3) (ret := (some .int)) (by decide) rfl ?_
  intro p e s m args below meth c s₁ B hml hv
  obtain ⟨rfl, hsz, hP, hsk, hD0⟩ := hv
  have hx := B.exec
  have hb := B.bytes
  have hr := B.returns
  have hts := atoms_spec (ws := wsX4_firstPlaceOf) B.pre
  have hown : s.vm.findClass RX4 = some m.cls := findClass_of_methodNamed B.named
  have hlocks := B.notSynchronized
  have hK := hsk.1
  have i4 : ∀ w ∈ wsX40, w ∈ wsX4_firstPlaceOf := by decide +kernel
  subst hsz
  have hD := hD0.self (sz := s.heap.size)
  generalize hAe : va_A [(h0, .inr (4, [.ref kO, .ref nO, .ref rO, .ref mO, .int zs, .ref tO, .ref rdO, .ref lnO, .ref drO, .ref chO])), (rO, .inl (cI, 60, .inl fr))] s.heap.size = A at hD ⊢
  have hA : ∀ q : Nat, s.heap.size ≤ q → A q := fun q h => by rw [← hAe]; exact Or.inr h
  have hS : va_S A s.heap s.heap [] := va_S.rf
  have hl := lv_entry ([.ref h0, .int p0]) (n := 3) (Nat.le_of_ble_eq_true rfl)
  rw [lg_entry_eq]
  generalize (lg_sl ([.ref h0, .int p0]) ++ List.replicate (3 - (lg_sl ([.ref h0, .int p0])).length) Slot.unset).toArray = ls at hl ⊢
  have hl : lv_has ls 3 [(0, .ref h0), (1, .int p0)] := hl
  refine lv_iconst (v := 0) hx hb dX4_firstPlaceOf_0 (by decide) ?_
  refine lv_istore_n (lv' := [(2, .int 0), (0, .ref h0), (1, .int p0)]) hx hb dX4_firstPlaceOf_1 rfl hl (by decide) rfl (fun ls hl => ?_)
  have lp_2 : ∀ (n_2 : Nat) (iv : Int32), ((zs : Int32).toInt - (iv : Int32).toInt < n_2 ∧ 0 < n_2) → ∀ (H : Heap) (locs : List Loc) (ls : Array Slot), va_P (dC, dI) vwCl [(h0, .inr (4, [.ref kO, .ref nO, .ref rO, .ref mO, .int zs, .ref tO, .ref rdO, .ref lnO, .ref drO, .ref chO])), (rO, .inl (cI, 60, .inl fr))] H → va_D A [(h0, .inr (4, [.ref kO, .ref nO, .ref rO, .ref mO, .int zs, .ref tO, .ref rdO, .ref lnO, .ref drO, .ref chO])), (rO, .inl (cI, 60, .inl fr))] → va_S A s.heap H locs → lv_has ls 3 [(2, .int iv), (0, .ref h0), (1, .int p0)] → W p l e (headSpec wsX4_firstPlaceOf ({ frames := 2, cells := 0, slots := 0, locals := 42 })).room s m ([.ref h0, .int p0]).toArray below meth c H locs 0 0 (MQ below (va_Qi (fun (r : Int32) (u : Unit) => True) (fun _ => sB dC dI A [(h0, .inr (4, [.ref kO, .ref nO, .ref rO, .ref mO, .int zs, .ref tO, .ref rdO, .ref lnO, .ref drO, .ref chO])), (rO, .inl (cI, 60, .inl fr))]) A) ([.ref h0, .int p0]).toArray s 0 0 A) (F0 m 2 ls []) := by
    intro n_2
    induction n_2 with
    | zero =>
      intro iv fuel_2 
      exact absurd fuel_2 (by omega)
    | succ n_2 ih_2 =>
      intro iv fuel_2  H locs ls hP hD hS hl
      refine lv_iload_n hx hb dX4_firstPlaceOf_2 rfl (lv_at hl 0 rfl) ?_
      refine lv_aload_n hx hb dX4_firstPlaceOf_3 rfl (lv_at hl 1 rfl) ?_
      refine va_get (D := (dC, dI)) (ci := 4) (v := .int zs) (C := RX4) (T := TX4) (N := 10) hx hb hts i4 hown hK hP 0 rfl rfl 4 (by decide) (hts (.fieldLink RX4 74 "StopSetter" "size" "I") (by decide +kernel)) (fun _ h9 => h9) rfl dX4_firstPlaceOf_4 ?_
      refine lv_icmp_ge (tgt := 27) hx hb dX4_firstPlaceOf_7 (by decide) (fun c_7 => ?_) (fun c_7 => ?_)
      · skip
        refine lv_aload_n hx hb dX4_firstPlaceOf_27 rfl (lv_at hl 1 rfl) ?_
        refine va_get (D := (dC, dI)) (ci := 4) (v := .int zs) (C := RX4) (T := TX4) (N := 10) hx hb hts i4 hown hK hP 0 rfl rfl 4 (by decide) (hts (.fieldLink RX4 74 "StopSetter" "size" "I") (by decide +kernel)) (fun _ h9 => h9) rfl dX4_firstPlaceOf_28 ?_
        have hP9 := hP.sub (ws' := [(h0, .inr (4, [.ref kO, .ref nO, .ref rO, .ref mO, .int zs, .ref tO, .ref rdO, .ref lnO, .ref drO, .ref chO])), (rO, .inl (cI, 60, .inl fr))]) [0, 1] rfl
        have hD9 := hD.sub (ws' := [(h0, .inr (4, [.ref kO, .ref nO, .ref rO, .ref mO, .int zs, .ref tO, .ref rdO, .ref lnO, .ref drO, .ref chO])), (rO, .inl (cI, 60, .inl fr))]) [0, 1] (by decide) rfl
        exact W.iret (v := zs) hx hb hr (fun t ht hW => ⟨⟨zs, (), rfl, trivial, by rw [ht]; exact hP9, hD9⟩, hS.F ht⟩) hS.2.2 dX4_firstPlaceOf_31
      · skip
        refine lv_aload_n hx hb dX4_firstPlaceOf_10 rfl (lv_at hl 1 rfl) ?_
        refine lv_iload_n hx hb dX4_firstPlaceOf_11 rfl (lv_at hl 0 rfl) ?_
        have hPc := hP.sub (ws' := [(h0, .inr (4, [.ref kO, .ref nO, .ref rO, .ref mO, .int zs, .ref tO, .ref rdO, .ref lnO, .ref drO, .ref chO])), (rO, .inl (cI, 60, .inl fr))]) [0, 1] rfl
        have hDc := hD.sub (ws' := [(h0, .inr (4, [.ref kO, .ref nO, .ref rO, .ref mO, .int zs, .ref tO, .ref rdO, .ref lnO, .ref drO, .ref chO])), (rO, .inl (cI, 60, .inl fr))]) [0, 1] (by decide) rfl
        have hFc := va_free (wc := [(h0, .inr (4, [.ref kO, .ref nO, .ref rO, .ref mO, .int zs, .ref tO, .ref rdO, .ref lnO, .ref drO, .ref chO])), (rO, .inl (cI, 60, .inl fr))]) hD hS hA [0, 1] rfl
        refine va_calli (va_runV (As := [.int iv]) (rest := []) ⟨hx, hb, hml, hown, hts⟩ (k_wordAt l dC dI cI cZ cC cJ H.size  h0 kO nO rO mO zs tO rdO lnO drO chO fr iv ) (cwV 1 hts gX4_firstPlaceOf_X4_wordAt rfl rfl rfl (by decide +kernel) ⟨Nat.le_of_ble_eq_true rfl, Nat.le_of_ble_eq_true rfl⟩) ⟨sPre_blind, va_recv hK hPc (ci := 4) (q0 := 0) rfl rfl, fun U hU hW => ⟨rfl, sPre_ok hsk hPc hDc hU hW⟩⟩ rfl rfl hl.1 rfl (lv_room (Nat.le_of_ble_eq_true rfl)) dX4_firstPlaceOf_12 ⟨(show 0 + 0 ≤ 0 by omega), (show 0 + 0 ≤ 0 by omega)⟩) hS (fun q _ h => hFc q h) hFc (fun r_1 u t H1 locs ht hvm hw hB hz1 hk1 hS => ?_)
        try dsimp only at hw hB
        obtain ⟨hP1, hD1⟩ := hB
        rw [ht] at hP1
        obtain ⟨hP, hD⟩ := va_join (wr := []) (w1 := [(h0, .inr (4, [.ref kO, .ref nO, .ref rO, .ref mO, .int zs, .ref tO, .ref rdO, .ref lnO, .ref drO, .ref chO])), (rO, .inl (cI, 60, .inl fr))]) hP hD [0, 1] [] rfl rfl (by decide) (by decide) hk1 hFc hP1 hD1
        generalize H1 = H at hP hS ⊢
        have hP : va_P (dC, dI) vwCl [(h0, .inr (4, [.ref kO, .ref nO, .ref rO, .ref mO, .int zs, .ref tO, .ref rdO, .ref lnO, .ref drO, .ref chO])), (rO, .inl (cI, 60, .inl fr))] H := hP
        have hD : va_D A [(h0, .inr (4, [.ref kO, .ref nO, .ref rO, .ref mO, .int zs, .ref tO, .ref rdO, .ref lnO, .ref drO, .ref chO])), (rO, .inl (cI, 60, .inl fr))] := hD
        have hw_r_1 := hw
        refine lv_iload_n hx hb dX4_firstPlaceOf_15 rfl (lv_at hl 2 rfl) ?_
        refine lv_icmp_ne (tgt := 21) hx hb dX4_firstPlaceOf_16 (by decide) (fun c_16 => ?_) (fun c_16 => ?_)
        · skip
          refine lv_iinc (v := (iv + 1)) (lv' := [(2, .int (iv + 1)), (0, .ref h0), (1, .int p0)]) hx hb dX4_firstPlaceOf_21 hl (k := 0) rfl rfl (by decide) rfl (fun ls hl => ?_)
          refine lv_goto (tgt := 2) hx hb dX4_firstPlaceOf_24 (by decide) ?_
          exact ih_2  (iv + 1) (up_f c_7 fuel_2) _ _ _ hP hD hS (lv_sub hl [0, 1, 2] rfl)
        · skip
          refine lv_iload_n hx hb dX4_firstPlaceOf_19 rfl (lv_at hl 0 rfl) ?_
          have hP9 := hP.sub (ws' := [(h0, .inr (4, [.ref kO, .ref nO, .ref rO, .ref mO, .int zs, .ref tO, .ref rdO, .ref lnO, .ref drO, .ref chO])), (rO, .inl (cI, 60, .inl fr))]) [0, 1] rfl
          have hD9 := hD.sub (ws' := [(h0, .inr (4, [.ref kO, .ref nO, .ref rO, .ref mO, .int zs, .ref tO, .ref rdO, .ref lnO, .ref drO, .ref chO])), (rO, .inl (cI, 60, .inl fr))]) [0, 1] (by decide) rfl
          exact W.iret (v := iv) hx hb hr (fun t ht hW => ⟨⟨iv, (), rfl, trivial, by rw [ht]; exact hP9, hD9⟩, hS.F ht⟩) hS.2.2 dX4_firstPlaceOf_20
  exact lp_2 (((zs : Int32).toInt - (0 : Int32).toInt).toNat + 1) 0 (by omega) _ _ _ hP hD hS (lv_sub hl [0, 1, 2] rfl)
set_option maxHeartbeats 4000000 in
set_option maxRecDepth 100000 in
theorem k_handMarks (l : Launch) (dC : Nat → ClassId) (dI : Nat → Nat → Nat) (cI cZ cC cJ : ClassId) (sz : Nat) (h0 : Nat) (kO : Nat) (nO : Nat) (rO : Nat) (mO : Nat) (mnq : Nat) (tO : Nat) (rdO : Nat) (lnO : Nat) (drO : Nat) (chO : Nat) (fm : Nat → Int32) (hmn : mnq ≤ 60) : Met l yX4_handMarks wsX4_handMarks ({ frames := 0, cells := 0, slots := 0, locals := 0 }) (va_Pc [.ref h0] (sPre dC dI cI cZ cC cJ [(h0, .inr (4, [.ref kO, .ref nO, .ref rO, .ref mO, .int (nI mnq), .ref tO, .ref rdO, .ref lnO, .ref drO, .ref chO])), (mO, .inl (cI, 60, .inl fm))] sz)) (va_Qi (fun (r : Int32) (u : Unit) => r = nI (cM fm mnq)) (fun _ => sB dC dI (va_A [(h0, .inr (4, [.ref kO, .ref nO, .ref rO, .ref mO, .int (nI mnq), .ref tO, .ref rdO, .ref lnO, .ref drO, .ref chO])), (mO, .inl (cI, 60, .inl fm))] sz) [(h0, .inr (4, [.ref kO, .ref nO, .ref rO, .ref mO, .int (nI mnq), .ref tO, .ref rdO, .ref lnO, .ref drO, .ref chO])), (mO, .inl (cI, 60, .inl fm))]) (va_A [(h0, .inr (4, [.ref kO, .ref nO, .ref rO, .ref mO, .int (nI mnq), .ref tO, .ref rdO, .ref lnO, .ref drO, .ref chO])), (mO, .inl (cI, 60, .inl fm))] sz)) 0 0 (va_A [(h0, .inr (4, [.ref kO, .ref nO, .ref rO, .ref mO, .int (nI mnq), .ref tO, .ref rdO, .ref lnO, .ref drO, .ref chO])), (mO, .inl (cI, 60, .inl fm))] sz) := by
  refine Met.ofW (cc := cX4_handMarks) (maxL := 3) (ret := (some .int)) (by decide) rfl ?_
  intro p e s m args below meth c s₁ B hml hv
  obtain ⟨rfl, hsz, hP, hsk, hD0⟩ := hv
  have hx := B.exec
  have hb := B.bytes
  have hr := B.returns
  have hts := atoms_spec (ws := wsX4_handMarks) B.pre
  have hown : s.vm.findClass RX4 = some m.cls := findClass_of_methodNamed B.named
  have hlocks := B.notSynchronized
  have hK := hsk.1
  have i4 : ∀ w ∈ wsX40, w ∈ wsX4_handMarks := by decide +kernel
  subst hsz
  have hD := hD0.self (sz := s.heap.size)
  generalize hAe : va_A [(h0, .inr (4, [.ref kO, .ref nO, .ref rO, .ref mO, .int (nI mnq), .ref tO, .ref rdO, .ref lnO, .ref drO, .ref chO])), (mO, .inl (cI, 60, .inl fm))] s.heap.size = A at hD ⊢
  have hA : ∀ q : Nat, s.heap.size ≤ q → A q := fun q h => by rw [← hAe]; exact Or.inr h
  have hS : va_S A s.heap s.heap [] := va_S.rf
  have hl := lv_entry ([.ref h0]) (n := 3) (Nat.le_of_ble_eq_true rfl)
  rw [lg_entry_eq]
  generalize (lg_sl ([.ref h0]) ++ List.replicate (3 - (lg_sl ([.ref h0])).length) Slot.unset).toArray = ls at hl ⊢
  have hl : lv_has ls 3 [(0, .ref h0)] := hl
  refine lv_iconst (v := 0) hx hb dX4_handMarks_0 (by decide) ?_
  refine lv_istore_n (lv' := [(1, .int 0), (0, .ref h0)]) hx hb dX4_handMarks_1 rfl hl (by decide) rfl (fun ls hl => ?_)
  refine lv_iconst (v := 0) hx hb dX4_handMarks_2 (by decide) ?_
  refine lv_istore_n (lv' := [(2, .int 0), (1, .int 0), (0, .ref h0)]) hx hb dX4_handMarks_3 rfl hl (by decide) rfl (fun ls hl => ?_)
  have lp_4 : ∀ (n_4 : Nat) (kq : Nat) (mk : Int32), mnq + 1 ≤ kq + n_4 → kq ≤ mnq → mk = nI (cM fm kq) → ∀ (H : Heap) (locs : List Loc) (ls : Array Slot), va_P (dC, dI) vwCl [(h0, .inr (4, [.ref kO, .ref nO, .ref rO, .ref mO, .int (nI mnq), .ref tO, .ref rdO, .ref lnO, .ref drO, .ref chO])), (mO, .inl (cI, 60, .inl fm))] H → va_D A [(h0, .inr (4, [.ref kO, .ref nO, .ref rO, .ref mO, .int (nI mnq), .ref tO, .ref rdO, .ref lnO, .ref drO, .ref chO])), (mO, .inl (cI, 60, .inl fm))] → va_S A s.heap H locs → lv_has ls 3 [(2, .int (nI kq)), (1, .int mk), (0, .ref h0)] → W p l e (headSpec wsX4_handMarks ({ frames := 0, cells := 0, slots := 0, locals := 0 })).room s m ([.ref h0]).toArray below meth c H locs 0 0 (MQ below (va_Qi (fun (r : Int32) (u : Unit) => r = nI (cM fm mnq)) (fun _ => sB dC dI A [(h0, .inr (4, [.ref kO, .ref nO, .ref rO, .ref mO, .int (nI mnq), .ref tO, .ref rdO, .ref lnO, .ref drO, .ref chO])), (mO, .inl (cI, 60, .inl fm))]) A) ([.ref h0]).toArray s 0 0 A) (F0 m 4 ls []) := by
    intro n_4
    induction n_4 with
    | zero =>
      intro kq mk fuel_4 hk_4 hmk
      exact absurd fuel_4 (by omega)
    | succ n_4 ih_4 =>
      intro kq mk fuel_4 hk_4 hmk H locs ls hP hD hS hl
      refine lv_iload_n hx hb dX4_handMarks_4 rfl (lv_at hl 0 rfl) ?_
      refine lv_aload_n hx hb dX4_handMarks_5 rfl (lv_at hl 2 rfl) ?_
      refine va_get (D := (dC, dI)) (ci := 4) (v := .int (nI mnq)) (C := RX4) (T := TX4) (N := 10) hx hb hts i4 hown hK hP 0 rfl rfl 4 (by decide) (hts (.fieldLink RX4 74 "StopSetter" "size" "I") (by decide +kernel)) (fun _ h9 => h9) rfl dX4_handMarks_6 ?_
      refine lv_icmp_ge (tgt := 37) hx hb dX4_handMarks_9 (by decide) (fun c_9 => ?_) (fun c_9 => ?_)
      · skip
        refine lv_iload_n hx hb dX4_handMarks_37 rfl (lv_at hl 1 rfl) ?_
        have hP9 := hP.sub (ws' := [(h0, .inr (4, [.ref kO, .ref nO, .ref rO, .ref mO, .int (nI mnq), .ref tO, .ref rdO, .ref lnO, .ref drO, .ref chO])), (mO, .inl (cI, 60, .inl fm))]) [0, 1] rfl
        have hD9 := hD.sub (ws' := [(h0, .inr (4, [.ref kO, .ref nO, .ref rO, .ref mO, .int (nI mnq), .ref tO, .ref rdO, .ref lnO, .ref drO, .ref chO])), (mO, .inl (cI, 60, .inl fm))]) [0, 1] (by decide) rfl
        exact W.iret (v := mk) hx hb hr (fun t ht hW => ⟨⟨mk, (), rfl, (by rw [hmk, show kq = mnq by have := (nI_leI (a := mnq) (b := kq) (by omega) (by omega)).mp c_9; omega]), by rw [ht]; exact hP9, hD9⟩, hS.F ht⟩) hS.2.2 dX4_handMarks_38
      · skip
        have hk3_4 : kq < mnq := nk_lt (N := mnq) rfl c_9 (by omega)
        refine lv_iload_n hx hb dX4_handMarks_12 rfl (lv_at hl 0 rfl) ?_
        refine lv_bipush (v := 60) hx hb dX4_handMarks_13 (by decide) ?_
        refine lv_icmp_ge (tgt := 37) hx hb dX4_handMarks_15 (by decide) (fun h9 => absurd h9 (nI_ge (a := kq) (b := 60) (by omega) (by decide))) (fun _ => ?_)
        refine lv_aload_n hx hb dX4_handMarks_18 rfl (lv_at hl 2 rfl) ?_
        refine va_get (D := (dC, dI)) (ci := 4) (v := .ref mO) (C := RX4) (T := TX4) (N := 10) hx hb hts i4 hown hK hP 0 rfl rfl 3 (by decide) (hts (.fieldLink RX4 20 "StopSetter" "marks" "[I") (by decide +kernel)) (fun _ h9 => h9) rfl dX4_handMarks_19 ?_
        refine lv_iload_n hx hb dX4_handMarks_22 rfl (lv_at hl 0 rfl) ?_
        refine va_iald hx hb hK hP 1 0 rfl rfl (vp_in_nI (by omega) (by decide)) dX4_handMarks_23 ?_
        refine lv_topi (fun v_ ev_ => ?_)
        obtain rfl : v_ = (fm kq) := ev_.trans (by rw [nI_clamp (by omega)])
        refine lv_iconst (v := (-1)) hx hb dX4_handMarks_24 (by decide) ?_
        refine lv_icmp_eq (tgt := 31) hx hb dX4_handMarks_25 (by decide) (fun c_25 => ?_) (fun c_25 => ?_)
        · skip
          refine lv_iinc (v := (nI (kq + 1))) (lv' := [(2, .int (nI (kq + 1))), (1, .int mk), (0, .ref h0)]) hx hb dX4_handMarks_31 hl (k := 0) rfl (nI_1 kq) (by decide) rfl (fun ls hl => ?_)
          refine lv_goto (tgt := 4) hx hb dX4_handMarks_34 (by decide) ?_
          exact ih_4  (kq + 1) mk (by omega) (by omega) (by rw [hmk, cM_s, if_pos c_25]; rfl) _ _ _ hP hD hS (lv_sub hl [0, 1, 2] rfl)
        · skip
          refine lv_iinc (v := (mk + 1)) (lv' := [(1, .int (mk + 1)), (2, .int (nI kq)), (0, .ref h0)]) hx hb dX4_handMarks_28 hl (k := 1) rfl rfl (by decide) rfl (fun ls hl => ?_)
          refine lv_iinc (v := (nI (kq + 1))) (lv' := [(2, .int (nI (kq + 1))), (1, .int (mk + 1)), (0, .ref h0)]) hx hb dX4_handMarks_31 hl (k := 1) rfl (nI_1 kq) (by decide) rfl (fun ls hl => ?_)
          refine lv_goto (tgt := 4) hx hb dX4_handMarks_34 (by decide) ?_
          exact ih_4  (kq + 1) (mk + 1) (by omega) (by omega) (by rw [hmk, cM_s, if_neg c_25]; exact nI_1 _) _ _ _ hP hD hS (lv_sub hl [0, 1, 2] rfl)
  exact lp_4 (mnq + 1) 0 0 (by omega) (by omega) (rfl) _ _ _ hP hD hS (lv_sub hl [0, 1, 2] rfl)
set_option maxHeartbeats 4000000 in
set_option maxRecDepth 100000 in
theorem k_isRaised (l : Launch) (dC : Nat → ClassId) (dI : Nat → Nat → Nat) (cI cZ cC cJ : ClassId) (sz : Nat) (h0 : Nat) (kO : Nat) (nO : Nat) (rO : Nat) (mO : Nat) (zs : Int32) (tO : Nat) (rdO : Nat) (lnO : Nat) (drO : Nat) (chO : Nat) (fr : Nat → Int32) (fn : Nat → Int32) (p0 : Int32) (p1 : Int32) (p2 : Int32)  : Met l yX4_isRaised wsX4_isRaised ({ frames := 2, cells := 0, slots := 0, locals := 42 }) (va_Pc [.ref h0, .int p0, .int p1, .int p2] (sPre dC dI cI cZ cC cJ [(h0, .inr (4, [.ref kO, .ref nO, .ref rO, .ref mO, .int zs, .ref tO, .ref rdO, .ref lnO, .ref drO, .ref chO])), (rO, .inl (cI, 60, .inl fr)), (nO, .inl (cZ, 100, .inl fn))] sz)) (va_Qi (fun (r : Int32) (u : Unit) => True) (fun _ => sB dC dI (va_A [(h0, .inr (4, [.ref kO, .ref nO, .ref rO, .ref mO, .int zs, .ref tO, .ref rdO, .ref lnO, .ref drO, .ref chO])), (rO, .inl (cI, 60, .inl fr)), (nO, .inl (cZ, 100, .inl fn))] sz) [(h0, .inr (4, [.ref kO, .ref nO, .ref rO, .ref mO, .int zs, .ref tO, .ref rdO, .ref lnO, .ref drO, .ref chO])), (rO, .inl (cI, 60, .inl fr)), (nO, .inl (cZ, 100, .inl fn))]) (va_A [(h0, .inr (4, [.ref kO, .ref nO, .ref rO, .ref mO, .int zs, .ref tO, .ref rdO, .ref lnO, .ref drO, .ref chO])), (rO, .inl (cI, 60, .inl fr)), (nO, .inl (cZ, 100, .inl fn))] sz)) 0 0 (va_A [(h0, .inr (4, [.ref kO, .ref nO, .ref rO, .ref mO, .int zs, .ref tO, .ref rdO, .ref lnO, .ref drO, .ref chO])), (rO, .inl (cI, 60, .inl fr)), (nO, .inl (cZ, 100, .inl fn))] sz) := by
  refine Met.ofW (cc := cX4_isRaised) (maxL := 6) (ret := (some .boolean)) (by decide) rfl ?_
  intro p e s m args below meth c s₁ B hml hv
  obtain ⟨rfl, hsz, hP, hsk, hD0⟩ := hv
  have hx := B.exec
  have hb := B.bytes
  have hr := B.returns
  have hts := atoms_spec (ws := wsX4_isRaised) B.pre
  have hown : s.vm.findClass RX4 = some m.cls := findClass_of_methodNamed B.named
  have hlocks := B.notSynchronized
  have hK := hsk.1
  have i4 : ∀ w ∈ wsX40, w ∈ wsX4_isRaised := by decide +kernel
  subst hsz
  have hD := hD0.self (sz := s.heap.size)
  generalize hAe : va_A [(h0, .inr (4, [.ref kO, .ref nO, .ref rO, .ref mO, .int zs, .ref tO, .ref rdO, .ref lnO, .ref drO, .ref chO])), (rO, .inl (cI, 60, .inl fr)), (nO, .inl (cZ, 100, .inl fn))] s.heap.size = A at hD ⊢
  have hA : ∀ q : Nat, s.heap.size ≤ q → A q := fun q h => by rw [← hAe]; exact Or.inr h
  have hS : va_S A s.heap s.heap [] := va_S.rf
  have hl := lv_entry ([.ref h0, .int p0, .int p1, .int p2]) (n := 6) (Nat.le_of_ble_eq_true rfl)
  rw [lg_entry_eq]
  generalize (lg_sl ([.ref h0, .int p0, .int p1, .int p2]) ++ List.replicate (6 - (lg_sl ([.ref h0, .int p0, .int p1, .int p2])).length) Slot.unset).toArray = ls at hl ⊢
  have hl : lv_has ls 6 [(0, .ref h0), (1, .int p0), (2, .int p1), (3, .int p2)] := hl
  refine lv_aload_n hx hb dX4_isRaised_0 rfl (lv_at hl 0 rfl) ?_
  refine lv_iload_n hx hb dX4_isRaised_1 rfl (lv_at hl 1 rfl) ?_
  have hPc := hP.sub (ws' := [(h0, .inr (4, [.ref kO, .ref nO, .ref rO, .ref mO, .int zs, .ref tO, .ref rdO, .ref lnO, .ref drO, .ref chO])), (rO, .inl (cI, 60, .inl fr))]) [0, 1] rfl
  have hDc := hD.sub (ws' := [(h0, .inr (4, [.ref kO, .ref nO, .ref rO, .ref mO, .int zs, .ref tO, .ref rdO, .ref lnO, .ref drO, .ref chO])), (rO, .inl (cI, 60, .inl fr))]) [0, 1] (by decide) rfl
  have hFc := va_free (wc := [(h0, .inr (4, [.ref kO, .ref nO, .ref rO, .ref mO, .int zs, .ref tO, .ref rdO, .ref lnO, .ref drO, .ref chO])), (rO, .inl (cI, 60, .inl fr))]) hD hS hA [0, 1] rfl
  refine va_calli (va_runV (As := [.int p0]) (rest := []) ⟨hx, hb, hml, hown, hts⟩ (k_wordAt l dC dI cI cZ cC cJ s.heap.size  h0 kO nO rO mO zs tO rdO lnO drO chO fr p0 ) (cwV 1 hts gX4_isRaised_X4_wordAt rfl rfl rfl (by decide +kernel) ⟨Nat.le_of_ble_eq_true rfl, Nat.le_of_ble_eq_true rfl⟩) ⟨sPre_blind, va_recv hK hPc (ci := 4) (q0 := 0) rfl rfl, fun U hU hW => ⟨rfl, sPre_ok hsk hPc hDc hU hW⟩⟩ rfl rfl hl.1 rfl (lv_room (Nat.le_of_ble_eq_true rfl)) dX4_isRaised_2 ⟨(show 0 + 0 ≤ 0 by omega), (show 0 + 0 ≤ 0 by omega)⟩) hS (fun q _ h => hFc q h) hFc (fun r_1 u t H1 locs ht hvm hw hB hz1 hk1 hS => ?_)
  try dsimp only at hw hB
  obtain ⟨hP1, hD1⟩ := hB
  rw [ht] at hP1
  obtain ⟨hP, hD⟩ := va_join (wr := [(nO, .inl (cZ, 100, .inl fn))]) (w1 := [(h0, .inr (4, [.ref kO, .ref nO, .ref rO, .ref mO, .int zs, .ref tO, .ref rdO, .ref lnO, .ref drO, .ref chO])), (rO, .inl (cI, 60, .inl fr))]) hP hD [0, 1] [2] rfl rfl (by decide) (by decide) hk1 hFc hP1 hD1
  generalize H1 = H at hP hS ⊢
  have hP : va_P (dC, dI) vwCl [(nO, .inl (cZ, 100, .inl fn)), (h0, .inr (4, [.ref kO, .ref nO, .ref rO, .ref mO, .int zs, .ref tO, .ref rdO, .ref lnO, .ref drO, .ref chO])), (rO, .inl (cI, 60, .inl fr))] H := hP
  have hD : va_D A [(nO, .inl (cZ, 100, .inl fn)), (h0, .inr (4, [.ref kO, .ref nO, .ref rO, .ref mO, .int zs, .ref tO, .ref rdO, .ref lnO, .ref drO, .ref chO])), (rO, .inl (cI, 60, .inl fr))] := hD
  have hw_r_1 := hw
  refine lv_istore (lv' := [(4, .int r_1), (0, .ref h0), (1, .int p0), (2, .int p1), (3, .int p2)]) hx hb dX4_isRaised_5 hl (by decide) rfl (fun ls hl => ?_)
  refine lv_iload hx hb dX4_isRaised_7 (lv_at hl 0 rfl) ?_
  have hPc := hP.sub (ws' := []) [] rfl
  have hDc := hD.sub (ws' := []) [] (by decide) rfl
  have hFc := va_free (wc := []) hD hS hA [] rfl
  refine va_calli (va_runS (As := [.int r_1]) (rest := []) ⟨hx, hb, hml, hown, hts⟩ (k_isWord l dC dI cI cZ cC cJ H.size  r_1 ) (va_cwS 1 hts gX4_isRaised_X4_isWord rfl rfl rfl (by decide +kernel) ⟨Nat.le_of_ble_eq_true rfl, Nat.le_of_ble_eq_true rfl⟩) ⟨sPre_blind, fun U hU hW => ⟨rfl, sPre_ok hsk hPc hDc hU hW⟩⟩ rfl rfl hl.1 rfl (lv_room (Nat.le_of_ble_eq_true rfl)) dX4_isRaised_9 ⟨(show 0 + 0 ≤ 0 by omega), (show 0 + 0 ≤ 0 by omega)⟩) hS (fun q _ h => hFc q h) hFc (fun r_2 u t H1 locs ht hvm hw hB hz1 hk1 hS => ?_)
  try dsimp only at hw hB
  have hw_3 := hw
  obtain rfl : r_2 = isW r_1 := hw_3
  obtain ⟨hP1, hD1⟩ := hB
  rw [ht] at hP1
  obtain ⟨hP, hD⟩ := va_join (wr := [(nO, .inl (cZ, 100, .inl fn)), (h0, .inr (4, [.ref kO, .ref nO, .ref rO, .ref mO, .int zs, .ref tO, .ref rdO, .ref lnO, .ref drO, .ref chO])), (rO, .inl (cI, 60, .inl fr))]) (w1 := []) hP hD [] [0, 1, 2] rfl rfl (by decide) (by decide) hk1 hFc hP1 hD1
  generalize H1 = H at hP hS ⊢
  have hP : va_P (dC, dI) vwCl [(nO, .inl (cZ, 100, .inl fn)), (h0, .inr (4, [.ref kO, .ref nO, .ref rO, .ref mO, .int zs, .ref tO, .ref rdO, .ref lnO, .ref drO, .ref chO])), (rO, .inl (cI, 60, .inl fr))] H := hP
  have hD : va_D A [(nO, .inl (cZ, 100, .inl fn)), (h0, .inr (4, [.ref kO, .ref nO, .ref rO, .ref mO, .int zs, .ref tO, .ref rdO, .ref lnO, .ref drO, .ref chO])), (rO, .inl (cI, 60, .inl fr))] := hD
  refine lv_if_eq (tgt := 29) hx hb dX4_isRaised_12 (by decide) (fun c_12 => ?_) (fun c_12 => ?_)
  · skip
    refine lv_iconst (v := 0) hx hb dX4_isRaised_29 (by decide) ?_
    refine lv_istore (lv' := [(5, .int 0), (4, .int r_1), (0, .ref h0), (1, .int p0), (2, .int p1), (3, .int p2)]) hx hb dX4_isRaised_30 hl (by decide) rfl (fun ls hl => ?_)
    refine lv_iload hx hb dX4_isRaised_32 (lv_at hl 0 rfl) ?_
    refine lv_if_ne (tgt := 56) hx hb dX4_isRaised_34 (by decide) (fun h9 => absurd (by decide) h9) (fun _ => ?_)
    refine lv_iload_n hx hb dX4_isRaised_37 rfl (lv_at hl 3 rfl) ?_
    refine lv_if_eq (tgt := 56) hx hb dX4_isRaised_38 (by decide) (fun c_38 => ?_) (fun c_38 => ?_)
    · skip
      refine lv_iconst (v := 1) hx hb dX4_isRaised_56 (by decide) ?_
      refine lv_goto (tgt := 61) hx hb dX4_isRaised_57 (by decide) ?_
      have hP9 := hP.sub (ws' := [(h0, .inr (4, [.ref kO, .ref nO, .ref rO, .ref mO, .int zs, .ref tO, .ref rdO, .ref lnO, .ref drO, .ref chO])), (rO, .inl (cI, 60, .inl fr)), (nO, .inl (cZ, 100, .inl fn))]) [1, 2, 0] rfl
      have hD9 := hD.sub (ws' := [(h0, .inr (4, [.ref kO, .ref nO, .ref rO, .ref mO, .int zs, .ref tO, .ref rdO, .ref lnO, .ref drO, .ref chO])), (rO, .inl (cI, 60, .inl fr)), (nO, .inl (cZ, 100, .inl fn))]) [1, 2, 0] (by decide) rfl
      exact W.zret (v := 1) (ty := .boolean) hx hb hr rfl (fun t ht hW => ⟨⟨1, (), rfl, trivial, by rw [ht]; exact hP9, hD9⟩, hS.F ht⟩) hS.2.2 dX4_isRaised_61
    · skip
      refine lv_iload_n hx hb dX4_isRaised_41 rfl (lv_at hl 4 rfl) ?_
      refine lv_iconst (v := 4) hx hb dX4_isRaised_42 (by decide) ?_
      refine lv_icmp_eq (tgt := 56) hx hb dX4_isRaised_43 (by decide) (fun c_43 => ?_) (fun c_43 => ?_)
      · skip
        refine lv_iconst (v := 1) hx hb dX4_isRaised_56 (by decide) ?_
        refine lv_goto (tgt := 61) hx hb dX4_isRaised_57 (by decide) ?_
        have hP9 := hP.sub (ws' := [(h0, .inr (4, [.ref kO, .ref nO, .ref rO, .ref mO, .int zs, .ref tO, .ref rdO, .ref lnO, .ref drO, .ref chO])), (rO, .inl (cI, 60, .inl fr)), (nO, .inl (cZ, 100, .inl fn))]) [1, 2, 0] rfl
        have hD9 := hD.sub (ws' := [(h0, .inr (4, [.ref kO, .ref nO, .ref rO, .ref mO, .int zs, .ref tO, .ref rdO, .ref lnO, .ref drO, .ref chO])), (rO, .inl (cI, 60, .inl fr)), (nO, .inl (cZ, 100, .inl fn))]) [1, 2, 0] (by decide) rfl
        exact W.zret (v := 1) (ty := .boolean) hx hb hr rfl (fun t ht hW => ⟨⟨1, (), rfl, trivial, by rw [ht]; exact hP9, hD9⟩, hS.F ht⟩) hS.2.2 dX4_isRaised_61
      · skip
        refine lv_iload_n hx hb dX4_isRaised_46 rfl (lv_at hl 4 rfl) ?_
        refine lv_iconst (v := 5) hx hb dX4_isRaised_47 (by decide) ?_
        refine lv_icmp_eq (tgt := 56) hx hb dX4_isRaised_48 (by decide) (fun c_48 => ?_) (fun c_48 => ?_)
        · skip
          refine lv_iconst (v := 1) hx hb dX4_isRaised_56 (by decide) ?_
          refine lv_goto (tgt := 61) hx hb dX4_isRaised_57 (by decide) ?_
          have hP9 := hP.sub (ws' := [(h0, .inr (4, [.ref kO, .ref nO, .ref rO, .ref mO, .int zs, .ref tO, .ref rdO, .ref lnO, .ref drO, .ref chO])), (rO, .inl (cI, 60, .inl fr)), (nO, .inl (cZ, 100, .inl fn))]) [1, 2, 0] rfl
          have hD9 := hD.sub (ws' := [(h0, .inr (4, [.ref kO, .ref nO, .ref rO, .ref mO, .int zs, .ref tO, .ref rdO, .ref lnO, .ref drO, .ref chO])), (rO, .inl (cI, 60, .inl fr)), (nO, .inl (cZ, 100, .inl fn))]) [1, 2, 0] (by decide) rfl
          exact W.zret (v := 1) (ty := .boolean) hx hb hr rfl (fun t ht hW => ⟨⟨1, (), rfl, trivial, by rw [ht]; exact hP9, hD9⟩, hS.F ht⟩) hS.2.2 dX4_isRaised_61
        · skip
          refine lv_iload_n hx hb dX4_isRaised_51 rfl (lv_at hl 5 rfl) ?_
          refine lv_iconst (v := 2) hx hb dX4_isRaised_52 (by decide) ?_
          refine lv_icmp_ne (tgt := 60) hx hb dX4_isRaised_53 (by decide) (fun c_53 => ?_) (fun c_53 => ?_)
          · skip
            refine lv_iconst (v := 0) hx hb dX4_isRaised_60 (by decide) ?_
            have hP9 := hP.sub (ws' := [(h0, .inr (4, [.ref kO, .ref nO, .ref rO, .ref mO, .int zs, .ref tO, .ref rdO, .ref lnO, .ref drO, .ref chO])), (rO, .inl (cI, 60, .inl fr)), (nO, .inl (cZ, 100, .inl fn))]) [1, 2, 0] rfl
            have hD9 := hD.sub (ws' := [(h0, .inr (4, [.ref kO, .ref nO, .ref rO, .ref mO, .int zs, .ref tO, .ref rdO, .ref lnO, .ref drO, .ref chO])), (rO, .inl (cI, 60, .inl fr)), (nO, .inl (cZ, 100, .inl fn))]) [1, 2, 0] (by decide) rfl
            exact W.zret (v := 0) (ty := .boolean) hx hb hr rfl (fun t ht hW => ⟨⟨0, (), rfl, trivial, by rw [ht]; exact hP9, hD9⟩, hS.F ht⟩) hS.2.2 dX4_isRaised_61
          · skip
            refine lv_iconst (v := 1) hx hb dX4_isRaised_56 (by decide) ?_
            refine lv_goto (tgt := 61) hx hb dX4_isRaised_57 (by decide) ?_
            have hP9 := hP.sub (ws' := [(h0, .inr (4, [.ref kO, .ref nO, .ref rO, .ref mO, .int zs, .ref tO, .ref rdO, .ref lnO, .ref drO, .ref chO])), (rO, .inl (cI, 60, .inl fr)), (nO, .inl (cZ, 100, .inl fn))]) [1, 2, 0] rfl
            have hD9 := hD.sub (ws' := [(h0, .inr (4, [.ref kO, .ref nO, .ref rO, .ref mO, .int zs, .ref tO, .ref rdO, .ref lnO, .ref drO, .ref chO])), (rO, .inl (cI, 60, .inl fr)), (nO, .inl (cZ, 100, .inl fn))]) [1, 2, 0] (by decide) rfl
            exact W.zret (v := 1) (ty := .boolean) hx hb hr rfl (fun t ht hW => ⟨⟨1, (), rfl, trivial, by rw [ht]; exact hP9, hD9⟩, hS.F ht⟩) hS.2.2 dX4_isRaised_61
  · skip
    refine lv_aload_n hx hb dX4_isRaised_15 rfl (lv_at hl 1 rfl) ?_
    refine va_get (D := (dC, dI)) (ci := 4) (v := .ref nO) (C := RX4) (T := TX4) (N := 10) hx hb hts i4 hown hK hP 1 rfl rfl 1 (by decide) (hts (.fieldLink RX4 13 "StopSetter" "isName" "[Z") (by decide +kernel)) (fun _ h9 => h9) rfl dX4_isRaised_16 ?_
    refine lv_iload hx hb dX4_isRaised_19 (lv_at hl 0 rfl) ?_
    refine va_zald hx hb hK hP 0 1 rfl rfl (isW_in c_12) dX4_isRaised_21 ?_
    refine lv_topi (fun v_4 ev_4 => ?_)
    refine lv_if_eq (tgt := 29) hx hb dX4_isRaised_22 (by decide) (fun c_22 => ?_) (fun c_22 => ?_)
    · skip
      refine lv_iconst (v := 0) hx hb dX4_isRaised_29 (by decide) ?_
      refine lv_istore (lv' := [(5, .int 0), (4, .int r_1), (0, .ref h0), (1, .int p0), (2, .int p1), (3, .int p2)]) hx hb dX4_isRaised_30 hl (by decide) rfl (fun ls hl => ?_)
      refine lv_iload hx hb dX4_isRaised_32 (lv_at hl 0 rfl) ?_
      refine lv_if_ne (tgt := 56) hx hb dX4_isRaised_34 (by decide) (fun h9 => absurd (by decide) h9) (fun _ => ?_)
      refine lv_iload_n hx hb dX4_isRaised_37 rfl (lv_at hl 3 rfl) ?_
      refine lv_if_eq (tgt := 56) hx hb dX4_isRaised_38 (by decide) (fun c_38 => ?_) (fun c_38 => ?_)
      · skip
        refine lv_iconst (v := 1) hx hb dX4_isRaised_56 (by decide) ?_
        refine lv_goto (tgt := 61) hx hb dX4_isRaised_57 (by decide) ?_
        have hP9 := hP.sub (ws' := [(h0, .inr (4, [.ref kO, .ref nO, .ref rO, .ref mO, .int zs, .ref tO, .ref rdO, .ref lnO, .ref drO, .ref chO])), (rO, .inl (cI, 60, .inl fr)), (nO, .inl (cZ, 100, .inl fn))]) [1, 2, 0] rfl
        have hD9 := hD.sub (ws' := [(h0, .inr (4, [.ref kO, .ref nO, .ref rO, .ref mO, .int zs, .ref tO, .ref rdO, .ref lnO, .ref drO, .ref chO])), (rO, .inl (cI, 60, .inl fr)), (nO, .inl (cZ, 100, .inl fn))]) [1, 2, 0] (by decide) rfl
        exact W.zret (v := 1) (ty := .boolean) hx hb hr rfl (fun t ht hW => ⟨⟨1, (), rfl, trivial, by rw [ht]; exact hP9, hD9⟩, hS.F ht⟩) hS.2.2 dX4_isRaised_61
      · skip
        refine lv_iload_n hx hb dX4_isRaised_41 rfl (lv_at hl 4 rfl) ?_
        refine lv_iconst (v := 4) hx hb dX4_isRaised_42 (by decide) ?_
        refine lv_icmp_eq (tgt := 56) hx hb dX4_isRaised_43 (by decide) (fun c_43 => ?_) (fun c_43 => ?_)
        · skip
          refine lv_iconst (v := 1) hx hb dX4_isRaised_56 (by decide) ?_
          refine lv_goto (tgt := 61) hx hb dX4_isRaised_57 (by decide) ?_
          have hP9 := hP.sub (ws' := [(h0, .inr (4, [.ref kO, .ref nO, .ref rO, .ref mO, .int zs, .ref tO, .ref rdO, .ref lnO, .ref drO, .ref chO])), (rO, .inl (cI, 60, .inl fr)), (nO, .inl (cZ, 100, .inl fn))]) [1, 2, 0] rfl
          have hD9 := hD.sub (ws' := [(h0, .inr (4, [.ref kO, .ref nO, .ref rO, .ref mO, .int zs, .ref tO, .ref rdO, .ref lnO, .ref drO, .ref chO])), (rO, .inl (cI, 60, .inl fr)), (nO, .inl (cZ, 100, .inl fn))]) [1, 2, 0] (by decide) rfl
          exact W.zret (v := 1) (ty := .boolean) hx hb hr rfl (fun t ht hW => ⟨⟨1, (), rfl, trivial, by rw [ht]; exact hP9, hD9⟩, hS.F ht⟩) hS.2.2 dX4_isRaised_61
        · skip
          refine lv_iload_n hx hb dX4_isRaised_46 rfl (lv_at hl 4 rfl) ?_
          refine lv_iconst (v := 5) hx hb dX4_isRaised_47 (by decide) ?_
          refine lv_icmp_eq (tgt := 56) hx hb dX4_isRaised_48 (by decide) (fun c_48 => ?_) (fun c_48 => ?_)
          · skip
            refine lv_iconst (v := 1) hx hb dX4_isRaised_56 (by decide) ?_
            refine lv_goto (tgt := 61) hx hb dX4_isRaised_57 (by decide) ?_
            have hP9 := hP.sub (ws' := [(h0, .inr (4, [.ref kO, .ref nO, .ref rO, .ref mO, .int zs, .ref tO, .ref rdO, .ref lnO, .ref drO, .ref chO])), (rO, .inl (cI, 60, .inl fr)), (nO, .inl (cZ, 100, .inl fn))]) [1, 2, 0] rfl
            have hD9 := hD.sub (ws' := [(h0, .inr (4, [.ref kO, .ref nO, .ref rO, .ref mO, .int zs, .ref tO, .ref rdO, .ref lnO, .ref drO, .ref chO])), (rO, .inl (cI, 60, .inl fr)), (nO, .inl (cZ, 100, .inl fn))]) [1, 2, 0] (by decide) rfl
            exact W.zret (v := 1) (ty := .boolean) hx hb hr rfl (fun t ht hW => ⟨⟨1, (), rfl, trivial, by rw [ht]; exact hP9, hD9⟩, hS.F ht⟩) hS.2.2 dX4_isRaised_61
          · skip
            refine lv_iload_n hx hb dX4_isRaised_51 rfl (lv_at hl 5 rfl) ?_
            refine lv_iconst (v := 2) hx hb dX4_isRaised_52 (by decide) ?_
            refine lv_icmp_ne (tgt := 60) hx hb dX4_isRaised_53 (by decide) (fun c_53 => ?_) (fun c_53 => ?_)
            · skip
              refine lv_iconst (v := 0) hx hb dX4_isRaised_60 (by decide) ?_
              have hP9 := hP.sub (ws' := [(h0, .inr (4, [.ref kO, .ref nO, .ref rO, .ref mO, .int zs, .ref tO, .ref rdO, .ref lnO, .ref drO, .ref chO])), (rO, .inl (cI, 60, .inl fr)), (nO, .inl (cZ, 100, .inl fn))]) [1, 2, 0] rfl
              have hD9 := hD.sub (ws' := [(h0, .inr (4, [.ref kO, .ref nO, .ref rO, .ref mO, .int zs, .ref tO, .ref rdO, .ref lnO, .ref drO, .ref chO])), (rO, .inl (cI, 60, .inl fr)), (nO, .inl (cZ, 100, .inl fn))]) [1, 2, 0] (by decide) rfl
              exact W.zret (v := 0) (ty := .boolean) hx hb hr rfl (fun t ht hW => ⟨⟨0, (), rfl, trivial, by rw [ht]; exact hP9, hD9⟩, hS.F ht⟩) hS.2.2 dX4_isRaised_61
            · skip
              refine lv_iconst (v := 1) hx hb dX4_isRaised_56 (by decide) ?_
              refine lv_goto (tgt := 61) hx hb dX4_isRaised_57 (by decide) ?_
              have hP9 := hP.sub (ws' := [(h0, .inr (4, [.ref kO, .ref nO, .ref rO, .ref mO, .int zs, .ref tO, .ref rdO, .ref lnO, .ref drO, .ref chO])), (rO, .inl (cI, 60, .inl fr)), (nO, .inl (cZ, 100, .inl fn))]) [1, 2, 0] rfl
              have hD9 := hD.sub (ws' := [(h0, .inr (4, [.ref kO, .ref nO, .ref rO, .ref mO, .int zs, .ref tO, .ref rdO, .ref lnO, .ref drO, .ref chO])), (rO, .inl (cI, 60, .inl fr)), (nO, .inl (cZ, 100, .inl fn))]) [1, 2, 0] (by decide) rfl
              exact W.zret (v := 1) (ty := .boolean) hx hb hr rfl (fun t ht hW => ⟨⟨1, (), rfl, trivial, by rw [ht]; exact hP9, hD9⟩, hS.F ht⟩) hS.2.2 dX4_isRaised_61
    · skip
      refine lv_iconst (v := 1) hx hb dX4_isRaised_25 (by decide) ?_
      refine lv_goto (tgt := 30) hx hb dX4_isRaised_26 (by decide) ?_
      refine lv_istore (lv' := [(5, .int 1), (4, .int r_1), (0, .ref h0), (1, .int p0), (2, .int p1), (3, .int p2)]) hx hb dX4_isRaised_30 hl (by decide) rfl (fun ls hl => ?_)
      refine lv_iload hx hb dX4_isRaised_32 (lv_at hl 0 rfl) ?_
      refine lv_if_ne (tgt := 56) hx hb dX4_isRaised_34 (by decide) (fun _ => ?_) (fun h9 => absurd h9 (by decide))
      refine lv_iconst (v := 1) hx hb dX4_isRaised_56 (by decide) ?_
      refine lv_goto (tgt := 61) hx hb dX4_isRaised_57 (by decide) ?_
      have hP9 := hP.sub (ws' := [(h0, .inr (4, [.ref kO, .ref nO, .ref rO, .ref mO, .int zs, .ref tO, .ref rdO, .ref lnO, .ref drO, .ref chO])), (rO, .inl (cI, 60, .inl fr)), (nO, .inl (cZ, 100, .inl fn))]) [1, 2, 0] rfl
      have hD9 := hD.sub (ws' := [(h0, .inr (4, [.ref kO, .ref nO, .ref rO, .ref mO, .int zs, .ref tO, .ref rdO, .ref lnO, .ref drO, .ref chO])), (rO, .inl (cI, 60, .inl fr)), (nO, .inl (cZ, 100, .inl fn))]) [1, 2, 0] (by decide) rfl
      exact W.zret (v := 1) (ty := .boolean) hx hb hr rfl (fun t ht hW => ⟨⟨1, (), rfl, trivial, by rw [ht]; exact hP9, hD9⟩, hS.F ht⟩) hS.2.2 dX4_isRaised_61
set_option maxHeartbeats 4000000 in
set_option maxRecDepth 100000 in
theorem k_solve (l : Launch) (dC : Nat → ClassId) (dI : Nat → Nat → Nat) (cI cZ cC cJ : ClassId) (sz : Nat) (h0 : Nat) (kO : Nat) (nO : Nat) (rO : Nat) (mO : Nat) (zs : Int32) (tO : Nat) (rdO : Nat) (lnO : Nat) (drO : Nat) (chO : Nat) (fk : Nat → Int32) (fr : Nat → Int32) (fm : Nat → Int32) (bA : Nat) (xA : Nat) (kA : Nat) (aA : Nat) (eA : Nat) (gA : Nat) (oA : Nat) (rd : Int32) (lc : Int32) (sc : Int32) (ln : Int32) (le : Int32) (fb : Nat → Int32) (fx : Nat → Int32) (fq : Nat → Int32) (fa : Nat → Int32) (fe : Nat → Int32) (fg : Nat → Int32) (fo : Nat → Int32) (gF : Nat) (gK : Nat) (gT : Nat) (gC : Nat) (gM : Nat) (gc : Int32) (eF : Nat) (eC : Nat) (eM : Nat) (ec : Int32) (hopA : Nat) (fgF : Nat → Int32) (fgK : Nat → Int32) (fgT : Nat → Int32) (fgC : Nat → Int32) (fgM : Nat → Int32) (feF : Nat → Int32) (feC : Nat → Int32) (feM : Nat → Int32) (hrd : ¬ rd < 0) : Met l yX4_solve wsX4_solve ({ frames := 5, cells := 0, slots := 0, locals := 130 }) (va_Pc [.ref h0] (sPre dC dI cI cZ cC cJ [(h0, .inr (4, [.ref kO, .ref nO, .ref rO, .ref mO, .int zs, .ref tO, .ref rdO, .ref lnO, .ref drO, .ref chO])), (kO, .inl (cI, 100, .inl fk)), (rO, .inl (cI, 60, .inl fr)), (mO, .inl (cI, 60, .inl fm)), (chO, .inr (0, [.ref bA, .ref xA, .ref kA, .ref aA, .ref eA, .ref gA, .ref oA, .int rd, .int lc, .int sc, .int ln, .int le])), (bA, .inl (cI, 1220, .inl fb)), (xA, .inl (cI, 1220, .inl fx)), (kA, .inl (cI, 1220, .inl fq)), (aA, .inl (cI, 1220, .inl fa)), (eA, .inl (cI, 1220, .inl fe)), (gA, .inl (cI, 1220, .inl fg)), (oA, .inl (cI, 20, .inl fo)), (lnO, .inr (1, [.ref gF, .ref gK, .ref gT, .ref gC, .ref gM, .int gc, .ref eF, .ref eC, .ref eM, .int ec, .ref hopA])), (gF, .inl (cI, 40, .inl fgF)), (gK, .inl (cI, 40, .inl fgK)), (gT, .inl (cI, 40, .inl fgT)), (gC, .inl (cI, 40, .inl fgC)), (gM, .inl (cI, 40, .inl fgM)), (eF, .inl (cI, 10, .inl feF)), (eC, .inl (cI, 10, .inl feC)), (eM, .inl (cI, 10, .inl feM))] sz)) (va_Qv (fun (u : (Nat → Int32) × (Nat → Int32) × (Nat → Int32) × (Nat → Int32) × (Nat → Int32) × (Nat → Int32) × (Nat → Int32) × (Int32) × (Int32) × (Int32) × (Int32) × (Int32)) => match u with | (fb2, fx2, fq2, fa2, fe2, fg2, fo2, rd2, lc2, sc2, ln2, le2) => (¬ rd2 < 0)) (fun (u : (Nat → Int32) × (Nat → Int32) × (Nat → Int32) × (Nat → Int32) × (Nat → Int32) × (Nat → Int32) × (Nat → Int32) × (Int32) × (Int32) × (Int32) × (Int32) × (Int32)) t => match u with | (fb2, fx2, fq2, fa2, fe2, fg2, fo2, rd2, lc2, sc2, ln2, le2) => sB dC dI (va_A [(h0, .inr (4, [.ref kO, .ref nO, .ref rO, .ref mO, .int zs, .ref tO, .ref rdO, .ref lnO, .ref drO, .ref chO])), (kO, .inl (cI, 100, .inl fk)), (rO, .inl (cI, 60, .inl fr)), (mO, .inl (cI, 60, .inl fm)), (chO, .inr (0, [.ref bA, .ref xA, .ref kA, .ref aA, .ref eA, .ref gA, .ref oA, .int rd, .int lc, .int sc, .int ln, .int le])), (bA, .inl (cI, 1220, .inl fb)), (xA, .inl (cI, 1220, .inl fx)), (kA, .inl (cI, 1220, .inl fq)), (aA, .inl (cI, 1220, .inl fa)), (eA, .inl (cI, 1220, .inl fe)), (gA, .inl (cI, 1220, .inl fg)), (oA, .inl (cI, 20, .inl fo)), (lnO, .inr (1, [.ref gF, .ref gK, .ref gT, .ref gC, .ref gM, .int gc, .ref eF, .ref eC, .ref eM, .int ec, .ref hopA])), (gF, .inl (cI, 40, .inl fgF)), (gK, .inl (cI, 40, .inl fgK)), (gT, .inl (cI, 40, .inl fgT)), (gC, .inl (cI, 40, .inl fgC)), (gM, .inl (cI, 40, .inl fgM)), (eF, .inl (cI, 10, .inl feF)), (eC, .inl (cI, 10, .inl feC)), (eM, .inl (cI, 10, .inl feM))] sz) [(h0, .inr (4, [.ref kO, .ref nO, .ref rO, .ref mO, .int zs, .ref tO, .ref rdO, .ref lnO, .ref drO, .ref chO])), (kO, .inl (cI, 100, .inl fk)), (rO, .inl (cI, 60, .inl fr)), (mO, .inl (cI, 60, .inl fm)), (chO, .inr (0, [.ref bA, .ref xA, .ref kA, .ref aA, .ref eA, .ref gA, .ref oA, .int rd2, .int lc2, .int sc2, .int ln2, .int le2])), (bA, .inl (cI, 1220, .inl fb2)), (xA, .inl (cI, 1220, .inl fx2)), (kA, .inl (cI, 1220, .inl fq2)), (aA, .inl (cI, 1220, .inl fa2)), (eA, .inl (cI, 1220, .inl fe2)), (gA, .inl (cI, 1220, .inl fg2)), (oA, .inl (cI, 20, .inl fo2)), (lnO, .inr (1, [.ref gF, .ref gK, .ref gT, .ref gC, .ref gM, .int gc, .ref eF, .ref eC, .ref eM, .int ec, .ref hopA])), (gF, .inl (cI, 40, .inl fgF)), (gK, .inl (cI, 40, .inl fgK)), (gT, .inl (cI, 40, .inl fgT)), (gC, .inl (cI, 40, .inl fgC)), (gM, .inl (cI, 40, .inl fgM)), (eF, .inl (cI, 10, .inl feF)), (eC, .inl (cI, 10, .inl feC)), (eM, .inl (cI, 10, .inl feM))] t) (va_A [(h0, .inr (4, [.ref kO, .ref nO, .ref rO, .ref mO, .int zs, .ref tO, .ref rdO, .ref lnO, .ref drO, .ref chO])), (kO, .inl (cI, 100, .inl fk)), (rO, .inl (cI, 60, .inl fr)), (mO, .inl (cI, 60, .inl fm)), (chO, .inr (0, [.ref bA, .ref xA, .ref kA, .ref aA, .ref eA, .ref gA, .ref oA, .int rd, .int lc, .int sc, .int ln, .int le])), (bA, .inl (cI, 1220, .inl fb)), (xA, .inl (cI, 1220, .inl fx)), (kA, .inl (cI, 1220, .inl fq)), (aA, .inl (cI, 1220, .inl fa)), (eA, .inl (cI, 1220, .inl fe)), (gA, .inl (cI, 1220, .inl fg)), (oA, .inl (cI, 20, .inl fo)), (lnO, .inr (1, [.ref gF, .ref gK, .ref gT, .ref gC, .ref gM, .int gc, .ref eF, .ref eC, .ref eM, .int ec, .ref hopA])), (gF, .inl (cI, 40, .inl fgF)), (gK, .inl (cI, 40, .inl fgK)), (gT, .inl (cI, 40, .inl fgT)), (gC, .inl (cI, 40, .inl fgC)), (gM, .inl (cI, 40, .inl fgM)), (eF, .inl (cI, 10, .inl feF)), (eC, .inl (cI, 10, .inl feC)), (eM, .inl (cI, 10, .inl feM))] sz)) 0 0 (va_A [(h0, .inr (4, [.ref kO, .ref nO, .ref rO, .ref mO, .int zs, .ref tO, .ref rdO, .ref lnO, .ref drO, .ref chO])), (kO, .inl (cI, 100, .inl fk)), (rO, .inl (cI, 60, .inl fr)), (mO, .inl (cI, 60, .inl fm)), (chO, .inr (0, [.ref bA, .ref xA, .ref kA, .ref aA, .ref eA, .ref gA, .ref oA, .int rd, .int lc, .int sc, .int ln, .int le])), (bA, .inl (cI, 1220, .inl fb)), (xA, .inl (cI, 1220, .inl fx)), (kA, .inl (cI, 1220, .inl fq)), (aA, .inl (cI, 1220, .inl fa)), (eA, .inl (cI, 1220, .inl fe)), (gA, .inl (cI, 1220, .inl fg)), (oA, .inl (cI, 20, .inl fo)), (lnO, .inr (1, [.ref gF, .ref gK, .ref gT, .ref gC, .ref gM, .int gc, .ref eF, .ref eC, .ref eM, .int ec, .ref hopA])), (gF, .inl (cI, 40, .inl fgF)), (gK, .inl (cI, 40, .inl fgK)), (gT, .inl (cI, 40, .inl fgT)), (gC, .inl (cI, 40, .inl fgC)), (gM, .inl (cI, 40, .inl fgM)), (eF, .inl (cI, 10, .inl feF)), (eC, .inl (cI, 10, .inl feC)), (eM, .inl (cI, 10, .inl feM))] sz) := by
  refine Met.ofW (cc := cX4_solve) (maxL := 3) (ret := none) (by decide) rfl ?_
  intro p e s m args below meth c s₁ B hml hv
  obtain ⟨rfl, hsz, hP, hsk, hD0⟩ := hv
  have hx := B.exec
  have hb := B.bytes
  have hr := B.returns
  have hts := atoms_spec (ws := wsX4_solve) B.pre
  have hown : s.vm.findClass RX4 = some m.cls := findClass_of_methodNamed B.named
  have hlocks := B.notSynchronized
  have hK := hsk.1
  have i0 : ∀ w ∈ wsX00, w ∈ wsX4_solve := by decide +kernel
  have i4 : ∀ w ∈ wsX40, w ∈ wsX4_solve := by decide +kernel
  subst hsz
  have hD := hD0.self (sz := s.heap.size)
  generalize hAe : va_A [(h0, .inr (4, [.ref kO, .ref nO, .ref rO, .ref mO, .int zs, .ref tO, .ref rdO, .ref lnO, .ref drO, .ref chO])), (kO, .inl (cI, 100, .inl fk)), (rO, .inl (cI, 60, .inl fr)), (mO, .inl (cI, 60, .inl fm)), (chO, .inr (0, [.ref bA, .ref xA, .ref kA, .ref aA, .ref eA, .ref gA, .ref oA, .int rd, .int lc, .int sc, .int ln, .int le])), (bA, .inl (cI, 1220, .inl fb)), (xA, .inl (cI, 1220, .inl fx)), (kA, .inl (cI, 1220, .inl fq)), (aA, .inl (cI, 1220, .inl fa)), (eA, .inl (cI, 1220, .inl fe)), (gA, .inl (cI, 1220, .inl fg)), (oA, .inl (cI, 20, .inl fo)), (lnO, .inr (1, [.ref gF, .ref gK, .ref gT, .ref gC, .ref gM, .int gc, .ref eF, .ref eC, .ref eM, .int ec, .ref hopA])), (gF, .inl (cI, 40, .inl fgF)), (gK, .inl (cI, 40, .inl fgK)), (gT, .inl (cI, 40, .inl fgT)), (gC, .inl (cI, 40, .inl fgC)), (gM, .inl (cI, 40, .inl fgM)), (eF, .inl (cI, 10, .inl feF)), (eC, .inl (cI, 10, .inl feC)), (eM, .inl (cI, 10, .inl feM))] s.heap.size = A at hD ⊢
  have hA : ∀ q : Nat, s.heap.size ≤ q → A q := fun q h => by rw [← hAe]; exact Or.inr h
  have hS : va_S A s.heap s.heap [] := va_S.rf
  have hl := lv_entry ([.ref h0]) (n := 3) (Nat.le_of_ble_eq_true rfl)
  rw [lg_entry_eq]
  generalize (lg_sl ([.ref h0]) ++ List.replicate (3 - (lg_sl ([.ref h0])).length) Slot.unset).toArray = ls at hl ⊢
  have hl : lv_has ls 3 [(0, .ref h0)] := hl
  refine lv_aload_n hx hb dX4_solve_0 rfl (lv_at hl 0 rfl) ?_
  refine va_get (D := (dC, dI)) (ci := 4) (v := .ref chO) (C := RX4) (T := TX4) (N := 10) hx hb hts i4 hown hK hP 0 rfl rfl 9 (by decide) (hts (.fieldLink RX4 52 "StopSetter" "chart" "LStopSetter$Chart;") (by decide +kernel)) (fun _ h9 => h9) rfl dX4_solve_1 ?_
  refine va_getN (D := (dC, dI)) (ci := 0) (v := .int rd) (C := RX0) (T := TX0) (N := 12) hx hb hts i0 hown hK hP 4 rfl rfl 7 (by decide) (va_Nw.use rfl (hsk.2.1 ("StopSetter", 183, "StopSetter$Chart", "ready", "I", "StopSetter") (by decide +kernel))) (fun _ h9 => h9) rfl dX4_solve_4 ?_
  refine lv_istore_n (lv' := [(1, .int rd), (0, .ref h0)]) hx hb dX4_solve_7 rfl hl (by decide) rfl (fun ls hl => ?_)
  have lp_8 : ∀ (n_8 : Nat) (iv : Int32) (rd : Int32) (fb : Nat → Int32) (fx : Nat → Int32) (fq : Nat → Int32) (fa : Nat → Int32) (fe : Nat → Int32) (fg : Nat → Int32) (fo : Nat → Int32), ((zs : Int32).toInt - (iv : Int32).toInt < n_8 ∧ 0 < n_8) → ¬ rd < 0 → ¬ iv < 0 → ∀ (H : Heap) (locs : List Loc) (ls : Array Slot), va_P (dC, dI) vwCl [(h0, .inr (4, [.ref kO, .ref nO, .ref rO, .ref mO, .int zs, .ref tO, .ref rdO, .ref lnO, .ref drO, .ref chO])), (kO, .inl (cI, 100, .inl fk)), (rO, .inl (cI, 60, .inl fr)), (mO, .inl (cI, 60, .inl fm)), (chO, .inr (0, [.ref bA, .ref xA, .ref kA, .ref aA, .ref eA, .ref gA, .ref oA, .int rd, .int lc, .int sc, .int ln, .int le])), (bA, .inl (cI, 1220, .inl fb)), (xA, .inl (cI, 1220, .inl fx)), (kA, .inl (cI, 1220, .inl fq)), (aA, .inl (cI, 1220, .inl fa)), (eA, .inl (cI, 1220, .inl fe)), (gA, .inl (cI, 1220, .inl fg)), (oA, .inl (cI, 20, .inl fo)), (lnO, .inr (1, [.ref gF, .ref gK, .ref gT, .ref gC, .ref gM, .int gc, .ref eF, .ref eC, .ref eM, .int ec, .ref hopA])), (gF, .inl (cI, 40, .inl fgF)), (gK, .inl (cI, 40, .inl fgK)), (gT, .inl (cI, 40, .inl fgT)), (gC, .inl (cI, 40, .inl fgC)), (gM, .inl (cI, 40, .inl fgM)), (eF, .inl (cI, 10, .inl feF)), (eC, .inl (cI, 10, .inl feC)), (eM, .inl (cI, 10, .inl feM))] H → va_D A [(h0, .inr (4, [.ref kO, .ref nO, .ref rO, .ref mO, .int zs, .ref tO, .ref rdO, .ref lnO, .ref drO, .ref chO])), (kO, .inl (cI, 100, .inl fk)), (rO, .inl (cI, 60, .inl fr)), (mO, .inl (cI, 60, .inl fm)), (chO, .inr (0, [.ref bA, .ref xA, .ref kA, .ref aA, .ref eA, .ref gA, .ref oA, .int rd, .int lc, .int sc, .int ln, .int le])), (bA, .inl (cI, 1220, .inl fb)), (xA, .inl (cI, 1220, .inl fx)), (kA, .inl (cI, 1220, .inl fq)), (aA, .inl (cI, 1220, .inl fa)), (eA, .inl (cI, 1220, .inl fe)), (gA, .inl (cI, 1220, .inl fg)), (oA, .inl (cI, 20, .inl fo)), (lnO, .inr (1, [.ref gF, .ref gK, .ref gT, .ref gC, .ref gM, .int gc, .ref eF, .ref eC, .ref eM, .int ec, .ref hopA])), (gF, .inl (cI, 40, .inl fgF)), (gK, .inl (cI, 40, .inl fgK)), (gT, .inl (cI, 40, .inl fgT)), (gC, .inl (cI, 40, .inl fgC)), (gM, .inl (cI, 40, .inl fgM)), (eF, .inl (cI, 10, .inl feF)), (eC, .inl (cI, 10, .inl feC)), (eM, .inl (cI, 10, .inl feM))] → va_S A s.heap H locs → lv_has ls 3 [(1, .int iv), (0, .ref h0)] → W p l e (headSpec wsX4_solve ({ frames := 5, cells := 0, slots := 0, locals := 130 })).room s m ([.ref h0]).toArray below meth c H locs 0 0 (MQ below (va_Qv (fun (u : (Nat → Int32) × (Nat → Int32) × (Nat → Int32) × (Nat → Int32) × (Nat → Int32) × (Nat → Int32) × (Nat → Int32) × (Int32) × (Int32) × (Int32) × (Int32) × (Int32)) => match u with | (fb2, fx2, fq2, fa2, fe2, fg2, fo2, rd2, lc2, sc2, ln2, le2) => (¬ rd2 < 0)) (fun (u : (Nat → Int32) × (Nat → Int32) × (Nat → Int32) × (Nat → Int32) × (Nat → Int32) × (Nat → Int32) × (Nat → Int32) × (Int32) × (Int32) × (Int32) × (Int32) × (Int32)) t => match u with | (fb2, fx2, fq2, fa2, fe2, fg2, fo2, rd2, lc2, sc2, ln2, le2) => sB dC dI A [(h0, .inr (4, [.ref kO, .ref nO, .ref rO, .ref mO, .int zs, .ref tO, .ref rdO, .ref lnO, .ref drO, .ref chO])), (kO, .inl (cI, 100, .inl fk)), (rO, .inl (cI, 60, .inl fr)), (mO, .inl (cI, 60, .inl fm)), (chO, .inr (0, [.ref bA, .ref xA, .ref kA, .ref aA, .ref eA, .ref gA, .ref oA, .int rd2, .int lc2, .int sc2, .int ln2, .int le2])), (bA, .inl (cI, 1220, .inl fb2)), (xA, .inl (cI, 1220, .inl fx2)), (kA, .inl (cI, 1220, .inl fq2)), (aA, .inl (cI, 1220, .inl fa2)), (eA, .inl (cI, 1220, .inl fe2)), (gA, .inl (cI, 1220, .inl fg2)), (oA, .inl (cI, 20, .inl fo2)), (lnO, .inr (1, [.ref gF, .ref gK, .ref gT, .ref gC, .ref gM, .int gc, .ref eF, .ref eC, .ref eM, .int ec, .ref hopA])), (gF, .inl (cI, 40, .inl fgF)), (gK, .inl (cI, 40, .inl fgK)), (gT, .inl (cI, 40, .inl fgT)), (gC, .inl (cI, 40, .inl fgC)), (gM, .inl (cI, 40, .inl fgM)), (eF, .inl (cI, 10, .inl feF)), (eC, .inl (cI, 10, .inl feC)), (eM, .inl (cI, 10, .inl feM))] t) A) ([.ref h0]).toArray s 0 0 A) (F0 m 8 ls []) := by
    intro n_8
    induction n_8 with
    | zero =>
      intro iv rd fb fx fq fa fe fg fo fuel_8 hrd hge_8
      exact absurd fuel_8 (by omega)
    | succ n_8 ih_8 =>
      intro iv rd fb fx fq fa fe fg fo fuel_8 hrd hge_8 H locs ls hP hD hS hl
      refine lv_iload_n hx hb dX4_solve_8 rfl (lv_at hl 0 rfl) ?_
      refine lv_aload_n hx hb dX4_solve_9 rfl (lv_at hl 1 rfl) ?_
      refine va_get (D := (dC, dI)) (ci := 4) (v := .int zs) (C := RX4) (T := TX4) (N := 10) hx hb hts i4 hown hK hP 0 rfl rfl 4 (by decide) (hts (.fieldLink RX4 74 "StopSetter" "size" "I") (by decide +kernel)) (fun _ h9 => h9) rfl dX4_solve_10 ?_
      refine lv_icmp_ge (tgt := 68) hx hb dX4_solve_13 (by decide) (fun c_13 => ?_) (fun c_13 => ?_)
      · skip
        refine lv_aload_n hx hb dX4_solve_68 rfl (lv_at hl 1 rfl) ?_
        refine va_get (D := (dC, dI)) (ci := 4) (v := .ref chO) (C := RX4) (T := TX4) (N := 10) hx hb hts i4 hown hK hP 0 rfl rfl 9 (by decide) (hts (.fieldLink RX4 52 "StopSetter" "chart" "LStopSetter$Chart;") (by decide +kernel)) (fun _ h9 => h9) rfl dX4_solve_69 ?_
        refine lv_aload_n hx hb dX4_solve_72 rfl (lv_at hl 1 rfl) ?_
        refine va_get (D := (dC, dI)) (ci := 4) (v := .ref lnO) (C := RX4) (T := TX4) (N := 10) hx hb hts i4 hown hK hP 0 rfl rfl 7 (by decide) (hts (.fieldLink RX4 42 "StopSetter" "lines" "LStopSetter$Grammar;") (by decide +kernel)) (fun _ h9 => h9) rfl dX4_solve_73 ?_
        have hPc := hP.sub (ws' := [(chO, .inr (0, [.ref bA, .ref xA, .ref kA, .ref aA, .ref eA, .ref gA, .ref oA, .int rd, .int lc, .int sc, .int ln, .int le])), (bA, .inl (cI, 1220, .inl fb)), (xA, .inl (cI, 1220, .inl fx)), (kA, .inl (cI, 1220, .inl fq)), (lnO, .inr (1, [.ref gF, .ref gK, .ref gT, .ref gC, .ref gM, .int gc, .ref eF, .ref eC, .ref eM, .int ec, .ref hopA])), (eF, .inl (cI, 10, .inl feF)), (eC, .inl (cI, 10, .inl feC)), (eM, .inl (cI, 10, .inl feM))]) [4, 5, 6, 7, 12, 18, 19, 20] rfl
        have hDc := hD.sub (ws' := [(chO, .inr (0, [.ref bA, .ref xA, .ref kA, .ref aA, .ref eA, .ref gA, .ref oA, .int rd, .int lc, .int sc, .int ln, .int le])), (bA, .inl (cI, 1220, .inl fb)), (xA, .inl (cI, 1220, .inl fx)), (kA, .inl (cI, 1220, .inl fq)), (lnO, .inr (1, [.ref gF, .ref gK, .ref gT, .ref gC, .ref gM, .int gc, .ref eF, .ref eC, .ref eM, .int ec, .ref hopA])), (eF, .inl (cI, 10, .inl feF)), (eC, .inl (cI, 10, .inl feC)), (eM, .inl (cI, 10, .inl feM))]) [4, 5, 6, 7, 12, 18, 19, 20] (by decide) rfl
        have hFc := va_free (wc := [(chO, .inr (0, [.ref bA, .ref xA, .ref kA, .ref aA, .ref eA, .ref gA, .ref oA, .int rd, .int lc, .int sc, .int ln, .int le])), (bA, .inl (cI, 1220, .inl fb)), (xA, .inl (cI, 1220, .inl fx)), (kA, .inl (cI, 1220, .inl fq)), (lnO, .inr (1, [.ref gF, .ref gK, .ref gT, .ref gC, .ref gM, .int gc, .ref eF, .ref eC, .ref eM, .int ec, .ref hopA])), (eF, .inl (cI, 10, .inl feF)), (eC, .inl (cI, 10, .inl feC)), (eM, .inl (cI, 10, .inl feM))]) hD hS hA [4, 5, 6, 7, 12, 18, 19, 20] rfl
        refine va_callv (va_runV (As := [.ref lnO]) (rest := []) ⟨hx, hb, hml, hown, hts⟩ (k_finish l dC dI cI cZ cC cJ H.size  chO bA xA kA aA eA gA oA rd lc sc ln le fb fx fq lnO gF gK gT gC gM gc eF eC eM ec hopA feF feC feM ) (cwV 1 hts gX4_solve_X0_finish rfl rfl rfl (by decide +kernel) ⟨Nat.le_of_ble_eq_true rfl, Nat.le_of_ble_eq_true rfl⟩) ⟨sPre_blind, va_recv hK hPc (ci := 0) (q0 := 0) rfl rfl, fun U hU hW => ⟨rfl, sPre_ok hsk hPc hDc hU hW⟩⟩ rfl rfl hl.1 rfl (lv_room (Nat.le_of_ble_eq_true rfl)) dX4_solve_76 ⟨(show 0 + 0 ≤ 0 by omega), (show 0 + 0 ≤ 0 by omega)⟩) hS (fun q _ h => hFc q h) hFc (fun u t H1 locs ht hvm hw hB hz1 hk1 hS => ?_)
        obtain ⟨l_2, s_3, l_4, l_5⟩ := u
        try dsimp only at hw hB
        obtain ⟨hP1, hD1⟩ := hB
        rw [ht] at hP1
        obtain ⟨hP, hD⟩ := va_join (wr := [(h0, .inr (4, [.ref kO, .ref nO, .ref rO, .ref mO, .int zs, .ref tO, .ref rdO, .ref lnO, .ref drO, .ref chO])), (kO, .inl (cI, 100, .inl fk)), (rO, .inl (cI, 60, .inl fr)), (mO, .inl (cI, 60, .inl fm)), (aA, .inl (cI, 1220, .inl fa)), (eA, .inl (cI, 1220, .inl fe)), (gA, .inl (cI, 1220, .inl fg)), (oA, .inl (cI, 20, .inl fo)), (gF, .inl (cI, 40, .inl fgF)), (gK, .inl (cI, 40, .inl fgK)), (gT, .inl (cI, 40, .inl fgT)), (gC, .inl (cI, 40, .inl fgC)), (gM, .inl (cI, 40, .inl fgM))]) (w1 := [(chO, .inr (0, [.ref bA, .ref xA, .ref kA, .ref aA, .ref eA, .ref gA, .ref oA, .int rd, .int l_2, .int s_3, .int l_4, .int l_5])), (bA, .inl (cI, 1220, .inl fb)), (xA, .inl (cI, 1220, .inl fx)), (kA, .inl (cI, 1220, .inl fq)), (lnO, .inr (1, [.ref gF, .ref gK, .ref gT, .ref gC, .ref gM, .int gc, .ref eF, .ref eC, .ref eM, .int ec, .ref hopA])), (eF, .inl (cI, 10, .inl feF)), (eC, .inl (cI, 10, .inl feC)), (eM, .inl (cI, 10, .inl feM))]) hP hD [4, 5, 6, 7, 12, 18, 19, 20] [0, 1, 2, 3, 8, 9, 10, 11, 13, 14, 15, 16, 17] rfl rfl (by decide) (by decide) hk1 hFc hP1 hD1
        generalize H1 = H at hP hS ⊢
        have hP : va_P (dC, dI) vwCl [(h0, .inr (4, [.ref kO, .ref nO, .ref rO, .ref mO, .int zs, .ref tO, .ref rdO, .ref lnO, .ref drO, .ref chO])), (kO, .inl (cI, 100, .inl fk)), (rO, .inl (cI, 60, .inl fr)), (mO, .inl (cI, 60, .inl fm)), (aA, .inl (cI, 1220, .inl fa)), (eA, .inl (cI, 1220, .inl fe)), (gA, .inl (cI, 1220, .inl fg)), (oA, .inl (cI, 20, .inl fo)), (gF, .inl (cI, 40, .inl fgF)), (gK, .inl (cI, 40, .inl fgK)), (gT, .inl (cI, 40, .inl fgT)), (gC, .inl (cI, 40, .inl fgC)), (gM, .inl (cI, 40, .inl fgM)), (chO, .inr (0, [.ref bA, .ref xA, .ref kA, .ref aA, .ref eA, .ref gA, .ref oA, .int rd, .int l_2, .int s_3, .int l_4, .int l_5])), (bA, .inl (cI, 1220, .inl fb)), (xA, .inl (cI, 1220, .inl fx)), (kA, .inl (cI, 1220, .inl fq)), (lnO, .inr (1, [.ref gF, .ref gK, .ref gT, .ref gC, .ref gM, .int gc, .ref eF, .ref eC, .ref eM, .int ec, .ref hopA])), (eF, .inl (cI, 10, .inl feF)), (eC, .inl (cI, 10, .inl feC)), (eM, .inl (cI, 10, .inl feM))] H := hP
        have hD : va_D A [(h0, .inr (4, [.ref kO, .ref nO, .ref rO, .ref mO, .int zs, .ref tO, .ref rdO, .ref lnO, .ref drO, .ref chO])), (kO, .inl (cI, 100, .inl fk)), (rO, .inl (cI, 60, .inl fr)), (mO, .inl (cI, 60, .inl fm)), (aA, .inl (cI, 1220, .inl fa)), (eA, .inl (cI, 1220, .inl fe)), (gA, .inl (cI, 1220, .inl fg)), (oA, .inl (cI, 20, .inl fo)), (gF, .inl (cI, 40, .inl fgF)), (gK, .inl (cI, 40, .inl fgK)), (gT, .inl (cI, 40, .inl fgT)), (gC, .inl (cI, 40, .inl fgC)), (gM, .inl (cI, 40, .inl fgM)), (chO, .inr (0, [.ref bA, .ref xA, .ref kA, .ref aA, .ref eA, .ref gA, .ref oA, .int rd, .int l_2, .int s_3, .int l_4, .int l_5])), (bA, .inl (cI, 1220, .inl fb)), (xA, .inl (cI, 1220, .inl fx)), (kA, .inl (cI, 1220, .inl fq)), (lnO, .inr (1, [.ref gF, .ref gK, .ref gT, .ref gC, .ref gM, .int gc, .ref eF, .ref eC, .ref eM, .int ec, .ref hopA])), (eF, .inl (cI, 10, .inl feF)), (eC, .inl (cI, 10, .inl feC)), (eM, .inl (cI, 10, .inl feM))] := hD
        have hP9 := hP.sub (ws' := [(h0, .inr (4, [.ref kO, .ref nO, .ref rO, .ref mO, .int zs, .ref tO, .ref rdO, .ref lnO, .ref drO, .ref chO])), (kO, .inl (cI, 100, .inl fk)), (rO, .inl (cI, 60, .inl fr)), (mO, .inl (cI, 60, .inl fm)), (chO, .inr (0, [.ref bA, .ref xA, .ref kA, .ref aA, .ref eA, .ref gA, .ref oA, .int rd, .int l_2, .int s_3, .int l_4, .int l_5])), (bA, .inl (cI, 1220, .inl fb)), (xA, .inl (cI, 1220, .inl fx)), (kA, .inl (cI, 1220, .inl fq)), (aA, .inl (cI, 1220, .inl fa)), (eA, .inl (cI, 1220, .inl fe)), (gA, .inl (cI, 1220, .inl fg)), (oA, .inl (cI, 20, .inl fo)), (lnO, .inr (1, [.ref gF, .ref gK, .ref gT, .ref gC, .ref gM, .int gc, .ref eF, .ref eC, .ref eM, .int ec, .ref hopA])), (gF, .inl (cI, 40, .inl fgF)), (gK, .inl (cI, 40, .inl fgK)), (gT, .inl (cI, 40, .inl fgT)), (gC, .inl (cI, 40, .inl fgC)), (gM, .inl (cI, 40, .inl fgM)), (eF, .inl (cI, 10, .inl feF)), (eC, .inl (cI, 10, .inl feC)), (eM, .inl (cI, 10, .inl feM))]) [0, 1, 2, 3, 13, 14, 15, 16, 4, 5, 6, 7, 17, 8, 9, 10, 11, 12, 18, 19, 20] rfl
        have hD9 := hD.sub (ws' := [(h0, .inr (4, [.ref kO, .ref nO, .ref rO, .ref mO, .int zs, .ref tO, .ref rdO, .ref lnO, .ref drO, .ref chO])), (kO, .inl (cI, 100, .inl fk)), (rO, .inl (cI, 60, .inl fr)), (mO, .inl (cI, 60, .inl fm)), (chO, .inr (0, [.ref bA, .ref xA, .ref kA, .ref aA, .ref eA, .ref gA, .ref oA, .int rd, .int l_2, .int s_3, .int l_4, .int l_5])), (bA, .inl (cI, 1220, .inl fb)), (xA, .inl (cI, 1220, .inl fx)), (kA, .inl (cI, 1220, .inl fq)), (aA, .inl (cI, 1220, .inl fa)), (eA, .inl (cI, 1220, .inl fe)), (gA, .inl (cI, 1220, .inl fg)), (oA, .inl (cI, 20, .inl fo)), (lnO, .inr (1, [.ref gF, .ref gK, .ref gT, .ref gC, .ref gM, .int gc, .ref eF, .ref eC, .ref eM, .int ec, .ref hopA])), (gF, .inl (cI, 40, .inl fgF)), (gK, .inl (cI, 40, .inl fgK)), (gT, .inl (cI, 40, .inl fgT)), (gC, .inl (cI, 40, .inl fgC)), (gM, .inl (cI, 40, .inl fgM)), (eF, .inl (cI, 10, .inl feF)), (eC, .inl (cI, 10, .inl feC)), (eM, .inl (cI, 10, .inl feM))]) [0, 1, 2, 3, 13, 14, 15, 16, 4, 5, 6, 7, 17, 8, 9, 10, 11, 12, 18, 19, 20] (by decide) rfl
        have hens0 : ¬ rd < 0 := hrd
        exact W.vret hx hb hr (fun t ht hW => ⟨⟨(fb, fx, fq, fa, fe, fg, fo, rd, l_2, s_3, l_4, l_5), rfl, hens0, by rw [ht]; exact hP9, hD9⟩, hS.F ht⟩) hS.2.2 dX4_solve_79
      · skip
        refine lv_iload_n hx hb dX4_solve_16 rfl (lv_at hl 0 rfl) ?_
        refine lv_bipush (v := 60) hx hb dX4_solve_17 (by decide) ?_
        refine lv_icmp_ge (tgt := 68) hx hb dX4_solve_19 (by decide) (fun c_19 => ?_) (fun c_19 => ?_)
        · skip
          refine lv_aload_n hx hb dX4_solve_68 rfl (lv_at hl 1 rfl) ?_
          refine va_get (D := (dC, dI)) (ci := 4) (v := .ref chO) (C := RX4) (T := TX4) (N := 10) hx hb hts i4 hown hK hP 0 rfl rfl 9 (by decide) (hts (.fieldLink RX4 52 "StopSetter" "chart" "LStopSetter$Chart;") (by decide +kernel)) (fun _ h9 => h9) rfl dX4_solve_69 ?_
          refine lv_aload_n hx hb dX4_solve_72 rfl (lv_at hl 1 rfl) ?_
          refine va_get (D := (dC, dI)) (ci := 4) (v := .ref lnO) (C := RX4) (T := TX4) (N := 10) hx hb hts i4 hown hK hP 0 rfl rfl 7 (by decide) (hts (.fieldLink RX4 42 "StopSetter" "lines" "LStopSetter$Grammar;") (by decide +kernel)) (fun _ h9 => h9) rfl dX4_solve_73 ?_
          have hPc := hP.sub (ws' := [(chO, .inr (0, [.ref bA, .ref xA, .ref kA, .ref aA, .ref eA, .ref gA, .ref oA, .int rd, .int lc, .int sc, .int ln, .int le])), (bA, .inl (cI, 1220, .inl fb)), (xA, .inl (cI, 1220, .inl fx)), (kA, .inl (cI, 1220, .inl fq)), (lnO, .inr (1, [.ref gF, .ref gK, .ref gT, .ref gC, .ref gM, .int gc, .ref eF, .ref eC, .ref eM, .int ec, .ref hopA])), (eF, .inl (cI, 10, .inl feF)), (eC, .inl (cI, 10, .inl feC)), (eM, .inl (cI, 10, .inl feM))]) [4, 5, 6, 7, 12, 18, 19, 20] rfl
          have hDc := hD.sub (ws' := [(chO, .inr (0, [.ref bA, .ref xA, .ref kA, .ref aA, .ref eA, .ref gA, .ref oA, .int rd, .int lc, .int sc, .int ln, .int le])), (bA, .inl (cI, 1220, .inl fb)), (xA, .inl (cI, 1220, .inl fx)), (kA, .inl (cI, 1220, .inl fq)), (lnO, .inr (1, [.ref gF, .ref gK, .ref gT, .ref gC, .ref gM, .int gc, .ref eF, .ref eC, .ref eM, .int ec, .ref hopA])), (eF, .inl (cI, 10, .inl feF)), (eC, .inl (cI, 10, .inl feC)), (eM, .inl (cI, 10, .inl feM))]) [4, 5, 6, 7, 12, 18, 19, 20] (by decide) rfl
          have hFc := va_free (wc := [(chO, .inr (0, [.ref bA, .ref xA, .ref kA, .ref aA, .ref eA, .ref gA, .ref oA, .int rd, .int lc, .int sc, .int ln, .int le])), (bA, .inl (cI, 1220, .inl fb)), (xA, .inl (cI, 1220, .inl fx)), (kA, .inl (cI, 1220, .inl fq)), (lnO, .inr (1, [.ref gF, .ref gK, .ref gT, .ref gC, .ref gM, .int gc, .ref eF, .ref eC, .ref eM, .int ec, .ref hopA])), (eF, .inl (cI, 10, .inl feF)), (eC, .inl (cI, 10, .inl feC)), (eM, .inl (cI, 10, .inl feM))]) hD hS hA [4, 5, 6, 7, 12, 18, 19, 20] rfl
          refine va_callv (va_runV (As := [.ref lnO]) (rest := []) ⟨hx, hb, hml, hown, hts⟩ (k_finish l dC dI cI cZ cC cJ H.size  chO bA xA kA aA eA gA oA rd lc sc ln le fb fx fq lnO gF gK gT gC gM gc eF eC eM ec hopA feF feC feM ) (cwV 1 hts gX4_solve_X0_finish rfl rfl rfl (by decide +kernel) ⟨Nat.le_of_ble_eq_true rfl, Nat.le_of_ble_eq_true rfl⟩) ⟨sPre_blind, va_recv hK hPc (ci := 0) (q0 := 0) rfl rfl, fun U hU hW => ⟨rfl, sPre_ok hsk hPc hDc hU hW⟩⟩ rfl rfl hl.1 rfl (lv_room (Nat.le_of_ble_eq_true rfl)) dX4_solve_76 ⟨(show 0 + 0 ≤ 0 by omega), (show 0 + 0 ≤ 0 by omega)⟩) hS (fun q _ h => hFc q h) hFc (fun u t H1 locs ht hvm hw hB hz1 hk1 hS => ?_)
          obtain ⟨l_7, s_8, l_9, l_10⟩ := u
          try dsimp only at hw hB
          obtain ⟨hP1, hD1⟩ := hB
          rw [ht] at hP1
          obtain ⟨hP, hD⟩ := va_join (wr := [(h0, .inr (4, [.ref kO, .ref nO, .ref rO, .ref mO, .int zs, .ref tO, .ref rdO, .ref lnO, .ref drO, .ref chO])), (kO, .inl (cI, 100, .inl fk)), (rO, .inl (cI, 60, .inl fr)), (mO, .inl (cI, 60, .inl fm)), (aA, .inl (cI, 1220, .inl fa)), (eA, .inl (cI, 1220, .inl fe)), (gA, .inl (cI, 1220, .inl fg)), (oA, .inl (cI, 20, .inl fo)), (gF, .inl (cI, 40, .inl fgF)), (gK, .inl (cI, 40, .inl fgK)), (gT, .inl (cI, 40, .inl fgT)), (gC, .inl (cI, 40, .inl fgC)), (gM, .inl (cI, 40, .inl fgM))]) (w1 := [(chO, .inr (0, [.ref bA, .ref xA, .ref kA, .ref aA, .ref eA, .ref gA, .ref oA, .int rd, .int l_7, .int s_8, .int l_9, .int l_10])), (bA, .inl (cI, 1220, .inl fb)), (xA, .inl (cI, 1220, .inl fx)), (kA, .inl (cI, 1220, .inl fq)), (lnO, .inr (1, [.ref gF, .ref gK, .ref gT, .ref gC, .ref gM, .int gc, .ref eF, .ref eC, .ref eM, .int ec, .ref hopA])), (eF, .inl (cI, 10, .inl feF)), (eC, .inl (cI, 10, .inl feC)), (eM, .inl (cI, 10, .inl feM))]) hP hD [4, 5, 6, 7, 12, 18, 19, 20] [0, 1, 2, 3, 8, 9, 10, 11, 13, 14, 15, 16, 17] rfl rfl (by decide) (by decide) hk1 hFc hP1 hD1
          generalize H1 = H at hP hS ⊢
          have hP : va_P (dC, dI) vwCl [(h0, .inr (4, [.ref kO, .ref nO, .ref rO, .ref mO, .int zs, .ref tO, .ref rdO, .ref lnO, .ref drO, .ref chO])), (kO, .inl (cI, 100, .inl fk)), (rO, .inl (cI, 60, .inl fr)), (mO, .inl (cI, 60, .inl fm)), (aA, .inl (cI, 1220, .inl fa)), (eA, .inl (cI, 1220, .inl fe)), (gA, .inl (cI, 1220, .inl fg)), (oA, .inl (cI, 20, .inl fo)), (gF, .inl (cI, 40, .inl fgF)), (gK, .inl (cI, 40, .inl fgK)), (gT, .inl (cI, 40, .inl fgT)), (gC, .inl (cI, 40, .inl fgC)), (gM, .inl (cI, 40, .inl fgM)), (chO, .inr (0, [.ref bA, .ref xA, .ref kA, .ref aA, .ref eA, .ref gA, .ref oA, .int rd, .int l_7, .int s_8, .int l_9, .int l_10])), (bA, .inl (cI, 1220, .inl fb)), (xA, .inl (cI, 1220, .inl fx)), (kA, .inl (cI, 1220, .inl fq)), (lnO, .inr (1, [.ref gF, .ref gK, .ref gT, .ref gC, .ref gM, .int gc, .ref eF, .ref eC, .ref eM, .int ec, .ref hopA])), (eF, .inl (cI, 10, .inl feF)), (eC, .inl (cI, 10, .inl feC)), (eM, .inl (cI, 10, .inl feM))] H := hP
          have hD : va_D A [(h0, .inr (4, [.ref kO, .ref nO, .ref rO, .ref mO, .int zs, .ref tO, .ref rdO, .ref lnO, .ref drO, .ref chO])), (kO, .inl (cI, 100, .inl fk)), (rO, .inl (cI, 60, .inl fr)), (mO, .inl (cI, 60, .inl fm)), (aA, .inl (cI, 1220, .inl fa)), (eA, .inl (cI, 1220, .inl fe)), (gA, .inl (cI, 1220, .inl fg)), (oA, .inl (cI, 20, .inl fo)), (gF, .inl (cI, 40, .inl fgF)), (gK, .inl (cI, 40, .inl fgK)), (gT, .inl (cI, 40, .inl fgT)), (gC, .inl (cI, 40, .inl fgC)), (gM, .inl (cI, 40, .inl fgM)), (chO, .inr (0, [.ref bA, .ref xA, .ref kA, .ref aA, .ref eA, .ref gA, .ref oA, .int rd, .int l_7, .int s_8, .int l_9, .int l_10])), (bA, .inl (cI, 1220, .inl fb)), (xA, .inl (cI, 1220, .inl fx)), (kA, .inl (cI, 1220, .inl fq)), (lnO, .inr (1, [.ref gF, .ref gK, .ref gT, .ref gC, .ref gM, .int gc, .ref eF, .ref eC, .ref eM, .int ec, .ref hopA])), (eF, .inl (cI, 10, .inl feF)), (eC, .inl (cI, 10, .inl feC)), (eM, .inl (cI, 10, .inl feM))] := hD
          have hP9 := hP.sub (ws' := [(h0, .inr (4, [.ref kO, .ref nO, .ref rO, .ref mO, .int zs, .ref tO, .ref rdO, .ref lnO, .ref drO, .ref chO])), (kO, .inl (cI, 100, .inl fk)), (rO, .inl (cI, 60, .inl fr)), (mO, .inl (cI, 60, .inl fm)), (chO, .inr (0, [.ref bA, .ref xA, .ref kA, .ref aA, .ref eA, .ref gA, .ref oA, .int rd, .int l_7, .int s_8, .int l_9, .int l_10])), (bA, .inl (cI, 1220, .inl fb)), (xA, .inl (cI, 1220, .inl fx)), (kA, .inl (cI, 1220, .inl fq)), (aA, .inl (cI, 1220, .inl fa)), (eA, .inl (cI, 1220, .inl fe)), (gA, .inl (cI, 1220, .inl fg)), (oA, .inl (cI, 20, .inl fo)), (lnO, .inr (1, [.ref gF, .ref gK, .ref gT, .ref gC, .ref gM, .int gc, .ref eF, .ref eC, .ref eM, .int ec, .ref hopA])), (gF, .inl (cI, 40, .inl fgF)), (gK, .inl (cI, 40, .inl fgK)), (gT, .inl (cI, 40, .inl fgT)), (gC, .inl (cI, 40, .inl fgC)), (gM, .inl (cI, 40, .inl fgM)), (eF, .inl (cI, 10, .inl feF)), (eC, .inl (cI, 10, .inl feC)), (eM, .inl (cI, 10, .inl feM))]) [0, 1, 2, 3, 13, 14, 15, 16, 4, 5, 6, 7, 17, 8, 9, 10, 11, 12, 18, 19, 20] rfl
          have hD9 := hD.sub (ws' := [(h0, .inr (4, [.ref kO, .ref nO, .ref rO, .ref mO, .int zs, .ref tO, .ref rdO, .ref lnO, .ref drO, .ref chO])), (kO, .inl (cI, 100, .inl fk)), (rO, .inl (cI, 60, .inl fr)), (mO, .inl (cI, 60, .inl fm)), (chO, .inr (0, [.ref bA, .ref xA, .ref kA, .ref aA, .ref eA, .ref gA, .ref oA, .int rd, .int l_7, .int s_8, .int l_9, .int l_10])), (bA, .inl (cI, 1220, .inl fb)), (xA, .inl (cI, 1220, .inl fx)), (kA, .inl (cI, 1220, .inl fq)), (aA, .inl (cI, 1220, .inl fa)), (eA, .inl (cI, 1220, .inl fe)), (gA, .inl (cI, 1220, .inl fg)), (oA, .inl (cI, 20, .inl fo)), (lnO, .inr (1, [.ref gF, .ref gK, .ref gT, .ref gC, .ref gM, .int gc, .ref eF, .ref eC, .ref eM, .int ec, .ref hopA])), (gF, .inl (cI, 40, .inl fgF)), (gK, .inl (cI, 40, .inl fgK)), (gT, .inl (cI, 40, .inl fgT)), (gC, .inl (cI, 40, .inl fgC)), (gM, .inl (cI, 40, .inl fgM)), (eF, .inl (cI, 10, .inl feF)), (eC, .inl (cI, 10, .inl feC)), (eM, .inl (cI, 10, .inl feM))]) [0, 1, 2, 3, 13, 14, 15, 16, 4, 5, 6, 7, 17, 8, 9, 10, 11, 12, 18, 19, 20] (by decide) rfl
          have hens0 : ¬ rd < 0 := hrd
          exact W.vret hx hb hr (fun t ht hW => ⟨⟨(fb, fx, fq, fa, fe, fg, fo, rd, l_7, s_8, l_9, l_10), rfl, hens0, by rw [ht]; exact hP9, hD9⟩, hS.F ht⟩) hS.2.2 dX4_solve_79
        · skip
          refine lv_aload_n hx hb dX4_solve_22 rfl (lv_at hl 1 rfl) ?_
          refine lv_iload_n hx hb dX4_solve_23 rfl (lv_at hl 0 rfl) ?_
          have hPc := hP.sub (ws' := [(h0, .inr (4, [.ref kO, .ref nO, .ref rO, .ref mO, .int zs, .ref tO, .ref rdO, .ref lnO, .ref drO, .ref chO])), (rO, .inl (cI, 60, .inl fr))]) [0, 2] rfl
          have hDc := hD.sub (ws' := [(h0, .inr (4, [.ref kO, .ref nO, .ref rO, .ref mO, .int zs, .ref tO, .ref rdO, .ref lnO, .ref drO, .ref chO])), (rO, .inl (cI, 60, .inl fr))]) [0, 2] (by decide) rfl
          have hFc := va_free (wc := [(h0, .inr (4, [.ref kO, .ref nO, .ref rO, .ref mO, .int zs, .ref tO, .ref rdO, .ref lnO, .ref drO, .ref chO])), (rO, .inl (cI, 60, .inl fr))]) hD hS hA [0, 2] rfl
          refine va_calli (va_runV (As := [.int iv]) (rest := []) ⟨hx, hb, hml, hown, hts⟩ (k_wordAt l dC dI cI cZ cC cJ H.size  h0 kO nO rO mO zs tO rdO lnO drO chO fr iv ) (cwV 1 hts gX4_solve_X4_wordAt rfl rfl rfl (by decide +kernel) ⟨Nat.le_of_ble_eq_true rfl, Nat.le_of_ble_eq_true rfl⟩) ⟨sPre_blind, va_recv hK hPc (ci := 4) (q0 := 0) rfl rfl, fun U hU hW => ⟨rfl, sPre_ok hsk hPc hDc hU hW⟩⟩ rfl rfl hl.1 rfl (lv_room (Nat.le_of_ble_eq_true rfl)) dX4_solve_24 ⟨(show 0 + 0 ≤ 0 by omega), (show 0 + 0 ≤ 0 by omega)⟩) hS (fun q _ h => hFc q h) hFc (fun r_11 u t H1 locs ht hvm hw hB hz1 hk1 hS => ?_)
          try dsimp only at hw hB
          obtain ⟨hP1, hD1⟩ := hB
          rw [ht] at hP1
          obtain ⟨hP, hD⟩ := va_join (wr := [(kO, .inl (cI, 100, .inl fk)), (mO, .inl (cI, 60, .inl fm)), (chO, .inr (0, [.ref bA, .ref xA, .ref kA, .ref aA, .ref eA, .ref gA, .ref oA, .int rd, .int lc, .int sc, .int ln, .int le])), (bA, .inl (cI, 1220, .inl fb)), (xA, .inl (cI, 1220, .inl fx)), (kA, .inl (cI, 1220, .inl fq)), (aA, .inl (cI, 1220, .inl fa)), (eA, .inl (cI, 1220, .inl fe)), (gA, .inl (cI, 1220, .inl fg)), (oA, .inl (cI, 20, .inl fo)), (lnO, .inr (1, [.ref gF, .ref gK, .ref gT, .ref gC, .ref gM, .int gc, .ref eF, .ref eC, .ref eM, .int ec, .ref hopA])), (gF, .inl (cI, 40, .inl fgF)), (gK, .inl (cI, 40, .inl fgK)), (gT, .inl (cI, 40, .inl fgT)), (gC, .inl (cI, 40, .inl fgC)), (gM, .inl (cI, 40, .inl fgM)), (eF, .inl (cI, 10, .inl feF)), (eC, .inl (cI, 10, .inl feC)), (eM, .inl (cI, 10, .inl feM))]) (w1 := [(h0, .inr (4, [.ref kO, .ref nO, .ref rO, .ref mO, .int zs, .ref tO, .ref rdO, .ref lnO, .ref drO, .ref chO])), (rO, .inl (cI, 60, .inl fr))]) hP hD [0, 2] [1, 3, 4, 5, 6, 7, 8, 9, 10, 11, 12, 13, 14, 15, 16, 17, 18, 19, 20] rfl rfl (by decide) (by decide) hk1 hFc hP1 hD1
          generalize H1 = H at hP hS ⊢
          have hP : va_P (dC, dI) vwCl [(kO, .inl (cI, 100, .inl fk)), (mO, .inl (cI, 60, .inl fm)), (chO, .inr (0, [.ref bA, .ref xA, .ref kA, .ref aA, .ref eA, .ref gA, .ref oA, .int rd, .int lc, .int sc, .int ln, .int le])), (bA, .inl (cI, 1220, .inl fb)), (xA, .inl (cI, 1220, .inl fx)), (kA, .inl (cI, 1220, .inl fq)), (aA, .inl (cI, 1220, .inl fa)), (eA, .inl (cI, 1220, .inl fe)), (gA, .inl (cI, 1220, .inl fg)), (oA, .inl (cI, 20, .inl fo)), (lnO, .inr (1, [.ref gF, .ref gK, .ref gT, .ref gC, .ref gM, .int gc, .ref eF, .ref eC, .ref eM, .int ec, .ref hopA])), (gF, .inl (cI, 40, .inl fgF)), (gK, .inl (cI, 40, .inl fgK)), (gT, .inl (cI, 40, .inl fgT)), (gC, .inl (cI, 40, .inl fgC)), (gM, .inl (cI, 40, .inl fgM)), (eF, .inl (cI, 10, .inl feF)), (eC, .inl (cI, 10, .inl feC)), (eM, .inl (cI, 10, .inl feM)), (h0, .inr (4, [.ref kO, .ref nO, .ref rO, .ref mO, .int zs, .ref tO, .ref rdO, .ref lnO, .ref drO, .ref chO])), (rO, .inl (cI, 60, .inl fr))] H := hP
          have hD : va_D A [(kO, .inl (cI, 100, .inl fk)), (mO, .inl (cI, 60, .inl fm)), (chO, .inr (0, [.ref bA, .ref xA, .ref kA, .ref aA, .ref eA, .ref gA, .ref oA, .int rd, .int lc, .int sc, .int ln, .int le])), (bA, .inl (cI, 1220, .inl fb)), (xA, .inl (cI, 1220, .inl fx)), (kA, .inl (cI, 1220, .inl fq)), (aA, .inl (cI, 1220, .inl fa)), (eA, .inl (cI, 1220, .inl fe)), (gA, .inl (cI, 1220, .inl fg)), (oA, .inl (cI, 20, .inl fo)), (lnO, .inr (1, [.ref gF, .ref gK, .ref gT, .ref gC, .ref gM, .int gc, .ref eF, .ref eC, .ref eM, .int ec, .ref hopA])), (gF, .inl (cI, 40, .inl fgF)), (gK, .inl (cI, 40, .inl fgK)), (gT, .inl (cI, 40, .inl fgT)), (gC, .inl (cI, 40, .inl fgC)), (gM, .inl (cI, 40, .inl fgM)), (eF, .inl (cI, 10, .inl feF)), (eC, .inl (cI, 10, .inl feC)), (eM, .inl (cI, 10, .inl feM)), (h0, .inr (4, [.ref kO, .ref nO, .ref rO, .ref mO, .int zs, .ref tO, .ref rdO, .ref lnO, .ref drO, .ref chO])), (rO, .inl (cI, 60, .inl fr))] := hD
          have hw_r_11 := hw
          refine lv_istore_n (lv' := [(2, .int r_11), (1, .int iv), (0, .ref h0)]) hx hb dX4_solve_27 rfl hl (by decide) rfl (fun ls hl => ?_)
          refine lv_aload_n hx hb dX4_solve_28 rfl (lv_at hl 2 rfl) ?_
          refine va_get (D := (dC, dI)) (ci := 4) (v := .ref chO) (C := RX4) (T := TX4) (N := 10) hx hb hts i4 hown hK hP 19 rfl rfl 9 (by decide) (hts (.fieldLink RX4 52 "StopSetter" "chart" "LStopSetter$Chart;") (by decide +kernel)) (fun _ h9 => h9) rfl dX4_solve_29 ?_
          refine lv_aload_n hx hb dX4_solve_32 rfl (lv_at hl 2 rfl) ?_
          refine va_get (D := (dC, dI)) (ci := 4) (v := .ref lnO) (C := RX4) (T := TX4) (N := 10) hx hb hts i4 hown hK hP 19 rfl rfl 7 (by decide) (hts (.fieldLink RX4 42 "StopSetter" "lines" "LStopSetter$Grammar;") (by decide +kernel)) (fun _ h9 => h9) rfl dX4_solve_33 ?_
          refine lv_iload_n hx hb dX4_solve_36 rfl (lv_at hl 0 rfl) ?_
          have hPc := hP.sub (ws' := []) [] rfl
          have hDc := hD.sub (ws' := []) [] (by decide) rfl
          have hFc := va_free (wc := []) hD hS hA [] rfl
          refine va_calli (va_runS (As := [.int r_11]) (rest := [.ref lnO, .ref chO]) ⟨hx, hb, hml, hown, hts⟩ (k_isWord l dC dI cI cZ cC cJ H.size  r_11 ) (va_cwS 1 hts gX4_solve_X4_isWord rfl rfl rfl (by decide +kernel) ⟨Nat.le_of_ble_eq_true rfl, Nat.le_of_ble_eq_true rfl⟩) ⟨sPre_blind, fun U hU hW => ⟨rfl, sPre_ok hsk hPc hDc hU hW⟩⟩ rfl rfl hl.1 rfl (lv_room (Nat.le_of_ble_eq_true rfl)) dX4_solve_37 ⟨(show 0 + 0 ≤ 0 by omega), (show 0 + 0 ≤ 0 by omega)⟩) hS (fun q _ h => hFc q h) hFc (fun r_12 u t H1 locs ht hvm hw hB hz1 hk1 hS => ?_)
          try dsimp only at hw hB
          have hw_13 := hw
          obtain rfl : r_12 = isW r_11 := hw_13
          obtain ⟨hP1, hD1⟩ := hB
          rw [ht] at hP1
          obtain ⟨hP, hD⟩ := va_join (wr := [(kO, .inl (cI, 100, .inl fk)), (mO, .inl (cI, 60, .inl fm)), (chO, .inr (0, [.ref bA, .ref xA, .ref kA, .ref aA, .ref eA, .ref gA, .ref oA, .int rd, .int lc, .int sc, .int ln, .int le])), (bA, .inl (cI, 1220, .inl fb)), (xA, .inl (cI, 1220, .inl fx)), (kA, .inl (cI, 1220, .inl fq)), (aA, .inl (cI, 1220, .inl fa)), (eA, .inl (cI, 1220, .inl fe)), (gA, .inl (cI, 1220, .inl fg)), (oA, .inl (cI, 20, .inl fo)), (lnO, .inr (1, [.ref gF, .ref gK, .ref gT, .ref gC, .ref gM, .int gc, .ref eF, .ref eC, .ref eM, .int ec, .ref hopA])), (gF, .inl (cI, 40, .inl fgF)), (gK, .inl (cI, 40, .inl fgK)), (gT, .inl (cI, 40, .inl fgT)), (gC, .inl (cI, 40, .inl fgC)), (gM, .inl (cI, 40, .inl fgM)), (eF, .inl (cI, 10, .inl feF)), (eC, .inl (cI, 10, .inl feC)), (eM, .inl (cI, 10, .inl feM)), (h0, .inr (4, [.ref kO, .ref nO, .ref rO, .ref mO, .int zs, .ref tO, .ref rdO, .ref lnO, .ref drO, .ref chO])), (rO, .inl (cI, 60, .inl fr))]) (w1 := []) hP hD [] [0, 1, 2, 3, 4, 5, 6, 7, 8, 9, 10, 11, 12, 13, 14, 15, 16, 17, 18, 19, 20] rfl rfl (by decide) (by decide) hk1 hFc hP1 hD1
          generalize H1 = H at hP hS ⊢
          have hP : va_P (dC, dI) vwCl [(kO, .inl (cI, 100, .inl fk)), (mO, .inl (cI, 60, .inl fm)), (chO, .inr (0, [.ref bA, .ref xA, .ref kA, .ref aA, .ref eA, .ref gA, .ref oA, .int rd, .int lc, .int sc, .int ln, .int le])), (bA, .inl (cI, 1220, .inl fb)), (xA, .inl (cI, 1220, .inl fx)), (kA, .inl (cI, 1220, .inl fq)), (aA, .inl (cI, 1220, .inl fa)), (eA, .inl (cI, 1220, .inl fe)), (gA, .inl (cI, 1220, .inl fg)), (oA, .inl (cI, 20, .inl fo)), (lnO, .inr (1, [.ref gF, .ref gK, .ref gT, .ref gC, .ref gM, .int gc, .ref eF, .ref eC, .ref eM, .int ec, .ref hopA])), (gF, .inl (cI, 40, .inl fgF)), (gK, .inl (cI, 40, .inl fgK)), (gT, .inl (cI, 40, .inl fgT)), (gC, .inl (cI, 40, .inl fgC)), (gM, .inl (cI, 40, .inl fgM)), (eF, .inl (cI, 10, .inl feF)), (eC, .inl (cI, 10, .inl feC)), (eM, .inl (cI, 10, .inl feM)), (h0, .inr (4, [.ref kO, .ref nO, .ref rO, .ref mO, .int zs, .ref tO, .ref rdO, .ref lnO, .ref drO, .ref chO])), (rO, .inl (cI, 60, .inl fr))] H := hP
          have hD : va_D A [(kO, .inl (cI, 100, .inl fk)), (mO, .inl (cI, 60, .inl fm)), (chO, .inr (0, [.ref bA, .ref xA, .ref kA, .ref aA, .ref eA, .ref gA, .ref oA, .int rd, .int lc, .int sc, .int ln, .int le])), (bA, .inl (cI, 1220, .inl fb)), (xA, .inl (cI, 1220, .inl fx)), (kA, .inl (cI, 1220, .inl fq)), (aA, .inl (cI, 1220, .inl fa)), (eA, .inl (cI, 1220, .inl fe)), (gA, .inl (cI, 1220, .inl fg)), (oA, .inl (cI, 20, .inl fo)), (lnO, .inr (1, [.ref gF, .ref gK, .ref gT, .ref gC, .ref gM, .int gc, .ref eF, .ref eC, .ref eM, .int ec, .ref hopA])), (gF, .inl (cI, 40, .inl fgF)), (gK, .inl (cI, 40, .inl fgK)), (gT, .inl (cI, 40, .inl fgT)), (gC, .inl (cI, 40, .inl fgC)), (gM, .inl (cI, 40, .inl fgM)), (eF, .inl (cI, 10, .inl feF)), (eC, .inl (cI, 10, .inl feC)), (eM, .inl (cI, 10, .inl feM)), (h0, .inr (4, [.ref kO, .ref nO, .ref rO, .ref mO, .int zs, .ref tO, .ref rdO, .ref lnO, .ref drO, .ref chO])), (rO, .inl (cI, 60, .inl fr))] := hD
          refine lv_if_eq (tgt := 52) hx hb dX4_solve_40 (by decide) (fun c_40 => ?_) (fun c_40 => ?_)
          · skip
            refine lv_iconst (v := 0) hx hb dX4_solve_52 (by decide) ?_
            refine lv_aload_n hx hb dX4_solve_53 rfl (lv_at hl 2 rfl) ?_
            refine va_get (D := (dC, dI)) (ci := 4) (v := .ref mO) (C := RX4) (T := TX4) (N := 10) hx hb hts i4 hown hK hP 19 rfl rfl 3 (by decide) (hts (.fieldLink RX4 20 "StopSetter" "marks" "[I") (by decide +kernel)) (fun _ h9 => h9) rfl dX4_solve_54 ?_
            refine lv_iload_n hx hb dX4_solve_57 rfl (lv_at hl 1 rfl) ?_
            refine va_iald hx hb hK hP 1 0 rfl rfl (in_ge (c := 60) rfl hge_8 c_19) dX4_solve_58 ?_
            refine lv_topi (fun v_14 ev_14 => ?_)
            have hPc := hP.sub (ws' := [(chO, .inr (0, [.ref bA, .ref xA, .ref kA, .ref aA, .ref eA, .ref gA, .ref oA, .int rd, .int lc, .int sc, .int ln, .int le])), (bA, .inl (cI, 1220, .inl fb)), (xA, .inl (cI, 1220, .inl fx)), (kA, .inl (cI, 1220, .inl fq)), (aA, .inl (cI, 1220, .inl fa)), (eA, .inl (cI, 1220, .inl fe)), (gA, .inl (cI, 1220, .inl fg)), (oA, .inl (cI, 20, .inl fo)), (lnO, .inr (1, [.ref gF, .ref gK, .ref gT, .ref gC, .ref gM, .int gc, .ref eF, .ref eC, .ref eM, .int ec, .ref hopA])), (gF, .inl (cI, 40, .inl fgF)), (gK, .inl (cI, 40, .inl fgK)), (gT, .inl (cI, 40, .inl fgT)), (gC, .inl (cI, 40, .inl fgC)), (gM, .inl (cI, 40, .inl fgM)), (eF, .inl (cI, 10, .inl feF)), (eC, .inl (cI, 10, .inl feC)), (eM, .inl (cI, 10, .inl feM))]) [2, 3, 4, 5, 6, 7, 8, 9, 10, 11, 12, 13, 14, 15, 16, 17, 18] rfl
            have hDc := hD.sub (ws' := [(chO, .inr (0, [.ref bA, .ref xA, .ref kA, .ref aA, .ref eA, .ref gA, .ref oA, .int rd, .int lc, .int sc, .int ln, .int le])), (bA, .inl (cI, 1220, .inl fb)), (xA, .inl (cI, 1220, .inl fx)), (kA, .inl (cI, 1220, .inl fq)), (aA, .inl (cI, 1220, .inl fa)), (eA, .inl (cI, 1220, .inl fe)), (gA, .inl (cI, 1220, .inl fg)), (oA, .inl (cI, 20, .inl fo)), (lnO, .inr (1, [.ref gF, .ref gK, .ref gT, .ref gC, .ref gM, .int gc, .ref eF, .ref eC, .ref eM, .int ec, .ref hopA])), (gF, .inl (cI, 40, .inl fgF)), (gK, .inl (cI, 40, .inl fgK)), (gT, .inl (cI, 40, .inl fgT)), (gC, .inl (cI, 40, .inl fgC)), (gM, .inl (cI, 40, .inl fgM)), (eF, .inl (cI, 10, .inl feF)), (eC, .inl (cI, 10, .inl feC)), (eM, .inl (cI, 10, .inl feM))]) [2, 3, 4, 5, 6, 7, 8, 9, 10, 11, 12, 13, 14, 15, 16, 17, 18] (by decide) rfl
            have hFc := va_free (wc := [(chO, .inr (0, [.ref bA, .ref xA, .ref kA, .ref aA, .ref eA, .ref gA, .ref oA, .int rd, .int lc, .int sc, .int ln, .int le])), (bA, .inl (cI, 1220, .inl fb)), (xA, .inl (cI, 1220, .inl fx)), (kA, .inl (cI, 1220, .inl fq)), (aA, .inl (cI, 1220, .inl fa)), (eA, .inl (cI, 1220, .inl fe)), (gA, .inl (cI, 1220, .inl fg)), (oA, .inl (cI, 20, .inl fo)), (lnO, .inr (1, [.ref gF, .ref gK, .ref gT, .ref gC, .ref gM, .int gc, .ref eF, .ref eC, .ref eM, .int ec, .ref hopA])), (gF, .inl (cI, 40, .inl fgF)), (gK, .inl (cI, 40, .inl fgK)), (gT, .inl (cI, 40, .inl fgT)), (gC, .inl (cI, 40, .inl fgC)), (gM, .inl (cI, 40, .inl fgM)), (eF, .inl (cI, 10, .inl feF)), (eC, .inl (cI, 10, .inl feC)), (eM, .inl (cI, 10, .inl feM))]) hD hS hA [2, 3, 4, 5, 6, 7, 8, 9, 10, 11, 12, 13, 14, 15, 16, 17, 18] rfl
            refine va_callv (va_runV (As := [.ref lnO, .int 0, .int v_14]) (rest := []) ⟨hx, hb, hml, hown, hts⟩ (k_extend l dC dI cI cZ cC cJ H.size  chO bA xA kA aA eA gA oA rd lc sc ln le fb fx fq fa fe fg fo lnO gF gK gT gC gM gc eF eC eM ec hopA fgF fgK fgT fgC fgM feF feC feM 0 v_14 hrd) (cwV 3 hts gX4_solve_X0_extend rfl rfl rfl (by decide +kernel) ⟨Nat.le_of_ble_eq_true rfl, Nat.le_of_ble_eq_true rfl⟩) ⟨sPre_blind, va_recv hK hPc (ci := 0) (q0 := 0) rfl rfl, fun U hU hW => ⟨rfl, sPre_ok hsk hPc hDc hU hW⟩⟩ rfl rfl hl.1 rfl (lv_room (Nat.le_of_ble_eq_true rfl)) dX4_solve_59 ⟨(show 0 + 0 ≤ 0 by omega), (show 0 + 0 ≤ 0 by omega)⟩) hS (fun q _ h => hFc q h) hFc (fun u t H1 locs ht hvm hw hB hz1 hk1 hS => ?_)
            obtain ⟨f_16, f_17, f_18, f_19, f_20, f_21, f_22, r_23⟩ := u
            try dsimp only at hw hB
            have he_24 := hw
            have he_24 : ¬ r_23 < 0 := he_24
            obtain ⟨hP1, hD1⟩ := hB
            rw [ht] at hP1
            obtain ⟨hP, hD⟩ := va_join (wr := [(kO, .inl (cI, 100, .inl fk)), (mO, .inl (cI, 60, .inl fm)), (h0, .inr (4, [.ref kO, .ref nO, .ref rO, .ref mO, .int zs, .ref tO, .ref rdO, .ref lnO, .ref drO, .ref chO])), (rO, .inl (cI, 60, .inl fr))]) (w1 := [(chO, .inr (0, [.ref bA, .ref xA, .ref kA, .ref aA, .ref eA, .ref gA, .ref oA, .int r_23, .int lc, .int sc, .int ln, .int le])), (bA, .inl (cI, 1220, .inl f_16)), (xA, .inl (cI, 1220, .inl f_17)), (kA, .inl (cI, 1220, .inl f_22)), (aA, .inl (cI, 1220, .inl f_18)), (eA, .inl (cI, 1220, .inl f_19)), (gA, .inl (cI, 1220, .inl f_20)), (oA, .inl (cI, 20, .inl f_21)), (lnO, .inr (1, [.ref gF, .ref gK, .ref gT, .ref gC, .ref gM, .int gc, .ref eF, .ref eC, .ref eM, .int ec, .ref hopA])), (gF, .inl (cI, 40, .inl fgF)), (gK, .inl (cI, 40, .inl fgK)), (gT, .inl (cI, 40, .inl fgT)), (gC, .inl (cI, 40, .inl fgC)), (gM, .inl (cI, 40, .inl fgM)), (eF, .inl (cI, 10, .inl feF)), (eC, .inl (cI, 10, .inl feC)), (eM, .inl (cI, 10, .inl feM))]) hP hD [2, 3, 4, 5, 6, 7, 8, 9, 10, 11, 12, 13, 14, 15, 16, 17, 18] [0, 1, 19, 20] rfl rfl (by decide) (by decide) hk1 hFc hP1 hD1
            generalize H1 = H at hP hS ⊢
            have hP : va_P (dC, dI) vwCl [(kO, .inl (cI, 100, .inl fk)), (mO, .inl (cI, 60, .inl fm)), (h0, .inr (4, [.ref kO, .ref nO, .ref rO, .ref mO, .int zs, .ref tO, .ref rdO, .ref lnO, .ref drO, .ref chO])), (rO, .inl (cI, 60, .inl fr)), (chO, .inr (0, [.ref bA, .ref xA, .ref kA, .ref aA, .ref eA, .ref gA, .ref oA, .int r_23, .int lc, .int sc, .int ln, .int le])), (bA, .inl (cI, 1220, .inl f_16)), (xA, .inl (cI, 1220, .inl f_17)), (kA, .inl (cI, 1220, .inl f_22)), (aA, .inl (cI, 1220, .inl f_18)), (eA, .inl (cI, 1220, .inl f_19)), (gA, .inl (cI, 1220, .inl f_20)), (oA, .inl (cI, 20, .inl f_21)), (lnO, .inr (1, [.ref gF, .ref gK, .ref gT, .ref gC, .ref gM, .int gc, .ref eF, .ref eC, .ref eM, .int ec, .ref hopA])), (gF, .inl (cI, 40, .inl fgF)), (gK, .inl (cI, 40, .inl fgK)), (gT, .inl (cI, 40, .inl fgT)), (gC, .inl (cI, 40, .inl fgC)), (gM, .inl (cI, 40, .inl fgM)), (eF, .inl (cI, 10, .inl feF)), (eC, .inl (cI, 10, .inl feC)), (eM, .inl (cI, 10, .inl feM))] H := hP
            have hD : va_D A [(kO, .inl (cI, 100, .inl fk)), (mO, .inl (cI, 60, .inl fm)), (h0, .inr (4, [.ref kO, .ref nO, .ref rO, .ref mO, .int zs, .ref tO, .ref rdO, .ref lnO, .ref drO, .ref chO])), (rO, .inl (cI, 60, .inl fr)), (chO, .inr (0, [.ref bA, .ref xA, .ref kA, .ref aA, .ref eA, .ref gA, .ref oA, .int r_23, .int lc, .int sc, .int ln, .int le])), (bA, .inl (cI, 1220, .inl f_16)), (xA, .inl (cI, 1220, .inl f_17)), (kA, .inl (cI, 1220, .inl f_22)), (aA, .inl (cI, 1220, .inl f_18)), (eA, .inl (cI, 1220, .inl f_19)), (gA, .inl (cI, 1220, .inl f_20)), (oA, .inl (cI, 20, .inl f_21)), (lnO, .inr (1, [.ref gF, .ref gK, .ref gT, .ref gC, .ref gM, .int gc, .ref eF, .ref eC, .ref eM, .int ec, .ref hopA])), (gF, .inl (cI, 40, .inl fgF)), (gK, .inl (cI, 40, .inl fgK)), (gT, .inl (cI, 40, .inl fgT)), (gC, .inl (cI, 40, .inl fgC)), (gM, .inl (cI, 40, .inl fgM)), (eF, .inl (cI, 10, .inl feF)), (eC, .inl (cI, 10, .inl feC)), (eM, .inl (cI, 10, .inl feM))] := hD
            refine lv_iinc (v := (iv + 1)) (lv' := [(1, .int (iv + 1)), (2, .int r_11), (0, .ref h0)]) hx hb dX4_solve_62 hl (k := 1) rfl rfl (by decide) rfl (fun ls hl => ?_)
            refine lv_goto (tgt := 8) hx hb dX4_solve_65 (by decide) ?_
            exact ih_8  (iv + 1) r_23 f_16 f_17 f_22 f_18 f_19 f_20 f_21 (up_f c_13 fuel_8) (he_24) (up_ge0 hge_8 c_13) _ _ _ (hP.sub [2, 0, 3, 1, 4, 5, 6, 7, 8, 9, 10, 11, 12, 13, 14, 15, 16, 17, 18, 19, 20] rfl) (hD.sub [2, 0, 3, 1, 4, 5, 6, 7, 8, 9, 10, 11, 12, 13, 14, 15, 16, 17, 18, 19, 20] (by decide) rfl) hS (lv_sub hl [0, 2] rfl)
          · skip
            refine lv_aload_n hx hb dX4_solve_43 rfl (lv_at hl 2 rfl) ?_
            refine va_get (D := (dC, dI)) (ci := 4) (v := .ref kO) (C := RX4) (T := TX4) (N := 10) hx hb hts i4 hown hK hP 19 rfl rfl 0 (by decide) (hts (.fieldLink RX4 9 "StopSetter" "kindsOf" "[I") (by decide +kernel)) (fun _ h9 => h9) rfl dX4_solve_44 ?_
            refine lv_iload_n hx hb dX4_solve_47 rfl (lv_at hl 0 rfl) ?_
            refine va_iald hx hb hK hP 0 0 rfl rfl (isW_in c_40) dX4_solve_48 ?_
            refine lv_topi (fun v_25 ev_25 => ?_)
            refine lv_goto (tgt := 53) hx hb dX4_solve_49 (by decide) ?_
            refine lv_aload_n hx hb dX4_solve_53 rfl (lv_at hl 2 rfl) ?_
            refine va_get (D := (dC, dI)) (ci := 4) (v := .ref mO) (C := RX4) (T := TX4) (N := 10) hx hb hts i4 hown hK hP 19 rfl rfl 3 (by decide) (hts (.fieldLink RX4 20 "StopSetter" "marks" "[I") (by decide +kernel)) (fun _ h9 => h9) rfl dX4_solve_54 ?_
            refine lv_iload_n hx hb dX4_solve_57 rfl (lv_at hl 1 rfl) ?_
            refine va_iald hx hb hK hP 1 0 rfl rfl (in_ge (c := 60) rfl hge_8 c_19) dX4_solve_58 ?_
            refine lv_topi (fun v_26 ev_26 => ?_)
            have hPc := hP.sub (ws' := [(chO, .inr (0, [.ref bA, .ref xA, .ref kA, .ref aA, .ref eA, .ref gA, .ref oA, .int rd, .int lc, .int sc, .int ln, .int le])), (bA, .inl (cI, 1220, .inl fb)), (xA, .inl (cI, 1220, .inl fx)), (kA, .inl (cI, 1220, .inl fq)), (aA, .inl (cI, 1220, .inl fa)), (eA, .inl (cI, 1220, .inl fe)), (gA, .inl (cI, 1220, .inl fg)), (oA, .inl (cI, 20, .inl fo)), (lnO, .inr (1, [.ref gF, .ref gK, .ref gT, .ref gC, .ref gM, .int gc, .ref eF, .ref eC, .ref eM, .int ec, .ref hopA])), (gF, .inl (cI, 40, .inl fgF)), (gK, .inl (cI, 40, .inl fgK)), (gT, .inl (cI, 40, .inl fgT)), (gC, .inl (cI, 40, .inl fgC)), (gM, .inl (cI, 40, .inl fgM)), (eF, .inl (cI, 10, .inl feF)), (eC, .inl (cI, 10, .inl feC)), (eM, .inl (cI, 10, .inl feM))]) [2, 3, 4, 5, 6, 7, 8, 9, 10, 11, 12, 13, 14, 15, 16, 17, 18] rfl
            have hDc := hD.sub (ws' := [(chO, .inr (0, [.ref bA, .ref xA, .ref kA, .ref aA, .ref eA, .ref gA, .ref oA, .int rd, .int lc, .int sc, .int ln, .int le])), (bA, .inl (cI, 1220, .inl fb)), (xA, .inl (cI, 1220, .inl fx)), (kA, .inl (cI, 1220, .inl fq)), (aA, .inl (cI, 1220, .inl fa)), (eA, .inl (cI, 1220, .inl fe)), (gA, .inl (cI, 1220, .inl fg)), (oA, .inl (cI, 20, .inl fo)), (lnO, .inr (1, [.ref gF, .ref gK, .ref gT, .ref gC, .ref gM, .int gc, .ref eF, .ref eC, .ref eM, .int ec, .ref hopA])), (gF, .inl (cI, 40, .inl fgF)), (gK, .inl (cI, 40, .inl fgK)), (gT, .inl (cI, 40, .inl fgT)), (gC, .inl (cI, 40, .inl fgC)), (gM, .inl (cI, 40, .inl fgM)), (eF, .inl (cI, 10, .inl feF)), (eC, .inl (cI, 10, .inl feC)), (eM, .inl (cI, 10, .inl feM))]) [2, 3, 4, 5, 6, 7, 8, 9, 10, 11, 12, 13, 14, 15, 16, 17, 18] (by decide) rfl
            have hFc := va_free (wc := [(chO, .inr (0, [.ref bA, .ref xA, .ref kA, .ref aA, .ref eA, .ref gA, .ref oA, .int rd, .int lc, .int sc, .int ln, .int le])), (bA, .inl (cI, 1220, .inl fb)), (xA, .inl (cI, 1220, .inl fx)), (kA, .inl (cI, 1220, .inl fq)), (aA, .inl (cI, 1220, .inl fa)), (eA, .inl (cI, 1220, .inl fe)), (gA, .inl (cI, 1220, .inl fg)), (oA, .inl (cI, 20, .inl fo)), (lnO, .inr (1, [.ref gF, .ref gK, .ref gT, .ref gC, .ref gM, .int gc, .ref eF, .ref eC, .ref eM, .int ec, .ref hopA])), (gF, .inl (cI, 40, .inl fgF)), (gK, .inl (cI, 40, .inl fgK)), (gT, .inl (cI, 40, .inl fgT)), (gC, .inl (cI, 40, .inl fgC)), (gM, .inl (cI, 40, .inl fgM)), (eF, .inl (cI, 10, .inl feF)), (eC, .inl (cI, 10, .inl feC)), (eM, .inl (cI, 10, .inl feM))]) hD hS hA [2, 3, 4, 5, 6, 7, 8, 9, 10, 11, 12, 13, 14, 15, 16, 17, 18] rfl
            refine va_callv (va_runV (As := [.ref lnO, .int v_25, .int v_26]) (rest := []) ⟨hx, hb, hml, hown, hts⟩ (k_extend l dC dI cI cZ cC cJ H.size  chO bA xA kA aA eA gA oA rd lc sc ln le fb fx fq fa fe fg fo lnO gF gK gT gC gM gc eF eC eM ec hopA fgF fgK fgT fgC fgM feF feC feM v_25 v_26 hrd) (cwV 3 hts gX4_solve_X0_extend rfl rfl rfl (by decide +kernel) ⟨Nat.le_of_ble_eq_true rfl, Nat.le_of_ble_eq_true rfl⟩) ⟨sPre_blind, va_recv hK hPc (ci := 0) (q0 := 0) rfl rfl, fun U hU hW => ⟨rfl, sPre_ok hsk hPc hDc hU hW⟩⟩ rfl rfl hl.1 rfl (lv_room (Nat.le_of_ble_eq_true rfl)) dX4_solve_59 ⟨(show 0 + 0 ≤ 0 by omega), (show 0 + 0 ≤ 0 by omega)⟩) hS (fun q _ h => hFc q h) hFc (fun u t H1 locs ht hvm hw hB hz1 hk1 hS => ?_)
            obtain ⟨f_28, f_29, f_30, f_31, f_32, f_33, f_34, r_35⟩ := u
            try dsimp only at hw hB
            have he_36 := hw
            have he_36 : ¬ r_35 < 0 := he_36
            obtain ⟨hP1, hD1⟩ := hB
            rw [ht] at hP1
            obtain ⟨hP, hD⟩ := va_join (wr := [(kO, .inl (cI, 100, .inl fk)), (mO, .inl (cI, 60, .inl fm)), (h0, .inr (4, [.ref kO, .ref nO, .ref rO, .ref mO, .int zs, .ref tO, .ref rdO, .ref lnO, .ref drO, .ref chO])), (rO, .inl (cI, 60, .inl fr))]) (w1 := [(chO, .inr (0, [.ref bA, .ref xA, .ref kA, .ref aA, .ref eA, .ref gA, .ref oA, .int r_35, .int lc, .int sc, .int ln, .int le])), (bA, .inl (cI, 1220, .inl f_28)), (xA, .inl (cI, 1220, .inl f_29)), (kA, .inl (cI, 1220, .inl f_34)), (aA, .inl (cI, 1220, .inl f_30)), (eA, .inl (cI, 1220, .inl f_31)), (gA, .inl (cI, 1220, .inl f_32)), (oA, .inl (cI, 20, .inl f_33)), (lnO, .inr (1, [.ref gF, .ref gK, .ref gT, .ref gC, .ref gM, .int gc, .ref eF, .ref eC, .ref eM, .int ec, .ref hopA])), (gF, .inl (cI, 40, .inl fgF)), (gK, .inl (cI, 40, .inl fgK)), (gT, .inl (cI, 40, .inl fgT)), (gC, .inl (cI, 40, .inl fgC)), (gM, .inl (cI, 40, .inl fgM)), (eF, .inl (cI, 10, .inl feF)), (eC, .inl (cI, 10, .inl feC)), (eM, .inl (cI, 10, .inl feM))]) hP hD [2, 3, 4, 5, 6, 7, 8, 9, 10, 11, 12, 13, 14, 15, 16, 17, 18] [0, 1, 19, 20] rfl rfl (by decide) (by decide) hk1 hFc hP1 hD1
            generalize H1 = H at hP hS ⊢
            have hP : va_P (dC, dI) vwCl [(kO, .inl (cI, 100, .inl fk)), (mO, .inl (cI, 60, .inl fm)), (h0, .inr (4, [.ref kO, .ref nO, .ref rO, .ref mO, .int zs, .ref tO, .ref rdO, .ref lnO, .ref drO, .ref chO])), (rO, .inl (cI, 60, .inl fr)), (chO, .inr (0, [.ref bA, .ref xA, .ref kA, .ref aA, .ref eA, .ref gA, .ref oA, .int r_35, .int lc, .int sc, .int ln, .int le])), (bA, .inl (cI, 1220, .inl f_28)), (xA, .inl (cI, 1220, .inl f_29)), (kA, .inl (cI, 1220, .inl f_34)), (aA, .inl (cI, 1220, .inl f_30)), (eA, .inl (cI, 1220, .inl f_31)), (gA, .inl (cI, 1220, .inl f_32)), (oA, .inl (cI, 20, .inl f_33)), (lnO, .inr (1, [.ref gF, .ref gK, .ref gT, .ref gC, .ref gM, .int gc, .ref eF, .ref eC, .ref eM, .int ec, .ref hopA])), (gF, .inl (cI, 40, .inl fgF)), (gK, .inl (cI, 40, .inl fgK)), (gT, .inl (cI, 40, .inl fgT)), (gC, .inl (cI, 40, .inl fgC)), (gM, .inl (cI, 40, .inl fgM)), (eF, .inl (cI, 10, .inl feF)), (eC, .inl (cI, 10, .inl feC)), (eM, .inl (cI, 10, .inl feM))] H := hP
            have hD : va_D A [(kO, .inl (cI, 100, .inl fk)), (mO, .inl (cI, 60, .inl fm)), (h0, .inr (4, [.ref kO, .ref nO, .ref rO, .ref mO, .int zs, .ref tO, .ref rdO, .ref lnO, .ref drO, .ref chO])), (rO, .inl (cI, 60, .inl fr)), (chO, .inr (0, [.ref bA, .ref xA, .ref kA, .ref aA, .ref eA, .ref gA, .ref oA, .int r_35, .int lc, .int sc, .int ln, .int le])), (bA, .inl (cI, 1220, .inl f_28)), (xA, .inl (cI, 1220, .inl f_29)), (kA, .inl (cI, 1220, .inl f_34)), (aA, .inl (cI, 1220, .inl f_30)), (eA, .inl (cI, 1220, .inl f_31)), (gA, .inl (cI, 1220, .inl f_32)), (oA, .inl (cI, 20, .inl f_33)), (lnO, .inr (1, [.ref gF, .ref gK, .ref gT, .ref gC, .ref gM, .int gc, .ref eF, .ref eC, .ref eM, .int ec, .ref hopA])), (gF, .inl (cI, 40, .inl fgF)), (gK, .inl (cI, 40, .inl fgK)), (gT, .inl (cI, 40, .inl fgT)), (gC, .inl (cI, 40, .inl fgC)), (gM, .inl (cI, 40, .inl fgM)), (eF, .inl (cI, 10, .inl feF)), (eC, .inl (cI, 10, .inl feC)), (eM, .inl (cI, 10, .inl feM))] := hD
            refine lv_iinc (v := (iv + 1)) (lv' := [(1, .int (iv + 1)), (2, .int r_11), (0, .ref h0)]) hx hb dX4_solve_62 hl (k := 1) rfl rfl (by decide) rfl (fun ls hl => ?_)
            refine lv_goto (tgt := 8) hx hb dX4_solve_65 (by decide) ?_
            exact ih_8  (iv + 1) r_35 f_28 f_29 f_34 f_30 f_31 f_32 f_33 (up_f c_13 fuel_8) (he_36) (up_ge0 hge_8 c_13) _ _ _ (hP.sub [2, 0, 3, 1, 4, 5, 6, 7, 8, 9, 10, 11, 12, 13, 14, 15, 16, 17, 18, 19, 20] rfl) (hD.sub [2, 0, 3, 1, 4, 5, 6, 7, 8, 9, 10, 11, 12, 13, 14, 15, 16, 17, 18, 19, 20] (by decide) rfl) hS (lv_sub hl [0, 2] rfl)
  exact lp_8 (((zs : Int32).toInt - (rd : Int32).toInt).toNat + 1) rd rd fb fx fq fa fe fg fo (by omega) (hrd) (hrd) _ _ _ hP hD hS (lv_sub hl [0, 1] rfl)

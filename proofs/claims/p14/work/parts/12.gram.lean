theorem up_ge0 {i n : Int32} (h : ¬ i < 0) (h2 : ¬ n ≤ i) : ¬ (i + 1) < 0 := by
  have h1 : i.toInt < n.toInt := by
    have := Int32.not_le.mp h2
    rw [Int32.lt_iff_toInt_lt] at this
    exact this
  have h0 : (0 : Int) ≤ i.toInt := by
    have := Int32.not_lt.mp h
    rw [Int32.le_iff_toInt_le] at this
    exact this
  have h2 : n.toInt < 2 ^ 31 := Int32.toInt_lt n
  have h3 : (i + 1).toInt = i.toInt + 1 := by
    rw [Int32.toInt_add]
    show (i.toInt + 1).bmod (2 ^ 32) = i.toInt + 1
    rw [Int.bmod_eq_of_le] <;> omega
  rw [Int32.lt_iff_toInt_lt, h3]
  show ¬ i.toInt + 1 < 0
  omega
theorem lt_ge0 {i n : Int32} (h : ¬ i < 0) (h2 : i < n) : ¬ (i + 1) < 0 := up_ge0 h (Int32.not_le.mpr h2)
set_option maxHeartbeats 4000000 in
set_option maxRecDepth 100000 in
theorem k_passHopeBack (l : Launch) (dC : Nat → ClassId) (dI : Nat → Nat → Nat) (cI cZ cC cJ : ClassId) (sz : Nat) (h0 : Nat) (gF : Nat) (gK : Nat) (gT : Nat) (gC : Nat) (gM : Nat) (gc : Int32) (eF : Nat) (eC : Nat) (eM : Nat) (ec : Int32) (hopA : Nat) (fgF : Nat → Int32) (fgT : Nat → Int32) (fgM : Nat → Int32) (fhopA : Nat → Int32) (p0 : Int32) (p1 : Int32)  : Met l yX1_passHopeBack wsX1_passHopeBack ({ frames := 2, cells := 0, slots := 0, locals := 43 }) (va_Pc [.ref h0, .int p0, .int p1] (sPre dC dI cI cZ cC cJ [(h0, .inr (1, [.ref gF, .ref gK, .ref gT, .ref gC, .ref gM, .int gc, .ref eF, .ref eC, .ref eM, .int ec, .ref hopA])), (gF, .inl (cI, 40, .inl fgF)), (gT, .inl (cI, 40, .inl fgT)), (gM, .inl (cI, 40, .inl fgM)), (hopA, .inl (cZ, 20, .inl fhopA))] sz)) (va_Qv (fun (u : (Nat → Int32)) => match u with | fhopA2 => (fhopA2 = phB gc fgF fgT fgM fhopA p0 p1)) (fun (u : (Nat → Int32)) t => match u with | fhopA2 => sB dC dI (va_A [(h0, .inr (1, [.ref gF, .ref gK, .ref gT, .ref gC, .ref gM, .int gc, .ref eF, .ref eC, .ref eM, .int ec, .ref hopA])), (gF, .inl (cI, 40, .inl fgF)), (gT, .inl (cI, 40, .inl fgT)), (gM, .inl (cI, 40, .inl fgM)), (hopA, .inl (cZ, 20, .inl fhopA))] sz) [(h0, .inr (1, [.ref gF, .ref gK, .ref gT, .ref gC, .ref gM, .int gc, .ref eF, .ref eC, .ref eM, .int ec, .ref hopA])), (gF, .inl (cI, 40, .inl fgF)), (gT, .inl (cI, 40, .inl fgT)), (gM, .inl (cI, 40, .inl fgM)), (hopA, .inl (cZ, 20, .inl fhopA2))] t) (va_A [(h0, .inr (1, [.ref gF, .ref gK, .ref gT, .ref gC, .ref gM, .int gc, .ref eF, .ref eC, .ref eM, .int ec, .ref hopA])), (gF, .inl (cI, 40, .inl fgF)), (gT, .inl (cI, 40, .inl fgT)), (gM, .inl (cI, 40, .inl fgM)), (hopA, .inl (cZ, 20, .inl fhopA))] sz)) 0 0 (va_A [(h0, .inr (1, [.ref gF, .ref gK, .ref gT, .ref gC, .ref gM, .int gc, .ref eF, .ref eC, .ref eM, .int ec, .ref hopA])), (gF, .inl (cI, 40, .inl fgF)), (gT, .inl (cI, 40, .inl fgT)), (gM, .inl (cI, 40, .inl fgM)), (hopA, .inl (cZ, 20, .inl fhopA))] sz) := by
  refine Met.ofW (cc := cX1_passHopeBack) (maxL := 3) (ret := none) (by decide) rfl ?_
  intro p e s m args below meth c s₁ B hml hv
  obtain ⟨rfl, hsz, hP, hsk, hD0⟩ := hv
  have hx := B.exec
  have hb := B.bytes
  have hr := B.returns
  have hts := atoms_spec (ws := wsX1_passHopeBack) B.pre
  have hown : s.vm.findClass RX1 = some m.cls := findClass_of_methodNamed B.named
  have hlocks := B.notSynchronized
  have hK := hsk.1
  have i1 : ∀ w ∈ wsX10, w ∈ wsX1_passHopeBack := by decide +kernel
  subst hsz
  have hD := hD0.self (sz := s.heap.size)
  generalize hAe : va_A [(h0, .inr (1, [.ref gF, .ref gK, .ref gT, .ref gC, .ref gM, .int gc, .ref eF, .ref eC, .ref eM, .int ec, .ref hopA])), (gF, .inl (cI, 40, .inl fgF)), (gT, .inl (cI, 40, .inl fgT)), (gM, .inl (cI, 40, .inl fgM)), (hopA, .inl (cZ, 20, .inl fhopA))] s.heap.size = A at hD ⊢
  have hA : ∀ q : Nat, s.heap.size ≤ q → A q := fun q h => by rw [← hAe]; exact Or.inr h
  have hS : va_S A s.heap s.heap [] := va_S.rf
  have hl := lv_entry ([.ref h0, .int p0, .int p1]) (n := 3) (Nat.le_of_ble_eq_true rfl)
  rw [lg_entry_eq]
  generalize (lg_sl ([.ref h0, .int p0, .int p1]) ++ List.replicate (3 - (lg_sl ([.ref h0, .int p0, .int p1])).length) Slot.unset).toArray = ls at hl ⊢
  have hl : lv_has ls 3 [(0, .ref h0), (1, .int p0), (2, .int p1)] := hl
  refine lv_aload_n hx hb dX1_passHopeBack_0 rfl (lv_at hl 0 rfl) ?_
  refine lv_iload_n hx hb dX1_passHopeBack_1 rfl (lv_at hl 1 rfl) ?_
  have hPc := hP.sub (ws' := [(h0, .inr (1, [.ref gF, .ref gK, .ref gT, .ref gC, .ref gM, .int gc, .ref eF, .ref eC, .ref eM, .int ec, .ref hopA]))]) [0] rfl
  have hDc := hD.sub (ws' := [(h0, .inr (1, [.ref gF, .ref gK, .ref gT, .ref gC, .ref gM, .int gc, .ref eF, .ref eC, .ref eM, .int ec, .ref hopA]))]) [0] (by decide) rfl
  have hFc := va_free (wc := [(h0, .inr (1, [.ref gF, .ref gK, .ref gT, .ref gC, .ref gM, .int gc, .ref eF, .ref eC, .ref eM, .int ec, .ref hopA]))]) hD hS hA [0] rfl
  refine va_calli (va_runV (As := [.int p0]) (rest := []) ⟨hx, hb, hml, hown, hts⟩ (k_hasGo l dC dI cI cZ cC cJ s.heap.size  h0 gF gK gT gC gM gc eF eC eM ec hopA p0 ) (cwV 1 hts gX1_passHopeBack_X1_hasGo rfl rfl rfl (by decide +kernel) ⟨Nat.le_of_ble_eq_true rfl, Nat.le_of_ble_eq_true rfl⟩) ⟨sPre_blind, va_recv hK hPc (ci := 1) (q0 := 0) rfl rfl, fun U hU hW => ⟨rfl, sPre_ok hsk hPc hDc hU hW⟩⟩ rfl rfl hl.1 rfl (lv_room (Nat.le_of_ble_eq_true rfl)) dX1_passHopeBack_2 ⟨(show 0 + 0 ≤ 0 by omega), (show 0 + 0 ≤ 0 by omega)⟩) hS (fun q _ h => hFc q h) hFc (fun r_1 u t H1 locs ht hvm hw hB hz1 hk1 hS => ?_)
  try dsimp only at hw hB
  have hw_2 := hw
  obtain rfl : r_1 = bnd 40 p0 gc := hw_2
  obtain ⟨hP1, hD1⟩ := hB
  rw [ht] at hP1
  obtain ⟨hP, hD⟩ := va_join (wr := [(gF, .inl (cI, 40, .inl fgF)), (gT, .inl (cI, 40, .inl fgT)), (gM, .inl (cI, 40, .inl fgM)), (hopA, .inl (cZ, 20, .inl fhopA))]) (w1 := [(h0, .inr (1, [.ref gF, .ref gK, .ref gT, .ref gC, .ref gM, .int gc, .ref eF, .ref eC, .ref eM, .int ec, .ref hopA]))]) hP hD [0] [1, 2, 3, 4] rfl rfl (by decide) (by decide) hk1 hFc hP1 hD1
  generalize H1 = H at hP hS ⊢
  have hP : va_P (dC, dI) vwCl [(gF, .inl (cI, 40, .inl fgF)), (gT, .inl (cI, 40, .inl fgT)), (gM, .inl (cI, 40, .inl fgM)), (hopA, .inl (cZ, 20, .inl fhopA)), (h0, .inr (1, [.ref gF, .ref gK, .ref gT, .ref gC, .ref gM, .int gc, .ref eF, .ref eC, .ref eM, .int ec, .ref hopA]))] H := hP
  have hD : va_D A [(gF, .inl (cI, 40, .inl fgF)), (gT, .inl (cI, 40, .inl fgT)), (gM, .inl (cI, 40, .inl fgM)), (hopA, .inl (cZ, 20, .inl fhopA)), (h0, .inr (1, [.ref gF, .ref gK, .ref gT, .ref gC, .ref gM, .int gc, .ref eF, .ref eC, .ref eM, .int ec, .ref hopA]))] := hD
  refine lv_if_eq (tgt := 35) hx hb dX1_passHopeBack_5 (by decide) (fun c_5 => ?_) (fun c_5 => ?_)
  · skip
    have hP9 := hP.sub (ws' := [(h0, .inr (1, [.ref gF, .ref gK, .ref gT, .ref gC, .ref gM, .int gc, .ref eF, .ref eC, .ref eM, .int ec, .ref hopA])), (gF, .inl (cI, 40, .inl fgF)), (gT, .inl (cI, 40, .inl fgT)), (gM, .inl (cI, 40, .inl fgM)), (hopA, .inl (cZ, 20, .inl fhopA))]) [4, 0, 1, 2, 3] rfl
    have hD9 := hD.sub (ws' := [(h0, .inr (1, [.ref gF, .ref gK, .ref gT, .ref gC, .ref gM, .int gc, .ref eF, .ref eC, .ref eM, .int ec, .ref hopA])), (gF, .inl (cI, 40, .inl fgF)), (gT, .inl (cI, 40, .inl fgT)), (gM, .inl (cI, 40, .inl fgM)), (hopA, .inl (cZ, 20, .inl fhopA))]) [4, 0, 1, 2, 3] (by decide) rfl
    have hens0 : fhopA = phB gc fgF fgT fgM fhopA p0 p1 := (by unfold phB; rw [if_pos c_5])
    exact W.vret hx hb hr (fun t ht hW => ⟨⟨(fhopA), rfl, hens0, by rw [ht]; exact hP9, hD9⟩, hS.F ht⟩) hS.2.2 dX1_passHopeBack_35
  · skip
    refine lv_aload_n hx hb dX1_passHopeBack_8 rfl (lv_at hl 0 rfl) ?_
    refine lv_aload_n hx hb dX1_passHopeBack_9 rfl (lv_at hl 0 rfl) ?_
    refine lv_iload_n hx hb dX1_passHopeBack_10 rfl (lv_at hl 1 rfl) ?_
    refine lv_iload_n hx hb dX1_passHopeBack_11 rfl (lv_at hl 2 rfl) ?_
    have hPc := hP.sub (ws' := [(h0, .inr (1, [.ref gF, .ref gK, .ref gT, .ref gC, .ref gM, .int gc, .ref eF, .ref eC, .ref eM, .int ec, .ref hopA])), (gT, .inl (cI, 40, .inl fgT)), (gM, .inl (cI, 40, .inl fgM))]) [4, 1, 2] rfl
    have hDc := hD.sub (ws' := [(h0, .inr (1, [.ref gF, .ref gK, .ref gT, .ref gC, .ref gM, .int gc, .ref eF, .ref eC, .ref eM, .int ec, .ref hopA])), (gT, .inl (cI, 40, .inl fgT)), (gM, .inl (cI, 40, .inl fgM))]) [4, 1, 2] (by decide) rfl
    have hFc := va_free (wc := [(h0, .inr (1, [.ref gF, .ref gK, .ref gT, .ref gC, .ref gM, .int gc, .ref eF, .ref eC, .ref eM, .int ec, .ref hopA])), (gT, .inl (cI, 40, .inl fgT)), (gM, .inl (cI, 40, .inl fgM))]) hD hS hA [4, 1, 2] rfl
    refine va_calli (va_runV (As := [.int p0, .int p1]) (rest := [.ref h0]) ⟨hx, hb, hml, hown, hts⟩ (k_gnodeBehind l dC dI cI cZ cC cJ H.size  h0 gF gK gT gC gM gc eF eC eM ec hopA fgT fgM p0 p1 ) (cwV 2 hts gX1_passHopeBack_X1_nodeBehind rfl rfl rfl (by decide +kernel) ⟨Nat.le_of_ble_eq_true rfl, Nat.le_of_ble_eq_true rfl⟩) ⟨sPre_blind, va_recv hK hPc (ci := 1) (q0 := 0) rfl rfl, fun U hU hW => ⟨rfl, sPre_ok hsk hPc hDc hU hW⟩⟩ rfl rfl hl.1 rfl (lv_room (Nat.le_of_ble_eq_true rfl)) dX1_passHopeBack_12 ⟨(show 0 + 0 ≤ 0 by omega), (show 0 + 0 ≤ 0 by omega)⟩) hS (fun q _ h => hFc q h) hFc (fun r_3 u t H1 locs ht hvm hw hB hz1 hk1 hS => ?_)
    try dsimp only at hw hB
    have hw_4 := hw
    obtain rfl : r_3 = nbC gc fgT fgM p0 p1 := hw_4
    obtain ⟨hP1, hD1⟩ := hB
    rw [ht] at hP1
    obtain ⟨hP, hD⟩ := va_join (wr := [(gF, .inl (cI, 40, .inl fgF)), (hopA, .inl (cZ, 20, .inl fhopA))]) (w1 := [(h0, .inr (1, [.ref gF, .ref gK, .ref gT, .ref gC, .ref gM, .int gc, .ref eF, .ref eC, .ref eM, .int ec, .ref hopA])), (gT, .inl (cI, 40, .inl fgT)), (gM, .inl (cI, 40, .inl fgM))]) hP hD [4, 1, 2] [0, 3] rfl rfl (by decide) (by decide) hk1 hFc hP1 hD1
    generalize H1 = H at hP hS ⊢
    have hP : va_P (dC, dI) vwCl [(gF, .inl (cI, 40, .inl fgF)), (hopA, .inl (cZ, 20, .inl fhopA)), (h0, .inr (1, [.ref gF, .ref gK, .ref gT, .ref gC, .ref gM, .int gc, .ref eF, .ref eC, .ref eM, .int ec, .ref hopA])), (gT, .inl (cI, 40, .inl fgT)), (gM, .inl (cI, 40, .inl fgM))] H := hP
    have hD : va_D A [(gF, .inl (cI, 40, .inl fgF)), (hopA, .inl (cZ, 20, .inl fhopA)), (h0, .inr (1, [.ref gF, .ref gK, .ref gT, .ref gC, .ref gM, .int gc, .ref eF, .ref eC, .ref eM, .int ec, .ref hopA])), (gT, .inl (cI, 40, .inl fgT)), (gM, .inl (cI, 40, .inl fgM))] := hD
    have hPc := hP.sub (ws' := [(h0, .inr (1, [.ref gF, .ref gK, .ref gT, .ref gC, .ref gM, .int gc, .ref eF, .ref eC, .ref eM, .int ec, .ref hopA])), (hopA, .inl (cZ, 20, .inl fhopA))]) [2, 1] rfl
    have hDc := hD.sub (ws' := [(h0, .inr (1, [.ref gF, .ref gK, .ref gT, .ref gC, .ref gM, .int gc, .ref eF, .ref eC, .ref eM, .int ec, .ref hopA])), (hopA, .inl (cZ, 20, .inl fhopA))]) [2, 1] (by decide) rfl
    have hFc := va_free (wc := [(h0, .inr (1, [.ref gF, .ref gK, .ref gT, .ref gC, .ref gM, .int gc, .ref eF, .ref eC, .ref eM, .int ec, .ref hopA])), (hopA, .inl (cZ, 20, .inl fhopA))]) hD hS hA [2, 1] rfl
    refine va_calli (va_runV (As := [.int (nbC gc fgT fgM p0 p1)]) (rest := []) ⟨hx, hb, hml, hown, hts⟩ (k_isHopeful l dC dI cI cZ cC cJ H.size  h0 gF gK gT gC gM gc eF eC eM ec hopA fhopA (nbC gc fgT fgM p0 p1) ) (cwV 1 hts gX1_passHopeBack_X1_isHopeful rfl rfl rfl (by decide +kernel) ⟨Nat.le_of_ble_eq_true rfl, Nat.le_of_ble_eq_true rfl⟩) ⟨sPre_blind, va_recv hK hPc (ci := 1) (q0 := 0) rfl rfl, fun U hU hW => ⟨rfl, sPre_ok hsk hPc hDc hU hW⟩⟩ rfl rfl hl.1 rfl (lv_room (Nat.le_of_ble_eq_true rfl)) dX1_passHopeBack_15 ⟨(show 0 + 0 ≤ 0 by omega), (show 0 + 0 ≤ 0 by omega)⟩) hS (fun q _ h => hFc q h) hFc (fun r_5 u t H1 locs ht hvm hw hB hz1 hk1 hS => ?_)
    try dsimp only at hw hB
    have hw_6 := hw
    obtain rfl : r_5 = isH fhopA (nbC gc fgT fgM p0 p1) := hw_6
    obtain ⟨hP1, hD1⟩ := hB
    rw [ht] at hP1
    obtain ⟨hP, hD⟩ := va_join (wr := [(gF, .inl (cI, 40, .inl fgF)), (gT, .inl (cI, 40, .inl fgT)), (gM, .inl (cI, 40, .inl fgM))]) (w1 := [(h0, .inr (1, [.ref gF, .ref gK, .ref gT, .ref gC, .ref gM, .int gc, .ref eF, .ref eC, .ref eM, .int ec, .ref hopA])), (hopA, .inl (cZ, 20, .inl fhopA))]) hP hD [2, 1] [0, 3, 4] rfl rfl (by decide) (by decide) hk1 hFc hP1 hD1
    generalize H1 = H at hP hS ⊢
    have hP : va_P (dC, dI) vwCl [(gF, .inl (cI, 40, .inl fgF)), (gT, .inl (cI, 40, .inl fgT)), (gM, .inl (cI, 40, .inl fgM)), (h0, .inr (1, [.ref gF, .ref gK, .ref gT, .ref gC, .ref gM, .int gc, .ref eF, .ref eC, .ref eM, .int ec, .ref hopA])), (hopA, .inl (cZ, 20, .inl fhopA))] H := hP
    have hD : va_D A [(gF, .inl (cI, 40, .inl fgF)), (gT, .inl (cI, 40, .inl fgT)), (gM, .inl (cI, 40, .inl fgM)), (h0, .inr (1, [.ref gF, .ref gK, .ref gT, .ref gC, .ref gM, .int gc, .ref eF, .ref eC, .ref eM, .int ec, .ref hopA])), (hopA, .inl (cZ, 20, .inl fhopA))] := hD
    refine lv_if_eq (tgt := 35) hx hb dX1_passHopeBack_18 (by decide) (fun c_18 => ?_) (fun c_18 => ?_)
    · skip
      have hP9 := hP.sub (ws' := [(h0, .inr (1, [.ref gF, .ref gK, .ref gT, .ref gC, .ref gM, .int gc, .ref eF, .ref eC, .ref eM, .int ec, .ref hopA])), (gF, .inl (cI, 40, .inl fgF)), (gT, .inl (cI, 40, .inl fgT)), (gM, .inl (cI, 40, .inl fgM)), (hopA, .inl (cZ, 20, .inl fhopA))]) [3, 0, 1, 2, 4] rfl
      have hD9 := hD.sub (ws' := [(h0, .inr (1, [.ref gF, .ref gK, .ref gT, .ref gC, .ref gM, .int gc, .ref eF, .ref eC, .ref eM, .int ec, .ref hopA])), (gF, .inl (cI, 40, .inl fgF)), (gT, .inl (cI, 40, .inl fgT)), (gM, .inl (cI, 40, .inl fgM)), (hopA, .inl (cZ, 20, .inl fhopA))]) [3, 0, 1, 2, 4] (by decide) rfl
      have hens0 : fhopA = phB gc fgF fgT fgM fhopA p0 p1 := (by unfold phB; rw [if_neg c_5, if_pos c_18])
      exact W.vret hx hb hr (fun t ht hW => ⟨⟨(fhopA), rfl, hens0, by rw [ht]; exact hP9, hD9⟩, hS.F ht⟩) hS.2.2 dX1_passHopeBack_35
    · skip
      refine lv_aload_n hx hb dX1_passHopeBack_21 rfl (lv_at hl 0 rfl) ?_
      refine lv_aload_n hx hb dX1_passHopeBack_22 rfl (lv_at hl 0 rfl) ?_
      refine va_get (D := (dC, dI)) (ci := 1) (v := .ref gF) (C := RX1) (T := TX1) (N := 11) hx hb hts i1 hown hK hP 3 rfl rfl 0 (by decide) (hts (.fieldLink RX1 11 "StopSetter$Grammar" "goFrom" "[I") (by decide +kernel)) (fun _ h9 => h9) rfl dX1_passHopeBack_23 ?_
      refine lv_iload_n hx hb dX1_passHopeBack_26 rfl (lv_at hl 1 rfl) ?_
      refine va_iald hx hb hK hP 0 0 rfl rfl (bnd_in (M := 40) rfl c_5) dX1_passHopeBack_27 ?_
      refine lv_iload_n hx hb dX1_passHopeBack_28 rfl (lv_at hl 2 rfl) ?_
      have hPc := hP.sub (ws' := []) [] rfl
      have hDc := hD.sub (ws' := []) [] (by decide) rfl
      have hFc := va_free (wc := []) hD hS hA [] rfl
      refine va_calli (va_runSN (As := [.int (fgF p0.toNatClampNeg), .int p1]) (rest := [.ref h0]) ⟨hx, hb, hml, hown, hts⟩ (k_nodeOf l dC dI cI cZ cC cJ H.size  (fgF p0.toNatClampNeg) p1 ) ⟨va_cnB (host := "StopSetter") 2 hts gX1_passHopeBack_X4_nodeOf_n56 rfl rfl rfl (hsk.2.2 (RX1, 56, yX4_nodeOf, "StopSetter") (by decide +kernel)) (hts (.initialized RX4) (by decide +kernel)) (by decide +kernel) ⟨Nat.le_of_ble_eq_true rfl, Nat.le_of_ble_eq_true rfl⟩, hts (.static yX4_nodeOf) (by decide +kernel), trivial⟩ ⟨sPre_blind, fun U hU hW => ⟨rfl, sPre_ok hsk hPc hDc hU hW⟩⟩ rfl rfl hl.1 rfl (lv_room (Nat.le_of_ble_eq_true rfl)) dX1_passHopeBack_29 ⟨(show 0 + 0 ≤ 0 by omega), (show 0 + 0 ≤ 0 by omega)⟩) hS (fun q _ h => hFc q h) hFc (fun r_7 u t H1 locs ht hvm hw hB hz1 hk1 hS => ?_)
      try dsimp only at hw hB
      have hw_8 := hw
      obtain rfl : r_7 = ((fgF p0.toNatClampNeg) * 2 + p1) := hw_8
      obtain ⟨hP1, hD1⟩ := hB
      rw [ht] at hP1
      obtain ⟨hP, hD⟩ := va_join (wr := [(gF, .inl (cI, 40, .inl fgF)), (gT, .inl (cI, 40, .inl fgT)), (gM, .inl (cI, 40, .inl fgM)), (h0, .inr (1, [.ref gF, .ref gK, .ref gT, .ref gC, .ref gM, .int gc, .ref eF, .ref eC, .ref eM, .int ec, .ref hopA])), (hopA, .inl (cZ, 20, .inl fhopA))]) (w1 := []) hP hD [] [0, 1, 2, 3, 4] rfl rfl (by decide) (by decide) hk1 hFc hP1 hD1
      generalize H1 = H at hP hS ⊢
      have hP : va_P (dC, dI) vwCl [(gF, .inl (cI, 40, .inl fgF)), (gT, .inl (cI, 40, .inl fgT)), (gM, .inl (cI, 40, .inl fgM)), (h0, .inr (1, [.ref gF, .ref gK, .ref gT, .ref gC, .ref gM, .int gc, .ref eF, .ref eC, .ref eM, .int ec, .ref hopA])), (hopA, .inl (cZ, 20, .inl fhopA))] H := hP
      have hD : va_D A [(gF, .inl (cI, 40, .inl fgF)), (gT, .inl (cI, 40, .inl fgT)), (gM, .inl (cI, 40, .inl fgM)), (h0, .inr (1, [.ref gF, .ref gK, .ref gT, .ref gC, .ref gM, .int gc, .ref eF, .ref eC, .ref eM, .int ec, .ref hopA])), (hopA, .inl (cZ, 20, .inl fhopA))] := hD
      have hPc := hP.sub (ws' := [(h0, .inr (1, [.ref gF, .ref gK, .ref gT, .ref gC, .ref gM, .int gc, .ref eF, .ref eC, .ref eM, .int ec, .ref hopA])), (hopA, .inl (cZ, 20, .inl fhopA))]) [3, 4] rfl
      have hDc := hD.sub (ws' := [(h0, .inr (1, [.ref gF, .ref gK, .ref gT, .ref gC, .ref gM, .int gc, .ref eF, .ref eC, .ref eM, .int ec, .ref hopA])), (hopA, .inl (cZ, 20, .inl fhopA))]) [3, 4] (by decide) rfl
      have hFc := va_free (wc := [(h0, .inr (1, [.ref gF, .ref gK, .ref gT, .ref gC, .ref gM, .int gc, .ref eF, .ref eC, .ref eM, .int ec, .ref hopA])), (hopA, .inl (cZ, 20, .inl fhopA))]) hD hS hA [3, 4] rfl
      refine va_callv (va_runV (As := [.int ((fgF p0.toNatClampNeg) * 2 + p1)]) (rest := []) ⟨hx, hb, hml, hown, hts⟩ (k_setHopeful l dC dI cI cZ cC cJ H.size  h0 gF gK gT gC gM gc eF eC eM ec hopA fhopA ((fgF p0.toNatClampNeg) * 2 + p1) ) (cwV 1 hts gX1_passHopeBack_X1_setHopeful rfl rfl rfl (by decide +kernel) ⟨Nat.le_of_ble_eq_true rfl, Nat.le_of_ble_eq_true rfl⟩) ⟨sPre_blind, va_recv hK hPc (ci := 1) (q0 := 0) rfl rfl, fun U hU hW => ⟨rfl, sPre_ok hsk hPc hDc hU hW⟩⟩ rfl rfl hl.1 rfl (lv_room (Nat.le_of_ble_eq_true rfl)) dX1_passHopeBack_32 ⟨(show 0 + 0 ≤ 0 by omega), (show 0 + 0 ≤ 0 by omega)⟩) hS (fun q _ h => hFc q h) hFc (fun u t H1 locs ht hvm hw hB hz1 hk1 hS => ?_)
      obtain ⟨f_10, rfl⟩ : ∃ z, z = u := ⟨_, rfl⟩
      try dsimp only at hw hB
      have he_11 := hw
      have he_11 : f_10 = stH fhopA ((fgF p0.toNatClampNeg) * 2 + p1) := he_11
      obtain ⟨hP1, hD1⟩ := hB
      rw [ht] at hP1
      obtain ⟨hP, hD⟩ := va_join (wr := [(gF, .inl (cI, 40, .inl fgF)), (gT, .inl (cI, 40, .inl fgT)), (gM, .inl (cI, 40, .inl fgM))]) (w1 := [(h0, .inr (1, [.ref gF, .ref gK, .ref gT, .ref gC, .ref gM, .int gc, .ref eF, .ref eC, .ref eM, .int ec, .ref hopA])), (hopA, .inl (cZ, 20, .inl f_10))]) hP hD [3, 4] [0, 1, 2] rfl rfl (by decide) (by decide) hk1 hFc hP1 hD1
      generalize H1 = H at hP hS ⊢
      have hP : va_P (dC, dI) vwCl [(gF, .inl (cI, 40, .inl fgF)), (gT, .inl (cI, 40, .inl fgT)), (gM, .inl (cI, 40, .inl fgM)), (h0, .inr (1, [.ref gF, .ref gK, .ref gT, .ref gC, .ref gM, .int gc, .ref eF, .ref eC, .ref eM, .int ec, .ref hopA])), (hopA, .inl (cZ, 20, .inl f_10))] H := hP
      have hD : va_D A [(gF, .inl (cI, 40, .inl fgF)), (gT, .inl (cI, 40, .inl fgT)), (gM, .inl (cI, 40, .inl fgM)), (h0, .inr (1, [.ref gF, .ref gK, .ref gT, .ref gC, .ref gM, .int gc, .ref eF, .ref eC, .ref eM, .int ec, .ref hopA])), (hopA, .inl (cZ, 20, .inl f_10))] := hD
      have hP9 := hP.sub (ws' := [(h0, .inr (1, [.ref gF, .ref gK, .ref gT, .ref gC, .ref gM, .int gc, .ref eF, .ref eC, .ref eM, .int ec, .ref hopA])), (gF, .inl (cI, 40, .inl fgF)), (gT, .inl (cI, 40, .inl fgT)), (gM, .inl (cI, 40, .inl fgM)), (hopA, .inl (cZ, 20, .inl f_10))]) [3, 0, 1, 2, 4] rfl
      have hD9 := hD.sub (ws' := [(h0, .inr (1, [.ref gF, .ref gK, .ref gT, .ref gC, .ref gM, .int gc, .ref eF, .ref eC, .ref eM, .int ec, .ref hopA])), (gF, .inl (cI, 40, .inl fgF)), (gT, .inl (cI, 40, .inl fgT)), (gM, .inl (cI, 40, .inl fgM)), (hopA, .inl (cZ, 20, .inl f_10))]) [3, 0, 1, 2, 4] (by decide) rfl
      have hens0 : f_10 = phB gc fgF fgT fgM fhopA p0 p1 := (by unfold phB; rw [if_neg c_5, if_neg c_18]; exact he_11)
      exact W.vret hx hb hr (fun t ht hW => ⟨⟨(f_10), rfl, hens0, by rw [ht]; exact hP9, hD9⟩, hS.F ht⟩) hS.2.2 dX1_passHopeBack_35
set_option maxHeartbeats 4000000 in
set_option maxRecDepth 100000 in
theorem k_findHopeful (l : Launch) (dC : Nat → ClassId) (dI : Nat → Nat → Nat) (cI cZ cC cJ : ClassId) (sz : Nat) (h0 : Nat) (gF : Nat) (gK : Nat) (gT : Nat) (gC : Nat) (gM : Nat) (gnq : Nat) (eF : Nat) (eC : Nat) (eM : Nat) (enq : Nat) (hopA : Nat) (fgF : Nat → Int32) (fgT : Nat → Int32) (fgM : Nat → Int32) (feF : Nat → Int32) (fhopA : Nat → Int32) (hgn : gnq ≤ 40) (hen : enq ≤ 10) : Met l yX1_findHopeful wsX1_findHopeful ({ frames := 3, cells := 0, slots := 0, locals := 65 }) (va_Pc [.ref h0] (sPre dC dI cI cZ cC cJ [(h0, .inr (1, [.ref gF, .ref gK, .ref gT, .ref gC, .ref gM, .int (nI gnq), .ref eF, .ref eC, .ref eM, .int (nI enq), .ref hopA])), (gF, .inl (cI, 40, .inl fgF)), (gT, .inl (cI, 40, .inl fgT)), (gM, .inl (cI, 40, .inl fgM)), (eF, .inl (cI, 10, .inl feF)), (hopA, .inl (cZ, 20, .inl fhopA))] sz)) (va_Qv (fun (u : (Nat → Int32)) => match u with | fhopA2 => (LF (hE enq feF) (hR gnq fgF fgT fgM) (fun v => ¬ fhopA2 v = 0))) (fun (u : (Nat → Int32)) t => match u with | fhopA2 => sB dC dI (va_A [(h0, .inr (1, [.ref gF, .ref gK, .ref gT, .ref gC, .ref gM, .int (nI gnq), .ref eF, .ref eC, .ref eM, .int (nI enq), .ref hopA])), (gF, .inl (cI, 40, .inl fgF)), (gT, .inl (cI, 40, .inl fgT)), (gM, .inl (cI, 40, .inl fgM)), (eF, .inl (cI, 10, .inl feF)), (hopA, .inl (cZ, 20, .inl fhopA))] sz) [(h0, .inr (1, [.ref gF, .ref gK, .ref gT, .ref gC, .ref gM, .int (nI gnq), .ref eF, .ref eC, .ref eM, .int (nI enq), .ref hopA])), (gF, .inl (cI, 40, .inl fgF)), (gT, .inl (cI, 40, .inl fgT)), (gM, .inl (cI, 40, .inl fgM)), (eF, .inl (cI, 10, .inl feF)), (hopA, .inl (cZ, 20, .inl fhopA2))] t) (va_A [(h0, .inr (1, [.ref gF, .ref gK, .ref gT, .ref gC, .ref gM, .int (nI gnq), .ref eF, .ref eC, .ref eM, .int (nI enq), .ref hopA])), (gF, .inl (cI, 40, .inl fgF)), (gT, .inl (cI, 40, .inl fgT)), (gM, .inl (cI, 40, .inl fgM)), (eF, .inl (cI, 10, .inl feF)), (hopA, .inl (cZ, 20, .inl fhopA))] sz)) 0 0 (va_A [(h0, .inr (1, [.ref gF, .ref gK, .ref gT, .ref gC, .ref gM, .int (nI gnq), .ref eF, .ref eC, .ref eM, .int (nI enq), .ref hopA])), (gF, .inl (cI, 40, .inl fgF)), (gT, .inl (cI, 40, .inl fgT)), (gM, .inl (cI, 40, .inl fgM)), (eF, .inl (cI, 10, .inl feF)), (hopA, .inl (cZ, 20, .inl fhopA))] sz) := by
  refine Met.ofW (cc := cX1_findHopeful) (maxL := 3) (ret := none) (by decide) rfl ?_
  intro p e s m args below meth c s₁ B hml hv
  obtain ⟨rfl, hsz, hP, hsk, hD0⟩ := hv
  have hx := B.exec
  have hb := B.bytes
  have hr := B.returns
  have hts := atoms_spec (ws := wsX1_findHopeful) B.pre
  have hown : s.vm.findClass RX1 = some m.cls := findClass_of_methodNamed B.named
  have hlocks := B.notSynchronized
  have hK := hsk.1
  have i1 : ∀ w ∈ wsX10, w ∈ wsX1_findHopeful := by decide +kernel
  subst hsz
  have hD := hD0.self (sz := s.heap.size)
  generalize hAe : va_A [(h0, .inr (1, [.ref gF, .ref gK, .ref gT, .ref gC, .ref gM, .int (nI gnq), .ref eF, .ref eC, .ref eM, .int (nI enq), .ref hopA])), (gF, .inl (cI, 40, .inl fgF)), (gT, .inl (cI, 40, .inl fgT)), (gM, .inl (cI, 40, .inl fgM)), (eF, .inl (cI, 10, .inl feF)), (hopA, .inl (cZ, 20, .inl fhopA))] s.heap.size = A at hD ⊢
  have hA : ∀ q : Nat, s.heap.size ≤ q → A q := fun q h => by rw [← hAe]; exact Or.inr h
  have hS : va_S A s.heap s.heap [] := va_S.rf
  have hl := lv_entry ([.ref h0]) (n := 3) (Nat.le_of_ble_eq_true rfl)
  rw [lg_entry_eq]
  generalize (lg_sl ([.ref h0]) ++ List.replicate (3 - (lg_sl ([.ref h0])).length) Slot.unset).toArray = ls at hl ⊢
  have hl : lv_has ls 3 [(0, .ref h0)] := hl
  refine lv_iconst (v := 0) hx hb dX1_findHopeful_0 (by decide) ?_
  refine lv_istore_n (lv' := [(1, .int 0), (0, .ref h0)]) hx hb dX1_findHopeful_1 rfl hl (by decide) rfl (fun ls hl => ?_)
  have lp_2 : ∀ (n_2 : Nat) (k : Nat) (hf1 : Nat → Int32), 20 + 1 ≤ k + n_2 → k ≤ 20 → (∀ v : Nat, v < k → hf1 v = 0) → ∀ (H : Heap) (locs : List Loc) (ls : Array Slot), va_P (dC, dI) vwCl [(h0, .inr (1, [.ref gF, .ref gK, .ref gT, .ref gC, .ref gM, .int (nI gnq), .ref eF, .ref eC, .ref eM, .int (nI enq), .ref hopA])), (gF, .inl (cI, 40, .inl fgF)), (gT, .inl (cI, 40, .inl fgT)), (gM, .inl (cI, 40, .inl fgM)), (eF, .inl (cI, 10, .inl feF)), (hopA, .inl (cZ, 20, .inl hf1))] H → va_D A [(h0, .inr (1, [.ref gF, .ref gK, .ref gT, .ref gC, .ref gM, .int (nI gnq), .ref eF, .ref eC, .ref eM, .int (nI enq), .ref hopA])), (gF, .inl (cI, 40, .inl fgF)), (gT, .inl (cI, 40, .inl fgT)), (gM, .inl (cI, 40, .inl fgM)), (eF, .inl (cI, 10, .inl feF)), (hopA, .inl (cZ, 20, .inl hf1))] → va_S A s.heap H locs → lv_has ls 3 [(1, .int (nI k)), (0, .ref h0)] → W p l e (headSpec wsX1_findHopeful ({ frames := 3, cells := 0, slots := 0, locals := 65 })).room s m ([.ref h0]).toArray below meth c H locs 0 0 (MQ below (va_Qv (fun (u : (Nat → Int32)) => match u with | fhopA2 => (LF (hE enq feF) (hR gnq fgF fgT fgM) (fun v => ¬ fhopA2 v = 0))) (fun (u : (Nat → Int32)) t => match u with | fhopA2 => sB dC dI A [(h0, .inr (1, [.ref gF, .ref gK, .ref gT, .ref gC, .ref gM, .int (nI gnq), .ref eF, .ref eC, .ref eM, .int (nI enq), .ref hopA])), (gF, .inl (cI, 40, .inl fgF)), (gT, .inl (cI, 40, .inl fgT)), (gM, .inl (cI, 40, .inl fgM)), (eF, .inl (cI, 10, .inl feF)), (hopA, .inl (cZ, 20, .inl fhopA2))] t) A) ([.ref h0]).toArray s 0 0 A) (F0 m 2 ls []) := by
    intro n_2
    induction n_2 with
    | zero =>
      intro k hf1 fuel_2 hk_2 hz
      exact absurd fuel_2 (by omega)
    | succ n_2 ih_2 =>
      intro k hf1 fuel_2 hk_2 hz H locs ls hP hD hS hl
      refine lv_iload_n hx hb dX1_findHopeful_2 rfl (lv_at hl 0 rfl) ?_
      refine lv_bipush (v := 20) hx hb dX1_findHopeful_3 (by decide) ?_
      refine lv_icmp_ge (tgt := 21) hx hb dX1_findHopeful_5 (by decide) (fun c_5 => ?_) (fun c_5 => ?_)
      · skip
        have hz20 : ∀ v : Nat, v < 20 → hf1 v = 0 := fun v hv => hz v (by have := (nI_leI (a := 20) (b := k) (by omega) (by omega)).mp c_5; omega)
        refine lv_iconst (v := 0) hx hb dX1_findHopeful_21 (by decide) ?_
        refine lv_istore_n (lv' := [(1, .int 0), (0, .ref h0)]) hx hb dX1_findHopeful_22 rfl hl (by decide) rfl (fun ls hl => ?_)
        have lp_23 : ∀ (n_23 : Nat) (jq : Nat) (hf2 : Nat → Int32), enq + 1 ≤ jq + n_23 → jq ≤ enq → hSo (hE enq feF) (hR gnq fgF fgT fgM) hf2 → eSt jq feF hf2 → ∀ (H : Heap) (locs : List Loc) (ls : Array Slot), va_P (dC, dI) vwCl [(h0, .inr (1, [.ref gF, .ref gK, .ref gT, .ref gC, .ref gM, .int (nI gnq), .ref eF, .ref eC, .ref eM, .int (nI enq), .ref hopA])), (gF, .inl (cI, 40, .inl fgF)), (gT, .inl (cI, 40, .inl fgT)), (gM, .inl (cI, 40, .inl fgM)), (eF, .inl (cI, 10, .inl feF)), (hopA, .inl (cZ, 20, .inl hf2))] H → va_D A [(h0, .inr (1, [.ref gF, .ref gK, .ref gT, .ref gC, .ref gM, .int (nI gnq), .ref eF, .ref eC, .ref eM, .int (nI enq), .ref hopA])), (gF, .inl (cI, 40, .inl fgF)), (gT, .inl (cI, 40, .inl fgT)), (gM, .inl (cI, 40, .inl fgM)), (eF, .inl (cI, 10, .inl feF)), (hopA, .inl (cZ, 20, .inl hf2))] → va_S A s.heap H locs → lv_has ls 3 [(1, .int (nI jq)), (0, .ref h0)] → W p l e (headSpec wsX1_findHopeful ({ frames := 3, cells := 0, slots := 0, locals := 65 })).room s m ([.ref h0]).toArray below meth c H locs 0 0 (MQ below (va_Qv (fun (u : (Nat → Int32)) => match u with | fhopA2 => (LF (hE enq feF) (hR gnq fgF fgT fgM) (fun v => ¬ fhopA2 v = 0))) (fun (u : (Nat → Int32)) t => match u with | fhopA2 => sB dC dI A [(h0, .inr (1, [.ref gF, .ref gK, .ref gT, .ref gC, .ref gM, .int (nI gnq), .ref eF, .ref eC, .ref eM, .int (nI enq), .ref hopA])), (gF, .inl (cI, 40, .inl fgF)), (gT, .inl (cI, 40, .inl fgT)), (gM, .inl (cI, 40, .inl fgM)), (eF, .inl (cI, 10, .inl feF)), (hopA, .inl (cZ, 20, .inl fhopA2))] t) A) ([.ref h0]).toArray s 0 0 A) (F0 m 23 ls []) := by
          intro n_23
          induction n_23 with
          | zero =>
            intro jq hf2 fuel_23 hj hS2 hE2
            exact absurd fuel_23 (by omega)
          | succ n_23 ih_23 =>
            intro jq hf2 fuel_23 hj hS2 hE2 H locs ls hP hD hS hl
            refine lv_iload_n hx hb dX1_findHopeful_23 rfl (lv_at hl 0 rfl) ?_
            refine lv_aload_n hx hb dX1_findHopeful_24 rfl (lv_at hl 1 rfl) ?_
            refine va_get (D := (dC, dI)) (ci := 1) (v := .int (nI enq)) (C := RX1) (T := TX1) (N := 11) hx hb hts i1 hown hK hP 0 rfl rfl 9 (by decide) (hts (.fieldLink RX1 46 "StopSetter$Grammar" "endCount" "I") (by decide +kernel)) (fun _ h9 => h9) rfl dX1_findHopeful_25 ?_
            refine lv_icmp_ge (tgt := 63) hx hb dX1_findHopeful_28 (by decide) (fun c_28 => ?_) (fun c_28 => ?_)
            · skip
              have hjE : jq = enq := by have := (nI_leI (a := enq) (b := jq) (by omega) (by omega)).mp c_28; omega
              refine lv_iconst (v := 0) hx hb dX1_findHopeful_63 (by decide) ?_
              refine lv_istore_n (lv' := [(1, .int 0), (0, .ref h0)]) hx hb dX1_findHopeful_64 rfl hl (by decide) rfl (fun ls hl => ?_)
              have lp_65 : ∀ (n_65 : Nat) (rq : Nat) (hf3 : Nat → Int32), 20 + 1 ≤ rq + n_65 → rq ≤ 20 → rdI gnq enq fgF fgT fgM feF hf3 rq → ∀ (H : Heap) (locs : List Loc) (ls : Array Slot), va_P (dC, dI) vwCl [(h0, .inr (1, [.ref gF, .ref gK, .ref gT, .ref gC, .ref gM, .int (nI gnq), .ref eF, .ref eC, .ref eM, .int (nI enq), .ref hopA])), (gF, .inl (cI, 40, .inl fgF)), (gT, .inl (cI, 40, .inl fgT)), (gM, .inl (cI, 40, .inl fgM)), (eF, .inl (cI, 10, .inl feF)), (hopA, .inl (cZ, 20, .inl hf3))] H → va_D A [(h0, .inr (1, [.ref gF, .ref gK, .ref gT, .ref gC, .ref gM, .int (nI gnq), .ref eF, .ref eC, .ref eM, .int (nI enq), .ref hopA])), (gF, .inl (cI, 40, .inl fgF)), (gT, .inl (cI, 40, .inl fgT)), (gM, .inl (cI, 40, .inl fgM)), (eF, .inl (cI, 10, .inl feF)), (hopA, .inl (cZ, 20, .inl hf3))] → va_S A s.heap H locs → lv_has ls 3 [(1, .int (nI rq)), (0, .ref h0)] → W p l e (headSpec wsX1_findHopeful ({ frames := 3, cells := 0, slots := 0, locals := 65 })).room s m ([.ref h0]).toArray below meth c H locs 0 0 (MQ below (va_Qv (fun (u : (Nat → Int32)) => match u with | fhopA2 => (LF (hE enq feF) (hR gnq fgF fgT fgM) (fun v => ¬ fhopA2 v = 0))) (fun (u : (Nat → Int32)) t => match u with | fhopA2 => sB dC dI A [(h0, .inr (1, [.ref gF, .ref gK, .ref gT, .ref gC, .ref gM, .int (nI gnq), .ref eF, .ref eC, .ref eM, .int (nI enq), .ref hopA])), (gF, .inl (cI, 40, .inl fgF)), (gT, .inl (cI, 40, .inl fgT)), (gM, .inl (cI, 40, .inl fgM)), (eF, .inl (cI, 10, .inl feF)), (hopA, .inl (cZ, 20, .inl fhopA2))] t) A) ([.ref h0]).toArray s 0 0 A) (F0 m 65 ls []) := by
                intro n_65
                induction n_65 with
                | zero =>
                  intro rq hf3 fuel_65 hk_65 hRd
                  exact absurd fuel_65 (by omega)
                | succ n_65 ih_65 =>
                  intro rq hf3 fuel_65 hk_65 hRd H locs ls hP hD hS hl
                  refine lv_iload_n hx hb dX1_findHopeful_65 rfl (lv_at hl 0 rfl) ?_
                  refine lv_bipush (v := 20) hx hb dX1_findHopeful_66 (by decide) ?_
                  refine lv_icmp_ge (tgt := 105) hx hb dX1_findHopeful_68 (by decide) (fun c_68 => ?_) (fun c_68 => ?_)
                  · skip
                    have hP9 := hP.sub (ws' := [(h0, .inr (1, [.ref gF, .ref gK, .ref gT, .ref gC, .ref gM, .int (nI gnq), .ref eF, .ref eC, .ref eM, .int (nI enq), .ref hopA])), (gF, .inl (cI, 40, .inl fgF)), (gT, .inl (cI, 40, .inl fgT)), (gM, .inl (cI, 40, .inl fgM)), (eF, .inl (cI, 10, .inl feF)), (hopA, .inl (cZ, 20, .inl hf3))]) [0, 1, 2, 3, 4, 5] rfl
                    have hD9 := hD.sub (ws' := [(h0, .inr (1, [.ref gF, .ref gK, .ref gT, .ref gC, .ref gM, .int (nI gnq), .ref eF, .ref eC, .ref eM, .int (nI enq), .ref hopA])), (gF, .inl (cI, 40, .inl fgF)), (gT, .inl (cI, 40, .inl fgT)), (gM, .inl (cI, 40, .inl fgM)), (eF, .inl (cI, 10, .inl feF)), (hopA, .inl (cZ, 20, .inl hf3))]) [0, 1, 2, 3, 4, 5] (by decide) rfl
                    have hens0 : LF (hE enq feF) (hR gnq fgF fgT fgM) (fun v => ¬ hf3 v = 0) := (by rw [show rq = 20 by have := (nI_leI (a := 20) (b := rq) (by omega) (by omega)).mp c_68; omega] at hRd; exact rdI_end hRd)
                    exact W.vret hx hb hr (fun t ht hW => ⟨⟨(hf3), rfl, hens0, by rw [ht]; exact hP9, hD9⟩, hS.F ht⟩) hS.2.2 dX1_findHopeful_105
                  · skip
                    have hk3_65 : rq < 20 := nk_lt (N := 20) rfl c_68 (by omega)
                    refine lv_iconst (v := 0) hx hb dX1_findHopeful_71 (by decide) ?_
                    refine lv_istore_n (lv' := [(2, .int 0), (1, .int (nI rq)), (0, .ref h0)]) hx hb dX1_findHopeful_72 rfl hl (by decide) rfl (fun ls hl => ?_)
                    have lp_73 : ∀ (n_73 : Nat) (gq : Nat) (hf4 : Nat → Int32), gnq + 1 ≤ gq + n_73 → gq ≤ gnq → hSo (hE enq feF) (hR gnq fgF fgT fgM) hf4 → rnI gnq fgF fgT fgM hf3 hf4 gq → ∀ (H : Heap) (locs : List Loc) (ls : Array Slot), va_P (dC, dI) vwCl [(h0, .inr (1, [.ref gF, .ref gK, .ref gT, .ref gC, .ref gM, .int (nI gnq), .ref eF, .ref eC, .ref eM, .int (nI enq), .ref hopA])), (gF, .inl (cI, 40, .inl fgF)), (gT, .inl (cI, 40, .inl fgT)), (gM, .inl (cI, 40, .inl fgM)), (eF, .inl (cI, 10, .inl feF)), (hopA, .inl (cZ, 20, .inl hf4))] H → va_D A [(h0, .inr (1, [.ref gF, .ref gK, .ref gT, .ref gC, .ref gM, .int (nI gnq), .ref eF, .ref eC, .ref eM, .int (nI enq), .ref hopA])), (gF, .inl (cI, 40, .inl fgF)), (gT, .inl (cI, 40, .inl fgT)), (gM, .inl (cI, 40, .inl fgM)), (eF, .inl (cI, 10, .inl feF)), (hopA, .inl (cZ, 20, .inl hf4))] → va_S A s.heap H locs → lv_has ls 3 [(2, .int (nI gq)), (1, .int (nI rq)), (0, .ref h0)] → W p l e (headSpec wsX1_findHopeful ({ frames := 3, cells := 0, slots := 0, locals := 65 })).room s m ([.ref h0]).toArray below meth c H locs 0 0 (MQ below (va_Qv (fun (u : (Nat → Int32)) => match u with | fhopA2 => (LF (hE enq feF) (hR gnq fgF fgT fgM) (fun v => ¬ fhopA2 v = 0))) (fun (u : (Nat → Int32)) t => match u with | fhopA2 => sB dC dI A [(h0, .inr (1, [.ref gF, .ref gK, .ref gT, .ref gC, .ref gM, .int (nI gnq), .ref eF, .ref eC, .ref eM, .int (nI enq), .ref hopA])), (gF, .inl (cI, 40, .inl fgF)), (gT, .inl (cI, 40, .inl fgT)), (gM, .inl (cI, 40, .inl fgM)), (eF, .inl (cI, 10, .inl feF)), (hopA, .inl (cZ, 20, .inl fhopA2))] t) A) ([.ref h0]).toArray s 0 0 A) (F0 m 73 ls []) := by
                      intro n_73
                      induction n_73 with
                      | zero =>
                        intro gq hf4 fuel_73 hgq hS4 hRn
                        exact absurd fuel_73 (by omega)
                      | succ n_73 ih_73 =>
                        intro gq hf4 fuel_73 hgq hS4 hRn H locs ls hP hD hS hl
                        refine lv_iload_n hx hb dX1_findHopeful_73 rfl (lv_at hl 0 rfl) ?_
                        refine lv_aload_n hx hb dX1_findHopeful_74 rfl (lv_at hl 2 rfl) ?_
                        refine va_get (D := (dC, dI)) (ci := 1) (v := .int (nI gnq)) (C := RX1) (T := TX1) (N := 11) hx hb hts i1 hown hK hP 0 rfl rfl 5 (by decide) (hts (.fieldLink RX1 42 "StopSetter$Grammar" "goCount" "I") (by decide +kernel)) (fun _ h9 => h9) rfl dX1_findHopeful_75 ?_
                        refine lv_icmp_ge (tgt := 99) hx hb dX1_findHopeful_78 (by decide) (fun c_78 => ?_) (fun c_78 => ?_)
                        · skip
                          have hgE : gq = gnq := by have := (nI_leI (a := gnq) (b := gq) (by omega) (by omega)).mp c_78; omega
                          refine lv_iinc (v := (nI (rq + 1))) (lv' := [(1, .int (nI (rq + 1))), (2, .int (nI gq)), (0, .ref h0)]) hx hb dX1_findHopeful_99 hl (k := 1) rfl (nI_1 rq) (by decide) rfl (fun ls hl => ?_)
                          refine lv_goto (tgt := 65) hx hb dX1_findHopeful_102 (by decide) ?_
                          exact ih_65  (rq + 1) hf4 (by omega) (by omega) (rdI_s hRd hS4 (by rw [hgE] at hRn; exact hRn)) _ _ _ hP hD hS (lv_sub hl [0, 2] rfl)
                        · skip
                          have hgl : gq < gnq := nk_lt rfl c_78 (by omega)
                          refine lv_aload_n hx hb dX1_findHopeful_81 rfl (lv_at hl 2 rfl) ?_
                          refine lv_iload_n hx hb dX1_findHopeful_82 rfl (lv_at hl 0 rfl) ?_
                          refine lv_iconst (v := 0) hx hb dX1_findHopeful_83 (by decide) ?_
                          have hPc := hP.sub (ws' := [(h0, .inr (1, [.ref gF, .ref gK, .ref gT, .ref gC, .ref gM, .int (nI gnq), .ref eF, .ref eC, .ref eM, .int (nI enq), .ref hopA])), (gF, .inl (cI, 40, .inl fgF)), (gT, .inl (cI, 40, .inl fgT)), (gM, .inl (cI, 40, .inl fgM)), (hopA, .inl (cZ, 20, .inl hf4))]) [0, 1, 2, 3, 5] rfl
                          have hDc := hD.sub (ws' := [(h0, .inr (1, [.ref gF, .ref gK, .ref gT, .ref gC, .ref gM, .int (nI gnq), .ref eF, .ref eC, .ref eM, .int (nI enq), .ref hopA])), (gF, .inl (cI, 40, .inl fgF)), (gT, .inl (cI, 40, .inl fgT)), (gM, .inl (cI, 40, .inl fgM)), (hopA, .inl (cZ, 20, .inl hf4))]) [0, 1, 2, 3, 5] (by decide) rfl
                          have hFc := va_free (wc := [(h0, .inr (1, [.ref gF, .ref gK, .ref gT, .ref gC, .ref gM, .int (nI gnq), .ref eF, .ref eC, .ref eM, .int (nI enq), .ref hopA])), (gF, .inl (cI, 40, .inl fgF)), (gT, .inl (cI, 40, .inl fgT)), (gM, .inl (cI, 40, .inl fgM)), (hopA, .inl (cZ, 20, .inl hf4))]) hD hS hA [0, 1, 2, 3, 5] rfl
                          refine va_callv (va_runV (As := [.int (nI gq), .int 0]) (rest := []) ⟨hx, hb, hml, hown, hts⟩ (k_passHopeBack l dC dI cI cZ cC cJ H.size  h0 gF gK gT gC gM (nI gnq) eF eC eM (nI enq) hopA fgF fgT fgM hf4 (nI gq) 0 ) (cwV 2 hts gX1_findHopeful_X1_passHopeBack rfl rfl rfl (by decide +kernel) ⟨Nat.le_of_ble_eq_true rfl, Nat.le_of_ble_eq_true rfl⟩) ⟨sPre_blind, va_recv hK hPc (ci := 1) (q0 := 0) rfl rfl, fun U hU hW => ⟨rfl, sPre_ok hsk hPc hDc hU hW⟩⟩ rfl rfl hl.1 rfl (lv_room (Nat.le_of_ble_eq_true rfl)) dX1_findHopeful_84 ⟨(show 0 + 0 ≤ 0 by omega), (show 0 + 0 ≤ 0 by omega)⟩) hS (fun q _ h => hFc q h) hFc (fun u t H1 locs ht hvm hw hB hz1 hk1 hS => ?_)
                          obtain ⟨f_2, rfl⟩ : ∃ z, z = u := ⟨_, rfl⟩
                          try dsimp only at hw hB
                          have he_3 := hw
                          have he_3 : f_2 = phB (nI gnq) fgF fgT fgM hf4 (nI gq) 0 := he_3
                          obtain ⟨hP1, hD1⟩ := hB
                          rw [ht] at hP1
                          obtain ⟨hP, hD⟩ := va_join (wr := [(eF, .inl (cI, 10, .inl feF))]) (w1 := [(h0, .inr (1, [.ref gF, .ref gK, .ref gT, .ref gC, .ref gM, .int (nI gnq), .ref eF, .ref eC, .ref eM, .int (nI enq), .ref hopA])), (gF, .inl (cI, 40, .inl fgF)), (gT, .inl (cI, 40, .inl fgT)), (gM, .inl (cI, 40, .inl fgM)), (hopA, .inl (cZ, 20, .inl f_2))]) hP hD [0, 1, 2, 3, 5] [4] rfl rfl (by decide) (by decide) hk1 hFc hP1 hD1
                          generalize H1 = H at hP hS ⊢
                          have hP : va_P (dC, dI) vwCl [(eF, .inl (cI, 10, .inl feF)), (h0, .inr (1, [.ref gF, .ref gK, .ref gT, .ref gC, .ref gM, .int (nI gnq), .ref eF, .ref eC, .ref eM, .int (nI enq), .ref hopA])), (gF, .inl (cI, 40, .inl fgF)), (gT, .inl (cI, 40, .inl fgT)), (gM, .inl (cI, 40, .inl fgM)), (hopA, .inl (cZ, 20, .inl f_2))] H := hP
                          have hD : va_D A [(eF, .inl (cI, 10, .inl feF)), (h0, .inr (1, [.ref gF, .ref gK, .ref gT, .ref gC, .ref gM, .int (nI gnq), .ref eF, .ref eC, .ref eM, .int (nI enq), .ref hopA])), (gF, .inl (cI, 40, .inl fgF)), (gT, .inl (cI, 40, .inl fgT)), (gM, .inl (cI, 40, .inl fgM)), (hopA, .inl (cZ, 20, .inl f_2))] := hD
                          refine lv_aload_n hx hb dX1_findHopeful_87 rfl (lv_at hl 2 rfl) ?_
                          refine lv_iload_n hx hb dX1_findHopeful_88 rfl (lv_at hl 0 rfl) ?_
                          refine lv_iconst (v := 1) hx hb dX1_findHopeful_89 (by decide) ?_
                          have hPc := hP.sub (ws' := [(h0, .inr (1, [.ref gF, .ref gK, .ref gT, .ref gC, .ref gM, .int (nI gnq), .ref eF, .ref eC, .ref eM, .int (nI enq), .ref hopA])), (gF, .inl (cI, 40, .inl fgF)), (gT, .inl (cI, 40, .inl fgT)), (gM, .inl (cI, 40, .inl fgM)), (hopA, .inl (cZ, 20, .inl f_2))]) [1, 2, 3, 4, 5] rfl
                          have hDc := hD.sub (ws' := [(h0, .inr (1, [.ref gF, .ref gK, .ref gT, .ref gC, .ref gM, .int (nI gnq), .ref eF, .ref eC, .ref eM, .int (nI enq), .ref hopA])), (gF, .inl (cI, 40, .inl fgF)), (gT, .inl (cI, 40, .inl fgT)), (gM, .inl (cI, 40, .inl fgM)), (hopA, .inl (cZ, 20, .inl f_2))]) [1, 2, 3, 4, 5] (by decide) rfl
                          have hFc := va_free (wc := [(h0, .inr (1, [.ref gF, .ref gK, .ref gT, .ref gC, .ref gM, .int (nI gnq), .ref eF, .ref eC, .ref eM, .int (nI enq), .ref hopA])), (gF, .inl (cI, 40, .inl fgF)), (gT, .inl (cI, 40, .inl fgT)), (gM, .inl (cI, 40, .inl fgM)), (hopA, .inl (cZ, 20, .inl f_2))]) hD hS hA [1, 2, 3, 4, 5] rfl
                          refine va_callv (va_runV (As := [.int (nI gq), .int 1]) (rest := []) ⟨hx, hb, hml, hown, hts⟩ (k_passHopeBack l dC dI cI cZ cC cJ H.size  h0 gF gK gT gC gM (nI gnq) eF eC eM (nI enq) hopA fgF fgT fgM f_2 (nI gq) 1 ) (cwV 2 hts gX1_findHopeful_X1_passHopeBack rfl rfl rfl (by decide +kernel) ⟨Nat.le_of_ble_eq_true rfl, Nat.le_of_ble_eq_true rfl⟩) ⟨sPre_blind, va_recv hK hPc (ci := 1) (q0 := 0) rfl rfl, fun U hU hW => ⟨rfl, sPre_ok hsk hPc hDc hU hW⟩⟩ rfl rfl hl.1 rfl (lv_room (Nat.le_of_ble_eq_true rfl)) dX1_findHopeful_90 ⟨(show 0 + 0 ≤ 0 by omega), (show 0 + 0 ≤ 0 by omega)⟩) hS (fun q _ h => hFc q h) hFc (fun u t H1 locs ht hvm hw hB hz1 hk1 hS => ?_)
                          obtain ⟨f_5, rfl⟩ : ∃ z, z = u := ⟨_, rfl⟩
                          try dsimp only at hw hB
                          have he_6 := hw
                          have he_6 : f_5 = phB (nI gnq) fgF fgT fgM f_2 (nI gq) 1 := he_6
                          obtain ⟨hP1, hD1⟩ := hB
                          rw [ht] at hP1
                          obtain ⟨hP, hD⟩ := va_join (wr := [(eF, .inl (cI, 10, .inl feF))]) (w1 := [(h0, .inr (1, [.ref gF, .ref gK, .ref gT, .ref gC, .ref gM, .int (nI gnq), .ref eF, .ref eC, .ref eM, .int (nI enq), .ref hopA])), (gF, .inl (cI, 40, .inl fgF)), (gT, .inl (cI, 40, .inl fgT)), (gM, .inl (cI, 40, .inl fgM)), (hopA, .inl (cZ, 20, .inl f_5))]) hP hD [1, 2, 3, 4, 5] [0] rfl rfl (by decide) (by decide) hk1 hFc hP1 hD1
                          generalize H1 = H at hP hS ⊢
                          have hP : va_P (dC, dI) vwCl [(eF, .inl (cI, 10, .inl feF)), (h0, .inr (1, [.ref gF, .ref gK, .ref gT, .ref gC, .ref gM, .int (nI gnq), .ref eF, .ref eC, .ref eM, .int (nI enq), .ref hopA])), (gF, .inl (cI, 40, .inl fgF)), (gT, .inl (cI, 40, .inl fgT)), (gM, .inl (cI, 40, .inl fgM)), (hopA, .inl (cZ, 20, .inl f_5))] H := hP
                          have hD : va_D A [(eF, .inl (cI, 10, .inl feF)), (h0, .inr (1, [.ref gF, .ref gK, .ref gT, .ref gC, .ref gM, .int (nI gnq), .ref eF, .ref eC, .ref eM, .int (nI enq), .ref hopA])), (gF, .inl (cI, 40, .inl fgF)), (gT, .inl (cI, 40, .inl fgT)), (gM, .inl (cI, 40, .inl fgM)), (hopA, .inl (cZ, 20, .inl f_5))] := hD
                          refine lv_iinc (v := (nI (gq + 1))) (lv' := [(2, .int (nI (gq + 1))), (1, .int (nI rq)), (0, .ref h0)]) hx hb dX1_findHopeful_93 hl (k := 0) rfl (nI_1 gq) (by decide) rfl (fun ls hl => ?_)
                          refine lv_goto (tgt := 73) hx hb dX1_findHopeful_96 (by decide) ?_
                          exact ih_73  (gq + 1) f_5 (by omega) (by omega) (by rw [he_6, he_3]; exact (rnI_s hgl hgn hS4 hRn).1) (by rw [he_6, he_3]; exact (rnI_s hgl hgn hS4 hRn).2) _ _ _ (hP.sub [1, 2, 3, 4, 0, 5] rfl) (hD.sub [1, 2, 3, 4, 0, 5] (by decide) rfl) hS (lv_sub hl [0, 1, 2] rfl)
                    exact lp_73 (gnq + 1) 0 hf3 (by omega) (by omega) (hRd.1) (rnI_0) _ _ _ hP hD hS (lv_sub hl [0, 1, 2] rfl)
              exact lp_65 21 0 hf2 (by omega) (by omega) (rdI_0 hS2 (by rw [hjE] at hE2; exact hE2)) _ _ _ hP hD hS (lv_sub hl [0, 1] rfl)
            · skip
              have hjl : jq < enq := nk_lt rfl c_28 (by omega)
              refine lv_aload_n hx hb dX1_findHopeful_31 rfl (lv_at hl 1 rfl) ?_
              refine lv_aload_n hx hb dX1_findHopeful_32 rfl (lv_at hl 1 rfl) ?_
              refine lv_iload_n hx hb dX1_findHopeful_33 rfl (lv_at hl 0 rfl) ?_
              have hPc := hP.sub (ws' := [(h0, .inr (1, [.ref gF, .ref gK, .ref gT, .ref gC, .ref gM, .int (nI gnq), .ref eF, .ref eC, .ref eM, .int (nI enq), .ref hopA]))]) [0] rfl
              have hDc := hD.sub (ws' := [(h0, .inr (1, [.ref gF, .ref gK, .ref gT, .ref gC, .ref gM, .int (nI gnq), .ref eF, .ref eC, .ref eM, .int (nI enq), .ref hopA]))]) [0] (by decide) rfl
              have hFc := va_free (wc := [(h0, .inr (1, [.ref gF, .ref gK, .ref gT, .ref gC, .ref gM, .int (nI gnq), .ref eF, .ref eC, .ref eM, .int (nI enq), .ref hopA]))]) hD hS hA [0] rfl
              refine va_calli (va_runV (As := [.int (nI jq)]) (rest := [.ref h0]) ⟨hx, hb, hml, hown, hts⟩ (k_hasEnd l dC dI cI cZ cC cJ H.size  h0 gF gK gT gC gM (nI gnq) eF eC eM (nI enq) hopA (nI jq) ) (cwV 1 hts gX1_findHopeful_X1_hasEnd rfl rfl rfl (by decide +kernel) ⟨Nat.le_of_ble_eq_true rfl, Nat.le_of_ble_eq_true rfl⟩) ⟨sPre_blind, va_recv hK hPc (ci := 1) (q0 := 0) rfl rfl, fun U hU hW => ⟨rfl, sPre_ok hsk hPc hDc hU hW⟩⟩ rfl rfl hl.1 rfl (lv_room (Nat.le_of_ble_eq_true rfl)) dX1_findHopeful_34 ⟨(show 0 + 0 ≤ 0 by omega), (show 0 + 0 ≤ 0 by omega)⟩) hS (fun q _ h => hFc q h) hFc (fun r_7 u t H1 locs ht hvm hw hB hz1 hk1 hS => ?_)
              try dsimp only at hw hB
              have hw_8 := hw
              obtain rfl : r_7 = bnd 10 (nI jq) (nI enq) := hw_8
              obtain ⟨hP1, hD1⟩ := hB
              rw [ht] at hP1
              obtain ⟨hP, hD⟩ := va_join (wr := [(gF, .inl (cI, 40, .inl fgF)), (gT, .inl (cI, 40, .inl fgT)), (gM, .inl (cI, 40, .inl fgM)), (eF, .inl (cI, 10, .inl feF)), (hopA, .inl (cZ, 20, .inl hf2))]) (w1 := [(h0, .inr (1, [.ref gF, .ref gK, .ref gT, .ref gC, .ref gM, .int (nI gnq), .ref eF, .ref eC, .ref eM, .int (nI enq), .ref hopA]))]) hP hD [0] [1, 2, 3, 4, 5] rfl rfl (by decide) (by decide) hk1 hFc hP1 hD1
              generalize H1 = H at hP hS ⊢
              have hP : va_P (dC, dI) vwCl [(gF, .inl (cI, 40, .inl fgF)), (gT, .inl (cI, 40, .inl fgT)), (gM, .inl (cI, 40, .inl fgM)), (eF, .inl (cI, 10, .inl feF)), (hopA, .inl (cZ, 20, .inl hf2)), (h0, .inr (1, [.ref gF, .ref gK, .ref gT, .ref gC, .ref gM, .int (nI gnq), .ref eF, .ref eC, .ref eM, .int (nI enq), .ref hopA]))] H := hP
              have hD : va_D A [(gF, .inl (cI, 40, .inl fgF)), (gT, .inl (cI, 40, .inl fgT)), (gM, .inl (cI, 40, .inl fgM)), (eF, .inl (cI, 10, .inl feF)), (hopA, .inl (cZ, 20, .inl hf2)), (h0, .inr (1, [.ref gF, .ref gK, .ref gT, .ref gC, .ref gM, .int (nI gnq), .ref eF, .ref eC, .ref eM, .int (nI enq), .ref hopA]))] := hD
              refine lv_if_eq (tgt := 53) hx hb dX1_findHopeful_37 (by decide) (fun h9 => absurd h9 (bnd_yM (k := 10) rfl (by decide) hjl hen)) (fun _ => ?_)
              refine lv_aload_n hx hb dX1_findHopeful_40 rfl (lv_at hl 1 rfl) ?_
              refine va_get (D := (dC, dI)) (ci := 1) (v := .ref eF) (C := RX1) (T := TX1) (N := 11) hx hb hts i1 hown hK hP 5 rfl rfl 6 (by decide) (hts (.fieldLink RX1 27 "StopSetter$Grammar" "endFrom" "[I") (by decide +kernel)) (fun _ h9 => h9) rfl dX1_findHopeful_41 ?_
              refine lv_iload_n hx hb dX1_findHopeful_44 rfl (lv_at hl 0 rfl) ?_
              refine va_iald hx hb hK hP 3 0 rfl rfl (vp_in_nI (by omega) (by decide)) dX1_findHopeful_45 ?_
              refine lv_topi (fun v_ ev_ => ?_)
              obtain rfl : v_ = (feF jq) := ev_.trans (by rw [nI_clamp (by omega)])
              refine lv_iconst (v := 0) hx hb dX1_findHopeful_46 (by decide) ?_
              have hPc := hP.sub (ws' := []) [] rfl
              have hDc := hD.sub (ws' := []) [] (by decide) rfl
              have hFc := va_free (wc := []) hD hS hA [] rfl
              refine va_calli (va_runSN (As := [.int (feF jq), .int 0]) (rest := [.ref h0]) ⟨hx, hb, hml, hown, hts⟩ (k_nodeOf l dC dI cI cZ cC cJ H.size  (feF jq) 0 ) ⟨va_cnB (host := "StopSetter") 2 hts gX1_findHopeful_X4_nodeOf_n56 rfl rfl rfl (hsk.2.2 (RX1, 56, yX4_nodeOf, "StopSetter") (by decide +kernel)) (hts (.initialized RX4) (by decide +kernel)) (by decide +kernel) ⟨Nat.le_of_ble_eq_true rfl, Nat.le_of_ble_eq_true rfl⟩, hts (.static yX4_nodeOf) (by decide +kernel), trivial⟩ ⟨sPre_blind, fun U hU hW => ⟨rfl, sPre_ok hsk hPc hDc hU hW⟩⟩ rfl rfl hl.1 rfl (lv_room (Nat.le_of_ble_eq_true rfl)) dX1_findHopeful_47 ⟨(show 0 + 0 ≤ 0 by omega), (show 0 + 0 ≤ 0 by omega)⟩) hS (fun q _ h => hFc q h) hFc (fun r_9 u t H1 locs ht hvm hw hB hz1 hk1 hS => ?_)
              try dsimp only at hw hB
              have hw_10 := hw
              obtain rfl : r_9 = ((feF jq) * 2 + 0) := hw_10
              obtain ⟨hP1, hD1⟩ := hB
              rw [ht] at hP1
              obtain ⟨hP, hD⟩ := va_join (wr := [(gF, .inl (cI, 40, .inl fgF)), (gT, .inl (cI, 40, .inl fgT)), (gM, .inl (cI, 40, .inl fgM)), (eF, .inl (cI, 10, .inl feF)), (hopA, .inl (cZ, 20, .inl hf2)), (h0, .inr (1, [.ref gF, .ref gK, .ref gT, .ref gC, .ref gM, .int (nI gnq), .ref eF, .ref eC, .ref eM, .int (nI enq), .ref hopA]))]) (w1 := []) hP hD [] [0, 1, 2, 3, 4, 5] rfl rfl (by decide) (by decide) hk1 hFc hP1 hD1
              generalize H1 = H at hP hS ⊢
              have hP : va_P (dC, dI) vwCl [(gF, .inl (cI, 40, .inl fgF)), (gT, .inl (cI, 40, .inl fgT)), (gM, .inl (cI, 40, .inl fgM)), (eF, .inl (cI, 10, .inl feF)), (hopA, .inl (cZ, 20, .inl hf2)), (h0, .inr (1, [.ref gF, .ref gK, .ref gT, .ref gC, .ref gM, .int (nI gnq), .ref eF, .ref eC, .ref eM, .int (nI enq), .ref hopA]))] H := hP
              have hD : va_D A [(gF, .inl (cI, 40, .inl fgF)), (gT, .inl (cI, 40, .inl fgT)), (gM, .inl (cI, 40, .inl fgM)), (eF, .inl (cI, 10, .inl feF)), (hopA, .inl (cZ, 20, .inl hf2)), (h0, .inr (1, [.ref gF, .ref gK, .ref gT, .ref gC, .ref gM, .int (nI gnq), .ref eF, .ref eC, .ref eM, .int (nI enq), .ref hopA]))] := hD
              refine lv_goto (tgt := 54) hx hb dX1_findHopeful_50 (by decide) ?_
              have hPc := hP.sub (ws' := [(h0, .inr (1, [.ref gF, .ref gK, .ref gT, .ref gC, .ref gM, .int (nI gnq), .ref eF, .ref eC, .ref eM, .int (nI enq), .ref hopA])), (hopA, .inl (cZ, 20, .inl hf2))]) [5, 4] rfl
              have hDc := hD.sub (ws' := [(h0, .inr (1, [.ref gF, .ref gK, .ref gT, .ref gC, .ref gM, .int (nI gnq), .ref eF, .ref eC, .ref eM, .int (nI enq), .ref hopA])), (hopA, .inl (cZ, 20, .inl hf2))]) [5, 4] (by decide) rfl
              have hFc := va_free (wc := [(h0, .inr (1, [.ref gF, .ref gK, .ref gT, .ref gC, .ref gM, .int (nI gnq), .ref eF, .ref eC, .ref eM, .int (nI enq), .ref hopA])), (hopA, .inl (cZ, 20, .inl hf2))]) hD hS hA [5, 4] rfl
              refine va_callv (va_runV (As := [.int ((feF jq) * 2 + 0)]) (rest := []) ⟨hx, hb, hml, hown, hts⟩ (k_setHopeful l dC dI cI cZ cC cJ H.size  h0 gF gK gT gC gM (nI gnq) eF eC eM (nI enq) hopA hf2 ((feF jq) * 2 + 0) ) (cwV 1 hts gX1_findHopeful_X1_setHopeful rfl rfl rfl (by decide +kernel) ⟨Nat.le_of_ble_eq_true rfl, Nat.le_of_ble_eq_true rfl⟩) ⟨sPre_blind, va_recv hK hPc (ci := 1) (q0 := 0) rfl rfl, fun U hU hW => ⟨rfl, sPre_ok hsk hPc hDc hU hW⟩⟩ rfl rfl hl.1 rfl (lv_room (Nat.le_of_ble_eq_true rfl)) dX1_findHopeful_54 ⟨(show 0 + 0 ≤ 0 by omega), (show 0 + 0 ≤ 0 by omega)⟩) hS (fun q _ h => hFc q h) hFc (fun u t H1 locs ht hvm hw hB hz1 hk1 hS => ?_)
              obtain ⟨f_12, rfl⟩ : ∃ z, z = u := ⟨_, rfl⟩
              try dsimp only at hw hB
              have he_13 := hw
              have he_13 : f_12 = stH hf2 ((feF jq) * 2 + 0) := he_13
              obtain ⟨hP1, hD1⟩ := hB
              rw [ht] at hP1
              obtain ⟨hP, hD⟩ := va_join (wr := [(gF, .inl (cI, 40, .inl fgF)), (gT, .inl (cI, 40, .inl fgT)), (gM, .inl (cI, 40, .inl fgM)), (eF, .inl (cI, 10, .inl feF))]) (w1 := [(h0, .inr (1, [.ref gF, .ref gK, .ref gT, .ref gC, .ref gM, .int (nI gnq), .ref eF, .ref eC, .ref eM, .int (nI enq), .ref hopA])), (hopA, .inl (cZ, 20, .inl f_12))]) hP hD [5, 4] [0, 1, 2, 3] rfl rfl (by decide) (by decide) hk1 hFc hP1 hD1
              generalize H1 = H at hP hS ⊢
              have hP : va_P (dC, dI) vwCl [(gF, .inl (cI, 40, .inl fgF)), (gT, .inl (cI, 40, .inl fgT)), (gM, .inl (cI, 40, .inl fgM)), (eF, .inl (cI, 10, .inl feF)), (h0, .inr (1, [.ref gF, .ref gK, .ref gT, .ref gC, .ref gM, .int (nI gnq), .ref eF, .ref eC, .ref eM, .int (nI enq), .ref hopA])), (hopA, .inl (cZ, 20, .inl f_12))] H := hP
              have hD : va_D A [(gF, .inl (cI, 40, .inl fgF)), (gT, .inl (cI, 40, .inl fgT)), (gM, .inl (cI, 40, .inl fgM)), (eF, .inl (cI, 10, .inl feF)), (h0, .inr (1, [.ref gF, .ref gK, .ref gT, .ref gC, .ref gM, .int (nI gnq), .ref eF, .ref eC, .ref eM, .int (nI enq), .ref hopA])), (hopA, .inl (cZ, 20, .inl f_12))] := hD
              refine lv_iinc (v := (nI (jq + 1))) (lv' := [(1, .int (nI (jq + 1))), (0, .ref h0)]) hx hb dX1_findHopeful_57 hl (k := 0) rfl (nI_1 jq) (by decide) rfl (fun ls hl => ?_)
              refine lv_goto (tgt := 23) hx hb dX1_findHopeful_60 (by decide) ?_
              exact ih_23  (jq + 1) f_12 (by omega) (by omega) (by rw [he_13]; exact hSo_end hS2 hjl) (by rw [he_13]; exact eSt_end hE2) _ _ _ (hP.sub [4, 0, 1, 2, 3, 5] rfl) (hD.sub [4, 0, 1, 2, 3, 5] (by decide) rfl) hS (lv_sub hl [0, 1] rfl)
        exact lp_23 (enq + 1) 0 hf1 (by omega) (by omega) (hSo_0 hz20) (fun j v h => absurd h (Nat.not_lt_zero j)) _ _ _ hP hD hS (lv_sub hl [0, 1] rfl)
      · skip
        have hk3_2 : k < 20 := nk_lt (N := 20) rfl c_5 (by omega)
        refine lv_aload_n hx hb dX1_findHopeful_8 rfl (lv_at hl 1 rfl) ?_
        refine va_get (D := (dC, dI)) (ci := 1) (v := .ref hopA) (C := RX1) (T := TX1) (N := 11) hx hb hts i1 hown hK hP 0 rfl rfl 10 (by decide) (hts (.fieldLink RX1 38 "StopSetter$Grammar" "hopeful" "[Z") (by decide +kernel)) (fun _ h9 => h9) rfl dX1_findHopeful_9 ?_
        refine lv_iload_n hx hb dX1_findHopeful_12 rfl (lv_at hl 0 rfl) ?_
        refine lv_iconst (v := 0) hx hb dX1_findHopeful_13 (by decide) ?_
        refine va_zast hx hb hK hP hD hS 5 1 rfl rfl (vp_in_nI hk3_2 (by decide)) dX1_findHopeful_14 (fun H locs hP hD hS => ?_)
        have hP : va_P (dC, dI) vwCl [(h0, .inr (1, [.ref gF, .ref gK, .ref gT, .ref gC, .ref gM, .int (nI gnq), .ref eF, .ref eC, .ref eM, .int (nI enq), .ref hopA])), (gF, .inl (cI, 40, .inl fgF)), (gT, .inl (cI, 40, .inl fgT)), (gM, .inl (cI, 40, .inl fgM)), (eF, .inl (cI, 10, .inl feF)), (hopA, .inl (cZ, 20, .inl (upd hf1 ((nI k).toNatClampNeg) (vp_nar .boolean 0))))] H := hP
        have hD : va_D A [(h0, .inr (1, [.ref gF, .ref gK, .ref gT, .ref gC, .ref gM, .int (nI gnq), .ref eF, .ref eC, .ref eM, .int (nI enq), .ref hopA])), (gF, .inl (cI, 40, .inl fgF)), (gT, .inl (cI, 40, .inl fgT)), (gM, .inl (cI, 40, .inl fgM)), (eF, .inl (cI, 10, .inl feF)), (hopA, .inl (cZ, 20, .inl (upd hf1 ((nI k).toNatClampNeg) (vp_nar .boolean 0))))] := hD
        refine lv_iinc (v := (nI (k + 1))) (lv' := [(1, .int (nI (k + 1))), (0, .ref h0)]) hx hb dX1_findHopeful_15 hl (k := 0) rfl (nI_1 k) (by decide) rfl (fun ls hl => ?_)
        refine lv_goto (tgt := 2) hx hb dX1_findHopeful_18 (by decide) ?_
        exact ih_2  (k + 1) (upd hf1 ((nI k).toNatClampNeg) (vp_nar .boolean 0)) (by omega) (by omega) (fun v hv => by rw [nI_clamp (by omega)]; rcases Nat.lt_or_ge v k with q | q; rw [pk_un (by omega)]; exact hz v q; rw [show v = k by omega, pk_us]; decide) _ _ _ hP hD hS (lv_sub hl [0, 1] rfl)
  exact lp_2 21 0 fhopA (by omega) (by omega) (fun v h => absurd h (Nat.not_lt_zero v)) _ _ _ hP hD hS (lv_sub hl [0, 1] rfl)
set_option maxHeartbeats 4000000 in
set_option maxRecDepth 100000 in
theorem k_addSign (l : Launch) (dC : Nat → ClassId) (dI : Nat → Nat → Nat) (cI cZ cC cJ : ClassId) (sz : Nat) (h0 : Nat) (sA : Nat) (tl : Int32) (fs : Nat → Int32) (p0 : Int32)  : Met l yX3_addSign wsX3_addSign ({ frames := 0, cells := 0, slots := 0, locals := 0 }) (va_Pc [.ref h0, .int p0] (sPre dC dI cI cZ cC cJ [(h0, .inr (3, [.ref sA, .int tl])), (sA, .inl (cC, 1600, .inl fs))] sz)) (va_Qv (fun (u : (Int32) × (Nat → Int32)) => match u with | (tl2, fs2) => (tl2 = sgI tl p0) ∧ (fs2 = sgC fs tl p0)) (fun (u : (Int32) × (Nat → Int32)) t => match u with | (tl2, fs2) => sB dC dI (va_A [(h0, .inr (3, [.ref sA, .int tl])), (sA, .inl (cC, 1600, .inl fs))] sz) [(h0, .inr (3, [.ref sA, .int tl2])), (sA, .inl (cC, 1600, .inl fs2))] t) (va_A [(h0, .inr (3, [.ref sA, .int tl])), (sA, .inl (cC, 1600, .inl fs))] sz)) 0 0 (va_A [(h0, .inr (3, [.ref sA, .int tl])), (sA, .inl (cC, 1600, .inl fs))] sz) := by
  refine Met.ofW (cc := cX3_addSign) (maxL := 3) (ret := none) (by decide) rfl ?_
  intro p e s m args below meth c s₁ B hml hv
  obtain ⟨rfl, hsz, hP, hsk, hD0⟩ := hv
  have hx := B.exec
  have hb := B.bytes
  have hr := B.returns
  have hts := atoms_spec (ws := wsX3_addSign) B.pre
  have hown : s.vm.findClass RX3 = some m.cls := findClass_of_methodNamed B.named
  have hlocks := B.notSynchronized
  have hK := hsk.1
  have i3 : ∀ w ∈ wsX30, w ∈ wsX3_addSign := by decide +kernel
  subst hsz
  have hD := hD0.self (sz := s.heap.size)
  generalize hAe : va_A [(h0, .inr (3, [.ref sA, .int tl])), (sA, .inl (cC, 1600, .inl fs))] s.heap.size = A at hD ⊢
  have hA : ∀ q : Nat, s.heap.size ≤ q → A q := fun q h => by rw [← hAe]; exact Or.inr h
  have hS : va_S A s.heap s.heap [] := va_S.rf
  have hl := lv_entry ([.ref h0, .int p0]) (n := 3) (Nat.le_of_ble_eq_true rfl)
  rw [lg_entry_eq]
  generalize (lg_sl ([.ref h0, .int p0]) ++ List.replicate (3 - (lg_sl ([.ref h0, .int p0])).length) Slot.unset).toArray = ls at hl ⊢
  have hl : lv_has ls 3 [(0, .ref h0), (1, .int p0)] := hl
  refine lv_iload_n hx hb dX3_addSign_0 rfl (lv_at hl 1 rfl) ?_
  refine lv_bipush (v := 10) hx hb dX3_addSign_1 (by decide) ?_
  refine lv_icmp_eq (tgt := 18) hx hb dX3_addSign_3 (by decide) (fun c_3 => ?_) (fun c_3 => ?_)
  · skip
    refine lv_iconst (v := 1) hx hb dX3_addSign_18 (by decide) ?_
    refine lv_goto (tgt := 23) hx hb dX3_addSign_19 (by decide) ?_
    refine lv_istore_n (lv' := [(2, .int 1), (0, .ref h0), (1, .int p0)]) hx hb dX3_addSign_23 rfl hl (by decide) rfl (fun ls hl => ?_)
    refine lv_iload_n hx hb dX3_addSign_24 rfl (lv_at hl 0 rfl) ?_
    refine lv_if_eq (tgt := 66) hx hb dX3_addSign_25 (by decide) (fun h9 => absurd h9 (by decide)) (fun _ => ?_)
    refine lv_aload_n hx hb dX3_addSign_28 rfl (lv_at hl 1 rfl) ?_
    refine va_get (D := (dC, dI)) (ci := 3) (v := .int tl) (C := RX3) (T := TX3) (N := 2) hx hb hts i3 hown hK hP 0 rfl rfl 1 (by decide) (hts (.fieldLink RX3 17 "StopSetter$Tape" "length" "I") (by decide +kernel)) (fun _ h9 => h9) rfl dX3_addSign_29 ?_
    refine lv_if_lt (tgt := 66) hx hb dX3_addSign_32 (by decide) (fun c_32 => ?_) (fun c_32 => ?_)
    · skip
      have hP9 := hP.sub (ws' := [(h0, .inr (3, [.ref sA, .int tl])), (sA, .inl (cC, 1600, .inl fs))]) [0, 1] rfl
      have hD9 := hD.sub (ws' := [(h0, .inr (3, [.ref sA, .int tl])), (sA, .inl (cC, 1600, .inl fs))]) [0, 1] (by decide) rfl
      have hens0 : tl = sgI tl p0 := (by simp only [sgI, if_pos c_3, if_pos c_32])
      have hens1 : fs = sgC fs tl p0 := (by simp only [sgC, if_pos c_3, if_pos c_32])
      exact W.vret hx hb hr (fun t ht hW => ⟨⟨(tl, fs), rfl, ⟨hens0, hens1⟩, by rw [ht]; exact hP9, hD9⟩, hS.F ht⟩) hS.2.2 dX3_addSign_66
    · skip
      refine lv_aload_n hx hb dX3_addSign_35 rfl (lv_at hl 1 rfl) ?_
      refine va_get (D := (dC, dI)) (ci := 3) (v := .int tl) (C := RX3) (T := TX3) (N := 2) hx hb hts i3 hown hK hP 0 rfl rfl 1 (by decide) (hts (.fieldLink RX3 17 "StopSetter$Tape" "length" "I") (by decide +kernel)) (fun _ h9 => h9) rfl dX3_addSign_36 ?_
      refine lv_sipush (v := 1600) hx hb dX3_addSign_39 (by decide) ?_
      refine lv_icmp_ge (tgt := 66) hx hb dX3_addSign_42 (by decide) (fun c_42 => ?_) (fun c_42 => ?_)
      · skip
        have hP9 := hP.sub (ws' := [(h0, .inr (3, [.ref sA, .int tl])), (sA, .inl (cC, 1600, .inl fs))]) [0, 1] rfl
        have hD9 := hD.sub (ws' := [(h0, .inr (3, [.ref sA, .int tl])), (sA, .inl (cC, 1600, .inl fs))]) [0, 1] (by decide) rfl
        have hens0 : tl = sgI tl p0 := (by simp only [sgI, if_pos c_3, if_neg c_32, if_pos c_42])
        have hens1 : fs = sgC fs tl p0 := (by simp only [sgC, if_pos c_3, if_neg c_32, if_pos c_42])
        exact W.vret hx hb hr (fun t ht hW => ⟨⟨(tl, fs), rfl, ⟨hens0, hens1⟩, by rw [ht]; exact hP9, hD9⟩, hS.F ht⟩) hS.2.2 dX3_addSign_66
      · skip
        refine lv_aload_n hx hb dX3_addSign_45 rfl (lv_at hl 1 rfl) ?_
        refine va_get (D := (dC, dI)) (ci := 3) (v := .ref sA) (C := RX3) (T := TX3) (N := 2) hx hb hts i3 hown hK hP 0 rfl rfl 0 (by decide) (hts (.fieldLink RX3 9 "StopSetter$Tape" "signs" "[C") (by decide +kernel)) (fun _ h9 => h9) rfl dX3_addSign_46 ?_
        refine lv_aload_n hx hb dX3_addSign_49 rfl (lv_at hl 1 rfl) ?_
        refine va_get (D := (dC, dI)) (ci := 3) (v := .int tl) (C := RX3) (T := TX3) (N := 2) hx hb hts i3 hown hK hP 0 rfl rfl 1 (by decide) (hts (.fieldLink RX3 17 "StopSetter$Tape" "length" "I") (by decide +kernel)) (fun _ h9 => h9) rfl dX3_addSign_50 ?_
        refine lv_iload_n hx hb dX3_addSign_53 rfl (lv_at hl 2 rfl) ?_
        refine lv_i2c (v := ((p0.toUInt32 % 65536).toInt32)) hx hb dX3_addSign_54 (rfl) ?_
        refine va_cast hx hb hK hP hD hS 1 2 rfl rfl (in_ge (c := 1600) rfl c_32 c_42) dX3_addSign_55 (fun H locs hP hD hS => ?_)
        have hP : va_P (dC, dI) vwCl [(h0, .inr (3, [.ref sA, .int tl])), (sA, .inl (cC, 1600, .inl (upd fs (tl.toNatClampNeg) (vp_nar .char ((p0.toUInt32 % 65536).toInt32)))))] H := hP
        have hD : va_D A [(h0, .inr (3, [.ref sA, .int tl])), (sA, .inl (cC, 1600, .inl (upd fs (tl.toNatClampNeg) (vp_nar .char ((p0.toUInt32 % 65536).toInt32)))))] := hD
        refine lv_aload_n hx hb dX3_addSign_56 rfl (lv_at hl 1 rfl) ?_
        refine lv_dup hx hb dX3_addSign_57 rfl ?_
        refine va_get (D := (dC, dI)) (ci := 3) (v := .int tl) (C := RX3) (T := TX3) (N := 2) hx hb hts i3 hown hK hP 0 rfl rfl 1 (by decide) (hts (.fieldLink RX3 17 "StopSetter$Tape" "length" "I") (by decide +kernel)) (fun _ h9 => h9) rfl dX3_addSign_58 ?_
        refine lv_iconst (v := 1) hx hb dX3_addSign_61 (by decide) ?_
        refine lv_iadd hx hb dX3_addSign_62 ?_
        refine lv_topi (fun v_ ev_ => ?_)
        obtain rfl : v_ = (tl + 1) := ev_.trans (rfl)
        refine va_put (D := (dC, dI)) (ci := 3) (v := .int (tl + 1)) (ty := tyX3 1) (C := RX3) (T := TX3) (N := 2) hx hb hts i3 tyX3 tyX3_ok nmX3 hown hK hP hD hS 0 rfl rfl 1 (by decide) (hts (.fieldLink RX3 17 "StopSetter$Tape" "length" "I") (by decide +kernel)) (fun _ h9 => h9) rfl (by decide +kernel) rfl rfl (Nat.le_of_ble_eq_true rfl) dX3_addSign_63 (fun H locs hP hD hS => ?_)
        have hP : va_P (dC, dI) vwCl [(h0, .inr (3, [.ref sA, .int (tl + 1)])), (sA, .inl (cC, 1600, .inl (upd fs (tl.toNatClampNeg) (vp_nar .char ((p0.toUInt32 % 65536).toInt32)))))] H := hP
        have hD : va_D A [(h0, .inr (3, [.ref sA, .int (tl + 1)])), (sA, .inl (cC, 1600, .inl (upd fs (tl.toNatClampNeg) (vp_nar .char ((p0.toUInt32 % 65536).toInt32)))))] := hD
        have hP9 := hP.sub (ws' := [(h0, .inr (3, [.ref sA, .int (tl + 1)])), (sA, .inl (cC, 1600, .inl (upd fs (tl.toNatClampNeg) (vp_nar .char ((p0.toUInt32 % 65536).toInt32)))))]) [0, 1] rfl
        have hD9 := hD.sub (ws' := [(h0, .inr (3, [.ref sA, .int (tl + 1)])), (sA, .inl (cC, 1600, .inl (upd fs (tl.toNatClampNeg) (vp_nar .char ((p0.toUInt32 % 65536).toInt32)))))]) [0, 1] (by decide) rfl
        have hens0 : (tl + 1) = sgI tl p0 := (by simp only [sgI, if_pos c_3, if_neg c_32, if_neg c_42])
        have hens1 : (upd fs (tl.toNatClampNeg) (vp_nar .char ((p0.toUInt32 % 65536).toInt32))) = sgC fs tl p0 := (by simp only [sgC, if_pos c_3, if_neg c_32, if_neg c_42])
        exact W.vret hx hb hr (fun t ht hW => ⟨⟨((tl + 1), (upd fs (tl.toNatClampNeg) (vp_nar .char ((p0.toUInt32 % 65536).toInt32)))), rfl, ⟨hens0, hens1⟩, by rw [ht]; exact hP9, hD9⟩, hS.F ht⟩) hS.2.2 dX3_addSign_66
  · skip
    refine lv_iload_n hx hb dX3_addSign_6 rfl (lv_at hl 1 rfl) ?_
    refine lv_bipush (v := 32) hx hb dX3_addSign_7 (by decide) ?_
    refine lv_icmp_lt (tgt := 22) hx hb dX3_addSign_9 (by decide) (fun c_9 => ?_) (fun c_9 => ?_)
    · skip
      refine lv_iconst (v := 0) hx hb dX3_addSign_22 (by decide) ?_
      refine lv_istore_n (lv' := [(2, .int 0), (0, .ref h0), (1, .int p0)]) hx hb dX3_addSign_23 rfl hl (by decide) rfl (fun ls hl => ?_)
      refine lv_iload_n hx hb dX3_addSign_24 rfl (lv_at hl 0 rfl) ?_
      refine lv_if_eq (tgt := 66) hx hb dX3_addSign_25 (by decide) (fun _ => ?_) (fun h9 => absurd (by decide) h9)
      have hP9 := hP.sub (ws' := [(h0, .inr (3, [.ref sA, .int tl])), (sA, .inl (cC, 1600, .inl fs))]) [0, 1] rfl
      have hD9 := hD.sub (ws' := [(h0, .inr (3, [.ref sA, .int tl])), (sA, .inl (cC, 1600, .inl fs))]) [0, 1] (by decide) rfl
      have hens0 : tl = sgI tl p0 := (by simp only [sgI, if_neg c_3, if_pos c_9])
      have hens1 : fs = sgC fs tl p0 := (by simp only [sgC, if_neg c_3, if_pos c_9])
      exact W.vret hx hb hr (fun t ht hW => ⟨⟨(tl, fs), rfl, ⟨hens0, hens1⟩, by rw [ht]; exact hP9, hD9⟩, hS.F ht⟩) hS.2.2 dX3_addSign_66
    · skip
      refine lv_iload_n hx hb dX3_addSign_12 rfl (lv_at hl 1 rfl) ?_
      refine lv_bipush (v := 126) hx hb dX3_addSign_13 (by decide) ?_
      refine lv_icmp_gt (tgt := 22) hx hb dX3_addSign_15 (by decide) (fun c_15 => ?_) (fun c_15 => ?_)
      · skip
        refine lv_iconst (v := 0) hx hb dX3_addSign_22 (by decide) ?_
        refine lv_istore_n (lv' := [(2, .int 0), (0, .ref h0), (1, .int p0)]) hx hb dX3_addSign_23 rfl hl (by decide) rfl (fun ls hl => ?_)
        refine lv_iload_n hx hb dX3_addSign_24 rfl (lv_at hl 0 rfl) ?_
        refine lv_if_eq (tgt := 66) hx hb dX3_addSign_25 (by decide) (fun _ => ?_) (fun h9 => absurd (by decide) h9)
        have hP9 := hP.sub (ws' := [(h0, .inr (3, [.ref sA, .int tl])), (sA, .inl (cC, 1600, .inl fs))]) [0, 1] rfl
        have hD9 := hD.sub (ws' := [(h0, .inr (3, [.ref sA, .int tl])), (sA, .inl (cC, 1600, .inl fs))]) [0, 1] (by decide) rfl
        have hens0 : tl = sgI tl p0 := (by simp only [sgI, if_neg c_3, if_neg c_9, if_pos c_15])
        have hens1 : fs = sgC fs tl p0 := (by simp only [sgC, if_neg c_3, if_neg c_9, if_pos c_15])
        exact W.vret hx hb hr (fun t ht hW => ⟨⟨(tl, fs), rfl, ⟨hens0, hens1⟩, by rw [ht]; exact hP9, hD9⟩, hS.F ht⟩) hS.2.2 dX3_addSign_66
      · skip
        refine lv_iconst (v := 1) hx hb dX3_addSign_18 (by decide) ?_
        refine lv_goto (tgt := 23) hx hb dX3_addSign_19 (by decide) ?_
        refine lv_istore_n (lv' := [(2, .int 1), (0, .ref h0), (1, .int p0)]) hx hb dX3_addSign_23 rfl hl (by decide) rfl (fun ls hl => ?_)
        refine lv_iload_n hx hb dX3_addSign_24 rfl (lv_at hl 0 rfl) ?_
        refine lv_if_eq (tgt := 66) hx hb dX3_addSign_25 (by decide) (fun h9 => absurd h9 (by decide)) (fun _ => ?_)
        refine lv_aload_n hx hb dX3_addSign_28 rfl (lv_at hl 1 rfl) ?_
        refine va_get (D := (dC, dI)) (ci := 3) (v := .int tl) (C := RX3) (T := TX3) (N := 2) hx hb hts i3 hown hK hP 0 rfl rfl 1 (by decide) (hts (.fieldLink RX3 17 "StopSetter$Tape" "length" "I") (by decide +kernel)) (fun _ h9 => h9) rfl dX3_addSign_29 ?_
        refine lv_if_lt (tgt := 66) hx hb dX3_addSign_32 (by decide) (fun c_32 => ?_) (fun c_32 => ?_)
        · skip
          have hP9 := hP.sub (ws' := [(h0, .inr (3, [.ref sA, .int tl])), (sA, .inl (cC, 1600, .inl fs))]) [0, 1] rfl
          have hD9 := hD.sub (ws' := [(h0, .inr (3, [.ref sA, .int tl])), (sA, .inl (cC, 1600, .inl fs))]) [0, 1] (by decide) rfl
          have hens0 : tl = sgI tl p0 := (by simp only [sgI, if_neg c_3, if_neg c_9, if_neg c_15, if_pos c_32])
          have hens1 : fs = sgC fs tl p0 := (by simp only [sgC, if_neg c_3, if_neg c_9, if_neg c_15, if_pos c_32])
          exact W.vret hx hb hr (fun t ht hW => ⟨⟨(tl, fs), rfl, ⟨hens0, hens1⟩, by rw [ht]; exact hP9, hD9⟩, hS.F ht⟩) hS.2.2 dX3_addSign_66
        · skip
          refine lv_aload_n hx hb dX3_addSign_35 rfl (lv_at hl 1 rfl) ?_
          refine va_get (D := (dC, dI)) (ci := 3) (v := .int tl) (C := RX3) (T := TX3) (N := 2) hx hb hts i3 hown hK hP 0 rfl rfl 1 (by decide) (hts (.fieldLink RX3 17 "StopSetter$Tape" "length" "I") (by decide +kernel)) (fun _ h9 => h9) rfl dX3_addSign_36 ?_
          refine lv_sipush (v := 1600) hx hb dX3_addSign_39 (by decide) ?_
          refine lv_icmp_ge (tgt := 66) hx hb dX3_addSign_42 (by decide) (fun c_42 => ?_) (fun c_42 => ?_)
          · skip
            have hP9 := hP.sub (ws' := [(h0, .inr (3, [.ref sA, .int tl])), (sA, .inl (cC, 1600, .inl fs))]) [0, 1] rfl
            have hD9 := hD.sub (ws' := [(h0, .inr (3, [.ref sA, .int tl])), (sA, .inl (cC, 1600, .inl fs))]) [0, 1] (by decide) rfl
            have hens0 : tl = sgI tl p0 := (by simp only [sgI, if_neg c_3, if_neg c_9, if_neg c_15, if_neg c_32, if_pos c_42])
            have hens1 : fs = sgC fs tl p0 := (by simp only [sgC, if_neg c_3, if_neg c_9, if_neg c_15, if_neg c_32, if_pos c_42])
            exact W.vret hx hb hr (fun t ht hW => ⟨⟨(tl, fs), rfl, ⟨hens0, hens1⟩, by rw [ht]; exact hP9, hD9⟩, hS.F ht⟩) hS.2.2 dX3_addSign_66
          · skip
            refine lv_aload_n hx hb dX3_addSign_45 rfl (lv_at hl 1 rfl) ?_
            refine va_get (D := (dC, dI)) (ci := 3) (v := .ref sA) (C := RX3) (T := TX3) (N := 2) hx hb hts i3 hown hK hP 0 rfl rfl 0 (by decide) (hts (.fieldLink RX3 9 "StopSetter$Tape" "signs" "[C") (by decide +kernel)) (fun _ h9 => h9) rfl dX3_addSign_46 ?_
            refine lv_aload_n hx hb dX3_addSign_49 rfl (lv_at hl 1 rfl) ?_
            refine va_get (D := (dC, dI)) (ci := 3) (v := .int tl) (C := RX3) (T := TX3) (N := 2) hx hb hts i3 hown hK hP 0 rfl rfl 1 (by decide) (hts (.fieldLink RX3 17 "StopSetter$Tape" "length" "I") (by decide +kernel)) (fun _ h9 => h9) rfl dX3_addSign_50 ?_
            refine lv_iload_n hx hb dX3_addSign_53 rfl (lv_at hl 2 rfl) ?_
            refine lv_i2c (v := ((p0.toUInt32 % 65536).toInt32)) hx hb dX3_addSign_54 (rfl) ?_
            refine va_cast hx hb hK hP hD hS 1 2 rfl rfl (in_ge (c := 1600) rfl c_32 c_42) dX3_addSign_55 (fun H locs hP hD hS => ?_)
            have hP : va_P (dC, dI) vwCl [(h0, .inr (3, [.ref sA, .int tl])), (sA, .inl (cC, 1600, .inl (upd fs (tl.toNatClampNeg) (vp_nar .char ((p0.toUInt32 % 65536).toInt32)))))] H := hP
            have hD : va_D A [(h0, .inr (3, [.ref sA, .int tl])), (sA, .inl (cC, 1600, .inl (upd fs (tl.toNatClampNeg) (vp_nar .char ((p0.toUInt32 % 65536).toInt32)))))] := hD
            refine lv_aload_n hx hb dX3_addSign_56 rfl (lv_at hl 1 rfl) ?_
            refine lv_dup hx hb dX3_addSign_57 rfl ?_
            refine va_get (D := (dC, dI)) (ci := 3) (v := .int tl) (C := RX3) (T := TX3) (N := 2) hx hb hts i3 hown hK hP 0 rfl rfl 1 (by decide) (hts (.fieldLink RX3 17 "StopSetter$Tape" "length" "I") (by decide +kernel)) (fun _ h9 => h9) rfl dX3_addSign_58 ?_
            refine lv_iconst (v := 1) hx hb dX3_addSign_61 (by decide) ?_
            refine lv_iadd hx hb dX3_addSign_62 ?_
            refine lv_topi (fun v_ ev_ => ?_)
            obtain rfl : v_ = (tl + 1) := ev_.trans (rfl)
            refine va_put (D := (dC, dI)) (ci := 3) (v := .int (tl + 1)) (ty := tyX3 1) (C := RX3) (T := TX3) (N := 2) hx hb hts i3 tyX3 tyX3_ok nmX3 hown hK hP hD hS 0 rfl rfl 1 (by decide) (hts (.fieldLink RX3 17 "StopSetter$Tape" "length" "I") (by decide +kernel)) (fun _ h9 => h9) rfl (by decide +kernel) rfl rfl (Nat.le_of_ble_eq_true rfl) dX3_addSign_63 (fun H locs hP hD hS => ?_)
            have hP : va_P (dC, dI) vwCl [(h0, .inr (3, [.ref sA, .int (tl + 1)])), (sA, .inl (cC, 1600, .inl (upd fs (tl.toNatClampNeg) (vp_nar .char ((p0.toUInt32 % 65536).toInt32)))))] H := hP
            have hD : va_D A [(h0, .inr (3, [.ref sA, .int (tl + 1)])), (sA, .inl (cC, 1600, .inl (upd fs (tl.toNatClampNeg) (vp_nar .char ((p0.toUInt32 % 65536).toInt32)))))] := hD
            have hP9 := hP.sub (ws' := [(h0, .inr (3, [.ref sA, .int (tl + 1)])), (sA, .inl (cC, 1600, .inl (upd fs (tl.toNatClampNeg) (vp_nar .char ((p0.toUInt32 % 65536).toInt32)))))]) [0, 1] rfl
            have hD9 := hD.sub (ws' := [(h0, .inr (3, [.ref sA, .int (tl + 1)])), (sA, .inl (cC, 1600, .inl (upd fs (tl.toNatClampNeg) (vp_nar .char ((p0.toUInt32 % 65536).toInt32)))))]) [0, 1] (by decide) rfl
            have hens0 : (tl + 1) = sgI tl p0 := (by simp only [sgI, if_neg c_3, if_neg c_9, if_neg c_15, if_neg c_32, if_neg c_42])
            have hens1 : (upd fs (tl.toNatClampNeg) (vp_nar .char ((p0.toUInt32 % 65536).toInt32))) = sgC fs tl p0 := (by simp only [sgC, if_neg c_3, if_neg c_9, if_neg c_15, if_neg c_32, if_neg c_42])
            exact W.vret hx hb hr (fun t ht hW => ⟨⟨((tl + 1), (upd fs (tl.toNatClampNeg) (vp_nar .char ((p0.toUInt32 % 65536).toInt32)))), rfl, ⟨hens0, hens1⟩, by rw [ht]; exact hP9, hD9⟩, hS.F ht⟩) hS.2.2 dX3_addSign_66
set_option maxHeartbeats 4000000 in
set_option maxRecDepth 100000 in
theorem k_addBytes (l : Launch) (dC : Nat → ClassId) (dI : Nat → Nat → Nat) (cI cZ cC cJ : ClassId) (sz : Nat) (h0 : Nat) (sA : Nat) (tl : Int32) (fs : Nat → Int32) (q0 : Int64)  : Met l yX3_addBytes wsX3_addBytes ({ frames := 1, cells := 0, slots := 0, locals := 22 }) (va_Pc [.ref h0, .long q0] (sPre dC dI cI cZ cC cJ [(h0, .inr (3, [.ref sA, .int tl])), (sA, .inl (cC, 1600, .inl fs))] sz)) (va_Qv (fun (u : (Int32) × (Nat → Int32)) => match u with | (tl2, fs2) => (tl2 = sgFI (byU q0) ks8 tl) ∧ (fs2 = sgCF (byU q0) ks8 fs tl)) (fun (u : (Int32) × (Nat → Int32)) t => match u with | (tl2, fs2) => sB dC dI (va_A [(h0, .inr (3, [.ref sA, .int tl])), (sA, .inl (cC, 1600, .inl fs))] sz) [(h0, .inr (3, [.ref sA, .int tl2])), (sA, .inl (cC, 1600, .inl fs2))] t) (va_A [(h0, .inr (3, [.ref sA, .int tl])), (sA, .inl (cC, 1600, .inl fs))] sz)) 0 0 (va_A [(h0, .inr (3, [.ref sA, .int tl])), (sA, .inl (cC, 1600, .inl fs))] sz) := by
  refine Met.ofW (cc := cX3_addBytes) (maxL := 4) (ret := none) (by decide) rfl ?_
  intro p e s m args below meth c s₁ B hml hv
  obtain ⟨rfl, hsz, hP, hsk, hD0⟩ := hv
  have hx := B.exec
  have hb := B.bytes
  have hr := B.returns
  have hts := atoms_spec (ws := wsX3_addBytes) B.pre
  have hown : s.vm.findClass RX3 = some m.cls := findClass_of_methodNamed B.named
  have hlocks := B.notSynchronized
  have hK := hsk.1
  subst hsz
  have hD := hD0.self (sz := s.heap.size)
  generalize hAe : va_A [(h0, .inr (3, [.ref sA, .int tl])), (sA, .inl (cC, 1600, .inl fs))] s.heap.size = A at hD ⊢
  have hA : ∀ q : Nat, s.heap.size ≤ q → A q := fun q h => by rw [← hAe]; exact Or.inr h
  have hS : va_S A s.heap s.heap [] := va_S.rf
  have hl := lv_entry ([.ref h0, .long q0]) (n := 4) (Nat.le_of_ble_eq_true rfl)
  rw [lg_entry_eq]
  generalize (lg_sl ([.ref h0, .long q0]) ++ List.replicate (4 - (lg_sl ([.ref h0, .long q0])).length) Slot.unset).toArray = ls at hl ⊢
  have hl : lv_has ls 4 [(0, .ref h0), (1, .long q0)] := hl
  refine lv_bipush (v := 56) hx hb dX3_addBytes_0 (by decide) ?_
  refine lv_istore_n (lv' := [(3, .int 56), (0, .ref h0), (1, .long q0)]) hx hb dX3_addBytes_2 rfl hl (by decide) rfl (fun ls hl => ?_)
  refine lv_iload_n hx hb dX3_addBytes_3 rfl (lv_at hl 0 rfl) ?_
  refine lv_if_lt (tgt := 25) hx hb dX3_addBytes_4 (by decide) (fun h9 => absurd h9 (by decide)) (fun _ => ?_)
  refine lv_aload_n hx hb dX3_addBytes_7 rfl (lv_at hl 1 rfl) ?_
  refine lv_lload_n hx hb dX3_addBytes_8 rfl (lv_at hl 2 rfl) ?_
  refine lv_iload_n hx hb dX3_addBytes_9 rfl (lv_at hl 0 rfl) ?_
  refine lv_lushr (v := (q0.toUInt64 >>> ((56 : Int32).toInt64.toUInt64 &&& Int64.toUInt64 63)).toInt64) hx hb dX3_addBytes_10 rfl ?_
  refine lv_l2i (v := ((q0.toUInt64 >>> ((56 : Int32).toInt64.toUInt64 &&& Int64.toUInt64 63)).toInt64).toInt32) hx hb dX3_addBytes_11 rfl ?_
  refine lv_sipush (v := 255) hx hb dX3_addBytes_12 (by decide) ?_
  refine lv_iand hx hb dX3_addBytes_15 ?_
  refine lv_topi (fun v_ ev_ => ?_)
  obtain rfl : v_ = (byU q0 56) := ev_.trans (rfl)
  have hPc := hP.sub (ws' := [(h0, .inr (3, [.ref sA, .int tl])), (sA, .inl (cC, 1600, .inl fs))]) [0, 1] rfl
  have hDc := hD.sub (ws' := [(h0, .inr (3, [.ref sA, .int tl])), (sA, .inl (cC, 1600, .inl fs))]) [0, 1] (by decide) rfl
  have hFc := va_free (wc := [(h0, .inr (3, [.ref sA, .int tl])), (sA, .inl (cC, 1600, .inl fs))]) hD hS hA [0, 1] rfl
  refine va_callv (va_runV (As := [.int (byU q0 56)]) (rest := []) ⟨hx, hb, hml, hown, hts⟩ (k_addSign l dC dI cI cZ cC cJ s.heap.size  h0 sA tl fs (byU q0 56) ) (cwV 1 hts gX3_addBytes_X3_addSign rfl rfl rfl (by decide +kernel) ⟨Nat.le_of_ble_eq_true rfl, Nat.le_of_ble_eq_true rfl⟩) ⟨sPre_blind, va_recv hK hPc (ci := 3) (q0 := 0) rfl rfl, fun U hU hW => ⟨rfl, sPre_ok hsk hPc hDc hU hW⟩⟩ rfl rfl hl.1 rfl (lv_room (Nat.le_of_ble_eq_true rfl)) dX3_addBytes_16 ⟨(show 0 + 0 ≤ 0 by omega), (show 0 + 0 ≤ 0 by omega)⟩) hS (fun q _ h => hFc q h) hFc (fun u t H1 locs ht hvm hw hB hz1 hk1 hS => ?_)
  obtain ⟨t_2, f_3⟩ := u
  try dsimp only at hw hB
  obtain ⟨he_4, he_5⟩ := hw
  have he_4 : t_2 = sgI tl (byU q0 56) := he_4
  have he_5 : f_3 = sgC fs tl (byU q0 56) := he_5
  obtain ⟨hP1, hD1⟩ := hB
  rw [ht] at hP1
  obtain ⟨hP, hD⟩ := va_join (wr := []) (w1 := [(h0, .inr (3, [.ref sA, .int t_2])), (sA, .inl (cC, 1600, .inl f_3))]) hP hD [0, 1] [] rfl rfl (by decide) (by decide) hk1 hFc hP1 hD1
  generalize H1 = H at hP hS ⊢
  have hP : va_P (dC, dI) vwCl [(h0, .inr (3, [.ref sA, .int t_2])), (sA, .inl (cC, 1600, .inl f_3))] H := hP
  have hD : va_D A [(h0, .inr (3, [.ref sA, .int t_2])), (sA, .inl (cC, 1600, .inl f_3))] := hD
  refine lv_iinc (v := 48) (lv' := [(3, .int 48), (0, .ref h0), (1, .long q0)]) hx hb dX3_addBytes_19 hl (k := 0) rfl (by decide) (by decide) rfl (fun ls hl => ?_)
  refine lv_goto (tgt := 3) hx hb dX3_addBytes_22 (by decide) ?_
  refine lv_iload_n hx hb dX3_addBytes_3 rfl (lv_at hl 0 rfl) ?_
  refine lv_if_lt (tgt := 25) hx hb dX3_addBytes_4 (by decide) (fun h9 => absurd h9 (by decide)) (fun _ => ?_)
  refine lv_aload_n hx hb dX3_addBytes_7 rfl (lv_at hl 1 rfl) ?_
  refine lv_lload_n hx hb dX3_addBytes_8 rfl (lv_at hl 2 rfl) ?_
  refine lv_iload_n hx hb dX3_addBytes_9 rfl (lv_at hl 0 rfl) ?_
  refine lv_lushr (v := (q0.toUInt64 >>> ((48 : Int32).toInt64.toUInt64 &&& Int64.toUInt64 63)).toInt64) hx hb dX3_addBytes_10 rfl ?_
  refine lv_l2i (v := ((q0.toUInt64 >>> ((48 : Int32).toInt64.toUInt64 &&& Int64.toUInt64 63)).toInt64).toInt32) hx hb dX3_addBytes_11 rfl ?_
  refine lv_sipush (v := 255) hx hb dX3_addBytes_12 (by decide) ?_
  refine lv_iand hx hb dX3_addBytes_15 ?_
  refine lv_topi (fun v_ ev_ => ?_)
  obtain rfl : v_ = (byU q0 48) := ev_.trans (rfl)
  have hPc := hP.sub (ws' := [(h0, .inr (3, [.ref sA, .int t_2])), (sA, .inl (cC, 1600, .inl f_3))]) [0, 1] rfl
  have hDc := hD.sub (ws' := [(h0, .inr (3, [.ref sA, .int t_2])), (sA, .inl (cC, 1600, .inl f_3))]) [0, 1] (by decide) rfl
  have hFc := va_free (wc := [(h0, .inr (3, [.ref sA, .int t_2])), (sA, .inl (cC, 1600, .inl f_3))]) hD hS hA [0, 1] rfl
  refine va_callv (va_runV (As := [.int (byU q0 48)]) (rest := []) ⟨hx, hb, hml, hown, hts⟩ (k_addSign l dC dI cI cZ cC cJ H.size  h0 sA t_2 f_3 (byU q0 48) ) (cwV 1 hts gX3_addBytes_X3_addSign rfl rfl rfl (by decide +kernel) ⟨Nat.le_of_ble_eq_true rfl, Nat.le_of_ble_eq_true rfl⟩) ⟨sPre_blind, va_recv hK hPc (ci := 3) (q0 := 0) rfl rfl, fun U hU hW => ⟨rfl, sPre_ok hsk hPc hDc hU hW⟩⟩ rfl rfl hl.1 rfl (lv_room (Nat.le_of_ble_eq_true rfl)) dX3_addBytes_16 ⟨(show 0 + 0 ≤ 0 by omega), (show 0 + 0 ≤ 0 by omega)⟩) hS (fun q _ h => hFc q h) hFc (fun u t H1 locs ht hvm hw hB hz1 hk1 hS => ?_)
  obtain ⟨t_7, f_8⟩ := u
  try dsimp only at hw hB
  obtain ⟨he_9, he_10⟩ := hw
  have he_9 : t_7 = sgI t_2 (byU q0 48) := he_9
  have he_10 : f_8 = sgC f_3 t_2 (byU q0 48) := he_10
  obtain ⟨hP1, hD1⟩ := hB
  rw [ht] at hP1
  obtain ⟨hP, hD⟩ := va_join (wr := []) (w1 := [(h0, .inr (3, [.ref sA, .int t_7])), (sA, .inl (cC, 1600, .inl f_8))]) hP hD [0, 1] [] rfl rfl (by decide) (by decide) hk1 hFc hP1 hD1
  generalize H1 = H at hP hS ⊢
  have hP : va_P (dC, dI) vwCl [(h0, .inr (3, [.ref sA, .int t_7])), (sA, .inl (cC, 1600, .inl f_8))] H := hP
  have hD : va_D A [(h0, .inr (3, [.ref sA, .int t_7])), (sA, .inl (cC, 1600, .inl f_8))] := hD
  refine lv_iinc (v := 40) (lv' := [(3, .int 40), (0, .ref h0), (1, .long q0)]) hx hb dX3_addBytes_19 hl (k := 0) rfl (by decide) (by decide) rfl (fun ls hl => ?_)
  refine lv_goto (tgt := 3) hx hb dX3_addBytes_22 (by decide) ?_
  refine lv_iload_n hx hb dX3_addBytes_3 rfl (lv_at hl 0 rfl) ?_
  refine lv_if_lt (tgt := 25) hx hb dX3_addBytes_4 (by decide) (fun h9 => absurd h9 (by decide)) (fun _ => ?_)
  refine lv_aload_n hx hb dX3_addBytes_7 rfl (lv_at hl 1 rfl) ?_
  refine lv_lload_n hx hb dX3_addBytes_8 rfl (lv_at hl 2 rfl) ?_
  refine lv_iload_n hx hb dX3_addBytes_9 rfl (lv_at hl 0 rfl) ?_
  refine lv_lushr (v := (q0.toUInt64 >>> ((40 : Int32).toInt64.toUInt64 &&& Int64.toUInt64 63)).toInt64) hx hb dX3_addBytes_10 rfl ?_
  refine lv_l2i (v := ((q0.toUInt64 >>> ((40 : Int32).toInt64.toUInt64 &&& Int64.toUInt64 63)).toInt64).toInt32) hx hb dX3_addBytes_11 rfl ?_
  refine lv_sipush (v := 255) hx hb dX3_addBytes_12 (by decide) ?_
  refine lv_iand hx hb dX3_addBytes_15 ?_
  refine lv_topi (fun v_ ev_ => ?_)
  obtain rfl : v_ = (byU q0 40) := ev_.trans (rfl)
  have hPc := hP.sub (ws' := [(h0, .inr (3, [.ref sA, .int t_7])), (sA, .inl (cC, 1600, .inl f_8))]) [0, 1] rfl
  have hDc := hD.sub (ws' := [(h0, .inr (3, [.ref sA, .int t_7])), (sA, .inl (cC, 1600, .inl f_8))]) [0, 1] (by decide) rfl
  have hFc := va_free (wc := [(h0, .inr (3, [.ref sA, .int t_7])), (sA, .inl (cC, 1600, .inl f_8))]) hD hS hA [0, 1] rfl
  refine va_callv (va_runV (As := [.int (byU q0 40)]) (rest := []) ⟨hx, hb, hml, hown, hts⟩ (k_addSign l dC dI cI cZ cC cJ H.size  h0 sA t_7 f_8 (byU q0 40) ) (cwV 1 hts gX3_addBytes_X3_addSign rfl rfl rfl (by decide +kernel) ⟨Nat.le_of_ble_eq_true rfl, Nat.le_of_ble_eq_true rfl⟩) ⟨sPre_blind, va_recv hK hPc (ci := 3) (q0 := 0) rfl rfl, fun U hU hW => ⟨rfl, sPre_ok hsk hPc hDc hU hW⟩⟩ rfl rfl hl.1 rfl (lv_room (Nat.le_of_ble_eq_true rfl)) dX3_addBytes_16 ⟨(show 0 + 0 ≤ 0 by omega), (show 0 + 0 ≤ 0 by omega)⟩) hS (fun q _ h => hFc q h) hFc (fun u t H1 locs ht hvm hw hB hz1 hk1 hS => ?_)
  obtain ⟨t_12, f_13⟩ := u
  try dsimp only at hw hB
  obtain ⟨he_14, he_15⟩ := hw
  have he_14 : t_12 = sgI t_7 (byU q0 40) := he_14
  have he_15 : f_13 = sgC f_8 t_7 (byU q0 40) := he_15
  obtain ⟨hP1, hD1⟩ := hB
  rw [ht] at hP1
  obtain ⟨hP, hD⟩ := va_join (wr := []) (w1 := [(h0, .inr (3, [.ref sA, .int t_12])), (sA, .inl (cC, 1600, .inl f_13))]) hP hD [0, 1] [] rfl rfl (by decide) (by decide) hk1 hFc hP1 hD1
  generalize H1 = H at hP hS ⊢
  have hP : va_P (dC, dI) vwCl [(h0, .inr (3, [.ref sA, .int t_12])), (sA, .inl (cC, 1600, .inl f_13))] H := hP
  have hD : va_D A [(h0, .inr (3, [.ref sA, .int t_12])), (sA, .inl (cC, 1600, .inl f_13))] := hD
  refine lv_iinc (v := 32) (lv' := [(3, .int 32), (0, .ref h0), (1, .long q0)]) hx hb dX3_addBytes_19 hl (k := 0) rfl (by decide) (by decide) rfl (fun ls hl => ?_)
  refine lv_goto (tgt := 3) hx hb dX3_addBytes_22 (by decide) ?_
  refine lv_iload_n hx hb dX3_addBytes_3 rfl (lv_at hl 0 rfl) ?_
  refine lv_if_lt (tgt := 25) hx hb dX3_addBytes_4 (by decide) (fun h9 => absurd h9 (by decide)) (fun _ => ?_)
  refine lv_aload_n hx hb dX3_addBytes_7 rfl (lv_at hl 1 rfl) ?_
  refine lv_lload_n hx hb dX3_addBytes_8 rfl (lv_at hl 2 rfl) ?_
  refine lv_iload_n hx hb dX3_addBytes_9 rfl (lv_at hl 0 rfl) ?_
  refine lv_lushr (v := (q0.toUInt64 >>> ((32 : Int32).toInt64.toUInt64 &&& Int64.toUInt64 63)).toInt64) hx hb dX3_addBytes_10 rfl ?_
  refine lv_l2i (v := ((q0.toUInt64 >>> ((32 : Int32).toInt64.toUInt64 &&& Int64.toUInt64 63)).toInt64).toInt32) hx hb dX3_addBytes_11 rfl ?_
  refine lv_sipush (v := 255) hx hb dX3_addBytes_12 (by decide) ?_
  refine lv_iand hx hb dX3_addBytes_15 ?_
  refine lv_topi (fun v_ ev_ => ?_)
  obtain rfl : v_ = (byU q0 32) := ev_.trans (rfl)
  have hPc := hP.sub (ws' := [(h0, .inr (3, [.ref sA, .int t_12])), (sA, .inl (cC, 1600, .inl f_13))]) [0, 1] rfl
  have hDc := hD.sub (ws' := [(h0, .inr (3, [.ref sA, .int t_12])), (sA, .inl (cC, 1600, .inl f_13))]) [0, 1] (by decide) rfl
  have hFc := va_free (wc := [(h0, .inr (3, [.ref sA, .int t_12])), (sA, .inl (cC, 1600, .inl f_13))]) hD hS hA [0, 1] rfl
  refine va_callv (va_runV (As := [.int (byU q0 32)]) (rest := []) ⟨hx, hb, hml, hown, hts⟩ (k_addSign l dC dI cI cZ cC cJ H.size  h0 sA t_12 f_13 (byU q0 32) ) (cwV 1 hts gX3_addBytes_X3_addSign rfl rfl rfl (by decide +kernel) ⟨Nat.le_of_ble_eq_true rfl, Nat.le_of_ble_eq_true rfl⟩) ⟨sPre_blind, va_recv hK hPc (ci := 3) (q0 := 0) rfl rfl, fun U hU hW => ⟨rfl, sPre_ok hsk hPc hDc hU hW⟩⟩ rfl rfl hl.1 rfl (lv_room (Nat.le_of_ble_eq_true rfl)) dX3_addBytes_16 ⟨(show 0 + 0 ≤ 0 by omega), (show 0 + 0 ≤ 0 by omega)⟩) hS (fun q _ h => hFc q h) hFc (fun u t H1 locs ht hvm hw hB hz1 hk1 hS => ?_)
  obtain ⟨t_17, f_18⟩ := u
  try dsimp only at hw hB
  obtain ⟨he_19, he_20⟩ := hw
  have he_19 : t_17 = sgI t_12 (byU q0 32) := he_19
  have he_20 : f_18 = sgC f_13 t_12 (byU q0 32) := he_20
  obtain ⟨hP1, hD1⟩ := hB
  rw [ht] at hP1
  obtain ⟨hP, hD⟩ := va_join (wr := []) (w1 := [(h0, .inr (3, [.ref sA, .int t_17])), (sA, .inl (cC, 1600, .inl f_18))]) hP hD [0, 1] [] rfl rfl (by decide) (by decide) hk1 hFc hP1 hD1
  generalize H1 = H at hP hS ⊢
  have hP : va_P (dC, dI) vwCl [(h0, .inr (3, [.ref sA, .int t_17])), (sA, .inl (cC, 1600, .inl f_18))] H := hP
  have hD : va_D A [(h0, .inr (3, [.ref sA, .int t_17])), (sA, .inl (cC, 1600, .inl f_18))] := hD
  refine lv_iinc (v := 24) (lv' := [(3, .int 24), (0, .ref h0), (1, .long q0)]) hx hb dX3_addBytes_19 hl (k := 0) rfl (by decide) (by decide) rfl (fun ls hl => ?_)
  refine lv_goto (tgt := 3) hx hb dX3_addBytes_22 (by decide) ?_
  refine lv_iload_n hx hb dX3_addBytes_3 rfl (lv_at hl 0 rfl) ?_
  refine lv_if_lt (tgt := 25) hx hb dX3_addBytes_4 (by decide) (fun h9 => absurd h9 (by decide)) (fun _ => ?_)
  refine lv_aload_n hx hb dX3_addBytes_7 rfl (lv_at hl 1 rfl) ?_
  refine lv_lload_n hx hb dX3_addBytes_8 rfl (lv_at hl 2 rfl) ?_
  refine lv_iload_n hx hb dX3_addBytes_9 rfl (lv_at hl 0 rfl) ?_
  refine lv_lushr (v := (q0.toUInt64 >>> ((24 : Int32).toInt64.toUInt64 &&& Int64.toUInt64 63)).toInt64) hx hb dX3_addBytes_10 rfl ?_
  refine lv_l2i (v := ((q0.toUInt64 >>> ((24 : Int32).toInt64.toUInt64 &&& Int64.toUInt64 63)).toInt64).toInt32) hx hb dX3_addBytes_11 rfl ?_
  refine lv_sipush (v := 255) hx hb dX3_addBytes_12 (by decide) ?_
  refine lv_iand hx hb dX3_addBytes_15 ?_
  refine lv_topi (fun v_ ev_ => ?_)
  obtain rfl : v_ = (byU q0 24) := ev_.trans (rfl)
  have hPc := hP.sub (ws' := [(h0, .inr (3, [.ref sA, .int t_17])), (sA, .inl (cC, 1600, .inl f_18))]) [0, 1] rfl
  have hDc := hD.sub (ws' := [(h0, .inr (3, [.ref sA, .int t_17])), (sA, .inl (cC, 1600, .inl f_18))]) [0, 1] (by decide) rfl
  have hFc := va_free (wc := [(h0, .inr (3, [.ref sA, .int t_17])), (sA, .inl (cC, 1600, .inl f_18))]) hD hS hA [0, 1] rfl
  refine va_callv (va_runV (As := [.int (byU q0 24)]) (rest := []) ⟨hx, hb, hml, hown, hts⟩ (k_addSign l dC dI cI cZ cC cJ H.size  h0 sA t_17 f_18 (byU q0 24) ) (cwV 1 hts gX3_addBytes_X3_addSign rfl rfl rfl (by decide +kernel) ⟨Nat.le_of_ble_eq_true rfl, Nat.le_of_ble_eq_true rfl⟩) ⟨sPre_blind, va_recv hK hPc (ci := 3) (q0 := 0) rfl rfl, fun U hU hW => ⟨rfl, sPre_ok hsk hPc hDc hU hW⟩⟩ rfl rfl hl.1 rfl (lv_room (Nat.le_of_ble_eq_true rfl)) dX3_addBytes_16 ⟨(show 0 + 0 ≤ 0 by omega), (show 0 + 0 ≤ 0 by omega)⟩) hS (fun q _ h => hFc q h) hFc (fun u t H1 locs ht hvm hw hB hz1 hk1 hS => ?_)
  obtain ⟨t_22, f_23⟩ := u
  try dsimp only at hw hB
  obtain ⟨he_24, he_25⟩ := hw
  have he_24 : t_22 = sgI t_17 (byU q0 24) := he_24
  have he_25 : f_23 = sgC f_18 t_17 (byU q0 24) := he_25
  obtain ⟨hP1, hD1⟩ := hB
  rw [ht] at hP1
  obtain ⟨hP, hD⟩ := va_join (wr := []) (w1 := [(h0, .inr (3, [.ref sA, .int t_22])), (sA, .inl (cC, 1600, .inl f_23))]) hP hD [0, 1] [] rfl rfl (by decide) (by decide) hk1 hFc hP1 hD1
  generalize H1 = H at hP hS ⊢
  have hP : va_P (dC, dI) vwCl [(h0, .inr (3, [.ref sA, .int t_22])), (sA, .inl (cC, 1600, .inl f_23))] H := hP
  have hD : va_D A [(h0, .inr (3, [.ref sA, .int t_22])), (sA, .inl (cC, 1600, .inl f_23))] := hD
  refine lv_iinc (v := 16) (lv' := [(3, .int 16), (0, .ref h0), (1, .long q0)]) hx hb dX3_addBytes_19 hl (k := 0) rfl (by decide) (by decide) rfl (fun ls hl => ?_)
  refine lv_goto (tgt := 3) hx hb dX3_addBytes_22 (by decide) ?_
  refine lv_iload_n hx hb dX3_addBytes_3 rfl (lv_at hl 0 rfl) ?_
  refine lv_if_lt (tgt := 25) hx hb dX3_addBytes_4 (by decide) (fun h9 => absurd h9 (by decide)) (fun _ => ?_)
  refine lv_aload_n hx hb dX3_addBytes_7 rfl (lv_at hl 1 rfl) ?_
  refine lv_lload_n hx hb dX3_addBytes_8 rfl (lv_at hl 2 rfl) ?_
  refine lv_iload_n hx hb dX3_addBytes_9 rfl (lv_at hl 0 rfl) ?_
  refine lv_lushr (v := (q0.toUInt64 >>> ((16 : Int32).toInt64.toUInt64 &&& Int64.toUInt64 63)).toInt64) hx hb dX3_addBytes_10 rfl ?_
  refine lv_l2i (v := ((q0.toUInt64 >>> ((16 : Int32).toInt64.toUInt64 &&& Int64.toUInt64 63)).toInt64).toInt32) hx hb dX3_addBytes_11 rfl ?_
  refine lv_sipush (v := 255) hx hb dX3_addBytes_12 (by decide) ?_
  refine lv_iand hx hb dX3_addBytes_15 ?_
  refine lv_topi (fun v_ ev_ => ?_)
  obtain rfl : v_ = (byU q0 16) := ev_.trans (rfl)
  have hPc := hP.sub (ws' := [(h0, .inr (3, [.ref sA, .int t_22])), (sA, .inl (cC, 1600, .inl f_23))]) [0, 1] rfl
  have hDc := hD.sub (ws' := [(h0, .inr (3, [.ref sA, .int t_22])), (sA, .inl (cC, 1600, .inl f_23))]) [0, 1] (by decide) rfl
  have hFc := va_free (wc := [(h0, .inr (3, [.ref sA, .int t_22])), (sA, .inl (cC, 1600, .inl f_23))]) hD hS hA [0, 1] rfl
  refine va_callv (va_runV (As := [.int (byU q0 16)]) (rest := []) ⟨hx, hb, hml, hown, hts⟩ (k_addSign l dC dI cI cZ cC cJ H.size  h0 sA t_22 f_23 (byU q0 16) ) (cwV 1 hts gX3_addBytes_X3_addSign rfl rfl rfl (by decide +kernel) ⟨Nat.le_of_ble_eq_true rfl, Nat.le_of_ble_eq_true rfl⟩) ⟨sPre_blind, va_recv hK hPc (ci := 3) (q0 := 0) rfl rfl, fun U hU hW => ⟨rfl, sPre_ok hsk hPc hDc hU hW⟩⟩ rfl rfl hl.1 rfl (lv_room (Nat.le_of_ble_eq_true rfl)) dX3_addBytes_16 ⟨(show 0 + 0 ≤ 0 by omega), (show 0 + 0 ≤ 0 by omega)⟩) hS (fun q _ h => hFc q h) hFc (fun u t H1 locs ht hvm hw hB hz1 hk1 hS => ?_)
  obtain ⟨t_27, f_28⟩ := u
  try dsimp only at hw hB
  obtain ⟨he_29, he_30⟩ := hw
  have he_29 : t_27 = sgI t_22 (byU q0 16) := he_29
  have he_30 : f_28 = sgC f_23 t_22 (byU q0 16) := he_30
  obtain ⟨hP1, hD1⟩ := hB
  rw [ht] at hP1
  obtain ⟨hP, hD⟩ := va_join (wr := []) (w1 := [(h0, .inr (3, [.ref sA, .int t_27])), (sA, .inl (cC, 1600, .inl f_28))]) hP hD [0, 1] [] rfl rfl (by decide) (by decide) hk1 hFc hP1 hD1
  generalize H1 = H at hP hS ⊢
  have hP : va_P (dC, dI) vwCl [(h0, .inr (3, [.ref sA, .int t_27])), (sA, .inl (cC, 1600, .inl f_28))] H := hP
  have hD : va_D A [(h0, .inr (3, [.ref sA, .int t_27])), (sA, .inl (cC, 1600, .inl f_28))] := hD
  refine lv_iinc (v := 8) (lv' := [(3, .int 8), (0, .ref h0), (1, .long q0)]) hx hb dX3_addBytes_19 hl (k := 0) rfl (by decide) (by decide) rfl (fun ls hl => ?_)
  refine lv_goto (tgt := 3) hx hb dX3_addBytes_22 (by decide) ?_
  refine lv_iload_n hx hb dX3_addBytes_3 rfl (lv_at hl 0 rfl) ?_
  refine lv_if_lt (tgt := 25) hx hb dX3_addBytes_4 (by decide) (fun h9 => absurd h9 (by decide)) (fun _ => ?_)
  refine lv_aload_n hx hb dX3_addBytes_7 rfl (lv_at hl 1 rfl) ?_
  refine lv_lload_n hx hb dX3_addBytes_8 rfl (lv_at hl 2 rfl) ?_
  refine lv_iload_n hx hb dX3_addBytes_9 rfl (lv_at hl 0 rfl) ?_
  refine lv_lushr (v := (q0.toUInt64 >>> ((8 : Int32).toInt64.toUInt64 &&& Int64.toUInt64 63)).toInt64) hx hb dX3_addBytes_10 rfl ?_
  refine lv_l2i (v := ((q0.toUInt64 >>> ((8 : Int32).toInt64.toUInt64 &&& Int64.toUInt64 63)).toInt64).toInt32) hx hb dX3_addBytes_11 rfl ?_
  refine lv_sipush (v := 255) hx hb dX3_addBytes_12 (by decide) ?_
  refine lv_iand hx hb dX3_addBytes_15 ?_
  refine lv_topi (fun v_ ev_ => ?_)
  obtain rfl : v_ = (byU q0 8) := ev_.trans (rfl)
  have hPc := hP.sub (ws' := [(h0, .inr (3, [.ref sA, .int t_27])), (sA, .inl (cC, 1600, .inl f_28))]) [0, 1] rfl
  have hDc := hD.sub (ws' := [(h0, .inr (3, [.ref sA, .int t_27])), (sA, .inl (cC, 1600, .inl f_28))]) [0, 1] (by decide) rfl
  have hFc := va_free (wc := [(h0, .inr (3, [.ref sA, .int t_27])), (sA, .inl (cC, 1600, .inl f_28))]) hD hS hA [0, 1] rfl
  refine va_callv (va_runV (As := [.int (byU q0 8)]) (rest := []) ⟨hx, hb, hml, hown, hts⟩ (k_addSign l dC dI cI cZ cC cJ H.size  h0 sA t_27 f_28 (byU q0 8) ) (cwV 1 hts gX3_addBytes_X3_addSign rfl rfl rfl (by decide +kernel) ⟨Nat.le_of_ble_eq_true rfl, Nat.le_of_ble_eq_true rfl⟩) ⟨sPre_blind, va_recv hK hPc (ci := 3) (q0 := 0) rfl rfl, fun U hU hW => ⟨rfl, sPre_ok hsk hPc hDc hU hW⟩⟩ rfl rfl hl.1 rfl (lv_room (Nat.le_of_ble_eq_true rfl)) dX3_addBytes_16 ⟨(show 0 + 0 ≤ 0 by omega), (show 0 + 0 ≤ 0 by omega)⟩) hS (fun q _ h => hFc q h) hFc (fun u t H1 locs ht hvm hw hB hz1 hk1 hS => ?_)
  obtain ⟨t_32, f_33⟩ := u
  try dsimp only at hw hB
  obtain ⟨he_34, he_35⟩ := hw
  have he_34 : t_32 = sgI t_27 (byU q0 8) := he_34
  have he_35 : f_33 = sgC f_28 t_27 (byU q0 8) := he_35
  obtain ⟨hP1, hD1⟩ := hB
  rw [ht] at hP1
  obtain ⟨hP, hD⟩ := va_join (wr := []) (w1 := [(h0, .inr (3, [.ref sA, .int t_32])), (sA, .inl (cC, 1600, .inl f_33))]) hP hD [0, 1] [] rfl rfl (by decide) (by decide) hk1 hFc hP1 hD1
  generalize H1 = H at hP hS ⊢
  have hP : va_P (dC, dI) vwCl [(h0, .inr (3, [.ref sA, .int t_32])), (sA, .inl (cC, 1600, .inl f_33))] H := hP
  have hD : va_D A [(h0, .inr (3, [.ref sA, .int t_32])), (sA, .inl (cC, 1600, .inl f_33))] := hD
  refine lv_iinc (v := 0) (lv' := [(3, .int 0), (0, .ref h0), (1, .long q0)]) hx hb dX3_addBytes_19 hl (k := 0) rfl (by decide) (by decide) rfl (fun ls hl => ?_)
  refine lv_goto (tgt := 3) hx hb dX3_addBytes_22 (by decide) ?_
  refine lv_iload_n hx hb dX3_addBytes_3 rfl (lv_at hl 0 rfl) ?_
  refine lv_if_lt (tgt := 25) hx hb dX3_addBytes_4 (by decide) (fun h9 => absurd h9 (by decide)) (fun _ => ?_)
  refine lv_aload_n hx hb dX3_addBytes_7 rfl (lv_at hl 1 rfl) ?_
  refine lv_lload_n hx hb dX3_addBytes_8 rfl (lv_at hl 2 rfl) ?_
  refine lv_iload_n hx hb dX3_addBytes_9 rfl (lv_at hl 0 rfl) ?_
  refine lv_lushr (v := (q0.toUInt64 >>> ((0 : Int32).toInt64.toUInt64 &&& Int64.toUInt64 63)).toInt64) hx hb dX3_addBytes_10 rfl ?_
  refine lv_l2i (v := ((q0.toUInt64 >>> ((0 : Int32).toInt64.toUInt64 &&& Int64.toUInt64 63)).toInt64).toInt32) hx hb dX3_addBytes_11 rfl ?_
  refine lv_sipush (v := 255) hx hb dX3_addBytes_12 (by decide) ?_
  refine lv_iand hx hb dX3_addBytes_15 ?_
  refine lv_topi (fun v_ ev_ => ?_)
  obtain rfl : v_ = (byU q0 0) := ev_.trans (rfl)
  have hPc := hP.sub (ws' := [(h0, .inr (3, [.ref sA, .int t_32])), (sA, .inl (cC, 1600, .inl f_33))]) [0, 1] rfl
  have hDc := hD.sub (ws' := [(h0, .inr (3, [.ref sA, .int t_32])), (sA, .inl (cC, 1600, .inl f_33))]) [0, 1] (by decide) rfl
  have hFc := va_free (wc := [(h0, .inr (3, [.ref sA, .int t_32])), (sA, .inl (cC, 1600, .inl f_33))]) hD hS hA [0, 1] rfl
  refine va_callv (va_runV (As := [.int (byU q0 0)]) (rest := []) ⟨hx, hb, hml, hown, hts⟩ (k_addSign l dC dI cI cZ cC cJ H.size  h0 sA t_32 f_33 (byU q0 0) ) (cwV 1 hts gX3_addBytes_X3_addSign rfl rfl rfl (by decide +kernel) ⟨Nat.le_of_ble_eq_true rfl, Nat.le_of_ble_eq_true rfl⟩) ⟨sPre_blind, va_recv hK hPc (ci := 3) (q0 := 0) rfl rfl, fun U hU hW => ⟨rfl, sPre_ok hsk hPc hDc hU hW⟩⟩ rfl rfl hl.1 rfl (lv_room (Nat.le_of_ble_eq_true rfl)) dX3_addBytes_16 ⟨(show 0 + 0 ≤ 0 by omega), (show 0 + 0 ≤ 0 by omega)⟩) hS (fun q _ h => hFc q h) hFc (fun u t H1 locs ht hvm hw hB hz1 hk1 hS => ?_)
  obtain ⟨t_37, f_38⟩ := u
  try dsimp only at hw hB
  obtain ⟨he_39, he_40⟩ := hw
  have he_39 : t_37 = sgI t_32 (byU q0 0) := he_39
  have he_40 : f_38 = sgC f_33 t_32 (byU q0 0) := he_40
  obtain ⟨hP1, hD1⟩ := hB
  rw [ht] at hP1
  obtain ⟨hP, hD⟩ := va_join (wr := []) (w1 := [(h0, .inr (3, [.ref sA, .int t_37])), (sA, .inl (cC, 1600, .inl f_38))]) hP hD [0, 1] [] rfl rfl (by decide) (by decide) hk1 hFc hP1 hD1
  generalize H1 = H at hP hS ⊢
  have hP : va_P (dC, dI) vwCl [(h0, .inr (3, [.ref sA, .int t_37])), (sA, .inl (cC, 1600, .inl f_38))] H := hP
  have hD : va_D A [(h0, .inr (3, [.ref sA, .int t_37])), (sA, .inl (cC, 1600, .inl f_38))] := hD
  refine lv_iinc (v := (-8)) (lv' := [(3, .int (-8)), (0, .ref h0), (1, .long q0)]) hx hb dX3_addBytes_19 hl (k := 0) rfl (by decide) (by decide) rfl (fun ls hl => ?_)
  refine lv_goto (tgt := 3) hx hb dX3_addBytes_22 (by decide) ?_
  refine lv_iload_n hx hb dX3_addBytes_3 rfl (lv_at hl 0 rfl) ?_
  refine lv_if_lt (tgt := 25) hx hb dX3_addBytes_4 (by decide) (fun _ => ?_) (fun h9 => absurd (by decide) h9)
  have hP9 := hP.sub (ws' := [(h0, .inr (3, [.ref sA, .int t_37])), (sA, .inl (cC, 1600, .inl f_38))]) [0, 1] rfl
  have hD9 := hD.sub (ws' := [(h0, .inr (3, [.ref sA, .int t_37])), (sA, .inl (cC, 1600, .inl f_38))]) [0, 1] (by decide) rfl
  have hens0 : t_37 = sgFI (byU q0) ks8 tl := (by rw [he_39, he_34, he_29, he_24, he_19, he_14, he_9, he_4]; rfl)
  have hens1 : f_38 = sgCF (byU q0) ks8 fs tl := (by simp only [he_4, he_5, he_9, he_10, he_14, he_15, he_19, he_20, he_24, he_25, he_29, he_30, he_34, he_35, he_39, he_40]; rfl)
  exact W.vret hx hb hr (fun t ht hW => ⟨⟨(t_37, f_38), rfl, ⟨hens0, hens1⟩, by rw [ht]; exact hP9, hD9⟩, hS.F ht⟩) hS.2.2 dX3_addBytes_25
set_option maxHeartbeats 4000000 in
set_option maxRecDepth 100000 in
theorem k_tempty (l : Launch) (dC : Nat → ClassId) (dI : Nat → Nat → Nat) (cI cZ cC cJ : ClassId) (sz : Nat) (h0 : Nat) (sA : Nat) (tl : Int32)  : Met l yX3_empty wsX3_empty ({ frames := 0, cells := 0, slots := 0, locals := 0 }) (va_Pc [.ref h0] (sPre dC dI cI cZ cC cJ [(h0, .inr (3, [.ref sA, .int tl]))] sz)) (va_Qv (fun (u : Unit) => True) (fun _ => sB dC dI (va_A [(h0, .inr (3, [.ref sA, .int tl]))] sz) [(h0, .inr (3, [.ref sA, .int 0]))]) (va_A [(h0, .inr (3, [.ref sA, .int tl]))] sz)) 0 0 (va_A [(h0, .inr (3, [.ref sA, .int tl]))] sz) := by
  refine Met.ofW (cc := cX3_empty) (maxL := 1) (ret := none) (by decide) rfl ?_
  intro p e s m args below meth c s₁ B hml hv
  obtain ⟨rfl, hsz, hP, hsk, hD0⟩ := hv
  have hx := B.exec
  have hb := B.bytes
  have hr := B.returns
  have hts := atoms_spec (ws := wsX3_empty) B.pre
  have hown : s.vm.findClass RX3 = some m.cls := findClass_of_methodNamed B.named
  have hlocks := B.notSynchronized
  have hK := hsk.1
  have i3 : ∀ w ∈ wsX30, w ∈ wsX3_empty := by decide +kernel
  subst hsz
  have hD := hD0.self (sz := s.heap.size)
  generalize hAe : va_A [(h0, .inr (3, [.ref sA, .int tl]))] s.heap.size = A at hD ⊢
  have hA : ∀ q : Nat, s.heap.size ≤ q → A q := fun q h => by rw [← hAe]; exact Or.inr h
  have hS : va_S A s.heap s.heap [] := va_S.rf
  have hl := lv_entry ([.ref h0]) (n := 1) (Nat.le_of_ble_eq_true rfl)
  rw [lg_entry_eq]
  generalize (lg_sl ([.ref h0]) ++ List.replicate (1 - (lg_sl ([.ref h0])).length) Slot.unset).toArray = ls at hl ⊢
  have hl : lv_has ls 1 [(0, .ref h0)] := hl
  refine lv_aload_n hx hb dX3_empty_0 rfl (lv_at hl 0 rfl) ?_
  refine lv_iconst (v := 0) hx hb dX3_empty_1 (by decide) ?_
  refine va_put (D := (dC, dI)) (ci := 3) (v := .int 0) (ty := tyX3 1) (C := RX3) (T := TX3) (N := 2) hx hb hts i3 tyX3 tyX3_ok nmX3 hown hK hP hD hS 0 rfl rfl 1 (by decide) (hts (.fieldLink RX3 17 "StopSetter$Tape" "length" "I") (by decide +kernel)) (fun _ h9 => h9) rfl (by decide +kernel) rfl rfl (Nat.le_of_ble_eq_true rfl) dX3_empty_2 (fun H locs hP hD hS => ?_)
  have hP : va_P (dC, dI) vwCl [(h0, .inr (3, [.ref sA, .int 0]))] H := hP
  have hD : va_D A [(h0, .inr (3, [.ref sA, .int 0]))] := hD
  have hP9 := hP.sub (ws' := [(h0, .inr (3, [.ref sA, .int 0]))]) [0] rfl
  have hD9 := hD.sub (ws' := [(h0, .inr (3, [.ref sA, .int 0]))]) [0] (by decide) rfl
  exact W.vret hx hb hr (fun t ht hW => ⟨⟨(), rfl, trivial, by rw [ht]; exact hP9, hD9⟩, hS.F ht⟩) hS.2.2 dX3_empty_5

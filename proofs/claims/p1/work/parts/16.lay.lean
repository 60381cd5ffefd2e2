set_option maxHeartbeats 4000000 in
set_option maxRecDepth 100000 in
theorem k_lay (l : Launch) (dC : Nat → ClassId) (dI : Nat → Nat → Nat) (cI cZ cC cJ : ClassId) (sz : Nat) (h0 : Nat) (Mtape : Nat) (Msort : Nat) (Mplace : Nat) (Mvalue : Nat) (Mwords : Nat) (Mgoes : Nat) (MgoLine : Nat) (Mends : Nat) (MendLine : Nat) (Mkinds : Nat) (MisName : Nat) (Mrow : Nat) (MbyHand : Nat) (Mleast : Nat) (Msecond : Nat) (MendAt : Nat) (MgoAt : Nat) (MnodeBehind : Nat) (MisOut : Nat) (MfirstEnd : Nat) (MfirstGo : Nat) (n : Nat) (fs : Nat → Int32) (p0 : Int64) (hn : n ≤ 1600) : Met l yX5_lay wsX5_lay ({ frames := 0, cells := 0, slots := 0, locals := 0 }) (va_Pc [.ref h0, .long p0] (sPre dC dI cI cZ cC cJ [(h0, .inr (5, [.int 0, .ref Mtape, .int (nI n), .int 0, .ref Msort, .ref Mplace, .ref Mvalue, .int 0, .int 0, .ref Mwords, .int 0, .int 0, .ref Mgoes, .ref MgoLine, .ref Mends, .ref MendLine, .ref Mkinds, .ref MisName, .int 0, .ref Mrow, .ref MbyHand, .ref Mleast, .ref Msecond, .ref MendAt, .ref MgoAt, .ref MnodeBehind, .int 0, .ref MisOut, .ref MfirstEnd, .ref MfirstGo])), (Mtape, .inl (cI, 1600, .inl fs))] sz)) (va_Qv (fun (u : (Nat → Int32) × (Int32)) => match u with | (gs, lN) => lN = nI (sgF (byM p0) ks8 n)) (fun (u : (Nat → Int32) × (Int32)) t => match u with | (gs, lN) => sB dC dI (va_A [(h0, .inr (5, [.int 0, .ref Mtape, .int (nI n), .int 0, .ref Msort, .ref Mplace, .ref Mvalue, .int 0, .int 0, .ref Mwords, .int 0, .int 0, .ref Mgoes, .ref MgoLine, .ref Mends, .ref MendLine, .ref Mkinds, .ref MisName, .int 0, .ref Mrow, .ref MbyHand, .ref Mleast, .ref Msecond, .ref MendAt, .ref MgoAt, .ref MnodeBehind, .int 0, .ref MisOut, .ref MfirstEnd, .ref MfirstGo])), (Mtape, .inl (cI, 1600, .inl fs))] sz) [(h0, .inr (5, [.int 0, .ref Mtape, .int lN, .int 0, .ref Msort, .ref Mplace, .ref Mvalue, .int 0, .int 0, .ref Mwords, .int 0, .int 0, .ref Mgoes, .ref MgoLine, .ref Mends, .ref MendLine, .ref Mkinds, .ref MisName, .int 0, .ref Mrow, .ref MbyHand, .ref Mleast, .ref Msecond, .ref MendAt, .ref MgoAt, .ref MnodeBehind, .int 0, .ref MisOut, .ref MfirstEnd, .ref MfirstGo])), (Mtape, .inl (cI, 1600, .inl gs))] t) (va_A [(h0, .inr (5, [.int 0, .ref Mtape, .int (nI n), .int 0, .ref Msort, .ref Mplace, .ref Mvalue, .int 0, .int 0, .ref Mwords, .int 0, .int 0, .ref Mgoes, .ref MgoLine, .ref Mends, .ref MendLine, .ref Mkinds, .ref MisName, .int 0, .ref Mrow, .ref MbyHand, .ref Mleast, .ref Msecond, .ref MendAt, .ref MgoAt, .ref MnodeBehind, .int 0, .ref MisOut, .ref MfirstEnd, .ref MfirstGo])), (Mtape, .inl (cI, 1600, .inl fs))] sz)) 0 0 (va_A [(h0, .inr (5, [.int 0, .ref Mtape, .int (nI n), .int 0, .ref Msort, .ref Mplace, .ref Mvalue, .int 0, .int 0, .ref Mwords, .int 0, .int 0, .ref Mgoes, .ref MgoLine, .ref Mends, .ref MendLine, .ref Mkinds, .ref MisName, .int 0, .ref Mrow, .ref MbyHand, .ref Mleast, .ref Msecond, .ref MendAt, .ref MgoAt, .ref MnodeBehind, .int 0, .ref MisOut, .ref MfirstEnd, .ref MfirstGo])), (Mtape, .inl (cI, 1600, .inl fs))] sz) := by
  refine Met.ofW (cc := cX5_lay) (maxL := 5) (ret := none) (by decide) rfl ?_
  intro p e s m args below meth c s₁ B hml hv
  obtain ⟨rfl, hsz, hP, hsk, hD0⟩ := hv
  have hx := B.exec
  have hb := B.bytes
  have hr := B.returns
  have hts := atoms_spec (ws := wsX5_lay) B.pre
  have hown : s.vm.findClass RX5 = some m.cls := findClass_of_methodNamed B.named
  have hlocks := B.notSynchronized
  have hK := hsk.1
  have i5 : ∀ w ∈ wsX50, w ∈ wsX5_lay := by decide +kernel
  subst hsz
  have hD := hD0.self (sz := s.heap.size)
  generalize hAe : va_A [(h0, .inr (5, [.int 0, .ref Mtape, .int (nI n), .int 0, .ref Msort, .ref Mplace, .ref Mvalue, .int 0, .int 0, .ref Mwords, .int 0, .int 0, .ref Mgoes, .ref MgoLine, .ref Mends, .ref MendLine, .ref Mkinds, .ref MisName, .int 0, .ref Mrow, .ref MbyHand, .ref Mleast, .ref Msecond, .ref MendAt, .ref MgoAt, .ref MnodeBehind, .int 0, .ref MisOut, .ref MfirstEnd, .ref MfirstGo])), (Mtape, .inl (cI, 1600, .inl fs))] s.heap.size = A at hD ⊢
  have hA : ∀ q : Nat, s.heap.size ≤ q → A q := fun q h => by rw [← hAe]; exact Or.inr h
  have hS : va_S A s.heap s.heap [] := va_S.rf
  have hl := lv_entry ([.ref h0, .long p0]) (n := 5) (Nat.le_of_ble_eq_true rfl)
  rw [lg_entry_eq]
  generalize (lg_sl ([.ref h0, .long p0]) ++ List.replicate (5 - (lg_sl ([.ref h0, .long p0])).length) Slot.unset).toArray = ls at hl ⊢
  have hl : lv_has ls 5 [(0, .ref h0), (1, .long p0)] := hl
  obtain ⟨T, eT⟩ : ∃ T, T = sgF (byM p0) ks8 n := ⟨_, rfl⟩
  refine lv_bipush (v := 56) hx hb dX5_lay_0 (by decide) ?_
  refine lv_istore_n (lv' := [(3, .int 56), (0, .ref h0), (1, .long p0)]) hx hb dX5_lay_2 rfl hl (by decide) rfl (fun ls hl => ?_)
  have lp_3_m8 : ∀ (a : Nat) (fa : Nat → Int32), a ≤ 1600 → sgF (byM p0) [] a = T → ∀ (H : Heap) (locs : List Loc) (ls : Array Slot), va_P (dC, dI) vwCl [(h0, .inr (5, [.int 0, .ref Mtape, .int (nI a), .int 0, .ref Msort, .ref Mplace, .ref Mvalue, .int 0, .int 0, .ref Mwords, .int 0, .int 0, .ref Mgoes, .ref MgoLine, .ref Mends, .ref MendLine, .ref Mkinds, .ref MisName, .int 0, .ref Mrow, .ref MbyHand, .ref Mleast, .ref Msecond, .ref MendAt, .ref MgoAt, .ref MnodeBehind, .int 0, .ref MisOut, .ref MfirstEnd, .ref MfirstGo])), (Mtape, .inl (cI, 1600, .inl fa))] H → va_D A [(h0, .inr (5, [.int 0, .ref Mtape, .int (nI a), .int 0, .ref Msort, .ref Mplace, .ref Mvalue, .int 0, .int 0, .ref Mwords, .int 0, .int 0, .ref Mgoes, .ref MgoLine, .ref Mends, .ref MendLine, .ref Mkinds, .ref MisName, .int 0, .ref Mrow, .ref MbyHand, .ref Mleast, .ref Msecond, .ref MendAt, .ref MgoAt, .ref MnodeBehind, .int 0, .ref MisOut, .ref MfirstEnd, .ref MfirstGo])), (Mtape, .inl (cI, 1600, .inl fa))] → va_S A s.heap H locs → lv_has ls 5 [(3, .int (-8)), (0, .ref h0), (1, .long p0)] → W p l e (headSpec wsX5_lay ({ frames := 0, cells := 0, slots := 0, locals := 0 })).room s m ([.ref h0, .long p0]).toArray below meth c H locs 0 0 (MQ below (va_Qv (fun (u : (Nat → Int32) × (Int32)) => match u with | (gs, lN) => lN = nI (sgF (byM p0) ks8 n)) (fun (u : (Nat → Int32) × (Int32)) t => match u with | (gs, lN) => sB dC dI A [(h0, .inr (5, [.int 0, .ref Mtape, .int lN, .int 0, .ref Msort, .ref Mplace, .ref Mvalue, .int 0, .int 0, .ref Mwords, .int 0, .int 0, .ref Mgoes, .ref MgoLine, .ref Mends, .ref MendLine, .ref Mkinds, .ref MisName, .int 0, .ref Mrow, .ref MbyHand, .ref Mleast, .ref Msecond, .ref MendAt, .ref MgoAt, .ref MnodeBehind, .int 0, .ref MisOut, .ref MfirstEnd, .ref MfirstGo])), (Mtape, .inl (cI, 1600, .inl gs))] t) A) ([.ref h0, .long p0]).toArray s 0 0 A) (F0 m 3 ls []) := by
    intro a fa ha hT H locs ls hP hD hS hl
    refine lv_iload_n hx hb dX5_lay_3 rfl (lv_at hl 0 rfl) ?_
    refine lv_if_lt (tgt := 75) hx hb dX5_lay_4 (by decide) (fun _ => ?_) (fun h9 => absurd (by decide) h9)
    have hP9 := hP.sub (ws' := [(h0, .inr (5, [.int 0, .ref Mtape, .int (nI a), .int 0, .ref Msort, .ref Mplace, .ref Mvalue, .int 0, .int 0, .ref Mwords, .int 0, .int 0, .ref Mgoes, .ref MgoLine, .ref Mends, .ref MendLine, .ref Mkinds, .ref MisName, .int 0, .ref Mrow, .ref MbyHand, .ref Mleast, .ref Msecond, .ref MendAt, .ref MgoAt, .ref MnodeBehind, .int 0, .ref MisOut, .ref MfirstEnd, .ref MfirstGo])), (Mtape, .inl (cI, 1600, .inl fa))]) [0, 1] rfl
    have hD9 := hD.sub (ws' := [(h0, .inr (5, [.int 0, .ref Mtape, .int (nI a), .int 0, .ref Msort, .ref Mplace, .ref Mvalue, .int 0, .int 0, .ref Mwords, .int 0, .int 0, .ref Mgoes, .ref MgoLine, .ref Mends, .ref MendLine, .ref Mkinds, .ref MisName, .int 0, .ref Mrow, .ref MbyHand, .ref Mleast, .ref Msecond, .ref MendAt, .ref MgoAt, .ref MnodeBehind, .int 0, .ref MisOut, .ref MfirstEnd, .ref MfirstGo])), (Mtape, .inl (cI, 1600, .inl fa))]) [0, 1] (by decide) rfl
    exact W.vret hx hb hr (fun t ht hW => ⟨⟨(fa, nI a), rfl, (congrArg nI (hT.trans eT)), by rw [ht]; exact hP9, hD9⟩, hS.F ht⟩) hS.2.2 dX5_lay_75
  have lp_3_0 : ∀ (a : Nat) (fa : Nat → Int32), a ≤ 1600 → sgF (byM p0) [0] a = T → ∀ (H : Heap) (locs : List Loc) (ls : Array Slot), va_P (dC, dI) vwCl [(h0, .inr (5, [.int 0, .ref Mtape, .int (nI a), .int 0, .ref Msort, .ref Mplace, .ref Mvalue, .int 0, .int 0, .ref Mwords, .int 0, .int 0, .ref Mgoes, .ref MgoLine, .ref Mends, .ref MendLine, .ref Mkinds, .ref MisName, .int 0, .ref Mrow, .ref MbyHand, .ref Mleast, .ref Msecond, .ref MendAt, .ref MgoAt, .ref MnodeBehind, .int 0, .ref MisOut, .ref MfirstEnd, .ref MfirstGo])), (Mtape, .inl (cI, 1600, .inl fa))] H → va_D A [(h0, .inr (5, [.int 0, .ref Mtape, .int (nI a), .int 0, .ref Msort, .ref Mplace, .ref Mvalue, .int 0, .int 0, .ref Mwords, .int 0, .int 0, .ref Mgoes, .ref MgoLine, .ref Mends, .ref MendLine, .ref Mkinds, .ref MisName, .int 0, .ref Mrow, .ref MbyHand, .ref Mleast, .ref Msecond, .ref MendAt, .ref MgoAt, .ref MnodeBehind, .int 0, .ref MisOut, .ref MfirstEnd, .ref MfirstGo])), (Mtape, .inl (cI, 1600, .inl fa))] → va_S A s.heap H locs → lv_has ls 5 [(3, .int 0), (0, .ref h0), (1, .long p0)] → W p l e (headSpec wsX5_lay ({ frames := 0, cells := 0, slots := 0, locals := 0 })).room s m ([.ref h0, .long p0]).toArray below meth c H locs 0 0 (MQ below (va_Qv (fun (u : (Nat → Int32) × (Int32)) => match u with | (gs, lN) => lN = nI (sgF (byM p0) ks8 n)) (fun (u : (Nat → Int32) × (Int32)) t => match u with | (gs, lN) => sB dC dI A [(h0, .inr (5, [.int 0, .ref Mtape, .int lN, .int 0, .ref Msort, .ref Mplace, .ref Mvalue, .int 0, .int 0, .ref Mwords, .int 0, .int 0, .ref Mgoes, .ref MgoLine, .ref Mends, .ref MendLine, .ref Mkinds, .ref MisName, .int 0, .ref Mrow, .ref MbyHand, .ref Mleast, .ref Msecond, .ref MendAt, .ref MgoAt, .ref MnodeBehind, .int 0, .ref MisOut, .ref MfirstEnd, .ref MfirstGo])), (Mtape, .inl (cI, 1600, .inl gs))] t) A) ([.ref h0, .long p0]).toArray s 0 0 A) (F0 m 3 ls []) := by
    intro a fa ha hT H locs ls hP hD hS hl
    refine lv_iload_n hx hb dX5_lay_3 rfl (lv_at hl 0 rfl) ?_
    refine lv_if_lt (tgt := 75) hx hb dX5_lay_4 (by decide) (fun h9 => absurd h9 (by decide)) (fun _ => ?_)
    refine lv_lload_n hx hb dX5_lay_7 rfl (lv_at hl 2 rfl) ?_
    refine lv_iload_n hx hb dX5_lay_8 rfl (lv_at hl 0 rfl) ?_
    refine lv_lshr (v := (p0 >>> ((0 : Int32).toInt64 &&& 63))) hx hb dX5_lay_9 rfl ?_
    refine lv_l2i (v := (p0 >>> ((0 : Int32).toInt64 &&& 63)).toInt32) hx hb dX5_lay_10 rfl ?_
    refine lv_sipush (v := 255) hx hb dX5_lay_11 (by decide) ?_
    refine lv_iand hx hb dX5_lay_14 ?_
    refine lv_topi (fun v_ ev_ => ?_)
    obtain rfl : v_ = (byM p0 0) := ev_.trans (rfl)
    refine lv_istore (lv' := [(4, .int (byM p0 0)), (3, .int 0), (0, .ref h0), (1, .long p0)]) hx hb dX5_lay_15 hl (by decide) rfl (fun ls hl => ?_)
    refine lv_iload hx hb dX5_lay_17 (lv_at hl 0 rfl) ?_
    refine lv_bipush (v := 10) hx hb dX5_lay_19 (by decide) ?_
    refine lv_icmp_eq (tgt := 38) hx hb dX5_lay_21 (by decide) (fun c_21 => ?_) (fun c_21 => ?_)
    · skip
      refine lv_aload_n hx hb dX5_lay_38 rfl (lv_at hl 2 rfl) ?_
      refine va_get (D := (dC, dI)) (ci := 5) (v := .int (nI a)) (C := RX5) (T := TX5) (N := 30) hx hb hts i5 hown hK hP 0 rfl rfl 2 (by decide) (hts (.fieldLink RX5 11 "StopSetterModel" "taped" "I") (by decide +kernel)) (fun _ h9 => h9) rfl dX5_lay_39 ?_
      refine lv_sipush (v := 1600) hx hb dX5_lay_42 (by decide) ?_
      refine lv_icmp_ge (tgt := 69) hx hb dX5_lay_45 (by decide) (fun c_45 => ?_) (fun c_45 => ?_)
      · skip
        refine lv_iinc (v := (-8)) (lv' := [(3, .int (-8)), (4, .int (byM p0 0)), (0, .ref h0), (1, .long p0)]) hx hb dX5_lay_69 hl (k := 1) rfl (by decide) (by decide) rfl (fun ls hl => ?_)
        refine lv_goto (tgt := 3) hx hb dX5_lay_72 (by decide) ?_
        exact lp_3_m8 a fa (by have h7 : sgn a (byM p0 0) = a := (by simp only [sgn, if_pos c_21, if_pos c_45]); have h8 := sgn_le (c := byM p0 0) ha; rw [h7] at h8; exact h8) (by have h7 : sgn a (byM p0 0) = a := (by simp only [sgn, if_pos c_21, if_pos c_45]); have h8 : sgF (byM p0) [] (sgn a (byM p0 0)) = T := hT; rw [h7] at h8; exact h8) _ _ _ hP hD hS (lv_sub hl [0, 2, 3] rfl)
      · skip
        have hn3 : a < 1600 := nk_lt (N := 1600) rfl c_45 (by omega)
        refine lv_aload_n hx hb dX5_lay_48 rfl (lv_at hl 2 rfl) ?_
        refine va_get (D := (dC, dI)) (ci := 5) (v := .ref Mtape) (C := RX5) (T := TX5) (N := 30) hx hb hts i5 hown hK hP 0 rfl rfl 1 (by decide) (hts (.fieldLink RX5 14 "StopSetterModel" "tape" "[I") (by decide +kernel)) (fun _ h9 => h9) rfl dX5_lay_49 ?_
        refine lv_aload_n hx hb dX5_lay_52 rfl (lv_at hl 2 rfl) ?_
        refine va_get (D := (dC, dI)) (ci := 5) (v := .int (nI a)) (C := RX5) (T := TX5) (N := 30) hx hb hts i5 hown hK hP 0 rfl rfl 2 (by decide) (hts (.fieldLink RX5 11 "StopSetterModel" "taped" "I") (by decide +kernel)) (fun _ h9 => h9) rfl dX5_lay_53 ?_
        refine lv_iload hx hb dX5_lay_56 (lv_at hl 0 rfl) ?_
        refine va_iast hx hb hK hP hD hS 1 0 rfl rfl (vp_in_nI hn3 (by decide)) dX5_lay_58 (fun H locs hP hD hS => ?_)
        have hP : va_P (dC, dI) vwCl [(h0, .inr (5, [.int 0, .ref Mtape, .int (nI a), .int 0, .ref Msort, .ref Mplace, .ref Mvalue, .int 0, .int 0, .ref Mwords, .int 0, .int 0, .ref Mgoes, .ref MgoLine, .ref Mends, .ref MendLine, .ref Mkinds, .ref MisName, .int 0, .ref Mrow, .ref MbyHand, .ref Mleast, .ref Msecond, .ref MendAt, .ref MgoAt, .ref MnodeBehind, .int 0, .ref MisOut, .ref MfirstEnd, .ref MfirstGo])), (Mtape, .inl (cI, 1600, .inl (upd fa ((nI a).toNatClampNeg) (byM p0 0))))] H := hP
        have hD : va_D A [(h0, .inr (5, [.int 0, .ref Mtape, .int (nI a), .int 0, .ref Msort, .ref Mplace, .ref Mvalue, .int 0, .int 0, .ref Mwords, .int 0, .int 0, .ref Mgoes, .ref MgoLine, .ref Mends, .ref MendLine, .ref Mkinds, .ref MisName, .int 0, .ref Mrow, .ref MbyHand, .ref Mleast, .ref Msecond, .ref MendAt, .ref MgoAt, .ref MnodeBehind, .int 0, .ref MisOut, .ref MfirstEnd, .ref MfirstGo])), (Mtape, .inl (cI, 1600, .inl (upd fa ((nI a).toNatClampNeg) (byM p0 0))))] := hD
        refine lv_aload_n hx hb dX5_lay_59 rfl (lv_at hl 2 rfl) ?_
        refine lv_dup hx hb dX5_lay_60 rfl ?_
        refine va_get (D := (dC, dI)) (ci := 5) (v := .int (nI a)) (C := RX5) (T := TX5) (N := 30) hx hb hts i5 hown hK hP 0 rfl rfl 2 (by decide) (hts (.fieldLink RX5 11 "StopSetterModel" "taped" "I") (by decide +kernel)) (fun _ h9 => h9) rfl dX5_lay_61 ?_
        refine lv_iconst (v := 1) hx hb dX5_lay_64 (by decide) ?_
        refine lv_iadd hx hb dX5_lay_65 ?_
        refine lv_topi (fun v_ ev_ => ?_)
        obtain rfl : v_ = (nI (a + 1)) := ev_.trans (nI_1 a)
        refine va_put (D := (dC, dI)) (ci := 5) (v := .int (nI (a + 1))) (ty := tyX5 2) (C := RX5) (T := TX5) (N := 30) hx hb hts i5 tyX5 tyX5_ok nmX5 hown hK hP hD hS 0 rfl rfl 2 (by decide) (hts (.fieldLink RX5 11 "StopSetterModel" "taped" "I") (by decide +kernel)) (fun _ h9 => h9) rfl (by decide +kernel) rfl rfl (Nat.le_of_ble_eq_true rfl) dX5_lay_66 (fun H locs hP hD hS => ?_)
        have hP : va_P (dC, dI) vwCl [(h0, .inr (5, [.int 0, .ref Mtape, .int (nI (a + 1)), .int 0, .ref Msort, .ref Mplace, .ref Mvalue, .int 0, .int 0, .ref Mwords, .int 0, .int 0, .ref Mgoes, .ref MgoLine, .ref Mends, .ref MendLine, .ref Mkinds, .ref MisName, .int 0, .ref Mrow, .ref MbyHand, .ref Mleast, .ref Msecond, .ref MendAt, .ref MgoAt, .ref MnodeBehind, .int 0, .ref MisOut, .ref MfirstEnd, .ref MfirstGo])), (Mtape, .inl (cI, 1600, .inl (upd fa ((nI a).toNatClampNeg) (byM p0 0))))] H := hP
        have hD : va_D A [(h0, .inr (5, [.int 0, .ref Mtape, .int (nI (a + 1)), .int 0, .ref Msort, .ref Mplace, .ref Mvalue, .int 0, .int 0, .ref Mwords, .int 0, .int 0, .ref Mgoes, .ref MgoLine, .ref Mends, .ref MendLine, .ref Mkinds, .ref MisName, .int 0, .ref Mrow, .ref MbyHand, .ref Mleast, .ref Msecond, .ref MendAt, .ref MgoAt, .ref MnodeBehind, .int 0, .ref MisOut, .ref MfirstEnd, .ref MfirstGo])), (Mtape, .inl (cI, 1600, .inl (upd fa ((nI a).toNatClampNeg) (byM p0 0))))] := hD
        refine lv_iinc (v := (-8)) (lv' := [(3, .int (-8)), (4, .int (byM p0 0)), (0, .ref h0), (1, .long p0)]) hx hb dX5_lay_69 hl (k := 1) rfl (by decide) (by decide) rfl (fun ls hl => ?_)
        refine lv_goto (tgt := 3) hx hb dX5_lay_72 (by decide) ?_
        exact lp_3_m8 (a + 1) (upd fa ((nI a).toNatClampNeg) (byM p0 0)) (by have h7 : sgn a (byM p0 0) = a + 1 := (by simp only [sgn, if_pos c_21, if_neg c_45]); have h8 := sgn_le (c := byM p0 0) ha; rw [h7] at h8; exact h8) (by have h7 : sgn a (byM p0 0) = a + 1 := (by simp only [sgn, if_pos c_21, if_neg c_45]); have h8 : sgF (byM p0) [] (sgn a (byM p0 0)) = T := hT; rw [h7] at h8; exact h8) _ _ _ hP hD hS (lv_sub hl [0, 2, 3] rfl)
    · skip
      refine lv_iload hx hb dX5_lay_24 (lv_at hl 0 rfl) ?_
      refine lv_bipush (v := 32) hx hb dX5_lay_26 (by decide) ?_
      refine lv_icmp_lt (tgt := 69) hx hb dX5_lay_28 (by decide) (fun c_28 => ?_) (fun c_28 => ?_)
      · skip
        refine lv_iinc (v := (-8)) (lv' := [(3, .int (-8)), (4, .int (byM p0 0)), (0, .ref h0), (1, .long p0)]) hx hb dX5_lay_69 hl (k := 1) rfl (by decide) (by decide) rfl (fun ls hl => ?_)
        refine lv_goto (tgt := 3) hx hb dX5_lay_72 (by decide) ?_
        exact lp_3_m8 a fa (by have h7 : sgn a (byM p0 0) = a := (by simp only [sgn, if_neg c_21, if_pos c_28]); have h8 := sgn_le (c := byM p0 0) ha; rw [h7] at h8; exact h8) (by have h7 : sgn a (byM p0 0) = a := (by simp only [sgn, if_neg c_21, if_pos c_28]); have h8 : sgF (byM p0) [] (sgn a (byM p0 0)) = T := hT; rw [h7] at h8; exact h8) _ _ _ hP hD hS (lv_sub hl [0, 2, 3] rfl)
      · skip
        refine lv_iload hx hb dX5_lay_31 (lv_at hl 0 rfl) ?_
        refine lv_bipush (v := 126) hx hb dX5_lay_33 (by decide) ?_
        refine lv_icmp_gt (tgt := 69) hx hb dX5_lay_35 (by decide) (fun c_35 => ?_) (fun c_35 => ?_)
        · skip
          refine lv_iinc (v := (-8)) (lv' := [(3, .int (-8)), (4, .int (byM p0 0)), (0, .ref h0), (1, .long p0)]) hx hb dX5_lay_69 hl (k := 1) rfl (by decide) (by decide) rfl (fun ls hl => ?_)
          refine lv_goto (tgt := 3) hx hb dX5_lay_72 (by decide) ?_
          exact lp_3_m8 a fa (by have h7 : sgn a (byM p0 0) = a := (by simp only [sgn, if_neg c_21, if_neg c_28, if_pos c_35]); have h8 := sgn_le (c := byM p0 0) ha; rw [h7] at h8; exact h8) (by have h7 : sgn a (byM p0 0) = a := (by simp only [sgn, if_neg c_21, if_neg c_28, if_pos c_35]); have h8 : sgF (byM p0) [] (sgn a (byM p0 0)) = T := hT; rw [h7] at h8; exact h8) _ _ _ hP hD hS (lv_sub hl [0, 2, 3] rfl)
        · skip
          refine lv_aload_n hx hb dX5_lay_38 rfl (lv_at hl 2 rfl) ?_
          refine va_get (D := (dC, dI)) (ci := 5) (v := .int (nI a)) (C := RX5) (T := TX5) (N := 30) hx hb hts i5 hown hK hP 0 rfl rfl 2 (by decide) (hts (.fieldLink RX5 11 "StopSetterModel" "taped" "I") (by decide +kernel)) (fun _ h9 => h9) rfl dX5_lay_39 ?_
          refine lv_sipush (v := 1600) hx hb dX5_lay_42 (by decide) ?_
          refine lv_icmp_ge (tgt := 69) hx hb dX5_lay_45 (by decide) (fun c_45 => ?_) (fun c_45 => ?_)
          · skip
            refine lv_iinc (v := (-8)) (lv' := [(3, .int (-8)), (4, .int (byM p0 0)), (0, .ref h0), (1, .long p0)]) hx hb dX5_lay_69 hl (k := 1) rfl (by decide) (by decide) rfl (fun ls hl => ?_)
            refine lv_goto (tgt := 3) hx hb dX5_lay_72 (by decide) ?_
            exact lp_3_m8 a fa (by have h7 : sgn a (byM p0 0) = a := (by simp only [sgn, if_neg c_21, if_neg c_28, if_neg c_35, if_pos c_45]); have h8 := sgn_le (c := byM p0 0) ha; rw [h7] at h8; exact h8) (by have h7 : sgn a (byM p0 0) = a := (by simp only [sgn, if_neg c_21, if_neg c_28, if_neg c_35, if_pos c_45]); have h8 : sgF (byM p0) [] (sgn a (byM p0 0)) = T := hT; rw [h7] at h8; exact h8) _ _ _ hP hD hS (lv_sub hl [0, 2, 3] rfl)
          · skip
            have hn3 : a < 1600 := nk_lt (N := 1600) rfl c_45 (by omega)
            refine lv_aload_n hx hb dX5_lay_48 rfl (lv_at hl 2 rfl) ?_
            refine va_get (D := (dC, dI)) (ci := 5) (v := .ref Mtape) (C := RX5) (T := TX5) (N := 30) hx hb hts i5 hown hK hP 0 rfl rfl 1 (by decide) (hts (.fieldLink RX5 14 "StopSetterModel" "tape" "[I") (by decide +kernel)) (fun _ h9 => h9) rfl dX5_lay_49 ?_
            refine lv_aload_n hx hb dX5_lay_52 rfl (lv_at hl 2 rfl) ?_
            refine va_get (D := (dC, dI)) (ci := 5) (v := .int (nI a)) (C := RX5) (T := TX5) (N := 30) hx hb hts i5 hown hK hP 0 rfl rfl 2 (by decide) (hts (.fieldLink RX5 11 "StopSetterModel" "taped" "I") (by decide +kernel)) (fun _ h9 => h9) rfl dX5_lay_53 ?_
            refine lv_iload hx hb dX5_lay_56 (lv_at hl 0 rfl) ?_
            refine va_iast hx hb hK hP hD hS 1 0 rfl rfl (vp_in_nI hn3 (by decide)) dX5_lay_58 (fun H locs hP hD hS => ?_)
            have hP : va_P (dC, dI) vwCl [(h0, .inr (5, [.int 0, .ref Mtape, .int (nI a), .int 0, .ref Msort, .ref Mplace, .ref Mvalue, .int 0, .int 0, .ref Mwords, .int 0, .int 0, .ref Mgoes, .ref MgoLine, .ref Mends, .ref MendLine, .ref Mkinds, .ref MisName, .int 0, .ref Mrow, .ref MbyHand, .ref Mleast, .ref Msecond, .ref MendAt, .ref MgoAt, .ref MnodeBehind, .int 0, .ref MisOut, .ref MfirstEnd, .ref MfirstGo])), (Mtape, .inl (cI, 1600, .inl (upd fa ((nI a).toNatClampNeg) (byM p0 0))))] H := hP
            have hD : va_D A [(h0, .inr (5, [.int 0, .ref Mtape, .int (nI a), .int 0, .ref Msort, .ref Mplace, .ref Mvalue, .int 0, .int 0, .ref Mwords, .int 0, .int 0, .ref Mgoes, .ref MgoLine, .ref Mends, .ref MendLine, .ref Mkinds, .ref MisName, .int 0, .ref Mrow, .ref MbyHand, .ref Mleast, .ref Msecond, .ref MendAt, .ref MgoAt, .ref MnodeBehind, .int 0, .ref MisOut, .ref MfirstEnd, .ref MfirstGo])), (Mtape, .inl (cI, 1600, .inl (upd fa ((nI a).toNatClampNeg) (byM p0 0))))] := hD
            refine lv_aload_n hx hb dX5_lay_59 rfl (lv_at hl 2 rfl) ?_
            refine lv_dup hx hb dX5_lay_60 rfl ?_
            refine va_get (D := (dC, dI)) (ci := 5) (v := .int (nI a)) (C := RX5) (T := TX5) (N := 30) hx hb hts i5 hown hK hP 0 rfl rfl 2 (by decide) (hts (.fieldLink RX5 11 "StopSetterModel" "taped" "I") (by decide +kernel)) (fun _ h9 => h9) rfl dX5_lay_61 ?_
            refine lv_iconst (v := 1) hx hb dX5_lay_64 (by decide) ?_
            refine lv_iadd hx hb dX5_lay_65 ?_
            refine lv_topi (fun v_ ev_ => ?_)
            obtain rfl : v_ = (nI (a + 1)) := ev_.trans (nI_1 a)
            refine va_put (D := (dC, dI)) (ci := 5) (v := .int (nI (a + 1))) (ty := tyX5 2) (C := RX5) (T := TX5) (N := 30) hx hb hts i5 tyX5 tyX5_ok nmX5 hown hK hP hD hS 0 rfl rfl 2 (by decide) (hts (.fieldLink RX5 11 "StopSetterModel" "taped" "I") (by decide +kernel)) (fun _ h9 => h9) rfl (by decide +kernel) rfl rfl (Nat.le_of_ble_eq_true rfl) dX5_lay_66 (fun H locs hP hD hS => ?_)
            have hP : va_P (dC, dI) vwCl [(h0, .inr (5, [.int 0, .ref Mtape, .int (nI (a + 1)), .int 0, .ref Msort, .ref Mplace, .ref Mvalue, .int 0, .int 0, .ref Mwords, .int 0, .int 0, .ref Mgoes, .ref MgoLine, .ref Mends, .ref MendLine, .ref Mkinds, .ref MisName, .int 0, .ref Mrow, .ref MbyHand, .ref Mleast, .ref Msecond, .ref MendAt, .ref MgoAt, .ref MnodeBehind, .int 0, .ref MisOut, .ref MfirstEnd, .ref MfirstGo])), (Mtape, .inl (cI, 1600, .inl (upd fa ((nI a).toNatClampNeg) (byM p0 0))))] H := hP
            have hD : va_D A [(h0, .inr (5, [.int 0, .ref Mtape, .int (nI (a + 1)), .int 0, .ref Msort, .ref Mplace, .ref Mvalue, .int 0, .int 0, .ref Mwords, .int 0, .int 0, .ref Mgoes, .ref MgoLine, .ref Mends, .ref MendLine, .ref Mkinds, .ref MisName, .int 0, .ref Mrow, .ref MbyHand, .ref Mleast, .ref Msecond, .ref MendAt, .ref MgoAt, .ref MnodeBehind, .int 0, .ref MisOut, .ref MfirstEnd, .ref MfirstGo])), (Mtape, .inl (cI, 1600, .inl (upd fa ((nI a).toNatClampNeg) (byM p0 0))))] := hD
            refine lv_iinc (v := (-8)) (lv' := [(3, .int (-8)), (4, .int (byM p0 0)), (0, .ref h0), (1, .long p0)]) hx hb dX5_lay_69 hl (k := 1) rfl (by decide) (by decide) rfl (fun ls hl => ?_)
            refine lv_goto (tgt := 3) hx hb dX5_lay_72 (by decide) ?_
            exact lp_3_m8 (a + 1) (upd fa ((nI a).toNatClampNeg) (byM p0 0)) (by have h7 : sgn a (byM p0 0) = a + 1 := (by simp only [sgn, if_neg c_21, if_neg c_28, if_neg c_35, if_neg c_45]); have h8 := sgn_le (c := byM p0 0) ha; rw [h7] at h8; exact h8) (by have h7 : sgn a (byM p0 0) = a + 1 := (by simp only [sgn, if_neg c_21, if_neg c_28, if_neg c_35, if_neg c_45]); have h8 : sgF (byM p0) [] (sgn a (byM p0 0)) = T := hT; rw [h7] at h8; exact h8) _ _ _ hP hD hS (lv_sub hl [0, 2, 3] rfl)
  have lp_3_8 : ∀ (a : Nat) (fa : Nat → Int32), a ≤ 1600 → sgF (byM p0) [8, 0] a = T → ∀ (H : Heap) (locs : List Loc) (ls : Array Slot), va_P (dC, dI) vwCl [(h0, .inr (5, [.int 0, .ref Mtape, .int (nI a), .int 0, .ref Msort, .ref Mplace, .ref Mvalue, .int 0, .int 0, .ref Mwords, .int 0, .int 0, .ref Mgoes, .ref MgoLine, .ref Mends, .ref MendLine, .ref Mkinds, .ref MisName, .int 0, .ref Mrow, .ref MbyHand, .ref Mleast, .ref Msecond, .ref MendAt, .ref MgoAt, .ref MnodeBehind, .int 0, .ref MisOut, .ref MfirstEnd, .ref MfirstGo])), (Mtape, .inl (cI, 1600, .inl fa))] H → va_D A [(h0, .inr (5, [.int 0, .ref Mtape, .int (nI a), .int 0, .ref Msort, .ref Mplace, .ref Mvalue, .int 0, .int 0, .ref Mwords, .int 0, .int 0, .ref Mgoes, .ref MgoLine, .ref Mends, .ref MendLine, .ref Mkinds, .ref MisName, .int 0, .ref Mrow, .ref MbyHand, .ref Mleast, .ref Msecond, .ref MendAt, .ref MgoAt, .ref MnodeBehind, .int 0, .ref MisOut, .ref MfirstEnd, .ref MfirstGo])), (Mtape, .inl (cI, 1600, .inl fa))] → va_S A s.heap H locs → lv_has ls 5 [(3, .int 8), (0, .ref h0), (1, .long p0)] → W p l e (headSpec wsX5_lay ({ frames := 0, cells := 0, slots := 0, locals := 0 })).room s m ([.ref h0, .long p0]).toArray below meth c H locs 0 0 (MQ below (va_Qv (fun (u : (Nat → Int32) × (Int32)) => match u with | (gs, lN) => lN = nI (sgF (byM p0) ks8 n)) (fun (u : (Nat → Int32) × (Int32)) t => match u with | (gs, lN) => sB dC dI A [(h0, .inr (5, [.int 0, .ref Mtape, .int lN, .int 0, .ref Msort, .ref Mplace, .ref Mvalue, .int 0, .int 0, .ref Mwords, .int 0, .int 0, .ref Mgoes, .ref MgoLine, .ref Mends, .ref MendLine, .ref Mkinds, .ref MisName, .int 0, .ref Mrow, .ref MbyHand, .ref Mleast, .ref Msecond, .ref MendAt, .ref MgoAt, .ref MnodeBehind, .int 0, .ref MisOut, .ref MfirstEnd, .ref MfirstGo])), (Mtape, .inl (cI, 1600, .inl gs))] t) A) ([.ref h0, .long p0]).toArray s 0 0 A) (F0 m 3 ls []) := by
    intro a fa ha hT H locs ls hP hD hS hl
    refine lv_iload_n hx hb dX5_lay_3 rfl (lv_at hl 0 rfl) ?_
    refine lv_if_lt (tgt := 75) hx hb dX5_lay_4 (by decide) (fun h9 => absurd h9 (by decide)) (fun _ => ?_)
    refine lv_lload_n hx hb dX5_lay_7 rfl (lv_at hl 2 rfl) ?_
    refine lv_iload_n hx hb dX5_lay_8 rfl (lv_at hl 0 rfl) ?_
    refine lv_lshr (v := (p0 >>> ((8 : Int32).toInt64 &&& 63))) hx hb dX5_lay_9 rfl ?_
    refine lv_l2i (v := (p0 >>> ((8 : Int32).toInt64 &&& 63)).toInt32) hx hb dX5_lay_10 rfl ?_
    refine lv_sipush (v := 255) hx hb dX5_lay_11 (by decide) ?_
    refine lv_iand hx hb dX5_lay_14 ?_
    refine lv_topi (fun v_ ev_ => ?_)
    obtain rfl : v_ = (byM p0 8) := ev_.trans (rfl)
    refine lv_istore (lv' := [(4, .int (byM p0 8)), (3, .int 8), (0, .ref h0), (1, .long p0)]) hx hb dX5_lay_15 hl (by decide) rfl (fun ls hl => ?_)
    refine lv_iload hx hb dX5_lay_17 (lv_at hl 0 rfl) ?_
    refine lv_bipush (v := 10) hx hb dX5_lay_19 (by decide) ?_
    refine lv_icmp_eq (tgt := 38) hx hb dX5_lay_21 (by decide) (fun c_21 => ?_) (fun c_21 => ?_)
    · skip
      refine lv_aload_n hx hb dX5_lay_38 rfl (lv_at hl 2 rfl) ?_
      refine va_get (D := (dC, dI)) (ci := 5) (v := .int (nI a)) (C := RX5) (T := TX5) (N := 30) hx hb hts i5 hown hK hP 0 rfl rfl 2 (by decide) (hts (.fieldLink RX5 11 "StopSetterModel" "taped" "I") (by decide +kernel)) (fun _ h9 => h9) rfl dX5_lay_39 ?_
      refine lv_sipush (v := 1600) hx hb dX5_lay_42 (by decide) ?_
      refine lv_icmp_ge (tgt := 69) hx hb dX5_lay_45 (by decide) (fun c_45 => ?_) (fun c_45 => ?_)
      · skip
        refine lv_iinc (v := 0) (lv' := [(3, .int 0), (4, .int (byM p0 8)), (0, .ref h0), (1, .long p0)]) hx hb dX5_lay_69 hl (k := 1) rfl (by decide) (by decide) rfl (fun ls hl => ?_)
        refine lv_goto (tgt := 3) hx hb dX5_lay_72 (by decide) ?_
        exact lp_3_0 a fa (by have h7 : sgn a (byM p0 8) = a := (by simp only [sgn, if_pos c_21, if_pos c_45]); have h8 := sgn_le (c := byM p0 8) ha; rw [h7] at h8; exact h8) (by have h7 : sgn a (byM p0 8) = a := (by simp only [sgn, if_pos c_21, if_pos c_45]); have h8 : sgF (byM p0) [0] (sgn a (byM p0 8)) = T := hT; rw [h7] at h8; exact h8) _ _ _ hP hD hS (lv_sub hl [0, 2, 3] rfl)
      · skip
        have hn3 : a < 1600 := nk_lt (N := 1600) rfl c_45 (by omega)
        refine lv_aload_n hx hb dX5_lay_48 rfl (lv_at hl 2 rfl) ?_
        refine va_get (D := (dC, dI)) (ci := 5) (v := .ref Mtape) (C := RX5) (T := TX5) (N := 30) hx hb hts i5 hown hK hP 0 rfl rfl 1 (by decide) (hts (.fieldLink RX5 14 "StopSetterModel" "tape" "[I") (by decide +kernel)) (fun _ h9 => h9) rfl dX5_lay_49 ?_
        refine lv_aload_n hx hb dX5_lay_52 rfl (lv_at hl 2 rfl) ?_
        refine va_get (D := (dC, dI)) (ci := 5) (v := .int (nI a)) (C := RX5) (T := TX5) (N := 30) hx hb hts i5 hown hK hP 0 rfl rfl 2 (by decide) (hts (.fieldLink RX5 11 "StopSetterModel" "taped" "I") (by decide +kernel)) (fun _ h9 => h9) rfl dX5_lay_53 ?_
        refine lv_iload hx hb dX5_lay_56 (lv_at hl 0 rfl) ?_
        refine va_iast hx hb hK hP hD hS 1 0 rfl rfl (vp_in_nI hn3 (by decide)) dX5_lay_58 (fun H locs hP hD hS => ?_)
        have hP : va_P (dC, dI) vwCl [(h0, .inr (5, [.int 0, .ref Mtape, .int (nI a), .int 0, .ref Msort, .ref Mplace, .ref Mvalue, .int 0, .int 0, .ref Mwords, .int 0, .int 0, .ref Mgoes, .ref MgoLine, .ref Mends, .ref MendLine, .ref Mkinds, .ref MisName, .int 0, .ref Mrow, .ref MbyHand, .ref Mleast, .ref Msecond, .ref MendAt, .ref MgoAt, .ref MnodeBehind, .int 0, .ref MisOut, .ref MfirstEnd, .ref MfirstGo])), (Mtape, .inl (cI, 1600, .inl (upd fa ((nI a).toNatClampNeg) (byM p0 8))))] H := hP
        have hD : va_D A [(h0, .inr (5, [.int 0, .ref Mtape, .int (nI a), .int 0, .ref Msort, .ref Mplace, .ref Mvalue, .int 0, .int 0, .ref Mwords, .int 0, .int 0, .ref Mgoes, .ref MgoLine, .ref Mends, .ref MendLine, .ref Mkinds, .ref MisName, .int 0, .ref Mrow, .ref MbyHand, .ref Mleast, .ref Msecond, .ref MendAt, .ref MgoAt, .ref MnodeBehind, .int 0, .ref MisOut, .ref MfirstEnd, .ref MfirstGo])), (Mtape, .inl (cI, 1600, .inl (upd fa ((nI a).toNatClampNeg) (byM p0 8))))] := hD
        refine lv_aload_n hx hb dX5_lay_59 rfl (lv_at hl 2 rfl) ?_
        refine lv_dup hx hb dX5_lay_60 rfl ?_
        refine va_get (D := (dC, dI)) (ci := 5) (v := .int (nI a)) (C := RX5) (T := TX5) (N := 30) hx hb hts i5 hown hK hP 0 rfl rfl 2 (by decide) (hts (.fieldLink RX5 11 "StopSetterModel" "taped" "I") (by decide +kernel)) (fun _ h9 => h9) rfl dX5_lay_61 ?_
        refine lv_iconst (v := 1) hx hb dX5_lay_64 (by decide) ?_
        refine lv_iadd hx hb dX5_lay_65 ?_
        refine lv_topi (fun v_ ev_ => ?_)
        obtain rfl : v_ = (nI (a + 1)) := ev_.trans (nI_1 a)
        refine va_put (D := (dC, dI)) (ci := 5) (v := .int (nI (a + 1))) (ty := tyX5 2) (C := RX5) (T := TX5) (N := 30) hx hb hts i5 tyX5 tyX5_ok nmX5 hown hK hP hD hS 0 rfl rfl 2 (by decide) (hts (.fieldLink RX5 11 "StopSetterModel" "taped" "I") (by decide +kernel)) (fun _ h9 => h9) rfl (by decide +kernel) rfl rfl (Nat.le_of_ble_eq_true rfl) dX5_lay_66 (fun H locs hP hD hS => ?_)
        have hP : va_P (dC, dI) vwCl [(h0, .inr (5, [.int 0, .ref Mtape, .int (nI (a + 1)), .int 0, .ref Msort, .ref Mplace, .ref Mvalue, .int 0, .int 0, .ref Mwords, .int 0, .int 0, .ref Mgoes, .ref MgoLine, .ref Mends, .ref MendLine, .ref Mkinds, .ref MisName, .int 0, .ref Mrow, .ref MbyHand, .ref Mleast, .ref Msecond, .ref MendAt, .ref MgoAt, .ref MnodeBehind, .int 0, .ref MisOut, .ref MfirstEnd, .ref MfirstGo])), (Mtape, .inl (cI, 1600, .inl (upd fa ((nI a).toNatClampNeg) (byM p0 8))))] H := hP
        have hD : va_D A [(h0, .inr (5, [.int 0, .ref Mtape, .int (nI (a + 1)), .int 0, .ref Msort, .ref Mplace, .ref Mvalue, .int 0, .int 0, .ref Mwords, .int 0, .int 0, .ref Mgoes, .ref MgoLine, .ref Mends, .ref MendLine, .ref Mkinds, .ref MisName, .int 0, .ref Mrow, .ref MbyHand, .ref Mleast, .ref Msecond, .ref MendAt, .ref MgoAt, .ref MnodeBehind, .int 0, .ref MisOut, .ref MfirstEnd, .ref MfirstGo])), (Mtape, .inl (cI, 1600, .inl (upd fa ((nI a).toNatClampNeg) (byM p0 8))))] := hD
        refine lv_iinc (v := 0) (lv' := [(3, .int 0), (4, .int (byM p0 8)), (0, .ref h0), (1, .long p0)]) hx hb dX5_lay_69 hl (k := 1) rfl (by decide) (by decide) rfl (fun ls hl => ?_)
        refine lv_goto (tgt := 3) hx hb dX5_lay_72 (by decide) ?_
        exact lp_3_0 (a + 1) (upd fa ((nI a).toNatClampNeg) (byM p0 8)) (by have h7 : sgn a (byM p0 8) = a + 1 := (by simp only [sgn, if_pos c_21, if_neg c_45]); have h8 := sgn_le (c := byM p0 8) ha; rw [h7] at h8; exact h8) (by have h7 : sgn a (byM p0 8) = a + 1 := (by simp only [sgn, if_pos c_21, if_neg c_45]); have h8 : sgF (byM p0) [0] (sgn a (byM p0 8)) = T := hT; rw [h7] at h8; exact h8) _ _ _ hP hD hS (lv_sub hl [0, 2, 3] rfl)
    · skip
      refine lv_iload hx hb dX5_lay_24 (lv_at hl 0 rfl) ?_
      refine lv_bipush (v := 32) hx hb dX5_lay_26 (by decide) ?_
      refine lv_icmp_lt (tgt := 69) hx hb dX5_lay_28 (by decide) (fun c_28 => ?_) (fun c_28 => ?_)
      · skip
        refine lv_iinc (v := 0) (lv' := [(3, .int 0), (4, .int (byM p0 8)), (0, .ref h0), (1, .long p0)]) hx hb dX5_lay_69 hl (k := 1) rfl (by decide) (by decide) rfl (fun ls hl => ?_)
        refine lv_goto (tgt := 3) hx hb dX5_lay_72 (by decide) ?_
        exact lp_3_0 a fa (by have h7 : sgn a (byM p0 8) = a := (by simp only [sgn, if_neg c_21, if_pos c_28]); have h8 := sgn_le (c := byM p0 8) ha; rw [h7] at h8; exact h8) (by have h7 : sgn a (byM p0 8) = a := (by simp only [sgn, if_neg c_21, if_pos c_28]); have h8 : sgF (byM p0) [0] (sgn a (byM p0 8)) = T := hT; rw [h7] at h8; exact h8) _ _ _ hP hD hS (lv_sub hl [0, 2, 3] rfl)
      · skip
        refine lv_iload hx hb dX5_lay_31 (lv_at hl 0 rfl) ?_
        refine lv_bipush (v := 126) hx hb dX5_lay_33 (by decide) ?_
        refine lv_icmp_gt (tgt := 69) hx hb dX5_lay_35 (by decide) (fun c_35 => ?_) (fun c_35 => ?_)
        · skip
          refine lv_iinc (v := 0) (lv' := [(3, .int 0), (4, .int (byM p0 8)), (0, .ref h0), (1, .long p0)]) hx hb dX5_lay_69 hl (k := 1) rfl (by decide) (by decide) rfl (fun ls hl => ?_)
          refine lv_goto (tgt := 3) hx hb dX5_lay_72 (by decide) ?_
          exact lp_3_0 a fa (by have h7 : sgn a (byM p0 8) = a := (by simp only [sgn, if_neg c_21, if_neg c_28, if_pos c_35]); have h8 := sgn_le (c := byM p0 8) ha; rw [h7] at h8; exact h8) (by have h7 : sgn a (byM p0 8) = a := (by simp only [sgn, if_neg c_21, if_neg c_28, if_pos c_35]); have h8 : sgF (byM p0) [0] (sgn a (byM p0 8)) = T := hT; rw [h7] at h8; exact h8) _ _ _ hP hD hS (lv_sub hl [0, 2, 3] rfl)
        · skip
          refine lv_aload_n hx hb dX5_lay_38 rfl (lv_at hl 2 rfl) ?_
          refine va_get (D := (dC, dI)) (ci := 5) (v := .int (nI a)) (C := RX5) (T := TX5) (N := 30) hx hb hts i5 hown hK hP 0 rfl rfl 2 (by decide) (hts (.fieldLink RX5 11 "StopSetterModel" "taped" "I") (by decide +kernel)) (fun _ h9 => h9) rfl dX5_lay_39 ?_
          refine lv_sipush (v := 1600) hx hb dX5_lay_42 (by decide) ?_
          refine lv_icmp_ge (tgt := 69) hx hb dX5_lay_45 (by decide) (fun c_45 => ?_) (fun c_45 => ?_)
          · skip
            refine lv_iinc (v := 0) (lv' := [(3, .int 0), (4, .int (byM p0 8)), (0, .ref h0), (1, .long p0)]) hx hb dX5_lay_69 hl (k := 1) rfl (by decide) (by decide) rfl (fun ls hl => ?_)
            refine lv_goto (tgt := 3) hx hb dX5_lay_72 (by decide) ?_
            exact lp_3_0 a fa (by have h7 : sgn a (byM p0 8) = a := (by simp only [sgn, if_neg c_21, if_neg c_28, if_neg c_35, if_pos c_45]); have h8 := sgn_le (c := byM p0 8) ha; rw [h7] at h8; exact h8) (by have h7 : sgn a (byM p0 8) = a := (by simp only [sgn, if_neg c_21, if_neg c_28, if_neg c_35, if_pos c_45]); have h8 : sgF (byM p0) [0] (sgn a (byM p0 8)) = T := hT; rw [h7] at h8; exact h8) _ _ _ hP hD hS (lv_sub hl [0, 2, 3] rfl)
          · skip
            have hn3 : a < 1600 := nk_lt (N := 1600) rfl c_45 (by omega)
            refine lv_aload_n hx hb dX5_lay_48 rfl (lv_at hl 2 rfl) ?_
            refine va_get (D := (dC, dI)) (ci := 5) (v := .ref Mtape) (C := RX5) (T := TX5) (N := 30) hx hb hts i5 hown hK hP 0 rfl rfl 1 (by decide) (hts (.fieldLink RX5 14 "StopSetterModel" "tape" "[I") (by decide +kernel)) (fun _ h9 => h9) rfl dX5_lay_49 ?_
            refine lv_aload_n hx hb dX5_lay_52 rfl (lv_at hl 2 rfl) ?_
            refine va_get (D := (dC, dI)) (ci := 5) (v := .int (nI a)) (C := RX5) (T := TX5) (N := 30) hx hb hts i5 hown hK hP 0 rfl rfl 2 (by decide) (hts (.fieldLink RX5 11 "StopSetterModel" "taped" "I") (by decide +kernel)) (fun _ h9 => h9) rfl dX5_lay_53 ?_
            refine lv_iload hx hb dX5_lay_56 (lv_at hl 0 rfl) ?_
            refine va_iast hx hb hK hP hD hS 1 0 rfl rfl (vp_in_nI hn3 (by decide)) dX5_lay_58 (fun H locs hP hD hS => ?_)
            have hP : va_P (dC, dI) vwCl [(h0, .inr (5, [.int 0, .ref Mtape, .int (nI a), .int 0, .ref Msort, .ref Mplace, .ref Mvalue, .int 0, .int 0, .ref Mwords, .int 0, .int 0, .ref Mgoes, .ref MgoLine, .ref Mends, .ref MendLine, .ref Mkinds, .ref MisName, .int 0, .ref Mrow, .ref MbyHand, .ref Mleast, .ref Msecond, .ref MendAt, .ref MgoAt, .ref MnodeBehind, .int 0, .ref MisOut, .ref MfirstEnd, .ref MfirstGo])), (Mtape, .inl (cI, 1600, .inl (upd fa ((nI a).toNatClampNeg) (byM p0 8))))] H := hP
            have hD : va_D A [(h0, .inr (5, [.int 0, .ref Mtape, .int (nI a), .int 0, .ref Msort, .ref Mplace, .ref Mvalue, .int 0, .int 0, .ref Mwords, .int 0, .int 0, .ref Mgoes, .ref MgoLine, .ref Mends, .ref MendLine, .ref Mkinds, .ref MisName, .int 0, .ref Mrow, .ref MbyHand, .ref Mleast, .ref Msecond, .ref MendAt, .ref MgoAt, .ref MnodeBehind, .int 0, .ref MisOut, .ref MfirstEnd, .ref MfirstGo])), (Mtape, .inl (cI, 1600, .inl (upd fa ((nI a).toNatClampNeg) (byM p0 8))))] := hD
            refine lv_aload_n hx hb dX5_lay_59 rfl (lv_at hl 2 rfl) ?_
            refine lv_dup hx hb dX5_lay_60 rfl ?_
            refine va_get (D := (dC, dI)) (ci := 5) (v := .int (nI a)) (C := RX5) (T := TX5) (N := 30) hx hb hts i5 hown hK hP 0 rfl rfl 2 (by decide) (hts (.fieldLink RX5 11 "StopSetterModel" "taped" "I") (by decide +kernel)) (fun _ h9 => h9) rfl dX5_lay_61 ?_
            refine lv_iconst (v := 1) hx hb dX5_lay_64 (by decide) ?_
            refine lv_iadd hx hb dX5_lay_65 ?_
            refine lv_topi (fun v_ ev_ => ?_)
            obtain rfl : v_ = (nI (a + 1)) := ev_.trans (nI_1 a)
            refine va_put (D := (dC, dI)) (ci := 5) (v := .int (nI (a + 1))) (ty := tyX5 2) (C := RX5) (T := TX5) (N := 30) hx hb hts i5 tyX5 tyX5_ok nmX5 hown hK hP hD hS 0 rfl rfl 2 (by decide) (hts (.fieldLink RX5 11 "StopSetterModel" "taped" "I") (by decide +kernel)) (fun _ h9 => h9) rfl (by decide +kernel) rfl rfl (Nat.le_of_ble_eq_true rfl) dX5_lay_66 (fun H locs hP hD hS => ?_)
            have hP : va_P (dC, dI) vwCl [(h0, .inr (5, [.int 0, .ref Mtape, .int (nI (a + 1)), .int 0, .ref Msort, .ref Mplace, .ref Mvalue, .int 0, .int 0, .ref Mwords, .int 0, .int 0, .ref Mgoes, .ref MgoLine, .ref Mends, .ref MendLine, .ref Mkinds, .ref MisName, .int 0, .ref Mrow, .ref MbyHand, .ref Mleast, .ref Msecond, .ref MendAt, .ref MgoAt, .ref MnodeBehind, .int 0, .ref MisOut, .ref MfirstEnd, .ref MfirstGo])), (Mtape, .inl (cI, 1600, .inl (upd fa ((nI a).toNatClampNeg) (byM p0 8))))] H := hP
            have hD : va_D A [(h0, .inr (5, [.int 0, .ref Mtape, .int (nI (a + 1)), .int 0, .ref Msort, .ref Mplace, .ref Mvalue, .int 0, .int 0, .ref Mwords, .int 0, .int 0, .ref Mgoes, .ref MgoLine, .ref Mends, .ref MendLine, .ref Mkinds, .ref MisName, .int 0, .ref Mrow, .ref MbyHand, .ref Mleast, .ref Msecond, .ref MendAt, .ref MgoAt, .ref MnodeBehind, .int 0, .ref MisOut, .ref MfirstEnd, .ref MfirstGo])), (Mtape, .inl (cI, 1600, .inl (upd fa ((nI a).toNatClampNeg) (byM p0 8))))] := hD
            refine lv_iinc (v := 0) (lv' := [(3, .int 0), (4, .int (byM p0 8)), (0, .ref h0), (1, .long p0)]) hx hb dX5_lay_69 hl (k := 1) rfl (by decide) (by decide) rfl (fun ls hl => ?_)
            refine lv_goto (tgt := 3) hx hb dX5_lay_72 (by decide) ?_
            exact lp_3_0 (a + 1) (upd fa ((nI a).toNatClampNeg) (byM p0 8)) (by have h7 : sgn a (byM p0 8) = a + 1 := (by simp only [sgn, if_neg c_21, if_neg c_28, if_neg c_35, if_neg c_45]); have h8 := sgn_le (c := byM p0 8) ha; rw [h7] at h8; exact h8) (by have h7 : sgn a (byM p0 8) = a + 1 := (by simp only [sgn, if_neg c_21, if_neg c_28, if_neg c_35, if_neg c_45]); have h8 : sgF (byM p0) [0] (sgn a (byM p0 8)) = T := hT; rw [h7] at h8; exact h8) _ _ _ hP hD hS (lv_sub hl [0, 2, 3] rfl)
  have lp_3_16 : ∀ (a : Nat) (fa : Nat → Int32), a ≤ 1600 → sgF (byM p0) [16, 8, 0] a = T → ∀ (H : Heap) (locs : List Loc) (ls : Array Slot), va_P (dC, dI) vwCl [(h0, .inr (5, [.int 0, .ref Mtape, .int (nI a), .int 0, .ref Msort, .ref Mplace, .ref Mvalue, .int 0, .int 0, .ref Mwords, .int 0, .int 0, .ref Mgoes, .ref MgoLine, .ref Mends, .ref MendLine, .ref Mkinds, .ref MisName, .int 0, .ref Mrow, .ref MbyHand, .ref Mleast, .ref Msecond, .ref MendAt, .ref MgoAt, .ref MnodeBehind, .int 0, .ref MisOut, .ref MfirstEnd, .ref MfirstGo])), (Mtape, .inl (cI, 1600, .inl fa))] H → va_D A [(h0, .inr (5, [.int 0, .ref Mtape, .int (nI a), .int 0, .ref Msort, .ref Mplace, .ref Mvalue, .int 0, .int 0, .ref Mwords, .int 0, .int 0, .ref Mgoes, .ref MgoLine, .ref Mends, .ref MendLine, .ref Mkinds, .ref MisName, .int 0, .ref Mrow, .ref MbyHand, .ref Mleast, .ref Msecond, .ref MendAt, .ref MgoAt, .ref MnodeBehind, .int 0, .ref MisOut, .ref MfirstEnd, .ref MfirstGo])), (Mtape, .inl (cI, 1600, .inl fa))] → va_S A s.heap H locs → lv_has ls 5 [(3, .int 16), (0, .ref h0), (1, .long p0)] → W p l e (headSpec wsX5_lay ({ frames := 0, cells := 0, slots := 0, locals := 0 })).room s m ([.ref h0, .long p0]).toArray below meth c H locs 0 0 (MQ below (va_Qv (fun (u : (Nat → Int32) × (Int32)) => match u with | (gs, lN) => lN = nI (sgF (byM p0) ks8 n)) (fun (u : (Nat → Int32) × (Int32)) t => match u with | (gs, lN) => sB dC dI A [(h0, .inr (5, [.int 0, .ref Mtape, .int lN, .int 0, .ref Msort, .ref Mplace, .ref Mvalue, .int 0, .int 0, .ref Mwords, .int 0, .int 0, .ref Mgoes, .ref MgoLine, .ref Mends, .ref MendLine, .ref Mkinds, .ref MisName, .int 0, .ref Mrow, .ref MbyHand, .ref Mleast, .ref Msecond, .ref MendAt, .ref MgoAt, .ref MnodeBehind, .int 0, .ref MisOut, .ref MfirstEnd, .ref MfirstGo])), (Mtape, .inl (cI, 1600, .inl gs))] t) A) ([.ref h0, .long p0]).toArray s 0 0 A) (F0 m 3 ls []) := by
    intro a fa ha hT H locs ls hP hD hS hl
    refine lv_iload_n hx hb dX5_lay_3 rfl (lv_at hl 0 rfl) ?_
    refine lv_if_lt (tgt := 75) hx hb dX5_lay_4 (by decide) (fun h9 => absurd h9 (by decide)) (fun _ => ?_)
    refine lv_lload_n hx hb dX5_lay_7 rfl (lv_at hl 2 rfl) ?_
    refine lv_iload_n hx hb dX5_lay_8 rfl (lv_at hl 0 rfl) ?_
    refine lv_lshr (v := (p0 >>> ((16 : Int32).toInt64 &&& 63))) hx hb dX5_lay_9 rfl ?_
    refine lv_l2i (v := (p0 >>> ((16 : Int32).toInt64 &&& 63)).toInt32) hx hb dX5_lay_10 rfl ?_
    refine lv_sipush (v := 255) hx hb dX5_lay_11 (by decide) ?_
    refine lv_iand hx hb dX5_lay_14 ?_
    refine lv_topi (fun v_ ev_ => ?_)
    obtain rfl : v_ = (byM p0 16) := ev_.trans (rfl)
    refine lv_istore (lv' := [(4, .int (byM p0 16)), (3, .int 16), (0, .ref h0), (1, .long p0)]) hx hb dX5_lay_15 hl (by decide) rfl (fun ls hl => ?_)
    refine lv_iload hx hb dX5_lay_17 (lv_at hl 0 rfl) ?_
    refine lv_bipush (v := 10) hx hb dX5_lay_19 (by decide) ?_
    refine lv_icmp_eq (tgt := 38) hx hb dX5_lay_21 (by decide) (fun c_21 => ?_) (fun c_21 => ?_)
    · skip
      refine lv_aload_n hx hb dX5_lay_38 rfl (lv_at hl 2 rfl) ?_
      refine va_get (D := (dC, dI)) (ci := 5) (v := .int (nI a)) (C := RX5) (T := TX5) (N := 30) hx hb hts i5 hown hK hP 0 rfl rfl 2 (by decide) (hts (.fieldLink RX5 11 "StopSetterModel" "taped" "I") (by decide +kernel)) (fun _ h9 => h9) rfl dX5_lay_39 ?_
      refine lv_sipush (v := 1600) hx hb dX5_lay_42 (by decide) ?_
      refine lv_icmp_ge (tgt := 69) hx hb dX5_lay_45 (by decide) (fun c_45 => ?_) (fun c_45 => ?_)
      · skip
        refine lv_iinc (v := 8) (lv' := [(3, .int 8), (4, .int (byM p0 16)), (0, .ref h0), (1, .long p0)]) hx hb dX5_lay_69 hl (k := 1) rfl (by decide) (by decide) rfl (fun ls hl => ?_)
        refine lv_goto (tgt := 3) hx hb dX5_lay_72 (by decide) ?_
        exact lp_3_8 a fa (by have h7 : sgn a (byM p0 16) = a := (by simp only [sgn, if_pos c_21, if_pos c_45]); have h8 := sgn_le (c := byM p0 16) ha; rw [h7] at h8; exact h8) (by have h7 : sgn a (byM p0 16) = a := (by simp only [sgn, if_pos c_21, if_pos c_45]); have h8 : sgF (byM p0) [8, 0] (sgn a (byM p0 16)) = T := hT; rw [h7] at h8; exact h8) _ _ _ hP hD hS (lv_sub hl [0, 2, 3] rfl)
      · skip
        have hn3 : a < 1600 := nk_lt (N := 1600) rfl c_45 (by omega)
        refine lv_aload_n hx hb dX5_lay_48 rfl (lv_at hl 2 rfl) ?_
        refine va_get (D := (dC, dI)) (ci := 5) (v := .ref Mtape) (C := RX5) (T := TX5) (N := 30) hx hb hts i5 hown hK hP 0 rfl rfl 1 (by decide) (hts (.fieldLink RX5 14 "StopSetterModel" "tape" "[I") (by decide +kernel)) (fun _ h9 => h9) rfl dX5_lay_49 ?_
        refine lv_aload_n hx hb dX5_lay_52 rfl (lv_at hl 2 rfl) ?_
        refine va_get (D := (dC, dI)) (ci := 5) (v := .int (nI a)) (C := RX5) (T := TX5) (N := 30) hx hb hts i5 hown hK hP 0 rfl rfl 2 (by decide) (hts (.fieldLink RX5 11 "StopSetterModel" "taped" "I") (by decide +kernel)) (fun _ h9 => h9) rfl dX5_lay_53 ?_
        refine lv_iload hx hb dX5_lay_56 (lv_at hl 0 rfl) ?_
        refine va_iast hx hb hK hP hD hS 1 0 rfl rfl (vp_in_nI hn3 (by decide)) dX5_lay_58 (fun H locs hP hD hS => ?_)
        have hP : va_P (dC, dI) vwCl [(h0, .inr (5, [.int 0, .ref Mtape, .int (nI a), .int 0, .ref Msort, .ref Mplace, .ref Mvalue, .int 0, .int 0, .ref Mwords, .int 0, .int 0, .ref Mgoes, .ref MgoLine, .ref Mends, .ref MendLine, .ref Mkinds, .ref MisName, .int 0, .ref Mrow, .ref MbyHand, .ref Mleast, .ref Msecond, .ref MendAt, .ref MgoAt, .ref MnodeBehind, .int 0, .ref MisOut, .ref MfirstEnd, .ref MfirstGo])), (Mtape, .inl (cI, 1600, .inl (upd fa ((nI a).toNatClampNeg) (byM p0 16))))] H := hP
        have hD : va_D A [(h0, .inr (5, [.int 0, .ref Mtape, .int (nI a), .int 0, .ref Msort, .ref Mplace, .ref Mvalue, .int 0, .int 0, .ref Mwords, .int 0, .int 0, .ref Mgoes, .ref MgoLine, .ref Mends, .ref MendLine, .ref Mkinds, .ref MisName, .int 0, .ref Mrow, .ref MbyHand, .ref Mleast, .ref Msecond, .ref MendAt, .ref MgoAt, .ref MnodeBehind, .int 0, .ref MisOut, .ref MfirstEnd, .ref MfirstGo])), (Mtape, .inl (cI, 1600, .inl (upd fa ((nI a).toNatClampNeg) (byM p0 16))))] := hD
        refine lv_aload_n hx hb dX5_lay_59 rfl (lv_at hl 2 rfl) ?_
        refine lv_dup hx hb dX5_lay_60 rfl ?_
        refine va_get (D := (dC, dI)) (ci := 5) (v := .int (nI a)) (C := RX5) (T := TX5) (N := 30) hx hb hts i5 hown hK hP 0 rfl rfl 2 (by decide) (hts (.fieldLink RX5 11 "StopSetterModel" "taped" "I") (by decide +kernel)) (fun _ h9 => h9) rfl dX5_lay_61 ?_
        refine lv_iconst (v := 1) hx hb dX5_lay_64 (by decide) ?_
        refine lv_iadd hx hb dX5_lay_65 ?_
        refine lv_topi (fun v_ ev_ => ?_)
        obtain rfl : v_ = (nI (a + 1)) := ev_.trans (nI_1 a)
        refine va_put (D := (dC, dI)) (ci := 5) (v := .int (nI (a + 1))) (ty := tyX5 2) (C := RX5) (T := TX5) (N := 30) hx hb hts i5 tyX5 tyX5_ok nmX5 hown hK hP hD hS 0 rfl rfl 2 (by decide) (hts (.fieldLink RX5 11 "StopSetterModel" "taped" "I") (by decide +kernel)) (fun _ h9 => h9) rfl (by decide +kernel) rfl rfl (Nat.le_of_ble_eq_true rfl) dX5_lay_66 (fun H locs hP hD hS => ?_)
        have hP : va_P (dC, dI) vwCl [(h0, .inr (5, [.int 0, .ref Mtape, .int (nI (a + 1)), .int 0, .ref Msort, .ref Mplace, .ref Mvalue, .int 0, .int 0, .ref Mwords, .int 0, .int 0, .ref Mgoes, .ref MgoLine, .ref Mends, .ref MendLine, .ref Mkinds, .ref MisName, .int 0, .ref Mrow, .ref MbyHand, .ref Mleast, .ref Msecond, .ref MendAt, .ref MgoAt, .ref MnodeBehind, .int 0, .ref MisOut, .ref MfirstEnd, .ref MfirstGo])), (Mtape, .inl (cI, 1600, .inl (upd fa ((nI a).toNatClampNeg) (byM p0 16))))] H := hP
        have hD : va_D A [(h0, .inr (5, [.int 0, .ref Mtape, .int (nI (a + 1)), .int 0, .ref Msort, .ref Mplace, .ref Mvalue, .int 0, .int 0, .ref Mwords, .int 0, .int 0, .ref Mgoes, .ref MgoLine, .ref Mends, .ref MendLine, .ref Mkinds, .ref MisName, .int 0, .ref Mrow, .ref MbyHand, .ref Mleast, .ref Msecond, .ref MendAt, .ref MgoAt, .ref MnodeBehind, .int 0, .ref MisOut, .ref MfirstEnd, .ref MfirstGo])), (Mtape, .inl (cI, 1600, .inl (upd fa ((nI a).toNatClampNeg) (byM p0 16))))] := hD
        refine lv_iinc (v := 8) (lv' := [(3, .int 8), (4, .int (byM p0 16)), (0, .ref h0), (1, .long p0)]) hx hb dX5_lay_69 hl (k := 1) rfl (by decide) (by decide) rfl (fun ls hl => ?_)
        refine lv_goto (tgt := 3) hx hb dX5_lay_72 (by decide) ?_
        exact lp_3_8 (a + 1) (upd fa ((nI a).toNatClampNeg) (byM p0 16)) (by have h7 : sgn a (byM p0 16) = a + 1 := (by simp only [sgn, if_pos c_21, if_neg c_45]); have h8 := sgn_le (c := byM p0 16) ha; rw [h7] at h8; exact h8) (by have h7 : sgn a (byM p0 16) = a + 1 := (by simp only [sgn, if_pos c_21, if_neg c_45]); have h8 : sgF (byM p0) [8, 0] (sgn a (byM p0 16)) = T := hT; rw [h7] at h8; exact h8) _ _ _ hP hD hS (lv_sub hl [0, 2, 3] rfl)
    · skip
      refine lv_iload hx hb dX5_lay_24 (lv_at hl 0 rfl) ?_
      refine lv_bipush (v := 32) hx hb dX5_lay_26 (by decide) ?_
      refine lv_icmp_lt (tgt := 69) hx hb dX5_lay_28 (by decide) (fun c_28 => ?_) (fun c_28 => ?_)
      · skip
        refine lv_iinc (v := 8) (lv' := [(3, .int 8), (4, .int (byM p0 16)), (0, .ref h0), (1, .long p0)]) hx hb dX5_lay_69 hl (k := 1) rfl (by decide) (by decide) rfl (fun ls hl => ?_)
        refine lv_goto (tgt := 3) hx hb dX5_lay_72 (by decide) ?_
        exact lp_3_8 a fa (by have h7 : sgn a (byM p0 16) = a := (by simp only [sgn, if_neg c_21, if_pos c_28]); have h8 := sgn_le (c := byM p0 16) ha; rw [h7] at h8; exact h8) (by have h7 : sgn a (byM p0 16) = a := (by simp only [sgn, if_neg c_21, if_pos c_28]); have h8 : sgF (byM p0) [8, 0] (sgn a (byM p0 16)) = T := hT; rw [h7] at h8; exact h8) _ _ _ hP hD hS (lv_sub hl [0, 2, 3] rfl)
      · skip
        refine lv_iload hx hb dX5_lay_31 (lv_at hl 0 rfl) ?_
        refine lv_bipush (v := 126) hx hb dX5_lay_33 (by decide) ?_
        refine lv_icmp_gt (tgt := 69) hx hb dX5_lay_35 (by decide) (fun c_35 => ?_) (fun c_35 => ?_)
        · skip
          refine lv_iinc (v := 8) (lv' := [(3, .int 8), (4, .int (byM p0 16)), (0, .ref h0), (1, .long p0)]) hx hb dX5_lay_69 hl (k := 1) rfl (by decide) (by decide) rfl (fun ls hl => ?_)
          refine lv_goto (tgt := 3) hx hb dX5_lay_72 (by decide) ?_
          exact lp_3_8 a fa (by have h7 : sgn a (byM p0 16) = a := (by simp only [sgn, if_neg c_21, if_neg c_28, if_pos c_35]); have h8 := sgn_le (c := byM p0 16) ha; rw [h7] at h8; exact h8) (by have h7 : sgn a (byM p0 16) = a := (by simp only [sgn, if_neg c_21, if_neg c_28, if_pos c_35]); have h8 : sgF (byM p0) [8, 0] (sgn a (byM p0 16)) = T := hT; rw [h7] at h8; exact h8) _ _ _ hP hD hS (lv_sub hl [0, 2, 3] rfl)
        · skip
          refine lv_aload_n hx hb dX5_lay_38 rfl (lv_at hl 2 rfl) ?_
          refine va_get (D := (dC, dI)) (ci := 5) (v := .int (nI a)) (C := RX5) (T := TX5) (N := 30) hx hb hts i5 hown hK hP 0 rfl rfl 2 (by decide) (hts (.fieldLink RX5 11 "StopSetterModel" "taped" "I") (by decide +kernel)) (fun _ h9 => h9) rfl dX5_lay_39 ?_
          refine lv_sipush (v := 1600) hx hb dX5_lay_42 (by decide) ?_
          refine lv_icmp_ge (tgt := 69) hx hb dX5_lay_45 (by decide) (fun c_45 => ?_) (fun c_45 => ?_)
          · skip
            refine lv_iinc (v := 8) (lv' := [(3, .int 8), (4, .int (byM p0 16)), (0, .ref h0), (1, .long p0)]) hx hb dX5_lay_69 hl (k := 1) rfl (by decide) (by decide) rfl (fun ls hl => ?_)
            refine lv_goto (tgt := 3) hx hb dX5_lay_72 (by decide) ?_
            exact lp_3_8 a fa (by have h7 : sgn a (byM p0 16) = a := (by simp only [sgn, if_neg c_21, if_neg c_28, if_neg c_35, if_pos c_45]); have h8 := sgn_le (c := byM p0 16) ha; rw [h7] at h8; exact h8) (by have h7 : sgn a (byM p0 16) = a := (by simp only [sgn, if_neg c_21, if_neg c_28, if_neg c_35, if_pos c_45]); have h8 : sgF (byM p0) [8, 0] (sgn a (byM p0 16)) = T := hT; rw [h7] at h8; exact h8) _ _ _ hP hD hS (lv_sub hl [0, 2, 3] rfl)
          · skip
            have hn3 : a < 1600 := nk_lt (N := 1600) rfl c_45 (by omega)
            refine lv_aload_n hx hb dX5_lay_48 rfl (lv_at hl 2 rfl) ?_
            refine va_get (D := (dC, dI)) (ci := 5) (v := .ref Mtape) (C := RX5) (T := TX5) (N := 30) hx hb hts i5 hown hK hP 0 rfl rfl 1 (by decide) (hts (.fieldLink RX5 14 "StopSetterModel" "tape" "[I") (by decide +kernel)) (fun _ h9 => h9) rfl dX5_lay_49 ?_
            refine lv_aload_n hx hb dX5_lay_52 rfl (lv_at hl 2 rfl) ?_
            refine va_get (D := (dC, dI)) (ci := 5) (v := .int (nI a)) (C := RX5) (T := TX5) (N := 30) hx hb hts i5 hown hK hP 0 rfl rfl 2 (by decide) (hts (.fieldLink RX5 11 "StopSetterModel" "taped" "I") (by decide +kernel)) (fun _ h9 => h9) rfl dX5_lay_53 ?_
            refine lv_iload hx hb dX5_lay_56 (lv_at hl 0 rfl) ?_
            refine va_iast hx hb hK hP hD hS 1 0 rfl rfl (vp_in_nI hn3 (by decide)) dX5_lay_58 (fun H locs hP hD hS => ?_)
            have hP : va_P (dC, dI) vwCl [(h0, .inr (5, [.int 0, .ref Mtape, .int (nI a), .int 0, .ref Msort, .ref Mplace, .ref Mvalue, .int 0, .int 0, .ref Mwords, .int 0, .int 0, .ref Mgoes, .ref MgoLine, .ref Mends, .ref MendLine, .ref Mkinds, .ref MisName, .int 0, .ref Mrow, .ref MbyHand, .ref Mleast, .ref Msecond, .ref MendAt, .ref MgoAt, .ref MnodeBehind, .int 0, .ref MisOut, .ref MfirstEnd, .ref MfirstGo])), (Mtape, .inl (cI, 1600, .inl (upd fa ((nI a).toNatClampNeg) (byM p0 16))))] H := hP
            have hD : va_D A [(h0, .inr (5, [.int 0, .ref Mtape, .int (nI a), .int 0, .ref Msort, .ref Mplace, .ref Mvalue, .int 0, .int 0, .ref Mwords, .int 0, .int 0, .ref Mgoes, .ref MgoLine, .ref Mends, .ref MendLine, .ref Mkinds, .ref MisName, .int 0, .ref Mrow, .ref MbyHand, .ref Mleast, .ref Msecond, .ref MendAt, .ref MgoAt, .ref MnodeBehind, .int 0, .ref MisOut, .ref MfirstEnd, .ref MfirstGo])), (Mtape, .inl (cI, 1600, .inl (upd fa ((nI a).toNatClampNeg) (byM p0 16))))] := hD
            refine lv_aload_n hx hb dX5_lay_59 rfl (lv_at hl 2 rfl) ?_
            refine lv_dup hx hb dX5_lay_60 rfl ?_
            refine va_get (D := (dC, dI)) (ci := 5) (v := .int (nI a)) (C := RX5) (T := TX5) (N := 30) hx hb hts i5 hown hK hP 0 rfl rfl 2 (by decide) (hts (.fieldLink RX5 11 "StopSetterModel" "taped" "I") (by decide +kernel)) (fun _ h9 => h9) rfl dX5_lay_61 ?_
            refine lv_iconst (v := 1) hx hb dX5_lay_64 (by decide) ?_
            refine lv_iadd hx hb dX5_lay_65 ?_
            refine lv_topi (fun v_ ev_ => ?_)
            obtain rfl : v_ = (nI (a + 1)) := ev_.trans (nI_1 a)
            refine va_put (D := (dC, dI)) (ci := 5) (v := .int (nI (a + 1))) (ty := tyX5 2) (C := RX5) (T := TX5) (N := 30) hx hb hts i5 tyX5 tyX5_ok nmX5 hown hK hP hD hS 0 rfl rfl 2 (by decide) (hts (.fieldLink RX5 11 "StopSetterModel" "taped" "I") (by decide +kernel)) (fun _ h9 => h9) rfl (by decide +kernel) rfl rfl (Nat.le_of_ble_eq_true rfl) dX5_lay_66 (fun H locs hP hD hS => ?_)
            have hP : va_P (dC, dI) vwCl [(h0, .inr (5, [.int 0, .ref Mtape, .int (nI (a + 1)), .int 0, .ref Msort, .ref Mplace, .ref Mvalue, .int 0, .int 0, .ref Mwords, .int 0, .int 0, .ref Mgoes, .ref MgoLine, .ref Mends, .ref MendLine, .ref Mkinds, .ref MisName, .int 0, .ref Mrow, .ref MbyHand, .ref Mleast, .ref Msecond, .ref MendAt, .ref MgoAt, .ref MnodeBehind, .int 0, .ref MisOut, .ref MfirstEnd, .ref MfirstGo])), (Mtape, .inl (cI, 1600, .inl (upd fa ((nI a).toNatClampNeg) (byM p0 16))))] H := hP
            have hD : va_D A [(h0, .inr (5, [.int 0, .ref Mtape, .int (nI (a + 1)), .int 0, .ref Msort, .ref Mplace, .ref Mvalue, .int 0, .int 0, .ref Mwords, .int 0, .int 0, .ref Mgoes, .ref MgoLine, .ref Mends, .ref MendLine, .ref Mkinds, .ref MisName, .int 0, .ref Mrow, .ref MbyHand, .ref Mleast, .ref Msecond, .ref MendAt, .ref MgoAt, .ref MnodeBehind, .int 0, .ref MisOut, .ref MfirstEnd, .ref MfirstGo])), (Mtape, .inl (cI, 1600, .inl (upd fa ((nI a).toNatClampNeg) (byM p0 16))))] := hD
            refine lv_iinc (v := 8) (lv' := [(3, .int 8), (4, .int (byM p0 16)), (0, .ref h0), (1, .long p0)]) hx hb dX5_lay_69 hl (k := 1) rfl (by decide) (by decide) rfl (fun ls hl => ?_)
            refine lv_goto (tgt := 3) hx hb dX5_lay_72 (by decide) ?_
            exact lp_3_8 (a + 1) (upd fa ((nI a).toNatClampNeg) (byM p0 16)) (by have h7 : sgn a (byM p0 16) = a + 1 := (by simp only [sgn, if_neg c_21, if_neg c_28, if_neg c_35, if_neg c_45]); have h8 := sgn_le (c := byM p0 16) ha; rw [h7] at h8; exact h8) (by have h7 : sgn a (byM p0 16) = a + 1 := (by simp only [sgn, if_neg c_21, if_neg c_28, if_neg c_35, if_neg c_45]); have h8 : sgF (byM p0) [8, 0] (sgn a (byM p0 16)) = T := hT; rw [h7] at h8; exact h8) _ _ _ hP hD hS (lv_sub hl [0, 2, 3] rfl)
  have lp_3_24 : ∀ (a : Nat) (fa : Nat → Int32), a ≤ 1600 → sgF (byM p0) [24, 16, 8, 0] a = T → ∀ (H : Heap) (locs : List Loc) (ls : Array Slot), va_P (dC, dI) vwCl [(h0, .inr (5, [.int 0, .ref Mtape, .int (nI a), .int 0, .ref Msort, .ref Mplace, .ref Mvalue, .int 0, .int 0, .ref Mwords, .int 0, .int 0, .ref Mgoes, .ref MgoLine, .ref Mends, .ref MendLine, .ref Mkinds, .ref MisName, .int 0, .ref Mrow, .ref MbyHand, .ref Mleast, .ref Msecond, .ref MendAt, .ref MgoAt, .ref MnodeBehind, .int 0, .ref MisOut, .ref MfirstEnd, .ref MfirstGo])), (Mtape, .inl (cI, 1600, .inl fa))] H → va_D A [(h0, .inr (5, [.int 0, .ref Mtape, .int (nI a), .int 0, .ref Msort, .ref Mplace, .ref Mvalue, .int 0, .int 0, .ref Mwords, .int 0, .int 0, .ref Mgoes, .ref MgoLine, .ref Mends, .ref MendLine, .ref Mkinds, .ref MisName, .int 0, .ref Mrow, .ref MbyHand, .ref Mleast, .ref Msecond, .ref MendAt, .ref MgoAt, .ref MnodeBehind, .int 0, .ref MisOut, .ref MfirstEnd, .ref MfirstGo])), (Mtape, .inl (cI, 1600, .inl fa))] → va_S A s.heap H locs → lv_has ls 5 [(3, .int 24), (0, .ref h0), (1, .long p0)] → W p l e (headSpec wsX5_lay ({ frames := 0, cells := 0, slots := 0, locals := 0 })).room s m ([.ref h0, .long p0]).toArray below meth c H locs 0 0 (MQ below (va_Qv (fun (u : (Nat → Int32) × (Int32)) => match u with | (gs, lN) => lN = nI (sgF (byM p0) ks8 n)) (fun (u : (Nat → Int32) × (Int32)) t => match u with | (gs, lN) => sB dC dI A [(h0, .inr (5, [.int 0, .ref Mtape, .int lN, .int 0, .ref Msort, .ref Mplace, .ref Mvalue, .int 0, .int 0, .ref Mwords, .int 0, .int 0, .ref Mgoes, .ref MgoLine, .ref Mends, .ref MendLine, .ref Mkinds, .ref MisName, .int 0, .ref Mrow, .ref MbyHand, .ref Mleast, .ref Msecond, .ref MendAt, .ref MgoAt, .ref MnodeBehind, .int 0, .ref MisOut, .ref MfirstEnd, .ref MfirstGo])), (Mtape, .inl (cI, 1600, .inl gs))] t) A) ([.ref h0, .long p0]).toArray s 0 0 A) (F0 m 3 ls []) := by
    intro a fa ha hT H locs ls hP hD hS hl
    refine lv_iload_n hx hb dX5_lay_3 rfl (lv_at hl 0 rfl) ?_
    refine lv_if_lt (tgt := 75) hx hb dX5_lay_4 (by decide) (fun h9 => absurd h9 (by decide)) (fun _ => ?_)
    refine lv_lload_n hx hb dX5_lay_7 rfl (lv_at hl 2 rfl) ?_
    refine lv_iload_n hx hb dX5_lay_8 rfl (lv_at hl 0 rfl) ?_
    refine lv_lshr (v := (p0 >>> ((24 : Int32).toInt64 &&& 63))) hx hb dX5_lay_9 rfl ?_
    refine lv_l2i (v := (p0 >>> ((24 : Int32).toInt64 &&& 63)).toInt32) hx hb dX5_lay_10 rfl ?_
    refine lv_sipush (v := 255) hx hb dX5_lay_11 (by decide) ?_
    refine lv_iand hx hb dX5_lay_14 ?_
    refine lv_topi (fun v_ ev_ => ?_)
    obtain rfl : v_ = (byM p0 24) := ev_.trans (rfl)
    refine lv_istore (lv' := [(4, .int (byM p0 24)), (3, .int 24), (0, .ref h0), (1, .long p0)]) hx hb dX5_lay_15 hl (by decide) rfl (fun ls hl => ?_)
    refine lv_iload hx hb dX5_lay_17 (lv_at hl 0 rfl) ?_
    refine lv_bipush (v := 10) hx hb dX5_lay_19 (by decide) ?_
    refine lv_icmp_eq (tgt := 38) hx hb dX5_lay_21 (by decide) (fun c_21 => ?_) (fun c_21 => ?_)
    · skip
      refine lv_aload_n hx hb dX5_lay_38 rfl (lv_at hl 2 rfl) ?_
      refine va_get (D := (dC, dI)) (ci := 5) (v := .int (nI a)) (C := RX5) (T := TX5) (N := 30) hx hb hts i5 hown hK hP 0 rfl rfl 2 (by decide) (hts (.fieldLink RX5 11 "StopSetterModel" "taped" "I") (by decide +kernel)) (fun _ h9 => h9) rfl dX5_lay_39 ?_
      refine lv_sipush (v := 1600) hx hb dX5_lay_42 (by decide) ?_
      refine lv_icmp_ge (tgt := 69) hx hb dX5_lay_45 (by decide) (fun c_45 => ?_) (fun c_45 => ?_)
      · skip
        refine lv_iinc (v := 16) (lv' := [(3, .int 16), (4, .int (byM p0 24)), (0, .ref h0), (1, .long p0)]) hx hb dX5_lay_69 hl (k := 1) rfl (by decide) (by decide) rfl (fun ls hl => ?_)
        refine lv_goto (tgt := 3) hx hb dX5_lay_72 (by decide) ?_
        exact lp_3_16 a fa (by have h7 : sgn a (byM p0 24) = a := (by simp only [sgn, if_pos c_21, if_pos c_45]); have h8 := sgn_le (c := byM p0 24) ha; rw [h7] at h8; exact h8) (by have h7 : sgn a (byM p0 24) = a := (by simp only [sgn, if_pos c_21, if_pos c_45]); have h8 : sgF (byM p0) [16, 8, 0] (sgn a (byM p0 24)) = T := hT; rw [h7] at h8; exact h8) _ _ _ hP hD hS (lv_sub hl [0, 2, 3] rfl)
      · skip
        have hn3 : a < 1600 := nk_lt (N := 1600) rfl c_45 (by omega)
        refine lv_aload_n hx hb dX5_lay_48 rfl (lv_at hl 2 rfl) ?_
        refine va_get (D := (dC, dI)) (ci := 5) (v := .ref Mtape) (C := RX5) (T := TX5) (N := 30) hx hb hts i5 hown hK hP 0 rfl rfl 1 (by decide) (hts (.fieldLink RX5 14 "StopSetterModel" "tape" "[I") (by decide +kernel)) (fun _ h9 => h9) rfl dX5_lay_49 ?_
        refine lv_aload_n hx hb dX5_lay_52 rfl (lv_at hl 2 rfl) ?_
        refine va_get (D := (dC, dI)) (ci := 5) (v := .int (nI a)) (C := RX5) (T := TX5) (N := 30) hx hb hts i5 hown hK hP 0 rfl rfl 2 (by decide) (hts (.fieldLink RX5 11 "StopSetterModel" "taped" "I") (by decide +kernel)) (fun _ h9 => h9) rfl dX5_lay_53 ?_
        refine lv_iload hx hb dX5_lay_56 (lv_at hl 0 rfl) ?_
        refine va_iast hx hb hK hP hD hS 1 0 rfl rfl (vp_in_nI hn3 (by decide)) dX5_lay_58 (fun H locs hP hD hS => ?_)
        have hP : va_P (dC, dI) vwCl [(h0, .inr (5, [.int 0, .ref Mtape, .int (nI a), .int 0, .ref Msort, .ref Mplace, .ref Mvalue, .int 0, .int 0, .ref Mwords, .int 0, .int 0, .ref Mgoes, .ref MgoLine, .ref Mends, .ref MendLine, .ref Mkinds, .ref MisName, .int 0, .ref Mrow, .ref MbyHand, .ref Mleast, .ref Msecond, .ref MendAt, .ref MgoAt, .ref MnodeBehind, .int 0, .ref MisOut, .ref MfirstEnd, .ref MfirstGo])), (Mtape, .inl (cI, 1600, .inl (upd fa ((nI a).toNatClampNeg) (byM p0 24))))] H := hP
        have hD : va_D A [(h0, .inr (5, [.int 0, .ref Mtape, .int (nI a), .int 0, .ref Msort, .ref Mplace, .ref Mvalue, .int 0, .int 0, .ref Mwords, .int 0, .int 0, .ref Mgoes, .ref MgoLine, .ref Mends, .ref MendLine, .ref Mkinds, .ref MisName, .int 0, .ref Mrow, .ref MbyHand, .ref Mleast, .ref Msecond, .ref MendAt, .ref MgoAt, .ref MnodeBehind, .int 0, .ref MisOut, .ref MfirstEnd, .ref MfirstGo])), (Mtape, .inl (cI, 1600, .inl (upd fa ((nI a).toNatClampNeg) (byM p0 24))))] := hD
        refine lv_aload_n hx hb dX5_lay_59 rfl (lv_at hl 2 rfl) ?_
        refine lv_dup hx hb dX5_lay_60 rfl ?_
        refine va_get (D := (dC, dI)) (ci := 5) (v := .int (nI a)) (C := RX5) (T := TX5) (N := 30) hx hb hts i5 hown hK hP 0 rfl rfl 2 (by decide) (hts (.fieldLink RX5 11 "StopSetterModel" "taped" "I") (by decide +kernel)) (fun _ h9 => h9) rfl dX5_lay_61 ?_
        refine lv_iconst (v := 1) hx hb dX5_lay_64 (by decide) ?_
        refine lv_iadd hx hb dX5_lay_65 ?_
        refine lv_topi (fun v_ ev_ => ?_)
        obtain rfl : v_ = (nI (a + 1)) := ev_.trans (nI_1 a)
        refine va_put (D := (dC, dI)) (ci := 5) (v := .int (nI (a + 1))) (ty := tyX5 2) (C := RX5) (T := TX5) (N := 30) hx hb hts i5 tyX5 tyX5_ok nmX5 hown hK hP hD hS 0 rfl rfl 2 (by decide) (hts (.fieldLink RX5 11 "StopSetterModel" "taped" "I") (by decide +kernel)) (fun _ h9 => h9) rfl (by decide +kernel) rfl rfl (Nat.le_of_ble_eq_true rfl) dX5_lay_66 (fun H locs hP hD hS => ?_)
        have hP : va_P (dC, dI) vwCl [(h0, .inr (5, [.int 0, .ref Mtape, .int (nI (a + 1)), .int 0, .ref Msort, .ref Mplace, .ref Mvalue, .int 0, .int 0, .ref Mwords, .int 0, .int 0, .ref Mgoes, .ref MgoLine, .ref Mends, .ref MendLine, .ref Mkinds, .ref MisName, .int 0, .ref Mrow, .ref MbyHand, .ref Mleast, .ref Msecond, .ref MendAt, .ref MgoAt, .ref MnodeBehind, .int 0, .ref MisOut, .ref MfirstEnd, .ref MfirstGo])), (Mtape, .inl (cI, 1600, .inl (upd fa ((nI a).toNatClampNeg) (byM p0 24))))] H := hP
        have hD : va_D A [(h0, .inr (5, [.int 0, .ref Mtape, .int (nI (a + 1)), .int 0, .ref Msort, .ref Mplace, .ref Mvalue, .int 0, .int 0, .ref Mwords, .int 0, .int 0, .ref Mgoes, .ref MgoLine, .ref Mends, .ref MendLine, .ref Mkinds, .ref MisName, .int 0, .ref Mrow, .ref MbyHand, .ref Mleast, .ref Msecond, .ref MendAt, .ref MgoAt, .ref MnodeBehind, .int 0, .ref MisOut, .ref MfirstEnd, .ref MfirstGo])), (Mtape, .inl (cI, 1600, .inl (upd fa ((nI a).toNatClampNeg) (byM p0 24))))] := hD
        refine lv_iinc (v := 16) (lv' := [(3, .int 16), (4, .int (byM p0 24)), (0, .ref h0), (1, .long p0)]) hx hb dX5_lay_69 hl (k := 1) rfl (by decide) (by decide) rfl (fun ls hl => ?_)
        refine lv_goto (tgt := 3) hx hb dX5_lay_72 (by decide) ?_
        exact lp_3_16 (a + 1) (upd fa ((nI a).toNatClampNeg) (byM p0 24)) (by have h7 : sgn a (byM p0 24) = a + 1 := (by simp only [sgn, if_pos c_21, if_neg c_45]); have h8 := sgn_le (c := byM p0 24) ha; rw [h7] at h8; exact h8) (by have h7 : sgn a (byM p0 24) = a + 1 := (by simp only [sgn, if_pos c_21, if_neg c_45]); have h8 : sgF (byM p0) [16, 8, 0] (sgn a (byM p0 24)) = T := hT; rw [h7] at h8; exact h8) _ _ _ hP hD hS (lv_sub hl [0, 2, 3] rfl)
    · skip
      refine lv_iload hx hb dX5_lay_24 (lv_at hl 0 rfl) ?_
      refine lv_bipush (v := 32) hx hb dX5_lay_26 (by decide) ?_
      refine lv_icmp_lt (tgt := 69) hx hb dX5_lay_28 (by decide) (fun c_28 => ?_) (fun c_28 => ?_)
      · skip
        refine lv_iinc (v := 16) (lv' := [(3, .int 16), (4, .int (byM p0 24)), (0, .ref h0), (1, .long p0)]) hx hb dX5_lay_69 hl (k := 1) rfl (by decide) (by decide) rfl (fun ls hl => ?_)
        refine lv_goto (tgt := 3) hx hb dX5_lay_72 (by decide) ?_
        exact lp_3_16 a fa (by have h7 : sgn a (byM p0 24) = a := (by simp only [sgn, if_neg c_21, if_pos c_28]); have h8 := sgn_le (c := byM p0 24) ha; rw [h7] at h8; exact h8) (by have h7 : sgn a (byM p0 24) = a := (by simp only [sgn, if_neg c_21, if_pos c_28]); have h8 : sgF (byM p0) [16, 8, 0] (sgn a (byM p0 24)) = T := hT; rw [h7] at h8; exact h8) _ _ _ hP hD hS (lv_sub hl [0, 2, 3] rfl)
      · skip
        refine lv_iload hx hb dX5_lay_31 (lv_at hl 0 rfl) ?_
        refine lv_bipush (v := 126) hx hb dX5_lay_33 (by decide) ?_
        refine lv_icmp_gt (tgt := 69) hx hb dX5_lay_35 (by decide) (fun c_35 => ?_) (fun c_35 => ?_)
        · skip
          refine lv_iinc (v := 16) (lv' := [(3, .int 16), (4, .int (byM p0 24)), (0, .ref h0), (1, .long p0)]) hx hb dX5_lay_69 hl (k := 1) rfl (by decide) (by decide) rfl (fun ls hl => ?_)
          refine lv_goto (tgt := 3) hx hb dX5_lay_72 (by decide) ?_
          exact lp_3_16 a fa (by have h7 : sgn a (byM p0 24) = a := (by simp only [sgn, if_neg c_21, if_neg c_28, if_pos c_35]); have h8 := sgn_le (c := byM p0 24) ha; rw [h7] at h8; exact h8) (by have h7 : sgn a (byM p0 24) = a := (by simp only [sgn, if_neg c_21, if_neg c_28, if_pos c_35]); have h8 : sgF (byM p0) [16, 8, 0] (sgn a (byM p0 24)) = T := hT; rw [h7] at h8; exact h8) _ _ _ hP hD hS (lv_sub hl [0, 2, 3] rfl)
        · skip
          refine lv_aload_n hx hb dX5_lay_38 rfl (lv_at hl 2 rfl) ?_
          refine va_get (D := (dC, dI)) (ci := 5) (v := .int (nI a)) (C := RX5) (T := TX5) (N := 30) hx hb hts i5 hown hK hP 0 rfl rfl 2 (by decide) (hts (.fieldLink RX5 11 "StopSetterModel" "taped" "I") (by decide +kernel)) (fun _ h9 => h9) rfl dX5_lay_39 ?_
          refine lv_sipush (v := 1600) hx hb dX5_lay_42 (by decide) ?_
          refine lv_icmp_ge (tgt := 69) hx hb dX5_lay_45 (by decide) (fun c_45 => ?_) (fun c_45 => ?_)
          · skip
            refine lv_iinc (v := 16) (lv' := [(3, .int 16), (4, .int (byM p0 24)), (0, .ref h0), (1, .long p0)]) hx hb dX5_lay_69 hl (k := 1) rfl (by decide) (by decide) rfl (fun ls hl => ?_)
            refine lv_goto (tgt := 3) hx hb dX5_lay_72 (by decide) ?_
            exact lp_3_16 a fa (by have h7 : sgn a (byM p0 24) = a := (by simp only [sgn, if_neg c_21, if_neg c_28, if_neg c_35, if_pos c_45]); have h8 := sgn_le (c := byM p0 24) ha; rw [h7] at h8; exact h8) (by have h7 : sgn a (byM p0 24) = a := (by simp only [sgn, if_neg c_21, if_neg c_28, if_neg c_35, if_pos c_45]); have h8 : sgF (byM p0) [16, 8, 0] (sgn a (byM p0 24)) = T := hT; rw [h7] at h8; exact h8) _ _ _ hP hD hS (lv_sub hl [0, 2, 3] rfl)
          · skip
            have hn3 : a < 1600 := nk_lt (N := 1600) rfl c_45 (by omega)
            refine lv_aload_n hx hb dX5_lay_48 rfl (lv_at hl 2 rfl) ?_
            refine va_get (D := (dC, dI)) (ci := 5) (v := .ref Mtape) (C := RX5) (T := TX5) (N := 30) hx hb hts i5 hown hK hP 0 rfl rfl 1 (by decide) (hts (.fieldLink RX5 14 "StopSetterModel" "tape" "[I") (by decide +kernel)) (fun _ h9 => h9) rfl dX5_lay_49 ?_
            refine lv_aload_n hx hb dX5_lay_52 rfl (lv_at hl 2 rfl) ?_
            refine va_get (D := (dC, dI)) (ci := 5) (v := .int (nI a)) (C := RX5) (T := TX5) (N := 30) hx hb hts i5 hown hK hP 0 rfl rfl 2 (by decide) (hts (.fieldLink RX5 11 "StopSetterModel" "taped" "I") (by decide +kernel)) (fun _ h9 => h9) rfl dX5_lay_53 ?_
            refine lv_iload hx hb dX5_lay_56 (lv_at hl 0 rfl) ?_
            refine va_iast hx hb hK hP hD hS 1 0 rfl rfl (vp_in_nI hn3 (by decide)) dX5_lay_58 (fun H locs hP hD hS => ?_)
            have hP : va_P (dC, dI) vwCl [(h0, .inr (5, [.int 0, .ref Mtape, .int (nI a), .int 0, .ref Msort, .ref Mplace, .ref Mvalue, .int 0, .int 0, .ref Mwords, .int 0, .int 0, .ref Mgoes, .ref MgoLine, .ref Mends, .ref MendLine, .ref Mkinds, .ref MisName, .int 0, .ref Mrow, .ref MbyHand, .ref Mleast, .ref Msecond, .ref MendAt, .ref MgoAt, .ref MnodeBehind, .int 0, .ref MisOut, .ref MfirstEnd, .ref MfirstGo])), (Mtape, .inl (cI, 1600, .inl (upd fa ((nI a).toNatClampNeg) (byM p0 24))))] H := hP
            have hD : va_D A [(h0, .inr (5, [.int 0, .ref Mtape, .int (nI a), .int 0, .ref Msort, .ref Mplace, .ref Mvalue, .int 0, .int 0, .ref Mwords, .int 0, .int 0, .ref Mgoes, .ref MgoLine, .ref Mends, .ref MendLine, .ref Mkinds, .ref MisName, .int 0, .ref Mrow, .ref MbyHand, .ref Mleast, .ref Msecond, .ref MendAt, .ref MgoAt, .ref MnodeBehind, .int 0, .ref MisOut, .ref MfirstEnd, .ref MfirstGo])), (Mtape, .inl (cI, 1600, .inl (upd fa ((nI a).toNatClampNeg) (byM p0 24))))] := hD
            refine lv_aload_n hx hb dX5_lay_59 rfl (lv_at hl 2 rfl) ?_
            refine lv_dup hx hb dX5_lay_60 rfl ?_
            refine va_get (D := (dC, dI)) (ci := 5) (v := .int (nI a)) (C := RX5) (T := TX5) (N := 30) hx hb hts i5 hown hK hP 0 rfl rfl 2 (by decide) (hts (.fieldLink RX5 11 "StopSetterModel" "taped" "I") (by decide +kernel)) (fun _ h9 => h9) rfl dX5_lay_61 ?_
            refine lv_iconst (v := 1) hx hb dX5_lay_64 (by decide) ?_
            refine lv_iadd hx hb dX5_lay_65 ?_
            refine lv_topi (fun v_ ev_ => ?_)
            obtain rfl : v_ = (nI (a + 1)) := ev_.trans (nI_1 a)
            refine va_put (D := (dC, dI)) (ci := 5) (v := .int (nI (a + 1))) (ty := tyX5 2) (C := RX5) (T := TX5) (N := 30) hx hb hts i5 tyX5 tyX5_ok nmX5 hown hK hP hD hS 0 rfl rfl 2 (by decide) (hts (.fieldLink RX5 11 "StopSetterModel" "taped" "I") (by decide +kernel)) (fun _ h9 => h9) rfl (by decide +kernel) rfl rfl (Nat.le_of_ble_eq_true rfl) dX5_lay_66 (fun H locs hP hD hS => ?_)
            have hP : va_P (dC, dI) vwCl [(h0, .inr (5, [.int 0, .ref Mtape, .int (nI (a + 1)), .int 0, .ref Msort, .ref Mplace, .ref Mvalue, .int 0, .int 0, .ref Mwords, .int 0, .int 0, .ref Mgoes, .ref MgoLine, .ref Mends, .ref MendLine, .ref Mkinds, .ref MisName, .int 0, .ref Mrow, .ref MbyHand, .ref Mleast, .ref Msecond, .ref MendAt, .ref MgoAt, .ref MnodeBehind, .int 0, .ref MisOut, .ref MfirstEnd, .ref MfirstGo])), (Mtape, .inl (cI, 1600, .inl (upd fa ((nI a).toNatClampNeg) (byM p0 24))))] H := hP
            have hD : va_D A [(h0, .inr (5, [.int 0, .ref Mtape, .int (nI (a + 1)), .int 0, .ref Msort, .ref Mplace, .ref Mvalue, .int 0, .int 0, .ref Mwords, .int 0, .int 0, .ref Mgoes, .ref MgoLine, .ref Mends, .ref MendLine, .ref Mkinds, .ref MisName, .int 0, .ref Mrow, .ref MbyHand, .ref Mleast, .ref Msecond, .ref MendAt, .ref MgoAt, .ref MnodeBehind, .int 0, .ref MisOut, .ref MfirstEnd, .ref MfirstGo])), (Mtape, .inl (cI, 1600, .inl (upd fa ((nI a).toNatClampNeg) (byM p0 24))))] := hD
            refine lv_iinc (v := 16) (lv' := [(3, .int 16), (4, .int (byM p0 24)), (0, .ref h0), (1, .long p0)]) hx hb dX5_lay_69 hl (k := 1) rfl (by decide) (by decide) rfl (fun ls hl => ?_)
            refine lv_goto (tgt := 3) hx hb dX5_lay_72 (by decide) ?_
            exact lp_3_16 (a + 1) (upd fa ((nI a).toNatClampNeg) (byM p0 24)) (by have h7 : sgn a (byM p0 24) = a + 1 := (by simp only [sgn, if_neg c_21, if_neg c_28, if_neg c_35, if_neg c_45]); have h8 := sgn_le (c := byM p0 24) ha; rw [h7] at h8; exact h8) (by have h7 : sgn a (byM p0 24) = a + 1 := (by simp only [sgn, if_neg c_21, if_neg c_28, if_neg c_35, if_neg c_45]); have h8 : sgF (byM p0) [16, 8, 0] (sgn a (byM p0 24)) = T := hT; rw [h7] at h8; exact h8) _ _ _ hP hD hS (lv_sub hl [0, 2, 3] rfl)
  have lp_3_32 : ∀ (a : Nat) (fa : Nat → Int32), a ≤ 1600 → sgF (byM p0) [32, 24, 16, 8, 0] a = T → ∀ (H : Heap) (locs : List Loc) (ls : Array Slot), va_P (dC, dI) vwCl [(h0, .inr (5, [.int 0, .ref Mtape, .int (nI a), .int 0, .ref Msort, .ref Mplace, .ref Mvalue, .int 0, .int 0, .ref Mwords, .int 0, .int 0, .ref Mgoes, .ref MgoLine, .ref Mends, .ref MendLine, .ref Mkinds, .ref MisName, .int 0, .ref Mrow, .ref MbyHand, .ref Mleast, .ref Msecond, .ref MendAt, .ref MgoAt, .ref MnodeBehind, .int 0, .ref MisOut, .ref MfirstEnd, .ref MfirstGo])), (Mtape, .inl (cI, 1600, .inl fa))] H → va_D A [(h0, .inr (5, [.int 0, .ref Mtape, .int (nI a), .int 0, .ref Msort, .ref Mplace, .ref Mvalue, .int 0, .int 0, .ref Mwords, .int 0, .int 0, .ref Mgoes, .ref MgoLine, .ref Mends, .ref MendLine, .ref Mkinds, .ref MisName, .int 0, .ref Mrow, .ref MbyHand, .ref Mleast, .ref Msecond, .ref MendAt, .ref MgoAt, .ref MnodeBehind, .int 0, .ref MisOut, .ref MfirstEnd, .ref MfirstGo])), (Mtape, .inl (cI, 1600, .inl fa))] → va_S A s.heap H locs → lv_has ls 5 [(3, .int 32), (0, .ref h0), (1, .long p0)] → W p l e (headSpec wsX5_lay ({ frames := 0, cells := 0, slots := 0, locals := 0 })).room s m ([.ref h0, .long p0]).toArray below meth c H locs 0 0 (MQ below (va_Qv (fun (u : (Nat → Int32) × (Int32)) => match u with | (gs, lN) => lN = nI (sgF (byM p0) ks8 n)) (fun (u : (Nat → Int32) × (Int32)) t => match u with | (gs, lN) => sB dC dI A [(h0, .inr (5, [.int 0, .ref Mtape, .int lN, .int 0, .ref Msort, .ref Mplace, .ref Mvalue, .int 0, .int 0, .ref Mwords, .int 0, .int 0, .ref Mgoes, .ref MgoLine, .ref Mends, .ref MendLine, .ref Mkinds, .ref MisName, .int 0, .ref Mrow, .ref MbyHand, .ref Mleast, .ref Msecond, .ref MendAt, .ref MgoAt, .ref MnodeBehind, .int 0, .ref MisOut, .ref MfirstEnd, .ref MfirstGo])), (Mtape, .inl (cI, 1600, .inl gs))] t) A) ([.ref h0, .long p0]).toArray s 0 0 A) (F0 m 3 ls []) := by
    intro a fa ha hT H locs ls hP hD hS hl
    refine lv_iload_n hx hb dX5_lay_3 rfl (lv_at hl 0 rfl) ?_
    refine lv_if_lt (tgt := 75) hx hb dX5_lay_4 (by decide) (fun h9 => absurd h9 (by decide)) (fun _ => ?_)
    refine lv_lload_n hx hb dX5_lay_7 rfl (lv_at hl 2 rfl) ?_
    refine lv_iload_n hx hb dX5_lay_8 rfl (lv_at hl 0 rfl) ?_
    refine lv_lshr (v := (p0 >>> ((32 : Int32).toInt64 &&& 63))) hx hb dX5_lay_9 rfl ?_
    refine lv_l2i (v := (p0 >>> ((32 : Int32).toInt64 &&& 63)).toInt32) hx hb dX5_lay_10 rfl ?_
    refine lv_sipush (v := 255) hx hb dX5_lay_11 (by decide) ?_
    refine lv_iand hx hb dX5_lay_14 ?_
    refine lv_topi (fun v_ ev_ => ?_)
    obtain rfl : v_ = (byM p0 32) := ev_.trans (rfl)
    refine lv_istore (lv' := [(4, .int (byM p0 32)), (3, .int 32), (0, .ref h0), (1, .long p0)]) hx hb dX5_lay_15 hl (by decide) rfl (fun ls hl => ?_)
    refine lv_iload hx hb dX5_lay_17 (lv_at hl 0 rfl) ?_
    refine lv_bipush (v := 10) hx hb dX5_lay_19 (by decide) ?_
    refine lv_icmp_eq (tgt := 38) hx hb dX5_lay_21 (by decide) (fun c_21 => ?_) (fun c_21 => ?_)
    · skip
      refine lv_aload_n hx hb dX5_lay_38 rfl (lv_at hl 2 rfl) ?_
      refine va_get (D := (dC, dI)) (ci := 5) (v := .int (nI a)) (C := RX5) (T := TX5) (N := 30) hx hb hts i5 hown hK hP 0 rfl rfl 2 (by decide) (hts (.fieldLink RX5 11 "StopSetterModel" "taped" "I") (by decide +kernel)) (fun _ h9 => h9) rfl dX5_lay_39 ?_
      refine lv_sipush (v := 1600) hx hb dX5_lay_42 (by decide) ?_
      refine lv_icmp_ge (tgt := 69) hx hb dX5_lay_45 (by decide) (fun c_45 => ?_) (fun c_45 => ?_)
      · skip
        refine lv_iinc (v := 24) (lv' := [(3, .int 24), (4, .int (byM p0 32)), (0, .ref h0), (1, .long p0)]) hx hb dX5_lay_69 hl (k := 1) rfl (by decide) (by decide) rfl (fun ls hl => ?_)
        refine lv_goto (tgt := 3) hx hb dX5_lay_72 (by decide) ?_
        exact lp_3_24 a fa (by have h7 : sgn a (byM p0 32) = a := (by simp only [sgn, if_pos c_21, if_pos c_45]); have h8 := sgn_le (c := byM p0 32) ha; rw [h7] at h8; exact h8) (by have h7 : sgn a (byM p0 32) = a := (by simp only [sgn, if_pos c_21, if_pos c_45]); have h8 : sgF (byM p0) [24, 16, 8, 0] (sgn a (byM p0 32)) = T := hT; rw [h7] at h8; exact h8) _ _ _ hP hD hS (lv_sub hl [0, 2, 3] rfl)
      · skip
        have hn3 : a < 1600 := nk_lt (N := 1600) rfl c_45 (by omega)
        refine lv_aload_n hx hb dX5_lay_48 rfl (lv_at hl 2 rfl) ?_
        refine va_get (D := (dC, dI)) (ci := 5) (v := .ref Mtape) (C := RX5) (T := TX5) (N := 30) hx hb hts i5 hown hK hP 0 rfl rfl 1 (by decide) (hts (.fieldLink RX5 14 "StopSetterModel" "tape" "[I") (by decide +kernel)) (fun _ h9 => h9) rfl dX5_lay_49 ?_
        refine lv_aload_n hx hb dX5_lay_52 rfl (lv_at hl 2 rfl) ?_
        refine va_get (D := (dC, dI)) (ci := 5) (v := .int (nI a)) (C := RX5) (T := TX5) (N := 30) hx hb hts i5 hown hK hP 0 rfl rfl 2 (by decide) (hts (.fieldLink RX5 11 "StopSetterModel" "taped" "I") (by decide +kernel)) (fun _ h9 => h9) rfl dX5_lay_53 ?_
        refine lv_iload hx hb dX5_lay_56 (lv_at hl 0 rfl) ?_
        refine va_iast hx hb hK hP hD hS 1 0 rfl rfl (vp_in_nI hn3 (by decide)) dX5_lay_58 (fun H locs hP hD hS => ?_)
        have hP : va_P (dC, dI) vwCl [(h0, .inr (5, [.int 0, .ref Mtape, .int (nI a), .int 0, .ref Msort, .ref Mplace, .ref Mvalue, .int 0, .int 0, .ref Mwords, .int 0, .int 0, .ref Mgoes, .ref MgoLine, .ref Mends, .ref MendLine, .ref Mkinds, .ref MisName, .int 0, .ref Mrow, .ref MbyHand, .ref Mleast, .ref Msecond, .ref MendAt, .ref MgoAt, .ref MnodeBehind, .int 0, .ref MisOut, .ref MfirstEnd, .ref MfirstGo])), (Mtape, .inl (cI, 1600, .inl (upd fa ((nI a).toNatClampNeg) (byM p0 32))))] H := hP
        have hD : va_D A [(h0, .inr (5, [.int 0, .ref Mtape, .int (nI a), .int 0, .ref Msort, .ref Mplace, .ref Mvalue, .int 0, .int 0, .ref Mwords, .int 0, .int 0, .ref Mgoes, .ref MgoLine, .ref Mends, .ref MendLine, .ref Mkinds, .ref MisName, .int 0, .ref Mrow, .ref MbyHand, .ref Mleast, .ref Msecond, .ref MendAt, .ref MgoAt, .ref MnodeBehind, .int 0, .ref MisOut, .ref MfirstEnd, .ref MfirstGo])), (Mtape, .inl (cI, 1600, .inl (upd fa ((nI a).toNatClampNeg) (byM p0 32))))] := hD
        refine lv_aload_n hx hb dX5_lay_59 rfl (lv_at hl 2 rfl) ?_
        refine lv_dup hx hb dX5_lay_60 rfl ?_
        refine va_get (D := (dC, dI)) (ci := 5) (v := .int (nI a)) (C := RX5) (T := TX5) (N := 30) hx hb hts i5 hown hK hP 0 rfl rfl 2 (by decide) (hts (.fieldLink RX5 11 "StopSetterModel" "taped" "I") (by decide +kernel)) (fun _ h9 => h9) rfl dX5_lay_61 ?_
        refine lv_iconst (v := 1) hx hb dX5_lay_64 (by decide) ?_
        refine lv_iadd hx hb dX5_lay_65 ?_
        refine lv_topi (fun v_ ev_ => ?_)
        obtain rfl : v_ = (nI (a + 1)) := ev_.trans (nI_1 a)
        refine va_put (D := (dC, dI)) (ci := 5) (v := .int (nI (a + 1))) (ty := tyX5 2) (C := RX5) (T := TX5) (N := 30) hx hb hts i5 tyX5 tyX5_ok nmX5 hown hK hP hD hS 0 rfl rfl 2 (by decide) (hts (.fieldLink RX5 11 "StopSetterModel" "taped" "I") (by decide +kernel)) (fun _ h9 => h9) rfl (by decide +kernel) rfl rfl (Nat.le_of_ble_eq_true rfl) dX5_lay_66 (fun H locs hP hD hS => ?_)
        have hP : va_P (dC, dI) vwCl [(h0, .inr (5, [.int 0, .ref Mtape, .int (nI (a + 1)), .int 0, .ref Msort, .ref Mplace, .ref Mvalue, .int 0, .int 0, .ref Mwords, .int 0, .int 0, .ref Mgoes, .ref MgoLine, .ref Mends, .ref MendLine, .ref Mkinds, .ref MisName, .int 0, .ref Mrow, .ref MbyHand, .ref Mleast, .ref Msecond, .ref MendAt, .ref MgoAt, .ref MnodeBehind, .int 0, .ref MisOut, .ref MfirstEnd, .ref MfirstGo])), (Mtape, .inl (cI, 1600, .inl (upd fa ((nI a).toNatClampNeg) (byM p0 32))))] H := hP
        have hD : va_D A [(h0, .inr (5, [.int 0, .ref Mtape, .int (nI (a + 1)), .int 0, .ref Msort, .ref Mplace, .ref Mvalue, .int 0, .int 0, .ref Mwords, .int 0, .int 0, .ref Mgoes, .ref MgoLine, .ref Mends, .ref MendLine, .ref Mkinds, .ref MisName, .int 0, .ref Mrow, .ref MbyHand, .ref Mleast, .ref Msecond, .ref MendAt, .ref MgoAt, .ref MnodeBehind, .int 0, .ref MisOut, .ref MfirstEnd, .ref MfirstGo])), (Mtape, .inl (cI, 1600, .inl (upd fa ((nI a).toNatClampNeg) (byM p0 32))))] := hD
        refine lv_iinc (v := 24) (lv' := [(3, .int 24), (4, .int (byM p0 32)), (0, .ref h0), (1, .long p0)]) hx hb dX5_lay_69 hl (k := 1) rfl (by decide) (by decide) rfl (fun ls hl => ?_)
        refine lv_goto (tgt := 3) hx hb dX5_lay_72 (by decide) ?_
        exact lp_3_24 (a + 1) (upd fa ((nI a).toNatClampNeg) (byM p0 32)) (by have h7 : sgn a (byM p0 32) = a + 1 := (by simp only [sgn, if_pos c_21, if_neg c_45]); have h8 := sgn_le (c := byM p0 32) ha; rw [h7] at h8; exact h8) (by have h7 : sgn a (byM p0 32) = a + 1 := (by simp only [sgn, if_pos c_21, if_neg c_45]); have h8 : sgF (byM p0) [24, 16, 8, 0] (sgn a (byM p0 32)) = T := hT; rw [h7] at h8; exact h8) _ _ _ hP hD hS (lv_sub hl [0, 2, 3] rfl)
    · skip
      refine lv_iload hx hb dX5_lay_24 (lv_at hl 0 rfl) ?_
      refine lv_bipush (v := 32) hx hb dX5_lay_26 (by decide) ?_
      refine lv_icmp_lt (tgt := 69) hx hb dX5_lay_28 (by decide) (fun c_28 => ?_) (fun c_28 => ?_)
      · skip
        refine lv_iinc (v := 24) (lv' := [(3, .int 24), (4, .int (byM p0 32)), (0, .ref h0), (1, .long p0)]) hx hb dX5_lay_69 hl (k := 1) rfl (by decide) (by decide) rfl (fun ls hl => ?_)
        refine lv_goto (tgt := 3) hx hb dX5_lay_72 (by decide) ?_
        exact lp_3_24 a fa (by have h7 : sgn a (byM p0 32) = a := (by simp only [sgn, if_neg c_21, if_pos c_28]); have h8 := sgn_le (c := byM p0 32) ha; rw [h7] at h8; exact h8) (by have h7 : sgn a (byM p0 32) = a := (by simp only [sgn, if_neg c_21, if_pos c_28]); have h8 : sgF (byM p0) [24, 16, 8, 0] (sgn a (byM p0 32)) = T := hT; rw [h7] at h8; exact h8) _ _ _ hP hD hS (lv_sub hl [0, 2, 3] rfl)
      · skip
        refine lv_iload hx hb dX5_lay_31 (lv_at hl 0 rfl) ?_
        refine lv_bipush (v := 126) hx hb dX5_lay_33 (by decide) ?_
        refine lv_icmp_gt (tgt := 69) hx hb dX5_lay_35 (by decide) (fun c_35 => ?_) (fun c_35 => ?_)
        · skip
          refine lv_iinc (v := 24) (lv' := [(3, .int 24), (4, .int (byM p0 32)), (0, .ref h0), (1, .long p0)]) hx hb dX5_lay_69 hl (k := 1) rfl (by decide) (by decide) rfl (fun ls hl => ?_)
          refine lv_goto (tgt := 3) hx hb dX5_lay_72 (by decide) ?_
          exact lp_3_24 a fa (by have h7 : sgn a (byM p0 32) = a := (by simp only [sgn, if_neg c_21, if_neg c_28, if_pos c_35]); have h8 := sgn_le (c := byM p0 32) ha; rw [h7] at h8; exact h8) (by have h7 : sgn a (byM p0 32) = a := (by simp only [sgn, if_neg c_21, if_neg c_28, if_pos c_35]); have h8 : sgF (byM p0) [24, 16, 8, 0] (sgn a (byM p0 32)) = T := hT; rw [h7] at h8; exact h8) _ _ _ hP hD hS (lv_sub hl [0, 2, 3] rfl)
        · skip
          refine lv_aload_n hx hb dX5_lay_38 rfl (lv_at hl 2 rfl) ?_
          refine va_get (D := (dC, dI)) (ci := 5) (v := .int (nI a)) (C := RX5) (T := TX5) (N := 30) hx hb hts i5 hown hK hP 0 rfl rfl 2 (by decide) (hts (.fieldLink RX5 11 "StopSetterModel" "taped" "I") (by decide +kernel)) (fun _ h9 => h9) rfl dX5_lay_39 ?_
          refine lv_sipush (v := 1600) hx hb dX5_lay_42 (by decide) ?_
          refine lv_icmp_ge (tgt := 69) hx hb dX5_lay_45 (by decide) (fun c_45 => ?_) (fun c_45 => ?_)
          · skip
            refine lv_iinc (v := 24) (lv' := [(3, .int 24), (4, .int (byM p0 32)), (0, .ref h0), (1, .long p0)]) hx hb dX5_lay_69 hl (k := 1) rfl (by decide) (by decide) rfl (fun ls hl => ?_)
            refine lv_goto (tgt := 3) hx hb dX5_lay_72 (by decide) ?_
            exact lp_3_24 a fa (by have h7 : sgn a (byM p0 32) = a := (by simp only [sgn, if_neg c_21, if_neg c_28, if_neg c_35, if_pos c_45]); have h8 := sgn_le (c := byM p0 32) ha; rw [h7] at h8; exact h8) (by have h7 : sgn a (byM p0 32) = a := (by simp only [sgn, if_neg c_21, if_neg c_28, if_neg c_35, if_pos c_45]); have h8 : sgF (byM p0) [24, 16, 8, 0] (sgn a (byM p0 32)) = T := hT; rw [h7] at h8; exact h8) _ _ _ hP hD hS (lv_sub hl [0, 2, 3] rfl)
          · skip
            have hn3 : a < 1600 := nk_lt (N := 1600) rfl c_45 (by omega)
            refine lv_aload_n hx hb dX5_lay_48 rfl (lv_at hl 2 rfl) ?_
            refine va_get (D := (dC, dI)) (ci := 5) (v := .ref Mtape) (C := RX5) (T := TX5) (N := 30) hx hb hts i5 hown hK hP 0 rfl rfl 1 (by decide) (hts (.fieldLink RX5 14 "StopSetterModel" "tape" "[I") (by decide +kernel)) (fun _ h9 => h9) rfl dX5_lay_49 ?_
            refine lv_aload_n hx hb dX5_lay_52 rfl (lv_at hl 2 rfl) ?_
            refine va_get (D := (dC, dI)) (ci := 5) (v := .int (nI a)) (C := RX5) (T := TX5) (N := 30) hx hb hts i5 hown hK hP 0 rfl rfl 2 (by decide) (hts (.fieldLink RX5 11 "StopSetterModel" "taped" "I") (by decide +kernel)) (fun _ h9 => h9) rfl dX5_lay_53 ?_
            refine lv_iload hx hb dX5_lay_56 (lv_at hl 0 rfl) ?_
            refine va_iast hx hb hK hP hD hS 1 0 rfl rfl (vp_in_nI hn3 (by decide)) dX5_lay_58 (fun H locs hP hD hS => ?_)
            have hP : va_P (dC, dI) vwCl [(h0, .inr (5, [.int 0, .ref Mtape, .int (nI a), .int 0, .ref Msort, .ref Mplace, .ref Mvalue, .int 0, .int 0, .ref Mwords, .int 0, .int 0, .ref Mgoes, .ref MgoLine, .ref Mends, .ref MendLine, .ref Mkinds, .ref MisName, .int 0, .ref Mrow, .ref MbyHand, .ref Mleast, .ref Msecond, .ref MendAt, .ref MgoAt, .ref MnodeBehind, .int 0, .ref MisOut, .ref MfirstEnd, .ref MfirstGo])), (Mtape, .inl (cI, 1600, .inl (upd fa ((nI a).toNatClampNeg) (byM p0 32))))] H := hP
            have hD : va_D A [(h0, .inr (5, [.int 0, .ref Mtape, .int (nI a), .int 0, .ref Msort, .ref Mplace, .ref Mvalue, .int 0, .int 0, .ref Mwords, .int 0, .int 0, .ref Mgoes, .ref MgoLine, .ref Mends, .ref MendLine, .ref Mkinds, .ref MisName, .int 0, .ref Mrow, .ref MbyHand, .ref Mleast, .ref Msecond, .ref MendAt, .ref MgoAt, .ref MnodeBehind, .int 0, .ref MisOut, .ref MfirstEnd, .ref MfirstGo])), (Mtape, .inl (cI, 1600, .inl (upd fa ((nI a).toNatClampNeg) (byM p0 32))))] := hD
            refine lv_aload_n hx hb dX5_lay_59 rfl (lv_at hl 2 rfl) ?_
            refine lv_dup hx hb dX5_lay_60 rfl ?_
            refine va_get (D := (dC, dI)) (ci := 5) (v := .int (nI a)) (C := RX5) (T := TX5) (N := 30) hx hb hts i5 hown hK hP 0 rfl rfl 2 (by decide) (hts (.fieldLink RX5 11 "StopSetterModel" "taped" "I") (by decide +kernel)) (fun _ h9 => h9) rfl dX5_lay_61 ?_
            refine lv_iconst (v := 1) hx hb dX5_lay_64 (by decide) ?_
            refine lv_iadd hx hb dX5_lay_65 ?_
            refine lv_topi (fun v_ ev_ => ?_)
            obtain rfl : v_ = (nI (a + 1)) := ev_.trans (nI_1 a)
            refine va_put (D := (dC, dI)) (ci := 5) (v := .int (nI (a + 1))) (ty := tyX5 2) (C := RX5) (T := TX5) (N := 30) hx hb hts i5 tyX5 tyX5_ok nmX5 hown hK hP hD hS 0 rfl rfl 2 (by decide) (hts (.fieldLink RX5 11 "StopSetterModel" "taped" "I") (by decide +kernel)) (fun _ h9 => h9) rfl (by decide +kernel) rfl rfl (Nat.le_of_ble_eq_true rfl) dX5_lay_66 (fun H locs hP hD hS => ?_)
            have hP : va_P (dC, dI) vwCl [(h0, .inr (5, [.int 0, .ref Mtape, .int (nI (a + 1)), .int 0, .ref Msort, .ref Mplace, .ref Mvalue, .int 0, .int 0, .ref Mwords, .int 0, .int 0, .ref Mgoes, .ref MgoLine, .ref Mends, .ref MendLine, .ref Mkinds, .ref MisName, .int 0, .ref Mrow, .ref MbyHand, .ref Mleast, .ref Msecond, .ref MendAt, .ref MgoAt, .ref MnodeBehind, .int 0, .ref MisOut, .ref MfirstEnd, .ref MfirstGo])), (Mtape, .inl (cI, 1600, .inl (upd fa ((nI a).toNatClampNeg) (byM p0 32))))] H := hP
            have hD : va_D A [(h0, .inr (5, [.int 0, .ref Mtape, .int (nI (a + 1)), .int 0, .ref Msort, .ref Mplace, .ref Mvalue, .int 0, .int 0, .ref Mwords, .int 0, .int 0, .ref Mgoes, .ref MgoLine, .ref Mends, .ref MendLine, .ref Mkinds, .ref MisName, .int 0, .ref Mrow, .ref MbyHand, .ref Mleast, .ref Msecond, .ref MendAt, .ref MgoAt, .ref MnodeBehind, .int 0, .ref MisOut, .ref MfirstEnd, .ref MfirstGo])), (Mtape, .inl (cI, 1600, .inl (upd fa ((nI a).toNatClampNeg) (byM p0 32))))] := hD
            refine lv_iinc (v := 24) (lv' := [(3, .int 24), (4, .int (byM p0 32)), (0, .ref h0), (1, .long p0)]) hx hb dX5_lay_69 hl (k := 1) rfl (by decide) (by decide) rfl (fun ls hl => ?_)
            refine lv_goto (tgt := 3) hx hb dX5_lay_72 (by decide) ?_
            exact lp_3_24 (a + 1) (upd fa ((nI a).toNatClampNeg) (byM p0 32)) (by have h7 : sgn a (byM p0 32) = a + 1 := (by simp only [sgn, if_neg c_21, if_neg c_28, if_neg c_35, if_neg c_45]); have h8 := sgn_le (c := byM p0 32) ha; rw [h7] at h8; exact h8) (by have h7 : sgn a (byM p0 32) = a + 1 := (by simp only [sgn, if_neg c_21, if_neg c_28, if_neg c_35, if_neg c_45]); have h8 : sgF (byM p0) [24, 16, 8, 0] (sgn a (byM p0 32)) = T := hT; rw [h7] at h8; exact h8) _ _ _ hP hD hS (lv_sub hl [0, 2, 3] rfl)
  have lp_3_40 : ∀ (a : Nat) (fa : Nat → Int32), a ≤ 1600 → sgF (byM p0) [40, 32, 24, 16, 8, 0] a = T → ∀ (H : Heap) (locs : List Loc) (ls : Array Slot), va_P (dC, dI) vwCl [(h0, .inr (5, [.int 0, .ref Mtape, .int (nI a), .int 0, .ref Msort, .ref Mplace, .ref Mvalue, .int 0, .int 0, .ref Mwords, .int 0, .int 0, .ref Mgoes, .ref MgoLine, .ref Mends, .ref MendLine, .ref Mkinds, .ref MisName, .int 0, .ref Mrow, .ref MbyHand, .ref Mleast, .ref Msecond, .ref MendAt, .ref MgoAt, .ref MnodeBehind, .int 0, .ref MisOut, .ref MfirstEnd, .ref MfirstGo])), (Mtape, .inl (cI, 1600, .inl fa))] H → va_D A [(h0, .inr (5, [.int 0, .ref Mtape, .int (nI a), .int 0, .ref Msort, .ref Mplace, .ref Mvalue, .int 0, .int 0, .ref Mwords, .int 0, .int 0, .ref Mgoes, .ref MgoLine, .ref Mends, .ref MendLine, .ref Mkinds, .ref MisName, .int 0, .ref Mrow, .ref MbyHand, .ref Mleast, .ref Msecond, .ref MendAt, .ref MgoAt, .ref MnodeBehind, .int 0, .ref MisOut, .ref MfirstEnd, .ref MfirstGo])), (Mtape, .inl (cI, 1600, .inl fa))] → va_S A s.heap H locs → lv_has ls 5 [(3, .int 40), (0, .ref h0), (1, .long p0)] → W p l e (headSpec wsX5_lay ({ frames := 0, cells := 0, slots := 0, locals := 0 })).room s m ([.ref h0, .long p0]).toArray below meth c H locs 0 0 (MQ below (va_Qv (fun (u : (Nat → Int32) × (Int32)) => match u with | (gs, lN) => lN = nI (sgF (byM p0) ks8 n)) (fun (u : (Nat → Int32) × (Int32)) t => match u with | (gs, lN) => sB dC dI A [(h0, .inr (5, [.int 0, .ref Mtape, .int lN, .int 0, .ref Msort, .ref Mplace, .ref Mvalue, .int 0, .int 0, .ref Mwords, .int 0, .int 0, .ref Mgoes, .ref MgoLine, .ref Mends, .ref MendLine, .ref Mkinds, .ref MisName, .int 0, .ref Mrow, .ref MbyHand, .ref Mleast, .ref Msecond, .ref MendAt, .ref MgoAt, .ref MnodeBehind, .int 0, .ref MisOut, .ref MfirstEnd, .ref MfirstGo])), (Mtape, .inl (cI, 1600, .inl gs))] t) A) ([.ref h0, .long p0]).toArray s 0 0 A) (F0 m 3 ls []) := by
    intro a fa ha hT H locs ls hP hD hS hl
    refine lv_iload_n hx hb dX5_lay_3 rfl (lv_at hl 0 rfl) ?_
    refine lv_if_lt (tgt := 75) hx hb dX5_lay_4 (by decide) (fun h9 => absurd h9 (by decide)) (fun _ => ?_)
    refine lv_lload_n hx hb dX5_lay_7 rfl (lv_at hl 2 rfl) ?_
    refine lv_iload_n hx hb dX5_lay_8 rfl (lv_at hl 0 rfl) ?_
    refine lv_lshr (v := (p0 >>> ((40 : Int32).toInt64 &&& 63))) hx hb dX5_lay_9 rfl ?_
    refine lv_l2i (v := (p0 >>> ((40 : Int32).toInt64 &&& 63)).toInt32) hx hb dX5_lay_10 rfl ?_
    refine lv_sipush (v := 255) hx hb dX5_lay_11 (by decide) ?_
    refine lv_iand hx hb dX5_lay_14 ?_
    refine lv_topi (fun v_ ev_ => ?_)
    obtain rfl : v_ = (byM p0 40) := ev_.trans (rfl)
    refine lv_istore (lv' := [(4, .int (byM p0 40)), (3, .int 40), (0, .ref h0), (1, .long p0)]) hx hb dX5_lay_15 hl (by decide) rfl (fun ls hl => ?_)
    refine lv_iload hx hb dX5_lay_17 (lv_at hl 0 rfl) ?_
    refine lv_bipush (v := 10) hx hb dX5_lay_19 (by decide) ?_
    refine lv_icmp_eq (tgt := 38) hx hb dX5_lay_21 (by decide) (fun c_21 => ?_) (fun c_21 => ?_)
    · skip
      refine lv_aload_n hx hb dX5_lay_38 rfl (lv_at hl 2 rfl) ?_
      refine va_get (D := (dC, dI)) (ci := 5) (v := .int (nI a)) (C := RX5) (T := TX5) (N := 30) hx hb hts i5 hown hK hP 0 rfl rfl 2 (by decide) (hts (.fieldLink RX5 11 "StopSetterModel" "taped" "I") (by decide +kernel)) (fun _ h9 => h9) rfl dX5_lay_39 ?_
      refine lv_sipush (v := 1600) hx hb dX5_lay_42 (by decide) ?_
      refine lv_icmp_ge (tgt := 69) hx hb dX5_lay_45 (by decide) (fun c_45 => ?_) (fun c_45 => ?_)
      · skip
        refine lv_iinc (v := 32) (lv' := [(3, .int 32), (4, .int (byM p0 40)), (0, .ref h0), (1, .long p0)]) hx hb dX5_lay_69 hl (k := 1) rfl (by decide) (by decide) rfl (fun ls hl => ?_)
        refine lv_goto (tgt := 3) hx hb dX5_lay_72 (by decide) ?_
        exact lp_3_32 a fa (by have h7 : sgn a (byM p0 40) = a := (by simp only [sgn, if_pos c_21, if_pos c_45]); have h8 := sgn_le (c := byM p0 40) ha; rw [h7] at h8; exact h8) (by have h7 : sgn a (byM p0 40) = a := (by simp only [sgn, if_pos c_21, if_pos c_45]); have h8 : sgF (byM p0) [32, 24, 16, 8, 0] (sgn a (byM p0 40)) = T := hT; rw [h7] at h8; exact h8) _ _ _ hP hD hS (lv_sub hl [0, 2, 3] rfl)
      · skip
        have hn3 : a < 1600 := nk_lt (N := 1600) rfl c_45 (by omega)
        refine lv_aload_n hx hb dX5_lay_48 rfl (lv_at hl 2 rfl) ?_
        refine va_get (D := (dC, dI)) (ci := 5) (v := .ref Mtape) (C := RX5) (T := TX5) (N := 30) hx hb hts i5 hown hK hP 0 rfl rfl 1 (by decide) (hts (.fieldLink RX5 14 "StopSetterModel" "tape" "[I") (by decide +kernel)) (fun _ h9 => h9) rfl dX5_lay_49 ?_
        refine lv_aload_n hx hb dX5_lay_52 rfl (lv_at hl 2 rfl) ?_
        refine va_get (D := (dC, dI)) (ci := 5) (v := .int (nI a)) (C := RX5) (T := TX5) (N := 30) hx hb hts i5 hown hK hP 0 rfl rfl 2 (by decide) (hts (.fieldLink RX5 11 "StopSetterModel" "taped" "I") (by decide +kernel)) (fun _ h9 => h9) rfl dX5_lay_53 ?_
        refine lv_iload hx hb dX5_lay_56 (lv_at hl 0 rfl) ?_
        refine va_iast hx hb hK hP hD hS 1 0 rfl rfl (vp_in_nI hn3 (by decide)) dX5_lay_58 (fun H locs hP hD hS => ?_)
        have hP : va_P (dC, dI) vwCl [(h0, .inr (5, [.int 0, .ref Mtape, .int (nI a), .int 0, .ref Msort, .ref Mplace, .ref Mvalue, .int 0, .int 0, .ref Mwords, .int 0, .int 0, .ref Mgoes, .ref MgoLine, .ref Mends, .ref MendLine, .ref Mkinds, .ref MisName, .int 0, .ref Mrow, .ref MbyHand, .ref Mleast, .ref Msecond, .ref MendAt, .ref MgoAt, .ref MnodeBehind, .int 0, .ref MisOut, .ref MfirstEnd, .ref MfirstGo])), (Mtape, .inl (cI, 1600, .inl (upd fa ((nI a).toNatClampNeg) (byM p0 40))))] H := hP
        have hD : va_D A [(h0, .inr (5, [.int 0, .ref Mtape, .int (nI a), .int 0, .ref Msort, .ref Mplace, .ref Mvalue, .int 0, .int 0, .ref Mwords, .int 0, .int 0, .ref Mgoes, .ref MgoLine, .ref Mends, .ref MendLine, .ref Mkinds, .ref MisName, .int 0, .ref Mrow, .ref MbyHand, .ref Mleast, .ref Msecond, .ref MendAt, .ref MgoAt, .ref MnodeBehind, .int 0, .ref MisOut, .ref MfirstEnd, .ref MfirstGo])), (Mtape, .inl (cI, 1600, .inl (upd fa ((nI a).toNatClampNeg) (byM p0 40))))] := hD
        refine lv_aload_n hx hb dX5_lay_59 rfl (lv_at hl 2 rfl) ?_
        refine lv_dup hx hb dX5_lay_60 rfl ?_
        refine va_get (D := (dC, dI)) (ci := 5) (v := .int (nI a)) (C := RX5) (T := TX5) (N := 30) hx hb hts i5 hown hK hP 0 rfl rfl 2 (by decide) (hts (.fieldLink RX5 11 "StopSetterModel" "taped" "I") (by decide +kernel)) (fun _ h9 => h9) rfl dX5_lay_61 ?_
        refine lv_iconst (v := 1) hx hb dX5_lay_64 (by decide) ?_
        refine lv_iadd hx hb dX5_lay_65 ?_
        refine lv_topi (fun v_ ev_ => ?_)
        obtain rfl : v_ = (nI (a + 1)) := ev_.trans (nI_1 a)
        refine va_put (D := (dC, dI)) (ci := 5) (v := .int (nI (a + 1))) (ty := tyX5 2) (C := RX5) (T := TX5) (N := 30) hx hb hts i5 tyX5 tyX5_ok nmX5 hown hK hP hD hS 0 rfl rfl 2 (by decide) (hts (.fieldLink RX5 11 "StopSetterModel" "taped" "I") (by decide +kernel)) (fun _ h9 => h9) rfl (by decide +kernel) rfl rfl (Nat.le_of_ble_eq_true rfl) dX5_lay_66 (fun H locs hP hD hS => ?_)
        have hP : va_P (dC, dI) vwCl [(h0, .inr (5, [.int 0, .ref Mtape, .int (nI (a + 1)), .int 0, .ref Msort, .ref Mplace, .ref Mvalue, .int 0, .int 0, .ref Mwords, .int 0, .int 0, .ref Mgoes, .ref MgoLine, .ref Mends, .ref MendLine, .ref Mkinds, .ref MisName, .int 0, .ref Mrow, .ref MbyHand, .ref Mleast, .ref Msecond, .ref MendAt, .ref MgoAt, .ref MnodeBehind, .int 0, .ref MisOut, .ref MfirstEnd, .ref MfirstGo])), (Mtape, .inl (cI, 1600, .inl (upd fa ((nI a).toNatClampNeg) (byM p0 40))))] H := hP
        have hD : va_D A [(h0, .inr (5, [.int 0, .ref Mtape, .int (nI (a + 1)), .int 0, .ref Msort, .ref Mplace, .ref Mvalue, .int 0, .int 0, .ref Mwords, .int 0, .int 0, .ref Mgoes, .ref MgoLine, .ref Mends, .ref MendLine, .ref Mkinds, .ref MisName, .int 0, .ref Mrow, .ref MbyHand, .ref Mleast, .ref Msecond, .ref MendAt, .ref MgoAt, .ref MnodeBehind, .int 0, .ref MisOut, .ref MfirstEnd, .ref MfirstGo])), (Mtape, .inl (cI, 1600, .inl (upd fa ((nI a).toNatClampNeg) (byM p0 40))))] := hD
        refine lv_iinc (v := 32) (lv' := [(3, .int 32), (4, .int (byM p0 40)), (0, .ref h0), (1, .long p0)]) hx hb dX5_lay_69 hl (k := 1) rfl (by decide) (by decide) rfl (fun ls hl => ?_)
        refine lv_goto (tgt := 3) hx hb dX5_lay_72 (by decide) ?_
        exact lp_3_32 (a + 1) (upd fa ((nI a).toNatClampNeg) (byM p0 40)) (by have h7 : sgn a (byM p0 40) = a + 1 := (by simp only [sgn, if_pos c_21, if_neg c_45]); have h8 := sgn_le (c := byM p0 40) ha; rw [h7] at h8; exact h8) (by have h7 : sgn a (byM p0 40) = a + 1 := (by simp only [sgn, if_pos c_21, if_neg c_45]); have h8 : sgF (byM p0) [32, 24, 16, 8, 0] (sgn a (byM p0 40)) = T := hT; rw [h7] at h8; exact h8) _ _ _ hP hD hS (lv_sub hl [0, 2, 3] rfl)
    · skip
      refine lv_iload hx hb dX5_lay_24 (lv_at hl 0 rfl) ?_
      refine lv_bipush (v := 32) hx hb dX5_lay_26 (by decide) ?_
      refine lv_icmp_lt (tgt := 69) hx hb dX5_lay_28 (by decide) (fun c_28 => ?_) (fun c_28 => ?_)
      · skip
        refine lv_iinc (v := 32) (lv' := [(3, .int 32), (4, .int (byM p0 40)), (0, .ref h0), (1, .long p0)]) hx hb dX5_lay_69 hl (k := 1) rfl (by decide) (by decide) rfl (fun ls hl => ?_)
        refine lv_goto (tgt := 3) hx hb dX5_lay_72 (by decide) ?_
        exact lp_3_32 a fa (by have h7 : sgn a (byM p0 40) = a := (by simp only [sgn, if_neg c_21, if_pos c_28]); have h8 := sgn_le (c := byM p0 40) ha; rw [h7] at h8; exact h8) (by have h7 : sgn a (byM p0 40) = a := (by simp only [sgn, if_neg c_21, if_pos c_28]); have h8 : sgF (byM p0) [32, 24, 16, 8, 0] (sgn a (byM p0 40)) = T := hT; rw [h7] at h8; exact h8) _ _ _ hP hD hS (lv_sub hl [0, 2, 3] rfl)
      · skip
        refine lv_iload hx hb dX5_lay_31 (lv_at hl 0 rfl) ?_
        refine lv_bipush (v := 126) hx hb dX5_lay_33 (by decide) ?_
        refine lv_icmp_gt (tgt := 69) hx hb dX5_lay_35 (by decide) (fun c_35 => ?_) (fun c_35 => ?_)
        · skip
          refine lv_iinc (v := 32) (lv' := [(3, .int 32), (4, .int (byM p0 40)), (0, .ref h0), (1, .long p0)]) hx hb dX5_lay_69 hl (k := 1) rfl (by decide) (by decide) rfl (fun ls hl => ?_)
          refine lv_goto (tgt := 3) hx hb dX5_lay_72 (by decide) ?_
          exact lp_3_32 a fa (by have h7 : sgn a (byM p0 40) = a := (by simp only [sgn, if_neg c_21, if_neg c_28, if_pos c_35]); have h8 := sgn_le (c := byM p0 40) ha; rw [h7] at h8; exact h8) (by have h7 : sgn a (byM p0 40) = a := (by simp only [sgn, if_neg c_21, if_neg c_28, if_pos c_35]); have h8 : sgF (byM p0) [32, 24, 16, 8, 0] (sgn a (byM p0 40)) = T := hT; rw [h7] at h8; exact h8) _ _ _ hP hD hS (lv_sub hl [0, 2, 3] rfl)
        · skip
          refine lv_aload_n hx hb dX5_lay_38 rfl (lv_at hl 2 rfl) ?_
          refine va_get (D := (dC, dI)) (ci := 5) (v := .int (nI a)) (C := RX5) (T := TX5) (N := 30) hx hb hts i5 hown hK hP 0 rfl rfl 2 (by decide) (hts (.fieldLink RX5 11 "StopSetterModel" "taped" "I") (by decide +kernel)) (fun _ h9 => h9) rfl dX5_lay_39 ?_
          refine lv_sipush (v := 1600) hx hb dX5_lay_42 (by decide) ?_
          refine lv_icmp_ge (tgt := 69) hx hb dX5_lay_45 (by decide) (fun c_45 => ?_) (fun c_45 => ?_)
          · skip
            refine lv_iinc (v := 32) (lv' := [(3, .int 32), (4, .int (byM p0 40)), (0, .ref h0), (1, .long p0)]) hx hb dX5_lay_69 hl (k := 1) rfl (by decide) (by decide) rfl (fun ls hl => ?_)
            refine lv_goto (tgt := 3) hx hb dX5_lay_72 (by decide) ?_
            exact lp_3_32 a fa (by have h7 : sgn a (byM p0 40) = a := (by simp only [sgn, if_neg c_21, if_neg c_28, if_neg c_35, if_pos c_45]); have h8 := sgn_le (c := byM p0 40) ha; rw [h7] at h8; exact h8) (by have h7 : sgn a (byM p0 40) = a := (by simp only [sgn, if_neg c_21, if_neg c_28, if_neg c_35, if_pos c_45]); have h8 : sgF (byM p0) [32, 24, 16, 8, 0] (sgn a (byM p0 40)) = T := hT; rw [h7] at h8; exact h8) _ _ _ hP hD hS (lv_sub hl [0, 2, 3] rfl)
          · skip
            have hn3 : a < 1600 := nk_lt (N := 1600) rfl c_45 (by omega)
            refine lv_aload_n hx hb dX5_lay_48 rfl (lv_at hl 2 rfl) ?_
            refine va_get (D := (dC, dI)) (ci := 5) (v := .ref Mtape) (C := RX5) (T := TX5) (N := 30) hx hb hts i5 hown hK hP 0 rfl rfl 1 (by decide) (hts (.fieldLink RX5 14 "StopSetterModel" "tape" "[I") (by decide +kernel)) (fun _ h9 => h9) rfl dX5_lay_49 ?_
            refine lv_aload_n hx hb dX5_lay_52 rfl (lv_at hl 2 rfl) ?_
            refine va_get (D := (dC, dI)) (ci := 5) (v := .int (nI a)) (C := RX5) (T := TX5) (N := 30) hx hb hts i5 hown hK hP 0 rfl rfl 2 (by decide) (hts (.fieldLink RX5 11 "StopSetterModel" "taped" "I") (by decide +kernel)) (fun _ h9 => h9) rfl dX5_lay_53 ?_
            refine lv_iload hx hb dX5_lay_56 (lv_at hl 0 rfl) ?_
            refine va_iast hx hb hK hP hD hS 1 0 rfl rfl (vp_in_nI hn3 (by decide)) dX5_lay_58 (fun H locs hP hD hS => ?_)
            have hP : va_P (dC, dI) vwCl [(h0, .inr (5, [.int 0, .ref Mtape, .int (nI a), .int 0, .ref Msort, .ref Mplace, .ref Mvalue, .int 0, .int 0, .ref Mwords, .int 0, .int 0, .ref Mgoes, .ref MgoLine, .ref Mends, .ref MendLine, .ref Mkinds, .ref MisName, .int 0, .ref Mrow, .ref MbyHand, .ref Mleast, .ref Msecond, .ref MendAt, .ref MgoAt, .ref MnodeBehind, .int 0, .ref MisOut, .ref MfirstEnd, .ref MfirstGo])), (Mtape, .inl (cI, 1600, .inl (upd fa ((nI a).toNatClampNeg) (byM p0 40))))] H := hP
            have hD : va_D A [(h0, .inr (5, [.int 0, .ref Mtape, .int (nI a), .int 0, .ref Msort, .ref Mplace, .ref Mvalue, .int 0, .int 0, .ref Mwords, .int 0, .int 0, .ref Mgoes, .ref MgoLine, .ref Mends, .ref MendLine, .ref Mkinds, .ref MisName, .int 0, .ref Mrow, .ref MbyHand, .ref Mleast, .ref Msecond, .ref MendAt, .ref MgoAt, .ref MnodeBehind, .int 0, .ref MisOut, .ref MfirstEnd, .ref MfirstGo])), (Mtape, .inl (cI, 1600, .inl (upd fa ((nI a).toNatClampNeg) (byM p0 40))))] := hD
            refine lv_aload_n hx hb dX5_lay_59 rfl (lv_at hl 2 rfl) ?_
            refine lv_dup hx hb dX5_lay_60 rfl ?_
            refine va_get (D := (dC, dI)) (ci := 5) (v := .int (nI a)) (C := RX5) (T := TX5) (N := 30) hx hb hts i5 hown hK hP 0 rfl rfl 2 (by decide) (hts (.fieldLink RX5 11 "StopSetterModel" "taped" "I") (by decide +kernel)) (fun _ h9 => h9) rfl dX5_lay_61 ?_
            refine lv_iconst (v := 1) hx hb dX5_lay_64 (by decide) ?_
            refine lv_iadd hx hb dX5_lay_65 ?_
            refine lv_topi (fun v_ ev_ => ?_)
            obtain rfl : v_ = (nI (a + 1)) := ev_.trans (nI_1 a)
            refine va_put (D := (dC, dI)) (ci := 5) (v := .int (nI (a + 1))) (ty := tyX5 2) (C := RX5) (T := TX5) (N := 30) hx hb hts i5 tyX5 tyX5_ok nmX5 hown hK hP hD hS 0 rfl rfl 2 (by decide) (hts (.fieldLink RX5 11 "StopSetterModel" "taped" "I") (by decide +kernel)) (fun _ h9 => h9) rfl (by decide +kernel) rfl rfl (Nat.le_of_ble_eq_true rfl) dX5_lay_66 (fun H locs hP hD hS => ?_)
            have hP : va_P (dC, dI) vwCl [(h0, .inr (5, [.int 0, .ref Mtape, .int (nI (a + 1)), .int 0, .ref Msort, .ref Mplace, .ref Mvalue, .int 0, .int 0, .ref Mwords, .int 0, .int 0, .ref Mgoes, .ref MgoLine, .ref Mends, .ref MendLine, .ref Mkinds, .ref MisName, .int 0, .ref Mrow, .ref MbyHand, .ref Mleast, .ref Msecond, .ref MendAt, .ref MgoAt, .ref MnodeBehind, .int 0, .ref MisOut, .ref MfirstEnd, .ref MfirstGo])), (Mtape, .inl (cI, 1600, .inl (upd fa ((nI a).toNatClampNeg) (byM p0 40))))] H := hP
            have hD : va_D A [(h0, .inr (5, [.int 0, .ref Mtape, .int (nI (a + 1)), .int 0, .ref Msort, .ref Mplace, .ref Mvalue, .int 0, .int 0, .ref Mwords, .int 0, .int 0, .ref Mgoes, .ref MgoLine, .ref Mends, .ref MendLine, .ref Mkinds, .ref MisName, .int 0, .ref Mrow, .ref MbyHand, .ref Mleast, .ref Msecond, .ref MendAt, .ref MgoAt, .ref MnodeBehind, .int 0, .ref MisOut, .ref MfirstEnd, .ref MfirstGo])), (Mtape, .inl (cI, 1600, .inl (upd fa ((nI a).toNatClampNeg) (byM p0 40))))] := hD
            refine lv_iinc (v := 32) (lv' := [(3, .int 32), (4, .int (byM p0 40)), (0, .ref h0), (1, .long p0)]) hx hb dX5_lay_69 hl (k := 1) rfl (by decide) (by decide) rfl (fun ls hl => ?_)
            refine lv_goto (tgt := 3) hx hb dX5_lay_72 (by decide) ?_
            exact lp_3_32 (a + 1) (upd fa ((nI a).toNatClampNeg) (byM p0 40)) (by have h7 : sgn a (byM p0 40) = a + 1 := (by simp only [sgn, if_neg c_21, if_neg c_28, if_neg c_35, if_neg c_45]); have h8 := sgn_le (c := byM p0 40) ha; rw [h7] at h8; exact h8) (by have h7 : sgn a (byM p0 40) = a + 1 := (by simp only [sgn, if_neg c_21, if_neg c_28, if_neg c_35, if_neg c_45]); have h8 : sgF (byM p0) [32, 24, 16, 8, 0] (sgn a (byM p0 40)) = T := hT; rw [h7] at h8; exact h8) _ _ _ hP hD hS (lv_sub hl [0, 2, 3] rfl)
  have lp_3_48 : ∀ (a : Nat) (fa : Nat → Int32), a ≤ 1600 → sgF (byM p0) [48, 40, 32, 24, 16, 8, 0] a = T → ∀ (H : Heap) (locs : List Loc) (ls : Array Slot), va_P (dC, dI) vwCl [(h0, .inr (5, [.int 0, .ref Mtape, .int (nI a), .int 0, .ref Msort, .ref Mplace, .ref Mvalue, .int 0, .int 0, .ref Mwords, .int 0, .int 0, .ref Mgoes, .ref MgoLine, .ref Mends, .ref MendLine, .ref Mkinds, .ref MisName, .int 0, .ref Mrow, .ref MbyHand, .ref Mleast, .ref Msecond, .ref MendAt, .ref MgoAt, .ref MnodeBehind, .int 0, .ref MisOut, .ref MfirstEnd, .ref MfirstGo])), (Mtape, .inl (cI, 1600, .inl fa))] H → va_D A [(h0, .inr (5, [.int 0, .ref Mtape, .int (nI a), .int 0, .ref Msort, .ref Mplace, .ref Mvalue, .int 0, .int 0, .ref Mwords, .int 0, .int 0, .ref Mgoes, .ref MgoLine, .ref Mends, .ref MendLine, .ref Mkinds, .ref MisName, .int 0, .ref Mrow, .ref MbyHand, .ref Mleast, .ref Msecond, .ref MendAt, .ref MgoAt, .ref MnodeBehind, .int 0, .ref MisOut, .ref MfirstEnd, .ref MfirstGo])), (Mtape, .inl (cI, 1600, .inl fa))] → va_S A s.heap H locs → lv_has ls 5 [(3, .int 48), (0, .ref h0), (1, .long p0)] → W p l e (headSpec wsX5_lay ({ frames := 0, cells := 0, slots := 0, locals := 0 })).room s m ([.ref h0, .long p0]).toArray below meth c H locs 0 0 (MQ below (va_Qv (fun (u : (Nat → Int32) × (Int32)) => match u with | (gs, lN) => lN = nI (sgF (byM p0) ks8 n)) (fun (u : (Nat → Int32) × (Int32)) t => match u with | (gs, lN) => sB dC dI A [(h0, .inr (5, [.int 0, .ref Mtape, .int lN, .int 0, .ref Msort, .ref Mplace, .ref Mvalue, .int 0, .int 0, .ref Mwords, .int 0, .int 0, .ref Mgoes, .ref MgoLine, .ref Mends, .ref MendLine, .ref Mkinds, .ref MisName, .int 0, .ref Mrow, .ref MbyHand, .ref Mleast, .ref Msecond, .ref MendAt, .ref MgoAt, .ref MnodeBehind, .int 0, .ref MisOut, .ref MfirstEnd, .ref MfirstGo])), (Mtape, .inl (cI, 1600, .inl gs))] t) A) ([.ref h0, .long p0]).toArray s 0 0 A) (F0 m 3 ls []) := by
    intro a fa ha hT H locs ls hP hD hS hl
    refine lv_iload_n hx hb dX5_lay_3 rfl (lv_at hl 0 rfl) ?_
    refine lv_if_lt (tgt := 75) hx hb dX5_lay_4 (by decide) (fun h9 => absurd h9 (by decide)) (fun _ => ?_)
    refine lv_lload_n hx hb dX5_lay_7 rfl (lv_at hl 2 rfl) ?_
    refine lv_iload_n hx hb dX5_lay_8 rfl (lv_at hl 0 rfl) ?_
    refine lv_lshr (v := (p0 >>> ((48 : Int32).toInt64 &&& 63))) hx hb dX5_lay_9 rfl ?_
    refine lv_l2i (v := (p0 >>> ((48 : Int32).toInt64 &&& 63)).toInt32) hx hb dX5_lay_10 rfl ?_
    refine lv_sipush (v := 255) hx hb dX5_lay_11 (by decide) ?_
    refine lv_iand hx hb dX5_lay_14 ?_
    refine lv_topi (fun v_ ev_ => ?_)
    obtain rfl : v_ = (byM p0 48) := ev_.trans (rfl)
    refine lv_istore (lv' := [(4, .int (byM p0 48)), (3, .int 48), (0, .ref h0), (1, .long p0)]) hx hb dX5_lay_15 hl (by decide) rfl (fun ls hl => ?_)
    refine lv_iload hx hb dX5_lay_17 (lv_at hl 0 rfl) ?_
    refine lv_bipush (v := 10) hx hb dX5_lay_19 (by decide) ?_
    refine lv_icmp_eq (tgt := 38) hx hb dX5_lay_21 (by decide) (fun c_21 => ?_) (fun c_21 => ?_)
    · skip
      refine lv_aload_n hx hb dX5_lay_38 rfl (lv_at hl 2 rfl) ?_
      refine va_get (D := (dC, dI)) (ci := 5) (v := .int (nI a)) (C := RX5) (T := TX5) (N := 30) hx hb hts i5 hown hK hP 0 rfl rfl 2 (by decide) (hts (.fieldLink RX5 11 "StopSetterModel" "taped" "I") (by decide +kernel)) (fun _ h9 => h9) rfl dX5_lay_39 ?_
      refine lv_sipush (v := 1600) hx hb dX5_lay_42 (by decide) ?_
      refine lv_icmp_ge (tgt := 69) hx hb dX5_lay_45 (by decide) (fun c_45 => ?_) (fun c_45 => ?_)
      · skip
        refine lv_iinc (v := 40) (lv' := [(3, .int 40), (4, .int (byM p0 48)), (0, .ref h0), (1, .long p0)]) hx hb dX5_lay_69 hl (k := 1) rfl (by decide) (by decide) rfl (fun ls hl => ?_)
        refine lv_goto (tgt := 3) hx hb dX5_lay_72 (by decide) ?_
        exact lp_3_40 a fa (by have h7 : sgn a (byM p0 48) = a := (by simp only [sgn, if_pos c_21, if_pos c_45]); have h8 := sgn_le (c := byM p0 48) ha; rw [h7] at h8; exact h8) (by have h7 : sgn a (byM p0 48) = a := (by simp only [sgn, if_pos c_21, if_pos c_45]); have h8 : sgF (byM p0) [40, 32, 24, 16, 8, 0] (sgn a (byM p0 48)) = T := hT; rw [h7] at h8; exact h8) _ _ _ hP hD hS (lv_sub hl [0, 2, 3] rfl)
      · skip
        have hn3 : a < 1600 := nk_lt (N := 1600) rfl c_45 (by omega)
        refine lv_aload_n hx hb dX5_lay_48 rfl (lv_at hl 2 rfl) ?_
        refine va_get (D := (dC, dI)) (ci := 5) (v := .ref Mtape) (C := RX5) (T := TX5) (N := 30) hx hb hts i5 hown hK hP 0 rfl rfl 1 (by decide) (hts (.fieldLink RX5 14 "StopSetterModel" "tape" "[I") (by decide +kernel)) (fun _ h9 => h9) rfl dX5_lay_49 ?_
        refine lv_aload_n hx hb dX5_lay_52 rfl (lv_at hl 2 rfl) ?_
        refine va_get (D := (dC, dI)) (ci := 5) (v := .int (nI a)) (C := RX5) (T := TX5) (N := 30) hx hb hts i5 hown hK hP 0 rfl rfl 2 (by decide) (hts (.fieldLink RX5 11 "StopSetterModel" "taped" "I") (by decide +kernel)) (fun _ h9 => h9) rfl dX5_lay_53 ?_
        refine lv_iload hx hb dX5_lay_56 (lv_at hl 0 rfl) ?_
        refine va_iast hx hb hK hP hD hS 1 0 rfl rfl (vp_in_nI hn3 (by decide)) dX5_lay_58 (fun H locs hP hD hS => ?_)
        have hP : va_P (dC, dI) vwCl [(h0, .inr (5, [.int 0, .ref Mtape, .int (nI a), .int 0, .ref Msort, .ref Mplace, .ref Mvalue, .int 0, .int 0, .ref Mwords, .int 0, .int 0, .ref Mgoes, .ref MgoLine, .ref Mends, .ref MendLine, .ref Mkinds, .ref MisName, .int 0, .ref Mrow, .ref MbyHand, .ref Mleast, .ref Msecond, .ref MendAt, .ref MgoAt, .ref MnodeBehind, .int 0, .ref MisOut, .ref MfirstEnd, .ref MfirstGo])), (Mtape, .inl (cI, 1600, .inl (upd fa ((nI a).toNatClampNeg) (byM p0 48))))] H := hP
        have hD : va_D A [(h0, .inr (5, [.int 0, .ref Mtape, .int (nI a), .int 0, .ref Msort, .ref Mplace, .ref Mvalue, .int 0, .int 0, .ref Mwords, .int 0, .int 0, .ref Mgoes, .ref MgoLine, .ref Mends, .ref MendLine, .ref Mkinds, .ref MisName, .int 0, .ref Mrow, .ref MbyHand, .ref Mleast, .ref Msecond, .ref MendAt, .ref MgoAt, .ref MnodeBehind, .int 0, .ref MisOut, .ref MfirstEnd, .ref MfirstGo])), (Mtape, .inl (cI, 1600, .inl (upd fa ((nI a).toNatClampNeg) (byM p0 48))))] := hD
        refine lv_aload_n hx hb dX5_lay_59 rfl (lv_at hl 2 rfl) ?_
        refine lv_dup hx hb dX5_lay_60 rfl ?_
        refine va_get (D := (dC, dI)) (ci := 5) (v := .int (nI a)) (C := RX5) (T := TX5) (N := 30) hx hb hts i5 hown hK hP 0 rfl rfl 2 (by decide) (hts (.fieldLink RX5 11 "StopSetterModel" "taped" "I") (by decide +kernel)) (fun _ h9 => h9) rfl dX5_lay_61 ?_
        refine lv_iconst (v := 1) hx hb dX5_lay_64 (by decide) ?_
        refine lv_iadd hx hb dX5_lay_65 ?_
        refine lv_topi (fun v_ ev_ => ?_)
        obtain rfl : v_ = (nI (a + 1)) := ev_.trans (nI_1 a)
        refine va_put (D := (dC, dI)) (ci := 5) (v := .int (nI (a + 1))) (ty := tyX5 2) (C := RX5) (T := TX5) (N := 30) hx hb hts i5 tyX5 tyX5_ok nmX5 hown hK hP hD hS 0 rfl rfl 2 (by decide) (hts (.fieldLink RX5 11 "StopSetterModel" "taped" "I") (by decide +kernel)) (fun _ h9 => h9) rfl (by decide +kernel) rfl rfl (Nat.le_of_ble_eq_true rfl) dX5_lay_66 (fun H locs hP hD hS => ?_)
        have hP : va_P (dC, dI) vwCl [(h0, .inr (5, [.int 0, .ref Mtape, .int (nI (a + 1)), .int 0, .ref Msort, .ref Mplace, .ref Mvalue, .int 0, .int 0, .ref Mwords, .int 0, .int 0, .ref Mgoes, .ref MgoLine, .ref Mends, .ref MendLine, .ref Mkinds, .ref MisName, .int 0, .ref Mrow, .ref MbyHand, .ref Mleast, .ref Msecond, .ref MendAt, .ref MgoAt, .ref MnodeBehind, .int 0, .ref MisOut, .ref MfirstEnd, .ref MfirstGo])), (Mtape, .inl (cI, 1600, .inl (upd fa ((nI a).toNatClampNeg) (byM p0 48))))] H := hP
        have hD : va_D A [(h0, .inr (5, [.int 0, .ref Mtape, .int (nI (a + 1)), .int 0, .ref Msort, .ref Mplace, .ref Mvalue, .int 0, .int 0, .ref Mwords, .int 0, .int 0, .ref Mgoes, .ref MgoLine, .ref Mends, .ref MendLine, .ref Mkinds, .ref MisName, .int 0, .ref Mrow, .ref MbyHand, .ref Mleast, .ref Msecond, .ref MendAt, .ref MgoAt, .ref MnodeBehind, .int 0, .ref MisOut, .ref MfirstEnd, .ref MfirstGo])), (Mtape, .inl (cI, 1600, .inl (upd fa ((nI a).toNatClampNeg) (byM p0 48))))] := hD
        refine lv_iinc (v := 40) (lv' := [(3, .int 40), (4, .int (byM p0 48)), (0, .ref h0), (1, .long p0)]) hx hb dX5_lay_69 hl (k := 1) rfl (by decide) (by decide) rfl (fun ls hl => ?_)
        refine lv_goto (tgt := 3) hx hb dX5_lay_72 (by decide) ?_
        exact lp_3_40 (a + 1) (upd fa ((nI a).toNatClampNeg) (byM p0 48)) (by have h7 : sgn a (byM p0 48) = a + 1 := (by simp only [sgn, if_pos c_21, if_neg c_45]); have h8 := sgn_le (c := byM p0 48) ha; rw [h7] at h8; exact h8) (by have h7 : sgn a (byM p0 48) = a + 1 := (by simp only [sgn, if_pos c_21, if_neg c_45]); have h8 : sgF (byM p0) [40, 32, 24, 16, 8, 0] (sgn a (byM p0 48)) = T := hT; rw [h7] at h8; exact h8) _ _ _ hP hD hS (lv_sub hl [0, 2, 3] rfl)
    · skip
      refine lv_iload hx hb dX5_lay_24 (lv_at hl 0 rfl) ?_
      refine lv_bipush (v := 32) hx hb dX5_lay_26 (by decide) ?_
      refine lv_icmp_lt (tgt := 69) hx hb dX5_lay_28 (by decide) (fun c_28 => ?_) (fun c_28 => ?_)
      · skip
        refine lv_iinc (v := 40) (lv' := [(3, .int 40), (4, .int (byM p0 48)), (0, .ref h0), (1, .long p0)]) hx hb dX5_lay_69 hl (k := 1) rfl (by decide) (by decide) rfl (fun ls hl => ?_)
        refine lv_goto (tgt := 3) hx hb dX5_lay_72 (by decide) ?_
        exact lp_3_40 a fa (by have h7 : sgn a (byM p0 48) = a := (by simp only [sgn, if_neg c_21, if_pos c_28]); have h8 := sgn_le (c := byM p0 48) ha; rw [h7] at h8; exact h8) (by have h7 : sgn a (byM p0 48) = a := (by simp only [sgn, if_neg c_21, if_pos c_28]); have h8 : sgF (byM p0) [40, 32, 24, 16, 8, 0] (sgn a (byM p0 48)) = T := hT; rw [h7] at h8; exact h8) _ _ _ hP hD hS (lv_sub hl [0, 2, 3] rfl)
      · skip
        refine lv_iload hx hb dX5_lay_31 (lv_at hl 0 rfl) ?_
        refine lv_bipush (v := 126) hx hb dX5_lay_33 (by decide) ?_
        refine lv_icmp_gt (tgt := 69) hx hb dX5_lay_35 (by decide) (fun c_35 => ?_) (fun c_35 => ?_)
        · skip
          refine lv_iinc (v := 40) (lv' := [(3, .int 40), (4, .int (byM p0 48)), (0, .ref h0), (1, .long p0)]) hx hb dX5_lay_69 hl (k := 1) rfl (by decide) (by decide) rfl (fun ls hl => ?_)
          refine lv_goto (tgt := 3) hx hb dX5_lay_72 (by decide) ?_
          exact lp_3_40 a fa (by have h7 : sgn a (byM p0 48) = a := (by simp only [sgn, if_neg c_21, if_neg c_28, if_pos c_35]); have h8 := sgn_le (c := byM p0 48) ha; rw [h7] at h8; exact h8) (by have h7 : sgn a (byM p0 48) = a := (by simp only [sgn, if_neg c_21, if_neg c_28, if_pos c_35]); have h8 : sgF (byM p0) [40, 32, 24, 16, 8, 0] (sgn a (byM p0 48)) = T := hT; rw [h7] at h8; exact h8) _ _ _ hP hD hS (lv_sub hl [0, 2, 3] rfl)
        · skip
          refine lv_aload_n hx hb dX5_lay_38 rfl (lv_at hl 2 rfl) ?_
          refine va_get (D := (dC, dI)) (ci := 5) (v := .int (nI a)) (C := RX5) (T := TX5) (N := 30) hx hb hts i5 hown hK hP 0 rfl rfl 2 (by decide) (hts (.fieldLink RX5 11 "StopSetterModel" "taped" "I") (by decide +kernel)) (fun _ h9 => h9) rfl dX5_lay_39 ?_
          refine lv_sipush (v := 1600) hx hb dX5_lay_42 (by decide) ?_
          refine lv_icmp_ge (tgt := 69) hx hb dX5_lay_45 (by decide) (fun c_45 => ?_) (fun c_45 => ?_)
          · skip
            refine lv_iinc (v := 40) (lv' := [(3, .int 40), (4, .int (byM p0 48)), (0, .ref h0), (1, .long p0)]) hx hb dX5_lay_69 hl (k := 1) rfl (by decide) (by decide) rfl (fun ls hl => ?_)
            refine lv_goto (tgt := 3) hx hb dX5_lay_72 (by decide) ?_
            exact lp_3_40 a fa (by have h7 : sgn a (byM p0 48) = a := (by simp only [sgn, if_neg c_21, if_neg c_28, if_neg c_35, if_pos c_45]); have h8 := sgn_le (c := byM p0 48) ha; rw [h7] at h8; exact h8) (by have h7 : sgn a (byM p0 48) = a := (by simp only [sgn, if_neg c_21, if_neg c_28, if_neg c_35, if_pos c_45]); have h8 : sgF (byM p0) [40, 32, 24, 16, 8, 0] (sgn a (byM p0 48)) = T := hT; rw [h7] at h8; exact h8) _ _ _ hP hD hS (lv_sub hl [0, 2, 3] rfl)
          · skip
            have hn3 : a < 1600 := nk_lt (N := 1600) rfl c_45 (by omega)
            refine lv_aload_n hx hb dX5_lay_48 rfl (lv_at hl 2 rfl) ?_
            refine va_get (D := (dC, dI)) (ci := 5) (v := .ref Mtape) (C := RX5) (T := TX5) (N := 30) hx hb hts i5 hown hK hP 0 rfl rfl 1 (by decide) (hts (.fieldLink RX5 14 "StopSetterModel" "tape" "[I") (by decide +kernel)) (fun _ h9 => h9) rfl dX5_lay_49 ?_
            refine lv_aload_n hx hb dX5_lay_52 rfl (lv_at hl 2 rfl) ?_
            refine va_get (D := (dC, dI)) (ci := 5) (v := .int (nI a)) (C := RX5) (T := TX5) (N := 30) hx hb hts i5 hown hK hP 0 rfl rfl 2 (by decide) (hts (.fieldLink RX5 11 "StopSetterModel" "taped" "I") (by decide +kernel)) (fun _ h9 => h9) rfl dX5_lay_53 ?_
            refine lv_iload hx hb dX5_lay_56 (lv_at hl 0 rfl) ?_
            refine va_iast hx hb hK hP hD hS 1 0 rfl rfl (vp_in_nI hn3 (by decide)) dX5_lay_58 (fun H locs hP hD hS => ?_)
            have hP : va_P (dC, dI) vwCl [(h0, .inr (5, [.int 0, .ref Mtape, .int (nI a), .int 0, .ref Msort, .ref Mplace, .ref Mvalue, .int 0, .int 0, .ref Mwords, .int 0, .int 0, .ref Mgoes, .ref MgoLine, .ref Mends, .ref MendLine, .ref Mkinds, .ref MisName, .int 0, .ref Mrow, .ref MbyHand, .ref Mleast, .ref Msecond, .ref MendAt, .ref MgoAt, .ref MnodeBehind, .int 0, .ref MisOut, .ref MfirstEnd, .ref MfirstGo])), (Mtape, .inl (cI, 1600, .inl (upd fa ((nI a).toNatClampNeg) (byM p0 48))))] H := hP
            have hD : va_D A [(h0, .inr (5, [.int 0, .ref Mtape, .int (nI a), .int 0, .ref Msort, .ref Mplace, .ref Mvalue, .int 0, .int 0, .ref Mwords, .int 0, .int 0, .ref Mgoes, .ref MgoLine, .ref Mends, .ref MendLine, .ref Mkinds, .ref MisName, .int 0, .ref Mrow, .ref MbyHand, .ref Mleast, .ref Msecond, .ref MendAt, .ref MgoAt, .ref MnodeBehind, .int 0, .ref MisOut, .ref MfirstEnd, .ref MfirstGo])), (Mtape, .inl (cI, 1600, .inl (upd fa ((nI a).toNatClampNeg) (byM p0 48))))] := hD
            refine lv_aload_n hx hb dX5_lay_59 rfl (lv_at hl 2 rfl) ?_
            refine lv_dup hx hb dX5_lay_60 rfl ?_
            refine va_get (D := (dC, dI)) (ci := 5) (v := .int (nI a)) (C := RX5) (T := TX5) (N := 30) hx hb hts i5 hown hK hP 0 rfl rfl 2 (by decide) (hts (.fieldLink RX5 11 "StopSetterModel" "taped" "I") (by decide +kernel)) (fun _ h9 => h9) rfl dX5_lay_61 ?_
            refine lv_iconst (v := 1) hx hb dX5_lay_64 (by decide) ?_
            refine lv_iadd hx hb dX5_lay_65 ?_
            refine lv_topi (fun v_ ev_ => ?_)
            obtain rfl : v_ = (nI (a + 1)) := ev_.trans (nI_1 a)
            refine va_put (D := (dC, dI)) (ci := 5) (v := .int (nI (a + 1))) (ty := tyX5 2) (C := RX5) (T := TX5) (N := 30) hx hb hts i5 tyX5 tyX5_ok nmX5 hown hK hP hD hS 0 rfl rfl 2 (by decide) (hts (.fieldLink RX5 11 "StopSetterModel" "taped" "I") (by decide +kernel)) (fun _ h9 => h9) rfl (by decide +kernel) rfl rfl (Nat.le_of_ble_eq_true rfl) dX5_lay_66 (fun H locs hP hD hS => ?_)
            have hP : va_P (dC, dI) vwCl [(h0, .inr (5, [.int 0, .ref Mtape, .int (nI (a + 1)), .int 0, .ref Msort, .ref Mplace, .ref Mvalue, .int 0, .int 0, .ref Mwords, .int 0, .int 0, .ref Mgoes, .ref MgoLine, .ref Mends, .ref MendLine, .ref Mkinds, .ref MisName, .int 0, .ref Mrow, .ref MbyHand, .ref Mleast, .ref Msecond, .ref MendAt, .ref MgoAt, .ref MnodeBehind, .int 0, .ref MisOut, .ref MfirstEnd, .ref MfirstGo])), (Mtape, .inl (cI, 1600, .inl (upd fa ((nI a).toNatClampNeg) (byM p0 48))))] H := hP
            have hD : va_D A [(h0, .inr (5, [.int 0, .ref Mtape, .int (nI (a + 1)), .int 0, .ref Msort, .ref Mplace, .ref Mvalue, .int 0, .int 0, .ref Mwords, .int 0, .int 0, .ref Mgoes, .ref MgoLine, .ref Mends, .ref MendLine, .ref Mkinds, .ref MisName, .int 0, .ref Mrow, .ref MbyHand, .ref Mleast, .ref Msecond, .ref MendAt, .ref MgoAt, .ref MnodeBehind, .int 0, .ref MisOut, .ref MfirstEnd, .ref MfirstGo])), (Mtape, .inl (cI, 1600, .inl (upd fa ((nI a).toNatClampNeg) (byM p0 48))))] := hD
            refine lv_iinc (v := 40) (lv' := [(3, .int 40), (4, .int (byM p0 48)), (0, .ref h0), (1, .long p0)]) hx hb dX5_lay_69 hl (k := 1) rfl (by decide) (by decide) rfl (fun ls hl => ?_)
            refine lv_goto (tgt := 3) hx hb dX5_lay_72 (by decide) ?_
            exact lp_3_40 (a + 1) (upd fa ((nI a).toNatClampNeg) (byM p0 48)) (by have h7 : sgn a (byM p0 48) = a + 1 := (by simp only [sgn, if_neg c_21, if_neg c_28, if_neg c_35, if_neg c_45]); have h8 := sgn_le (c := byM p0 48) ha; rw [h7] at h8; exact h8) (by have h7 : sgn a (byM p0 48) = a + 1 := (by simp only [sgn, if_neg c_21, if_neg c_28, if_neg c_35, if_neg c_45]); have h8 : sgF (byM p0) [40, 32, 24, 16, 8, 0] (sgn a (byM p0 48)) = T := hT; rw [h7] at h8; exact h8) _ _ _ hP hD hS (lv_sub hl [0, 2, 3] rfl)
  have lp_3_56 : ∀ (a : Nat) (fa : Nat → Int32), a ≤ 1600 → sgF (byM p0) [56, 48, 40, 32, 24, 16, 8, 0] a = T → ∀ (H : Heap) (locs : List Loc) (ls : Array Slot), va_P (dC, dI) vwCl [(h0, .inr (5, [.int 0, .ref Mtape, .int (nI a), .int 0, .ref Msort, .ref Mplace, .ref Mvalue, .int 0, .int 0, .ref Mwords, .int 0, .int 0, .ref Mgoes, .ref MgoLine, .ref Mends, .ref MendLine, .ref Mkinds, .ref MisName, .int 0, .ref Mrow, .ref MbyHand, .ref Mleast, .ref Msecond, .ref MendAt, .ref MgoAt, .ref MnodeBehind, .int 0, .ref MisOut, .ref MfirstEnd, .ref MfirstGo])), (Mtape, .inl (cI, 1600, .inl fa))] H → va_D A [(h0, .inr (5, [.int 0, .ref Mtape, .int (nI a), .int 0, .ref Msort, .ref Mplace, .ref Mvalue, .int 0, .int 0, .ref Mwords, .int 0, .int 0, .ref Mgoes, .ref MgoLine, .ref Mends, .ref MendLine, .ref Mkinds, .ref MisName, .int 0, .ref Mrow, .ref MbyHand, .ref Mleast, .ref Msecond, .ref MendAt, .ref MgoAt, .ref MnodeBehind, .int 0, .ref MisOut, .ref MfirstEnd, .ref MfirstGo])), (Mtape, .inl (cI, 1600, .inl fa))] → va_S A s.heap H locs → lv_has ls 5 [(3, .int 56), (0, .ref h0), (1, .long p0)] → W p l e (headSpec wsX5_lay ({ frames := 0, cells := 0, slots := 0, locals := 0 })).room s m ([.ref h0, .long p0]).toArray below meth c H locs 0 0 (MQ below (va_Qv (fun (u : (Nat → Int32) × (Int32)) => match u with | (gs, lN) => lN = nI (sgF (byM p0) ks8 n)) (fun (u : (Nat → Int32) × (Int32)) t => match u with | (gs, lN) => sB dC dI A [(h0, .inr (5, [.int 0, .ref Mtape, .int lN, .int 0, .ref Msort, .ref Mplace, .ref Mvalue, .int 0, .int 0, .ref Mwords, .int 0, .int 0, .ref Mgoes, .ref MgoLine, .ref Mends, .ref MendLine, .ref Mkinds, .ref MisName, .int 0, .ref Mrow, .ref MbyHand, .ref Mleast, .ref Msecond, .ref MendAt, .ref MgoAt, .ref MnodeBehind, .int 0, .ref MisOut, .ref MfirstEnd, .ref MfirstGo])), (Mtape, .inl (cI, 1600, .inl gs))] t) A) ([.ref h0, .long p0]).toArray s 0 0 A) (F0 m 3 ls []) := by
    intro a fa ha hT H locs ls hP hD hS hl
    refine lv_iload_n hx hb dX5_lay_3 rfl (lv_at hl 0 rfl) ?_
    refine lv_if_lt (tgt := 75) hx hb dX5_lay_4 (by decide) (fun h9 => absurd h9 (by decide)) (fun _ => ?_)
    refine lv_lload_n hx hb dX5_lay_7 rfl (lv_at hl 2 rfl) ?_
    refine lv_iload_n hx hb dX5_lay_8 rfl (lv_at hl 0 rfl) ?_
    refine lv_lshr (v := (p0 >>> ((56 : Int32).toInt64 &&& 63))) hx hb dX5_lay_9 rfl ?_
    refine lv_l2i (v := (p0 >>> ((56 : Int32).toInt64 &&& 63)).toInt32) hx hb dX5_lay_10 rfl ?_
    refine lv_sipush (v := 255) hx hb dX5_lay_11 (by decide) ?_
    refine lv_iand hx hb dX5_lay_14 ?_
    refine lv_topi (fun v_ ev_ => ?_)
    obtain rfl : v_ = (byM p0 56) := ev_.trans (rfl)
    refine lv_istore (lv' := [(4, .int (byM p0 56)), (3, .int 56), (0, .ref h0), (1, .long p0)]) hx hb dX5_lay_15 hl (by decide) rfl (fun ls hl => ?_)
    refine lv_iload hx hb dX5_lay_17 (lv_at hl 0 rfl) ?_
    refine lv_bipush (v := 10) hx hb dX5_lay_19 (by decide) ?_
    refine lv_icmp_eq (tgt := 38) hx hb dX5_lay_21 (by decide) (fun c_21 => ?_) (fun c_21 => ?_)
    · skip
      refine lv_aload_n hx hb dX5_lay_38 rfl (lv_at hl 2 rfl) ?_
      refine va_get (D := (dC, dI)) (ci := 5) (v := .int (nI a)) (C := RX5) (T := TX5) (N := 30) hx hb hts i5 hown hK hP 0 rfl rfl 2 (by decide) (hts (.fieldLink RX5 11 "StopSetterModel" "taped" "I") (by decide +kernel)) (fun _ h9 => h9) rfl dX5_lay_39 ?_
      refine lv_sipush (v := 1600) hx hb dX5_lay_42 (by decide) ?_
      refine lv_icmp_ge (tgt := 69) hx hb dX5_lay_45 (by decide) (fun c_45 => ?_) (fun c_45 => ?_)
      · skip
        refine lv_iinc (v := 48) (lv' := [(3, .int 48), (4, .int (byM p0 56)), (0, .ref h0), (1, .long p0)]) hx hb dX5_lay_69 hl (k := 1) rfl (by decide) (by decide) rfl (fun ls hl => ?_)
        refine lv_goto (tgt := 3) hx hb dX5_lay_72 (by decide) ?_
        exact lp_3_48 a fa (by have h7 : sgn a (byM p0 56) = a := (by simp only [sgn, if_pos c_21, if_pos c_45]); have h8 := sgn_le (c := byM p0 56) ha; rw [h7] at h8; exact h8) (by have h7 : sgn a (byM p0 56) = a := (by simp only [sgn, if_pos c_21, if_pos c_45]); have h8 : sgF (byM p0) [48, 40, 32, 24, 16, 8, 0] (sgn a (byM p0 56)) = T := hT; rw [h7] at h8; exact h8) _ _ _ hP hD hS (lv_sub hl [0, 2, 3] rfl)
      · skip
        have hn3 : a < 1600 := nk_lt (N := 1600) rfl c_45 (by omega)
        refine lv_aload_n hx hb dX5_lay_48 rfl (lv_at hl 2 rfl) ?_
        refine va_get (D := (dC, dI)) (ci := 5) (v := .ref Mtape) (C := RX5) (T := TX5) (N := 30) hx hb hts i5 hown hK hP 0 rfl rfl 1 (by decide) (hts (.fieldLink RX5 14 "StopSetterModel" "tape" "[I") (by decide +kernel)) (fun _ h9 => h9) rfl dX5_lay_49 ?_
        refine lv_aload_n hx hb dX5_lay_52 rfl (lv_at hl 2 rfl) ?_
        refine va_get (D := (dC, dI)) (ci := 5) (v := .int (nI a)) (C := RX5) (T := TX5) (N := 30) hx hb hts i5 hown hK hP 0 rfl rfl 2 (by decide) (hts (.fieldLink RX5 11 "StopSetterModel" "taped" "I") (by decide +kernel)) (fun _ h9 => h9) rfl dX5_lay_53 ?_
        refine lv_iload hx hb dX5_lay_56 (lv_at hl 0 rfl) ?_
        refine va_iast hx hb hK hP hD hS 1 0 rfl rfl (vp_in_nI hn3 (by decide)) dX5_lay_58 (fun H locs hP hD hS => ?_)
        have hP : va_P (dC, dI) vwCl [(h0, .inr (5, [.int 0, .ref Mtape, .int (nI a), .int 0, .ref Msort, .ref Mplace, .ref Mvalue, .int 0, .int 0, .ref Mwords, .int 0, .int 0, .ref Mgoes, .ref MgoLine, .ref Mends, .ref MendLine, .ref Mkinds, .ref MisName, .int 0, .ref Mrow, .ref MbyHand, .ref Mleast, .ref Msecond, .ref MendAt, .ref MgoAt, .ref MnodeBehind, .int 0, .ref MisOut, .ref MfirstEnd, .ref MfirstGo])), (Mtape, .inl (cI, 1600, .inl (upd fa ((nI a).toNatClampNeg) (byM p0 56))))] H := hP
        have hD : va_D A [(h0, .inr (5, [.int 0, .ref Mtape, .int (nI a), .int 0, .ref Msort, .ref Mplace, .ref Mvalue, .int 0, .int 0, .ref Mwords, .int 0, .int 0, .ref Mgoes, .ref MgoLine, .ref Mends, .ref MendLine, .ref Mkinds, .ref MisName, .int 0, .ref Mrow, .ref MbyHand, .ref Mleast, .ref Msecond, .ref MendAt, .ref MgoAt, .ref MnodeBehind, .int 0, .ref MisOut, .ref MfirstEnd, .ref MfirstGo])), (Mtape, .inl (cI, 1600, .inl (upd fa ((nI a).toNatClampNeg) (byM p0 56))))] := hD
        refine lv_aload_n hx hb dX5_lay_59 rfl (lv_at hl 2 rfl) ?_
        refine lv_dup hx hb dX5_lay_60 rfl ?_
        refine va_get (D := (dC, dI)) (ci := 5) (v := .int (nI a)) (C := RX5) (T := TX5) (N := 30) hx hb hts i5 hown hK hP 0 rfl rfl 2 (by decide) (hts (.fieldLink RX5 11 "StopSetterModel" "taped" "I") (by decide +kernel)) (fun _ h9 => h9) rfl dX5_lay_61 ?_
        refine lv_iconst (v := 1) hx hb dX5_lay_64 (by decide) ?_
        refine lv_iadd hx hb dX5_lay_65 ?_
        refine lv_topi (fun v_ ev_ => ?_)
        obtain rfl : v_ = (nI (a + 1)) := ev_.trans (nI_1 a)
        refine va_put (D := (dC, dI)) (ci := 5) (v := .int (nI (a + 1))) (ty := tyX5 2) (C := RX5) (T := TX5) (N := 30) hx hb hts i5 tyX5 tyX5_ok nmX5 hown hK hP hD hS 0 rfl rfl 2 (by decide) (hts (.fieldLink RX5 11 "StopSetterModel" "taped" "I") (by decide +kernel)) (fun _ h9 => h9) rfl (by decide +kernel) rfl rfl (Nat.le_of_ble_eq_true rfl) dX5_lay_66 (fun H locs hP hD hS => ?_)
        have hP : va_P (dC, dI) vwCl [(h0, .inr (5, [.int 0, .ref Mtape, .int (nI (a + 1)), .int 0, .ref Msort, .ref Mplace, .ref Mvalue, .int 0, .int 0, .ref Mwords, .int 0, .int 0, .ref Mgoes, .ref MgoLine, .ref Mends, .ref MendLine, .ref Mkinds, .ref MisName, .int 0, .ref Mrow, .ref MbyHand, .ref Mleast, .ref Msecond, .ref MendAt, .ref MgoAt, .ref MnodeBehind, .int 0, .ref MisOut, .ref MfirstEnd, .ref MfirstGo])), (Mtape, .inl (cI, 1600, .inl (upd fa ((nI a).toNatClampNeg) (byM p0 56))))] H := hP
        have hD : va_D A [(h0, .inr (5, [.int 0, .ref Mtape, .int (nI (a + 1)), .int 0, .ref Msort, .ref Mplace, .ref Mvalue, .int 0, .int 0, .ref Mwords, .int 0, .int 0, .ref Mgoes, .ref MgoLine, .ref Mends, .ref MendLine, .ref Mkinds, .ref MisName, .int 0, .ref Mrow, .ref MbyHand, .ref Mleast, .ref Msecond, .ref MendAt, .ref MgoAt, .ref MnodeBehind, .int 0, .ref MisOut, .ref MfirstEnd, .ref MfirstGo])), (Mtape, .inl (cI, 1600, .inl (upd fa ((nI a).toNatClampNeg) (byM p0 56))))] := hD
        refine lv_iinc (v := 48) (lv' := [(3, .int 48), (4, .int (byM p0 56)), (0, .ref h0), (1, .long p0)]) hx hb dX5_lay_69 hl (k := 1) rfl (by decide) (by decide) rfl (fun ls hl => ?_)
        refine lv_goto (tgt := 3) hx hb dX5_lay_72 (by decide) ?_
        exact lp_3_48 (a + 1) (upd fa ((nI a).toNatClampNeg) (byM p0 56)) (by have h7 : sgn a (byM p0 56) = a + 1 := (by simp only [sgn, if_pos c_21, if_neg c_45]); have h8 := sgn_le (c := byM p0 56) ha; rw [h7] at h8; exact h8) (by have h7 : sgn a (byM p0 56) = a + 1 := (by simp only [sgn, if_pos c_21, if_neg c_45]); have h8 : sgF (byM p0) [48, 40, 32, 24, 16, 8, 0] (sgn a (byM p0 56)) = T := hT; rw [h7] at h8; exact h8) _ _ _ hP hD hS (lv_sub hl [0, 2, 3] rfl)
    · skip
      refine lv_iload hx hb dX5_lay_24 (lv_at hl 0 rfl) ?_
      refine lv_bipush (v := 32) hx hb dX5_lay_26 (by decide) ?_
      refine lv_icmp_lt (tgt := 69) hx hb dX5_lay_28 (by decide) (fun c_28 => ?_) (fun c_28 => ?_)
      · skip
        refine lv_iinc (v := 48) (lv' := [(3, .int 48), (4, .int (byM p0 56)), (0, .ref h0), (1, .long p0)]) hx hb dX5_lay_69 hl (k := 1) rfl (by decide) (by decide) rfl (fun ls hl => ?_)
        refine lv_goto (tgt := 3) hx hb dX5_lay_72 (by decide) ?_
        exact lp_3_48 a fa (by have h7 : sgn a (byM p0 56) = a := (by simp only [sgn, if_neg c_21, if_pos c_28]); have h8 := sgn_le (c := byM p0 56) ha; rw [h7] at h8; exact h8) (by have h7 : sgn a (byM p0 56) = a := (by simp only [sgn, if_neg c_21, if_pos c_28]); have h8 : sgF (byM p0) [48, 40, 32, 24, 16, 8, 0] (sgn a (byM p0 56)) = T := hT; rw [h7] at h8; exact h8) _ _ _ hP hD hS (lv_sub hl [0, 2, 3] rfl)
      · skip
        refine lv_iload hx hb dX5_lay_31 (lv_at hl 0 rfl) ?_
        refine lv_bipush (v := 126) hx hb dX5_lay_33 (by decide) ?_
        refine lv_icmp_gt (tgt := 69) hx hb dX5_lay_35 (by decide) (fun c_35 => ?_) (fun c_35 => ?_)
        · skip
          refine lv_iinc (v := 48) (lv' := [(3, .int 48), (4, .int (byM p0 56)), (0, .ref h0), (1, .long p0)]) hx hb dX5_lay_69 hl (k := 1) rfl (by decide) (by decide) rfl (fun ls hl => ?_)
          refine lv_goto (tgt := 3) hx hb dX5_lay_72 (by decide) ?_
          exact lp_3_48 a fa (by have h7 : sgn a (byM p0 56) = a := (by simp only [sgn, if_neg c_21, if_neg c_28, if_pos c_35]); have h8 := sgn_le (c := byM p0 56) ha; rw [h7] at h8; exact h8) (by have h7 : sgn a (byM p0 56) = a := (by simp only [sgn, if_neg c_21, if_neg c_28, if_pos c_35]); have h8 : sgF (byM p0) [48, 40, 32, 24, 16, 8, 0] (sgn a (byM p0 56)) = T := hT; rw [h7] at h8; exact h8) _ _ _ hP hD hS (lv_sub hl [0, 2, 3] rfl)
        · skip
          refine lv_aload_n hx hb dX5_lay_38 rfl (lv_at hl 2 rfl) ?_
          refine va_get (D := (dC, dI)) (ci := 5) (v := .int (nI a)) (C := RX5) (T := TX5) (N := 30) hx hb hts i5 hown hK hP 0 rfl rfl 2 (by decide) (hts (.fieldLink RX5 11 "StopSetterModel" "taped" "I") (by decide +kernel)) (fun _ h9 => h9) rfl dX5_lay_39 ?_
          refine lv_sipush (v := 1600) hx hb dX5_lay_42 (by decide) ?_
          refine lv_icmp_ge (tgt := 69) hx hb dX5_lay_45 (by decide) (fun c_45 => ?_) (fun c_45 => ?_)
          · skip
            refine lv_iinc (v := 48) (lv' := [(3, .int 48), (4, .int (byM p0 56)), (0, .ref h0), (1, .long p0)]) hx hb dX5_lay_69 hl (k := 1) rfl (by decide) (by decide) rfl (fun ls hl => ?_)
            refine lv_goto (tgt := 3) hx hb dX5_lay_72 (by decide) ?_
            exact lp_3_48 a fa (by have h7 : sgn a (byM p0 56) = a := (by simp only [sgn, if_neg c_21, if_neg c_28, if_neg c_35, if_pos c_45]); have h8 := sgn_le (c := byM p0 56) ha; rw [h7] at h8; exact h8) (by have h7 : sgn a (byM p0 56) = a := (by simp only [sgn, if_neg c_21, if_neg c_28, if_neg c_35, if_pos c_45]); have h8 : sgF (byM p0) [48, 40, 32, 24, 16, 8, 0] (sgn a (byM p0 56)) = T := hT; rw [h7] at h8; exact h8) _ _ _ hP hD hS (lv_sub hl [0, 2, 3] rfl)
          · skip
            have hn3 : a < 1600 := nk_lt (N := 1600) rfl c_45 (by omega)
            refine lv_aload_n hx hb dX5_lay_48 rfl (lv_at hl 2 rfl) ?_
            refine va_get (D := (dC, dI)) (ci := 5) (v := .ref Mtape) (C := RX5) (T := TX5) (N := 30) hx hb hts i5 hown hK hP 0 rfl rfl 1 (by decide) (hts (.fieldLink RX5 14 "StopSetterModel" "tape" "[I") (by decide +kernel)) (fun _ h9 => h9) rfl dX5_lay_49 ?_
            refine lv_aload_n hx hb dX5_lay_52 rfl (lv_at hl 2 rfl) ?_
            refine va_get (D := (dC, dI)) (ci := 5) (v := .int (nI a)) (C := RX5) (T := TX5) (N := 30) hx hb hts i5 hown hK hP 0 rfl rfl 2 (by decide) (hts (.fieldLink RX5 11 "StopSetterModel" "taped" "I") (by decide +kernel)) (fun _ h9 => h9) rfl dX5_lay_53 ?_
            refine lv_iload hx hb dX5_lay_56 (lv_at hl 0 rfl) ?_
            refine va_iast hx hb hK hP hD hS 1 0 rfl rfl (vp_in_nI hn3 (by decide)) dX5_lay_58 (fun H locs hP hD hS => ?_)
            have hP : va_P (dC, dI) vwCl [(h0, .inr (5, [.int 0, .ref Mtape, .int (nI a), .int 0, .ref Msort, .ref Mplace, .ref Mvalue, .int 0, .int 0, .ref Mwords, .int 0, .int 0, .ref Mgoes, .ref MgoLine, .ref Mends, .ref MendLine, .ref Mkinds, .ref MisName, .int 0, .ref Mrow, .ref MbyHand, .ref Mleast, .ref Msecond, .ref MendAt, .ref MgoAt, .ref MnodeBehind, .int 0, .ref MisOut, .ref MfirstEnd, .ref MfirstGo])), (Mtape, .inl (cI, 1600, .inl (upd fa ((nI a).toNatClampNeg) (byM p0 56))))] H := hP
            have hD : va_D A [(h0, .inr (5, [.int 0, .ref Mtape, .int (nI a), .int 0, .ref Msort, .ref Mplace, .ref Mvalue, .int 0, .int 0, .ref Mwords, .int 0, .int 0, .ref Mgoes, .ref MgoLine, .ref Mends, .ref MendLine, .ref Mkinds, .ref MisName, .int 0, .ref Mrow, .ref MbyHand, .ref Mleast, .ref Msecond, .ref MendAt, .ref MgoAt, .ref MnodeBehind, .int 0, .ref MisOut, .ref MfirstEnd, .ref MfirstGo])), (Mtape, .inl (cI, 1600, .inl (upd fa ((nI a).toNatClampNeg) (byM p0 56))))] := hD
            refine lv_aload_n hx hb dX5_lay_59 rfl (lv_at hl 2 rfl) ?_
            refine lv_dup hx hb dX5_lay_60 rfl ?_
            refine va_get (D := (dC, dI)) (ci := 5) (v := .int (nI a)) (C := RX5) (T := TX5) (N := 30) hx hb hts i5 hown hK hP 0 rfl rfl 2 (by decide) (hts (.fieldLink RX5 11 "StopSetterModel" "taped" "I") (by decide +kernel)) (fun _ h9 => h9) rfl dX5_lay_61 ?_
            refine lv_iconst (v := 1) hx hb dX5_lay_64 (by decide) ?_
            refine lv_iadd hx hb dX5_lay_65 ?_
            refine lv_topi (fun v_ ev_ => ?_)
            obtain rfl : v_ = (nI (a + 1)) := ev_.trans (nI_1 a)
            refine va_put (D := (dC, dI)) (ci := 5) (v := .int (nI (a + 1))) (ty := tyX5 2) (C := RX5) (T := TX5) (N := 30) hx hb hts i5 tyX5 tyX5_ok nmX5 hown hK hP hD hS 0 rfl rfl 2 (by decide) (hts (.fieldLink RX5 11 "StopSetterModel" "taped" "I") (by decide +kernel)) (fun _ h9 => h9) rfl (by decide +kernel) rfl rfl (Nat.le_of_ble_eq_true rfl) dX5_lay_66 (fun H locs hP hD hS => ?_)
            have hP : va_P (dC, dI) vwCl [(h0, .inr (5, [.int 0, .ref Mtape, .int (nI (a + 1)), .int 0, .ref Msort, .ref Mplace, .ref Mvalue, .int 0, .int 0, .ref Mwords, .int 0, .int 0, .ref Mgoes, .ref MgoLine, .ref Mends, .ref MendLine, .ref Mkinds, .ref MisName, .int 0, .ref Mrow, .ref MbyHand, .ref Mleast, .ref Msecond, .ref MendAt, .ref MgoAt, .ref MnodeBehind, .int 0, .ref MisOut, .ref MfirstEnd, .ref MfirstGo])), (Mtape, .inl (cI, 1600, .inl (upd fa ((nI a).toNatClampNeg) (byM p0 56))))] H := hP
            have hD : va_D A [(h0, .inr (5, [.int 0, .ref Mtape, .int (nI (a + 1)), .int 0, .ref Msort, .ref Mplace, .ref Mvalue, .int 0, .int 0, .ref Mwords, .int 0, .int 0, .ref Mgoes, .ref MgoLine, .ref Mends, .ref MendLine, .ref Mkinds, .ref MisName, .int 0, .ref Mrow, .ref MbyHand, .ref Mleast, .ref Msecond, .ref MendAt, .ref MgoAt, .ref MnodeBehind, .int 0, .ref MisOut, .ref MfirstEnd, .ref MfirstGo])), (Mtape, .inl (cI, 1600, .inl (upd fa ((nI a).toNatClampNeg) (byM p0 56))))] := hD
            refine lv_iinc (v := 48) (lv' := [(3, .int 48), (4, .int (byM p0 56)), (0, .ref h0), (1, .long p0)]) hx hb dX5_lay_69 hl (k := 1) rfl (by decide) (by decide) rfl (fun ls hl => ?_)
            refine lv_goto (tgt := 3) hx hb dX5_lay_72 (by decide) ?_
            exact lp_3_48 (a + 1) (upd fa ((nI a).toNatClampNeg) (byM p0 56)) (by have h7 : sgn a (byM p0 56) = a + 1 := (by simp only [sgn, if_neg c_21, if_neg c_28, if_neg c_35, if_neg c_45]); have h8 := sgn_le (c := byM p0 56) ha; rw [h7] at h8; exact h8) (by have h7 : sgn a (byM p0 56) = a + 1 := (by simp only [sgn, if_neg c_21, if_neg c_28, if_neg c_35, if_neg c_45]); have h8 : sgF (byM p0) [48, 40, 32, 24, 16, 8, 0] (sgn a (byM p0 56)) = T := hT; rw [h7] at h8; exact h8) _ _ _ hP hD hS (lv_sub hl [0, 2, 3] rfl)
  exact lp_3_56 n fs (hn) (eT.symm) _ _ _ hP hD hS (lv_sub hl [0, 1, 2] rfl)
set_option maxHeartbeats 4000000 in
set_option maxRecDepth 100000 in
theorem k_mfeed (l : Launch) (dC : Nat → ClassId) (dI : Nat → Nat → Nat) (cI cZ cC cJ : ClassId) (sz : Nat) (h0 : Nat) (Mtape : Nat) (Msort : Nat) (Mplace : Nat) (Mvalue : Nat) (Mwords : Nat) (Mgoes : Nat) (MgoLine : Nat) (Mends : Nat) (MendLine : Nat) (Mkinds : Nat) (MisName : Nat) (Mrow : Nat) (MbyHand : Nat) (Mleast : Nat) (Msecond : Nat) (MendAt : Nat) (MgoAt : Nat) (MnodeBehind : Nat) (MisOut : Nat) (MfirstEnd : Nat) (MfirstGo : Nat) (n : Nat) (fs : Nat → Int32) (p0 : Int64) (p1 : Int64) (p2 : Int64) (hn : n ≤ 1600) : Met l yX5_feed wsX5_feed ({ frames := 1, cells := 0, slots := 0, locals := 24 }) (va_Pc [.ref h0, .long p0, .long p1, .long p2] (sPre dC dI cI cZ cC cJ [(h0, .inr (5, [.int 0, .ref Mtape, .int (nI n), .int 0, .ref Msort, .ref Mplace, .ref Mvalue, .int 0, .int 0, .ref Mwords, .int 0, .int 0, .ref Mgoes, .ref MgoLine, .ref Mends, .ref MendLine, .ref Mkinds, .ref MisName, .int 0, .ref Mrow, .ref MbyHand, .ref Mleast, .ref Msecond, .ref MendAt, .ref MgoAt, .ref MnodeBehind, .int 0, .ref MisOut, .ref MfirstEnd, .ref MfirstGo])), (Mtape, .inl (cI, 1600, .inl fs))] sz)) (va_Qi (fun (r : Int32) (u : Unit) => r = nI (sgF (byM p2) ks8 (sgF (byM p1) ks8 (sgF (byM p0) ks8 n)))) (fun _ => sB dC dI (va_A [(h0, .inr (5, [.int 0, .ref Mtape, .int (nI n), .int 0, .ref Msort, .ref Mplace, .ref Mvalue, .int 0, .int 0, .ref Mwords, .int 0, .int 0, .ref Mgoes, .ref MgoLine, .ref Mends, .ref MendLine, .ref Mkinds, .ref MisName, .int 0, .ref Mrow, .ref MbyHand, .ref Mleast, .ref Msecond, .ref MendAt, .ref MgoAt, .ref MnodeBehind, .int 0, .ref MisOut, .ref MfirstEnd, .ref MfirstGo])), (Mtape, .inl (cI, 1600, .inl fs))] sz) []) (va_A [(h0, .inr (5, [.int 0, .ref Mtape, .int (nI n), .int 0, .ref Msort, .ref Mplace, .ref Mvalue, .int 0, .int 0, .ref Mwords, .int 0, .int 0, .ref Mgoes, .ref MgoLine, .ref Mends, .ref MendLine, .ref Mkinds, .ref MisName, .int 0, .ref Mrow, .ref MbyHand, .ref Mleast, .ref Msecond, .ref MendAt, .ref MgoAt, .ref MnodeBehind, .int 0, .ref MisOut, .ref MfirstEnd, .ref MfirstGo])), (Mtape, .inl (cI, 1600, .inl fs))] sz)) 0 0 (va_A [(h0, .inr (5, [.int 0, .ref Mtape, .int (nI n), .int 0, .ref Msort, .ref Mplace, .ref Mvalue, .int 0, .int 0, .ref Mwords, .int 0, .int 0, .ref Mgoes, .ref MgoLine, .ref Mends, .ref MendLine, .ref Mkinds, .ref MisName, .int 0, .ref Mrow, .ref MbyHand, .ref Mleast, .ref Msecond, .ref MendAt, .ref MgoAt, .ref MnodeBehind, .int 0, .ref MisOut, .ref MfirstEnd, .ref MfirstGo])), (Mtape, .inl (cI, 1600, .inl fs))] sz) := by
  refine Met.ofW (cc := cX5_feed) (maxL := 7) (ret := (some .int)) (by decide) rfl ?_
  intro p e s m args below meth c s₁ B hml hv
  obtain ⟨rfl, hsz, hP, hsk, hD0⟩ := hv
  have hx := B.exec
  have hb := B.bytes
  have hr := B.returns
  have hts := atoms_spec (ws := wsX5_feed) B.pre
  have hown : s.vm.findClass RX5 = some m.cls := findClass_of_methodNamed B.named
  have hlocks := B.notSynchronized
  have hK := hsk.1
  have i5 : ∀ w ∈ wsX50, w ∈ wsX5_feed := by decide +kernel
  subst hsz
  have hD := hD0.self (sz := s.heap.size)
  generalize hAe : va_A [(h0, .inr (5, [.int 0, .ref Mtape, .int (nI n), .int 0, .ref Msort, .ref Mplace, .ref Mvalue, .int 0, .int 0, .ref Mwords, .int 0, .int 0, .ref Mgoes, .ref MgoLine, .ref Mends, .ref MendLine, .ref Mkinds, .ref MisName, .int 0, .ref Mrow, .ref MbyHand, .ref Mleast, .ref Msecond, .ref MendAt, .ref MgoAt, .ref MnodeBehind, .int 0, .ref MisOut, .ref MfirstEnd, .ref MfirstGo])), (Mtape, .inl (cI, 1600, .inl fs))] s.heap.size = A at hD ⊢
  have hA : ∀ q : Nat, s.heap.size ≤ q → A q := fun q h => by rw [← hAe]; exact Or.inr h
  have hS : va_S A s.heap s.heap [] := va_S.rf
  have hl := lv_entry ([.ref h0, .long p0, .long p1, .long p2]) (n := 7) (Nat.le_of_ble_eq_true rfl)
  rw [lg_entry_eq]
  generalize (lg_sl ([.ref h0, .long p0, .long p1, .long p2]) ++ List.replicate (7 - (lg_sl ([.ref h0, .long p0, .long p1, .long p2])).length) Slot.unset).toArray = ls at hl ⊢
  have hl : lv_has ls 7 [(0, .ref h0), (1, .long p0), (3, .long p1), (5, .long p2)] := hl
  refine lv_aload_n hx hb dX5_feed_0 rfl (lv_at hl 0 rfl) ?_
  refine lv_iconst (v := 0) hx hb dX5_feed_1 (by decide) ?_
  refine va_put (D := (dC, dI)) (ci := 5) (v := .int 0) (ty := tyX5 0) (C := RX5) (T := TX5) (N := 30) hx hb hts i5 tyX5 tyX5_ok nmX5 hown hK hP hD hS 0 rfl rfl 0 (by decide) (hts (.fieldLink RX5 1 "StopSetterModel" "thrown" "I") (by decide +kernel)) (fun _ h9 => h9) rfl (by decide +kernel) rfl rfl (Nat.le_of_ble_eq_true rfl) dX5_feed_2 (fun H locs hP hD hS => ?_)
  have hP : va_P (dC, dI) vwCl [(h0, .inr (5, [.int 0, .ref Mtape, .int (nI n), .int 0, .ref Msort, .ref Mplace, .ref Mvalue, .int 0, .int 0, .ref Mwords, .int 0, .int 0, .ref Mgoes, .ref MgoLine, .ref Mends, .ref MendLine, .ref Mkinds, .ref MisName, .int 0, .ref Mrow, .ref MbyHand, .ref Mleast, .ref Msecond, .ref MendAt, .ref MgoAt, .ref MnodeBehind, .int 0, .ref MisOut, .ref MfirstEnd, .ref MfirstGo])), (Mtape, .inl (cI, 1600, .inl fs))] H := hP
  have hD : va_D A [(h0, .inr (5, [.int 0, .ref Mtape, .int (nI n), .int 0, .ref Msort, .ref Mplace, .ref Mvalue, .int 0, .int 0, .ref Mwords, .int 0, .int 0, .ref Mgoes, .ref MgoLine, .ref Mends, .ref MendLine, .ref Mkinds, .ref MisName, .int 0, .ref Mrow, .ref MbyHand, .ref Mleast, .ref Msecond, .ref MendAt, .ref MgoAt, .ref MnodeBehind, .int 0, .ref MisOut, .ref MfirstEnd, .ref MfirstGo])), (Mtape, .inl (cI, 1600, .inl fs))] := hD
  refine lv_aload_n hx hb dX5_feed_5 rfl (lv_at hl 0 rfl) ?_
  refine lv_lload_n hx hb dX5_feed_6 rfl (lv_at hl 1 rfl) ?_
  have hPc := hP.sub (ws' := [(h0, .inr (5, [.int 0, .ref Mtape, .int (nI n), .int 0, .ref Msort, .ref Mplace, .ref Mvalue, .int 0, .int 0, .ref Mwords, .int 0, .int 0, .ref Mgoes, .ref MgoLine, .ref Mends, .ref MendLine, .ref Mkinds, .ref MisName, .int 0, .ref Mrow, .ref MbyHand, .ref Mleast, .ref Msecond, .ref MendAt, .ref MgoAt, .ref MnodeBehind, .int 0, .ref MisOut, .ref MfirstEnd, .ref MfirstGo])), (Mtape, .inl (cI, 1600, .inl fs))]) [0, 1] rfl
  have hDc := hD.sub (ws' := [(h0, .inr (5, [.int 0, .ref Mtape, .int (nI n), .int 0, .ref Msort, .ref Mplace, .ref Mvalue, .int 0, .int 0, .ref Mwords, .int 0, .int 0, .ref Mgoes, .ref MgoLine, .ref Mends, .ref MendLine, .ref Mkinds, .ref MisName, .int 0, .ref Mrow, .ref MbyHand, .ref Mleast, .ref Msecond, .ref MendAt, .ref MgoAt, .ref MnodeBehind, .int 0, .ref MisOut, .ref MfirstEnd, .ref MfirstGo])), (Mtape, .inl (cI, 1600, .inl fs))]) [0, 1] (by decide) rfl
  have hFc := va_free (wc := [(h0, .inr (5, [.int 0, .ref Mtape, .int (nI n), .int 0, .ref Msort, .ref Mplace, .ref Mvalue, .int 0, .int 0, .ref Mwords, .int 0, .int 0, .ref Mgoes, .ref MgoLine, .ref Mends, .ref MendLine, .ref Mkinds, .ref MisName, .int 0, .ref Mrow, .ref MbyHand, .ref Mleast, .ref Msecond, .ref MendAt, .ref MgoAt, .ref MnodeBehind, .int 0, .ref MisOut, .ref MfirstEnd, .ref MfirstGo])), (Mtape, .inl (cI, 1600, .inl fs))]) hD hS hA [0, 1] rfl
  refine va_callv (va_runV (As := [.long p0]) (rest := []) ⟨hx, hb, hml, hown, hts⟩ (k_lay l dC dI cI cZ cC cJ H.size h0 Mtape Msort Mplace Mvalue Mwords Mgoes MgoLine Mends MendLine Mkinds MisName Mrow MbyHand Mleast Msecond MendAt MgoAt MnodeBehind MisOut MfirstEnd MfirstGo n fs p0 hn) (cwV 1 hts gX5_feed_X5_lay rfl rfl rfl (by decide +kernel) ⟨Nat.le_of_ble_eq_true rfl, Nat.le_of_ble_eq_true rfl⟩) ⟨sPre_blind, va_recv hK hPc (ci := 5) (q0 := 0) rfl rfl, fun U hU hW => ⟨rfl, sPre_ok hsk hPc hDc hU hW⟩⟩ rfl rfl hl.1 rfl (lv_room (Nat.le_of_ble_eq_true rfl)) dX5_feed_7 ⟨(show 0 + 0 ≤ 0 by omega), (show 0 + 0 ≤ 0 by omega)⟩) hS (fun q _ h => hFc q h) hFc (fun u t H1 locs ht hvm hw hB hz1 hk1 hS => ?_)
  obtain ⟨g_2, l_3⟩ := u
  try dsimp only at hw hB
  have hw_4 := hw
  obtain rfl : l_3 = nI (sgF (byM p0) ks8 n) := hw_4
  obtain ⟨hP1, hD1⟩ := hB
  rw [ht] at hP1
  obtain ⟨hP, hD⟩ := va_join (wr := []) (w1 := [(h0, .inr (5, [.int 0, .ref Mtape, .int (nI (sgF (byM p0) ks8 n)), .int 0, .ref Msort, .ref Mplace, .ref Mvalue, .int 0, .int 0, .ref Mwords, .int 0, .int 0, .ref Mgoes, .ref MgoLine, .ref Mends, .ref MendLine, .ref Mkinds, .ref MisName, .int 0, .ref Mrow, .ref MbyHand, .ref Mleast, .ref Msecond, .ref MendAt, .ref MgoAt, .ref MnodeBehind, .int 0, .ref MisOut, .ref MfirstEnd, .ref MfirstGo])), (Mtape, .inl (cI, 1600, .inl g_2))]) hP hD [0, 1] [] rfl rfl (by decide) (by decide) hk1 hFc hP1 hD1
  generalize H1 = H at hP hS ⊢
  have hP : va_P (dC, dI) vwCl [(h0, .inr (5, [.int 0, .ref Mtape, .int (nI (sgF (byM p0) ks8 n)), .int 0, .ref Msort, .ref Mplace, .ref Mvalue, .int 0, .int 0, .ref Mwords, .int 0, .int 0, .ref Mgoes, .ref MgoLine, .ref Mends, .ref MendLine, .ref Mkinds, .ref MisName, .int 0, .ref Mrow, .ref MbyHand, .ref Mleast, .ref Msecond, .ref MendAt, .ref MgoAt, .ref MnodeBehind, .int 0, .ref MisOut, .ref MfirstEnd, .ref MfirstGo])), (Mtape, .inl (cI, 1600, .inl g_2))] H := hP
  have hD : va_D A [(h0, .inr (5, [.int 0, .ref Mtape, .int (nI (sgF (byM p0) ks8 n)), .int 0, .ref Msort, .ref Mplace, .ref Mvalue, .int 0, .int 0, .ref Mwords, .int 0, .int 0, .ref Mgoes, .ref MgoLine, .ref Mends, .ref MendLine, .ref Mkinds, .ref MisName, .int 0, .ref Mrow, .ref MbyHand, .ref Mleast, .ref Msecond, .ref MendAt, .ref MgoAt, .ref MnodeBehind, .int 0, .ref MisOut, .ref MfirstEnd, .ref MfirstGo])), (Mtape, .inl (cI, 1600, .inl g_2))] := hD
  refine lv_aload_n hx hb dX5_feed_10 rfl (lv_at hl 0 rfl) ?_
  refine lv_lload_n hx hb dX5_feed_11 rfl (lv_at hl 2 rfl) ?_
  have hPc := hP.sub (ws' := [(h0, .inr (5, [.int 0, .ref Mtape, .int (nI (sgF (byM p0) ks8 n)), .int 0, .ref Msort, .ref Mplace, .ref Mvalue, .int 0, .int 0, .ref Mwords, .int 0, .int 0, .ref Mgoes, .ref MgoLine, .ref Mends, .ref MendLine, .ref Mkinds, .ref MisName, .int 0, .ref Mrow, .ref MbyHand, .ref Mleast, .ref Msecond, .ref MendAt, .ref MgoAt, .ref MnodeBehind, .int 0, .ref MisOut, .ref MfirstEnd, .ref MfirstGo])), (Mtape, .inl (cI, 1600, .inl g_2))]) [0, 1] rfl
  have hDc := hD.sub (ws' := [(h0, .inr (5, [.int 0, .ref Mtape, .int (nI (sgF (byM p0) ks8 n)), .int 0, .ref Msort, .ref Mplace, .ref Mvalue, .int 0, .int 0, .ref Mwords, .int 0, .int 0, .ref Mgoes, .ref MgoLine, .ref Mends, .ref MendLine, .ref Mkinds, .ref MisName, .int 0, .ref Mrow, .ref MbyHand, .ref Mleast, .ref Msecond, .ref MendAt, .ref MgoAt, .ref MnodeBehind, .int 0, .ref MisOut, .ref MfirstEnd, .ref MfirstGo])), (Mtape, .inl (cI, 1600, .inl g_2))]) [0, 1] (by decide) rfl
  have hFc := va_free (wc := [(h0, .inr (5, [.int 0, .ref Mtape, .int (nI (sgF (byM p0) ks8 n)), .int 0, .ref Msort, .ref Mplace, .ref Mvalue, .int 0, .int 0, .ref Mwords, .int 0, .int 0, .ref Mgoes, .ref MgoLine, .ref Mends, .ref MendLine, .ref Mkinds, .ref MisName, .int 0, .ref Mrow, .ref MbyHand, .ref Mleast, .ref Msecond, .ref MendAt, .ref MgoAt, .ref MnodeBehind, .int 0, .ref MisOut, .ref MfirstEnd, .ref MfirstGo])), (Mtape, .inl (cI, 1600, .inl g_2))]) hD hS hA [0, 1] rfl
  refine va_callv (va_runV (As := [.long p1]) (rest := []) ⟨hx, hb, hml, hown, hts⟩ (k_lay l dC dI cI cZ cC cJ H.size h0 Mtape Msort Mplace Mvalue Mwords Mgoes MgoLine Mends MendLine Mkinds MisName Mrow MbyHand Mleast Msecond MendAt MgoAt MnodeBehind MisOut MfirstEnd MfirstGo (sgF (byM p0) ks8 n) g_2 p1 (sgF_le _ _ _ hn)) (cwV 1 hts gX5_feed_X5_lay rfl rfl rfl (by decide +kernel) ⟨Nat.le_of_ble_eq_true rfl, Nat.le_of_ble_eq_true rfl⟩) ⟨sPre_blind, va_recv hK hPc (ci := 5) (q0 := 0) rfl rfl, fun U hU hW => ⟨rfl, sPre_ok hsk hPc hDc hU hW⟩⟩ rfl rfl hl.1 rfl (lv_room (Nat.le_of_ble_eq_true rfl)) dX5_feed_12 ⟨(show 0 + 0 ≤ 0 by omega), (show 0 + 0 ≤ 0 by omega)⟩) hS (fun q _ h => hFc q h) hFc (fun u t H1 locs ht hvm hw hB hz1 hk1 hS => ?_)
  obtain ⟨g_6, l_7⟩ := u
  try dsimp only at hw hB
  have hw_8 := hw
  obtain rfl : l_7 = nI (sgF (byM p1) ks8 (sgF (byM p0) ks8 n)) := hw_8
  obtain ⟨hP1, hD1⟩ := hB
  rw [ht] at hP1
  obtain ⟨hP, hD⟩ := va_join (wr := []) (w1 := [(h0, .inr (5, [.int 0, .ref Mtape, .int (nI (sgF (byM p1) ks8 (sgF (byM p0) ks8 n))), .int 0, .ref Msort, .ref Mplace, .ref Mvalue, .int 0, .int 0, .ref Mwords, .int 0, .int 0, .ref Mgoes, .ref MgoLine, .ref Mends, .ref MendLine, .ref Mkinds, .ref MisName, .int 0, .ref Mrow, .ref MbyHand, .ref Mleast, .ref Msecond, .ref MendAt, .ref MgoAt, .ref MnodeBehind, .int 0, .ref MisOut, .ref MfirstEnd, .ref MfirstGo])), (Mtape, .inl (cI, 1600, .inl g_6))]) hP hD [0, 1] [] rfl rfl (by decide) (by decide) hk1 hFc hP1 hD1
  generalize H1 = H at hP hS ⊢
  have hP : va_P (dC, dI) vwCl [(h0, .inr (5, [.int 0, .ref Mtape, .int (nI (sgF (byM p1) ks8 (sgF (byM p0) ks8 n))), .int 0, .ref Msort, .ref Mplace, .ref Mvalue, .int 0, .int 0, .ref Mwords, .int 0, .int 0, .ref Mgoes, .ref MgoLine, .ref Mends, .ref MendLine, .ref Mkinds, .ref MisName, .int 0, .ref Mrow, .ref MbyHand, .ref Mleast, .ref Msecond, .ref MendAt, .ref MgoAt, .ref MnodeBehind, .int 0, .ref MisOut, .ref MfirstEnd, .ref MfirstGo])), (Mtape, .inl (cI, 1600, .inl g_6))] H := hP
  have hD : va_D A [(h0, .inr (5, [.int 0, .ref Mtape, .int (nI (sgF (byM p1) ks8 (sgF (byM p0) ks8 n))), .int 0, .ref Msort, .ref Mplace, .ref Mvalue, .int 0, .int 0, .ref Mwords, .int 0, .int 0, .ref Mgoes, .ref MgoLine, .ref Mends, .ref MendLine, .ref Mkinds, .ref MisName, .int 0, .ref Mrow, .ref MbyHand, .ref Mleast, .ref Msecond, .ref MendAt, .ref MgoAt, .ref MnodeBehind, .int 0, .ref MisOut, .ref MfirstEnd, .ref MfirstGo])), (Mtape, .inl (cI, 1600, .inl g_6))] := hD
  refine lv_aload_n hx hb dX5_feed_15 rfl (lv_at hl 0 rfl) ?_
  refine lv_lload hx hb dX5_feed_16 (lv_at hl 3 rfl) ?_
  have hPc := hP.sub (ws' := [(h0, .inr (5, [.int 0, .ref Mtape, .int (nI (sgF (byM p1) ks8 (sgF (byM p0) ks8 n))), .int 0, .ref Msort, .ref Mplace, .ref Mvalue, .int 0, .int 0, .ref Mwords, .int 0, .int 0, .ref Mgoes, .ref MgoLine, .ref Mends, .ref MendLine, .ref Mkinds, .ref MisName, .int 0, .ref Mrow, .ref MbyHand, .ref Mleast, .ref Msecond, .ref MendAt, .ref MgoAt, .ref MnodeBehind, .int 0, .ref MisOut, .ref MfirstEnd, .ref MfirstGo])), (Mtape, .inl (cI, 1600, .inl g_6))]) [0, 1] rfl
  have hDc := hD.sub (ws' := [(h0, .inr (5, [.int 0, .ref Mtape, .int (nI (sgF (byM p1) ks8 (sgF (byM p0) ks8 n))), .int 0, .ref Msort, .ref Mplace, .ref Mvalue, .int 0, .int 0, .ref Mwords, .int 0, .int 0, .ref Mgoes, .ref MgoLine, .ref Mends, .ref MendLine, .ref Mkinds, .ref MisName, .int 0, .ref Mrow, .ref MbyHand, .ref Mleast, .ref Msecond, .ref MendAt, .ref MgoAt, .ref MnodeBehind, .int 0, .ref MisOut, .ref MfirstEnd, .ref MfirstGo])), (Mtape, .inl (cI, 1600, .inl g_6))]) [0, 1] (by decide) rfl
  have hFc := va_free (wc := [(h0, .inr (5, [.int 0, .ref Mtape, .int (nI (sgF (byM p1) ks8 (sgF (byM p0) ks8 n))), .int 0, .ref Msort, .ref Mplace, .ref Mvalue, .int 0, .int 0, .ref Mwords, .int 0, .int 0, .ref Mgoes, .ref MgoLine, .ref Mends, .ref MendLine, .ref Mkinds, .ref MisName, .int 0, .ref Mrow, .ref MbyHand, .ref Mleast, .ref Msecond, .ref MendAt, .ref MgoAt, .ref MnodeBehind, .int 0, .ref MisOut, .ref MfirstEnd, .ref MfirstGo])), (Mtape, .inl (cI, 1600, .inl g_6))]) hD hS hA [0, 1] rfl
  refine va_callv (va_runV (As := [.long p2]) (rest := []) ⟨hx, hb, hml, hown, hts⟩ (k_lay l dC dI cI cZ cC cJ H.size h0 Mtape Msort Mplace Mvalue Mwords Mgoes MgoLine Mends MendLine Mkinds MisName Mrow MbyHand Mleast Msecond MendAt MgoAt MnodeBehind MisOut MfirstEnd MfirstGo (sgF (byM p1) ks8 (sgF (byM p0) ks8 n)) g_6 p2 (sgF_le _ _ _ (sgF_le _ _ _ hn))) (cwV 1 hts gX5_feed_X5_lay rfl rfl rfl (by decide +kernel) ⟨Nat.le_of_ble_eq_true rfl, Nat.le_of_ble_eq_true rfl⟩) ⟨sPre_blind, va_recv hK hPc (ci := 5) (q0 := 0) rfl rfl, fun U hU hW => ⟨rfl, sPre_ok hsk hPc hDc hU hW⟩⟩ rfl rfl hl.1 rfl (lv_room (Nat.le_of_ble_eq_true rfl)) dX5_feed_18 ⟨(show 0 + 0 ≤ 0 by omega), (show 0 + 0 ≤ 0 by omega)⟩) hS (fun q _ h => hFc q h) hFc (fun u t H1 locs ht hvm hw hB hz1 hk1 hS => ?_)
  obtain ⟨g_10, l_11⟩ := u
  try dsimp only at hw hB
  have hw_12 := hw
  obtain rfl : l_11 = nI (sgF (byM p2) ks8 (sgF (byM p1) ks8 (sgF (byM p0) ks8 n))) := hw_12
  obtain ⟨hP1, hD1⟩ := hB
  rw [ht] at hP1
  obtain ⟨hP, hD⟩ := va_join (wr := []) (w1 := [(h0, .inr (5, [.int 0, .ref Mtape, .int (nI (sgF (byM p2) ks8 (sgF (byM p1) ks8 (sgF (byM p0) ks8 n)))), .int 0, .ref Msort, .ref Mplace, .ref Mvalue, .int 0, .int 0, .ref Mwords, .int 0, .int 0, .ref Mgoes, .ref MgoLine, .ref Mends, .ref MendLine, .ref Mkinds, .ref MisName, .int 0, .ref Mrow, .ref MbyHand, .ref Mleast, .ref Msecond, .ref MendAt, .ref MgoAt, .ref MnodeBehind, .int 0, .ref MisOut, .ref MfirstEnd, .ref MfirstGo])), (Mtape, .inl (cI, 1600, .inl g_10))]) hP hD [0, 1] [] rfl rfl (by decide) (by decide) hk1 hFc hP1 hD1
  generalize H1 = H at hP hS ⊢
  have hP : va_P (dC, dI) vwCl [(h0, .inr (5, [.int 0, .ref Mtape, .int (nI (sgF (byM p2) ks8 (sgF (byM p1) ks8 (sgF (byM p0) ks8 n)))), .int 0, .ref Msort, .ref Mplace, .ref Mvalue, .int 0, .int 0, .ref Mwords, .int 0, .int 0, .ref Mgoes, .ref MgoLine, .ref Mends, .ref MendLine, .ref Mkinds, .ref MisName, .int 0, .ref Mrow, .ref MbyHand, .ref Mleast, .ref Msecond, .ref MendAt, .ref MgoAt, .ref MnodeBehind, .int 0, .ref MisOut, .ref MfirstEnd, .ref MfirstGo])), (Mtape, .inl (cI, 1600, .inl g_10))] H := hP
  have hD : va_D A [(h0, .inr (5, [.int 0, .ref Mtape, .int (nI (sgF (byM p2) ks8 (sgF (byM p1) ks8 (sgF (byM p0) ks8 n)))), .int 0, .ref Msort, .ref Mplace, .ref Mvalue, .int 0, .int 0, .ref Mwords, .int 0, .int 0, .ref Mgoes, .ref MgoLine, .ref Mends, .ref MendLine, .ref Mkinds, .ref MisName, .int 0, .ref Mrow, .ref MbyHand, .ref Mleast, .ref Msecond, .ref MendAt, .ref MgoAt, .ref MnodeBehind, .int 0, .ref MisOut, .ref MfirstEnd, .ref MfirstGo])), (Mtape, .inl (cI, 1600, .inl g_10))] := hD
  refine lv_aload_n hx hb dX5_feed_21 rfl (lv_at hl 0 rfl) ?_
  refine va_get (D := (dC, dI)) (ci := 5) (v := .int (nI (sgF (byM p2) ks8 (sgF (byM p1) ks8 (sgF (byM p0) ks8 n))))) (C := RX5) (T := TX5) (N := 30) hx hb hts i5 hown hK hP 0 rfl rfl 2 (by decide) (hts (.fieldLink RX5 11 "StopSetterModel" "taped" "I") (by decide +kernel)) (fun _ h9 => h9) rfl dX5_feed_22 ?_
  have hP9 := hP.sub (ws' := []) [] rfl
  have hD9 := hD.sub (ws' := []) [] (by decide) rfl
  exact W.iret (v := nI (sgF (byM p2) ks8 (sgF (byM p1) ks8 (sgF (byM p0) ks8 n)))) hx hb hr (fun t ht hW => ⟨⟨nI (sgF (byM p2) ks8 (sgF (byM p1) ks8 (sgF (byM p0) ks8 n))), (), rfl, rfl, by rw [ht]; exact hP9, hD9⟩, hS.F ht⟩) hS.2.2 dX5_feed_25

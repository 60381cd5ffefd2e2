
/-- the TAPE's length behind one sign -/
def sgn (n : Nat) (c : Int32) : Nat := if c = 10 then (if (1600 : Int32) ≤ nI n then n else n + 1) else if c < 32 then n else if 126 < c then n else if (1600 : Int32) ≤ nI n then n else n + 1
theorem sgn_le {n : Nat} {c : Int32} (h : n ≤ 1600) : sgn n c ≤ 1600 := by
  have key : (if (1600 : Int32) ≤ nI n then n else n + 1) ≤ 1600 := by
    by_cases q : (1600 : Int32) ≤ nI n
    · rw [if_pos q]; exact h
    · rw [if_neg q]; exact nk_lt (N := 1600) rfl q (by omega)
  unfold sgn
  split
  · exact key
  · split
    · exact h
    · split
      · exact h
      · exact key
def byU (v : Int64) (k : Int32) : Int32 := (v.toUInt64 >>> (k.toInt64.toUInt64 &&& Int64.toUInt64 63)).toInt64.toInt32 &&& 255
def byM (v : Int64) (k : Int32) : Int32 := (v >>> (k.toInt64 &&& 63)).toInt32 &&& 255
def sgF (b : Int32 → Int32) : List Int32 → Nat → Nat
  | [], n => n
  | k :: ks, n => sgF b ks (sgn n (b k))
theorem sgF_le (b : Int32 → Int32) : ∀ (ks : List Int32) (n : Nat), n ≤ 1600 → sgF b ks n ≤ 1600
  | [], _, h => h
  | _ :: ks, _, h => sgF_le b ks _ (sgn_le h)
abbrev ks8 : List Int32 := [56, 48, 40, 32, 24, 16, 8, 0]
set_option maxHeartbeats 4000000 in
set_option maxRecDepth 100000 in
theorem k_keep0le (l : Launch) (dC : Nat → ClassId) (dI : Nat → Nat → Nat) (cI cZ cC cJ : ClassId) (sz : Nat) (h0 : Nat) (bA : Nat) (xA : Nat) (kA : Nat) (aA : Nat) (eA : Nat) (gA : Nat) (oA : Nat) (le : Int32)  : Met l yX0_keep wsX0_keep ({ frames := 0, cells := 0, slots := 0, locals := 0 }) (va_Pc [.ref h0, .int 0] (sPre dC dI cI cZ cC cJ [(h0, .inr (0, [.ref bA, .ref xA, .ref kA, .ref aA, .ref eA, .ref gA, .ref oA, .int 0, .int 1000000000, .int 1000000000, .int 0, .int le]))] sz)) (va_Qv (fun (u : Unit) => True) (fun _ => sB dC dI (va_A [(h0, .inr (0, [.ref bA, .ref xA, .ref kA, .ref aA, .ref eA, .ref gA, .ref oA, .int 0, .int 1000000000, .int 1000000000, .int 0, .int le]))] sz) [(h0, .inr (0, [.ref bA, .ref xA, .ref kA, .ref aA, .ref eA, .ref gA, .ref oA, .int 0, .int 1000000000, .int 1000000000, .int 0, .int le]))]) (va_A [(h0, .inr (0, [.ref bA, .ref xA, .ref kA, .ref aA, .ref eA, .ref gA, .ref oA, .int 0, .int 1000000000, .int 1000000000, .int 0, .int le]))] sz)) 0 0 (va_A [(h0, .inr (0, [.ref bA, .ref xA, .ref kA, .ref aA, .ref eA, .ref gA, .ref oA, .int 0, .int 1000000000, .int 1000000000, .int 0, .int le]))] sz) := by
  refine Met.ofW (cc := cX0_keep) (maxL := 2) (ret := none) (by decide) rfl ?_
  intro p e s m args below meth c s₁ B hml hv
  obtain ⟨rfl, hsz, hP, hsk, hD0⟩ := hv
  have hx := B.exec
  have hb := B.bytes
  have hr := B.returns
  have hts := atoms_spec (ws := wsX0_keep) B.pre
  have hown : s.vm.findClass RX0 = some m.cls := findClass_of_methodNamed B.named
  have hlocks := B.notSynchronized
  have hK := hsk.1
  have i0 : ∀ w ∈ wsX00, w ∈ wsX0_keep := by decide +kernel
  subst hsz
  have hD := hD0.self (sz := s.heap.size)
  generalize hAe : va_A [(h0, .inr (0, [.ref bA, .ref xA, .ref kA, .ref aA, .ref eA, .ref gA, .ref oA, .int 0, .int 1000000000, .int 1000000000, .int 0, .int le]))] s.heap.size = A at hD ⊢
  have hA : ∀ q : Nat, s.heap.size ≤ q → A q := fun q h => by rw [← hAe]; exact Or.inr h
  have hS : va_S A s.heap s.heap [] := va_S.rf
  have hl := lv_entry ([.ref h0, .int 0]) (n := 2) (Nat.le_of_ble_eq_true rfl)
  rw [lg_entry_eq]
  generalize (lg_sl ([.ref h0, .int 0]) ++ List.replicate (2 - (lg_sl ([.ref h0, .int 0])).length) Slot.unset).toArray = ls at hl ⊢
  have hl : lv_has ls 2 [(0, .ref h0), (1, .int 0)] := hl
  refine lv_iload_n hx hb dX0_keep_0 rfl (lv_at hl 1 rfl) ?_
  refine lv_if_lt (tgt := 17) hx hb dX0_keep_1 (by decide) (fun h9 => absurd h9 (by decide)) (fun _ => ?_)
  refine lv_iload_n hx hb dX0_keep_4 rfl (lv_at hl 1 rfl) ?_
  refine lv_aload_n hx hb dX0_keep_5 rfl (lv_at hl 0 rfl) ?_
  refine va_get (D := (dC, dI)) (ci := 0) (v := .int 0) (C := RX0) (T := TX0) (N := 12) hx hb hts i0 hown hK hP 0 rfl rfl 7 (by decide) (hts (.fieldLink RX0 47 "StopSetter$Chart" "ready" "I") (by decide +kernel)) (fun _ h9 => h9) rfl dX0_keep_6 ?_
  refine lv_icmp_ge (tgt := 17) hx hb dX0_keep_9 (by decide) (fun _ => ?_) (fun h9 => absurd (by decide) h9)
  have hP9 := hP.sub (ws' := [(h0, .inr (0, [.ref bA, .ref xA, .ref kA, .ref aA, .ref eA, .ref gA, .ref oA, .int 0, .int 1000000000, .int 1000000000, .int 0, .int le]))]) [0] rfl
  have hD9 := hD.sub (ws' := [(h0, .inr (0, [.ref bA, .ref xA, .ref kA, .ref aA, .ref eA, .ref gA, .ref oA, .int 0, .int 1000000000, .int 1000000000, .int 0, .int le]))]) [0] (by decide) rfl
  exact W.vret hx hb hr (fun t ht hW => ⟨⟨(), rfl, trivial, by rw [ht]; exact hP9, hD9⟩, hS.F ht⟩) hS.2.2 dX0_keep_17
set_option maxHeartbeats 4000000 in
set_option maxRecDepth 100000 in
theorem k_addSign (l : Launch) (dC : Nat → ClassId) (dI : Nat → Nat → Nat) (cI cZ cC cJ : ClassId) (sz : Nat) (h0 : Nat) (sA : Nat) (n : Nat) (fs : Nat → Int32) (p0 : Int32) (hn : n ≤ 1600) : Met l yX3_addSign wsX3_addSign ({ frames := 0, cells := 0, slots := 0, locals := 0 }) (va_Pc [.ref h0, .int p0] (sPre dC dI cI cZ cC cJ [(h0, .inr (3, [.ref sA, .int (nI n)])), (sA, .inl (cC, 1600, .inl fs))] sz)) (va_Qv (fun (u : (Nat → Int32) × (Int32)) => match u with | (gs, lN) => lN = nI (sgn n p0)) (fun (u : (Nat → Int32) × (Int32)) t => match u with | (gs, lN) => sB dC dI (va_A [(h0, .inr (3, [.ref sA, .int (nI n)])), (sA, .inl (cC, 1600, .inl fs))] sz) [(h0, .inr (3, [.ref sA, .int lN])), (sA, .inl (cC, 1600, .inl gs))] t) (va_A [(h0, .inr (3, [.ref sA, .int (nI n)])), (sA, .inl (cC, 1600, .inl fs))] sz)) 0 0 (va_A [(h0, .inr (3, [.ref sA, .int (nI n)])), (sA, .inl (cC, 1600, .inl fs))] sz) := by
  refine Met.ofW (cc := cX3_addSign) (maxL := 3) (ret := none) (by decide) rfl ?_
  intro p e s m args below meth c s₁ B hml hv
  obtain ⟨rfl, hsz, hP, hsk, hD0⟩ := hv
  have hx := B.exec
  have hb := B.bytes
  have hr := B.returns
  have hts := atoms_spec (ws := wsX3_addSign) B.pre
  have hown : s.vm.findClass RX3 = some m.cls := findClass_of_methodNamed B.named
  have hlocks := B.notSynchronized
  have hK := hsk.1
  have i3 : ∀ w ∈ wsX30, w ∈ wsX3_addSign := by decide +kernel
  subst hsz
  have hD := hD0.self (sz := s.heap.size)
  generalize hAe : va_A [(h0, .inr (3, [.ref sA, .int (nI n)])), (sA, .inl (cC, 1600, .inl fs))] s.heap.size = A at hD ⊢
  have hA : ∀ q : Nat, s.heap.size ≤ q → A q := fun q h => by rw [← hAe]; exact Or.inr h
  have hS : va_S A s.heap s.heap [] := va_S.rf
  have hl := lv_entry ([.ref h0, .int p0]) (n := 3) (Nat.le_of_ble_eq_true rfl)
  rw [lg_entry_eq]
  generalize (lg_sl ([.ref h0, .int p0]) ++ List.replicate (3 - (lg_sl ([.ref h0, .int p0])).length) Slot.unset).toArray = ls at hl ⊢
  have hl : lv_has ls 3 [(0, .ref h0), (1, .int p0)] := hl
  refine lv_iload_n hx hb dX3_addSign_0 rfl (lv_at hl 1 rfl) ?_
  refine lv_bipush (v := 10) hx hb dX3_addSign_1 (by decide) ?_
  refine lv_icmp_eq (tgt := 18) hx hb dX3_addSign_3 (by decide) (fun c_3 => ?_) (fun c_3 => ?_)
  · skip
    refine lv_iconst (v := 1) hx hb dX3_addSign_18 (by decide) ?_
    refine lv_goto (tgt := 23) hx hb dX3_addSign_19 (by decide) ?_
    refine lv_istore_n (lv' := [(2, .int 1), (0, .ref h0), (1, .int p0)]) hx hb dX3_addSign_23 rfl hl (by decide) rfl (fun ls hl => ?_)
    refine lv_iload_n hx hb dX3_addSign_24 rfl (lv_at hl 0 rfl) ?_
    refine lv_if_eq (tgt := 66) hx hb dX3_addSign_25 (by decide) (fun h9 => absurd h9 (by decide)) (fun _ => ?_)
    refine lv_aload_n hx hb dX3_addSign_28 rfl (lv_at hl 1 rfl) ?_
    refine va_get (D := (dC, dI)) (ci := 3) (v := .int (nI n)) (C := RX3) (T := TX3) (N := 2) hx hb hts i3 hown hK hP 0 rfl rfl 1 (by decide) (hts (.fieldLink RX3 17 "StopSetter$Tape" "length" "I") (by decide +kernel)) (fun _ h9 => h9) rfl dX3_addSign_29 ?_
    refine lv_if_lt (tgt := 66) hx hb dX3_addSign_32 (by decide) (fun h9 => absurd h9 (nI_pos (by omega))) (fun _ => ?_)
    refine lv_aload_n hx hb dX3_addSign_35 rfl (lv_at hl 1 rfl) ?_
    refine va_get (D := (dC, dI)) (ci := 3) (v := .int (nI n)) (C := RX3) (T := TX3) (N := 2) hx hb hts i3 hown hK hP 0 rfl rfl 1 (by decide) (hts (.fieldLink RX3 17 "StopSetter$Tape" "length" "I") (by decide +kernel)) (fun _ h9 => h9) rfl dX3_addSign_36 ?_
    refine lv_sipush (v := 1600) hx hb dX3_addSign_39 (by decide) ?_
    refine lv_icmp_ge (tgt := 66) hx hb dX3_addSign_42 (by decide) (fun c_42 => ?_) (fun c_42 => ?_)
    · skip
      have hP9 := hP.sub (ws' := [(h0, .inr (3, [.ref sA, .int (nI n)])), (sA, .inl (cC, 1600, .inl fs))]) [0, 1] rfl
      have hD9 := hD.sub (ws' := [(h0, .inr (3, [.ref sA, .int (nI n)])), (sA, .inl (cC, 1600, .inl fs))]) [0, 1] (by decide) rfl
      exact W.vret hx hb hr (fun t ht hW => ⟨⟨(fs, nI n), rfl, (by simp only [sgn, if_pos c_3, if_pos c_42]), by rw [ht]; exact hP9, hD9⟩, hS.F ht⟩) hS.2.2 dX3_addSign_66
    · skip
      refine lv_aload_n hx hb dX3_addSign_45 rfl (lv_at hl 1 rfl) ?_
      refine va_get (D := (dC, dI)) (ci := 3) (v := .ref sA) (C := RX3) (T := TX3) (N := 2) hx hb hts i3 hown hK hP 0 rfl rfl 0 (by decide) (hts (.fieldLink RX3 9 "StopSetter$Tape" "signs" "[C") (by decide +kernel)) (fun _ h9 => h9) rfl dX3_addSign_46 ?_
      refine lv_aload_n hx hb dX3_addSign_49 rfl (lv_at hl 1 rfl) ?_
      refine va_get (D := (dC, dI)) (ci := 3) (v := .int (nI n)) (C := RX3) (T := TX3) (N := 2) hx hb hts i3 hown hK hP 0 rfl rfl 1 (by decide) (hts (.fieldLink RX3 17 "StopSetter$Tape" "length" "I") (by decide +kernel)) (fun _ h9 => h9) rfl dX3_addSign_50 ?_
      refine lv_iload_n hx hb dX3_addSign_53 rfl (lv_at hl 2 rfl) ?_
      refine lv_i2c (v := (p0.toUInt32 % 65536).toInt32) hx hb dX3_addSign_54 rfl ?_
      refine va_cast hx hb hK hP hD hS 1 2 rfl rfl (vp_in_nI (nk_lt (N := 1600) rfl c_42 (by omega)) (by decide)) dX3_addSign_55 (fun H locs hP hD hS => ?_)
      have hP : va_P (dC, dI) vwCl [(h0, .inr (3, [.ref sA, .int (nI n)])), (sA, .inl (cC, 1600, .inl (upd fs ((nI n).toNatClampNeg) (vp_nar .char (p0.toUInt32 % 65536).toInt32))))] H := hP
      have hD : va_D A [(h0, .inr (3, [.ref sA, .int (nI n)])), (sA, .inl (cC, 1600, .inl (upd fs ((nI n).toNatClampNeg) (vp_nar .char (p0.toUInt32 % 65536).toInt32))))] := hD
      refine lv_aload_n hx hb dX3_addSign_56 rfl (lv_at hl 1 rfl) ?_
      refine lv_dup hx hb dX3_addSign_57 rfl ?_
      refine va_get (D := (dC, dI)) (ci := 3) (v := .int (nI n)) (C := RX3) (T := TX3) (N := 2) hx hb hts i3 hown hK hP 0 rfl rfl 1 (by decide) (hts (.fieldLink RX3 17 "StopSetter$Tape" "length" "I") (by decide +kernel)) (fun _ h9 => h9) rfl dX3_addSign_58 ?_
      refine lv_iconst (v := 1) hx hb dX3_addSign_61 (by decide) ?_
      refine lv_iadd hx hb dX3_addSign_62 ?_
      refine lv_topi (fun v_ ev_ => ?_)
      obtain rfl : v_ = (nI (n + 1)) := ev_.trans (nI_1 n)
      refine va_put (D := (dC, dI)) (ci := 3) (v := .int (nI (n + 1))) (ty := tyX3 1) (C := RX3) (T := TX3) (N := 2) hx hb hts i3 tyX3 tyX3_ok nmX3 hown hK hP hD hS 0 rfl rfl 1 (by decide) (hts (.fieldLink RX3 17 "StopSetter$Tape" "length" "I") (by decide +kernel)) (fun _ h9 => h9) rfl (by decide +kernel) rfl rfl (Nat.le_of_ble_eq_true rfl) dX3_addSign_63 (fun H locs hP hD hS => ?_)
      have hP : va_P (dC, dI) vwCl [(h0, .inr (3, [.ref sA, .int (nI (n + 1))])), (sA, .inl (cC, 1600, .inl (upd fs ((nI n).toNatClampNeg) (vp_nar .char (p0.toUInt32 % 65536).toInt32))))] H := hP
      have hD : va_D A [(h0, .inr (3, [.ref sA, .int (nI (n + 1))])), (sA, .inl (cC, 1600, .inl (upd fs ((nI n).toNatClampNeg) (vp_nar .char (p0.toUInt32 % 65536).toInt32))))] := hD
      have hP9 := hP.sub (ws' := [(h0, .inr (3, [.ref sA, .int (nI (n + 1))])), (sA, .inl (cC, 1600, .inl (upd fs ((nI n).toNatClampNeg) (vp_nar .char (p0.toUInt32 % 65536).toInt32))))]) [0, 1] rfl
      have hD9 := hD.sub (ws' := [(h0, .inr (3, [.ref sA, .int (nI (n + 1))])), (sA, .inl (cC, 1600, .inl (upd fs ((nI n).toNatClampNeg) (vp_nar .char (p0.toUInt32 % 65536).toInt32))))]) [0, 1] (by decide) rfl
      exact W.vret hx hb hr (fun t ht hW => ⟨⟨((upd fs ((nI n).toNatClampNeg) (vp_nar .char (p0.toUInt32 % 65536).toInt32)), (nI (n + 1))), rfl, (by simp only [sgn, if_pos c_3, if_neg c_42]), by rw [ht]; exact hP9, hD9⟩, hS.F ht⟩) hS.2.2 dX3_addSign_66
  · skip
    refine lv_iload_n hx hb dX3_addSign_6 rfl (lv_at hl 1 rfl) ?_
    refine lv_bipush (v := 32) hx hb dX3_addSign_7 (by decide) ?_
    refine lv_icmp_lt (tgt := 22) hx hb dX3_addSign_9 (by decide) (fun c_9 => ?_) (fun c_9 => ?_)
    · skip
      refine lv_iconst (v := 0) hx hb dX3_addSign_22 (by decide) ?_
      refine lv_istore_n (lv' := [(2, .int 0), (0, .ref h0), (1, .int p0)]) hx hb dX3_addSign_23 rfl hl (by decide) rfl (fun ls hl => ?_)
      refine lv_iload_n hx hb dX3_addSign_24 rfl (lv_at hl 0 rfl) ?_
      refine lv_if_eq (tgt := 66) hx hb dX3_addSign_25 (by decide) (fun _ => ?_) (fun h9 => absurd (by decide) h9)
      have hP9 := hP.sub (ws' := [(h0, .inr (3, [.ref sA, .int (nI n)])), (sA, .inl (cC, 1600, .inl fs))]) [0, 1] rfl
      have hD9 := hD.sub (ws' := [(h0, .inr (3, [.ref sA, .int (nI n)])), (sA, .inl (cC, 1600, .inl fs))]) [0, 1] (by decide) rfl
      exact W.vret hx hb hr (fun t ht hW => ⟨⟨(fs, nI n), rfl, (by simp only [sgn, if_neg c_3, if_pos c_9]), by rw [ht]; exact hP9, hD9⟩, hS.F ht⟩) hS.2.2 dX3_addSign_66
    · skip
      refine lv_iload_n hx hb dX3_addSign_12 rfl (lv_at hl 1 rfl) ?_
      refine lv_bipush (v := 126) hx hb dX3_addSign_13 (by decide) ?_
      refine lv_icmp_gt (tgt := 22) hx hb dX3_addSign_15 (by decide) (fun c_15 => ?_) (fun c_15 => ?_)
      · skip
        refine lv_iconst (v := 0) hx hb dX3_addSign_22 (by decide) ?_
        refine lv_istore_n (lv' := [(2, .int 0), (0, .ref h0), (1, .int p0)]) hx hb dX3_addSign_23 rfl hl (by decide) rfl (fun ls hl => ?_)
        refine lv_iload_n hx hb dX3_addSign_24 rfl (lv_at hl 0 rfl) ?_
        refine lv_if_eq (tgt := 66) hx hb dX3_addSign_25 (by decide) (fun _ => ?_) (fun h9 => absurd (by decide) h9)
        have hP9 := hP.sub (ws' := [(h0, .inr (3, [.ref sA, .int (nI n)])), (sA, .inl (cC, 1600, .inl fs))]) [0, 1] rfl
        have hD9 := hD.sub (ws' := [(h0, .inr (3, [.ref sA, .int (nI n)])), (sA, .inl (cC, 1600, .inl fs))]) [0, 1] (by decide) rfl
        exact W.vret hx hb hr (fun t ht hW => ⟨⟨(fs, nI n), rfl, (by simp only [sgn, if_neg c_3, if_neg c_9, if_pos c_15]), by rw [ht]; exact hP9, hD9⟩, hS.F ht⟩) hS.2.2 dX3_addSign_66
      · skip
        refine lv_iconst (v := 1) hx hb dX3_addSign_18 (by decide) ?_
        refine lv_goto (tgt := 23) hx hb dX3_addSign_19 (by decide) ?_
        refine lv_istore_n (lv' := [(2, .int 1), (0, .ref h0), (1, .int p0)]) hx hb dX3_addSign_23 rfl hl (by decide) rfl (fun ls hl => ?_)
        refine lv_iload_n hx hb dX3_addSign_24 rfl (lv_at hl 0 rfl) ?_
        refine lv_if_eq (tgt := 66) hx hb dX3_addSign_25 (by decide) (fun h9 => absurd h9 (by decide)) (fun _ => ?_)
        refine lv_aload_n hx hb dX3_addSign_28 rfl (lv_at hl 1 rfl) ?_
        refine va_get (D := (dC, dI)) (ci := 3) (v := .int (nI n)) (C := RX3) (T := TX3) (N := 2) hx hb hts i3 hown hK hP 0 rfl rfl 1 (by decide) (hts (.fieldLink RX3 17 "StopSetter$Tape" "length" "I") (by decide +kernel)) (fun _ h9 => h9) rfl dX3_addSign_29 ?_
        refine lv_if_lt (tgt := 66) hx hb dX3_addSign_32 (by decide) (fun h9 => absurd h9 (nI_pos (by omega))) (fun _ => ?_)
        refine lv_aload_n hx hb dX3_addSign_35 rfl (lv_at hl 1 rfl) ?_
        refine va_get (D := (dC, dI)) (ci := 3) (v := .int (nI n)) (C := RX3) (T := TX3) (N := 2) hx hb hts i3 hown hK hP 0 rfl rfl 1 (by decide) (hts (.fieldLink RX3 17 "StopSetter$Tape" "length" "I") (by decide +kernel)) (fun _ h9 => h9) rfl dX3_addSign_36 ?_
        refine lv_sipush (v := 1600) hx hb dX3_addSign_39 (by decide) ?_
        refine lv_icmp_ge (tgt := 66) hx hb dX3_addSign_42 (by decide) (fun c_42 => ?_) (fun c_42 => ?_)
        · skip
          have hP9 := hP.sub (ws' := [(h0, .inr (3, [.ref sA, .int (nI n)])), (sA, .inl (cC, 1600, .inl fs))]) [0, 1] rfl
          have hD9 := hD.sub (ws' := [(h0, .inr (3, [.ref sA, .int (nI n)])), (sA, .inl (cC, 1600, .inl fs))]) [0, 1] (by decide) rfl
          exact W.vret hx hb hr (fun t ht hW => ⟨⟨(fs, nI n), rfl, (by simp only [sgn, if_neg c_3, if_neg c_9, if_neg c_15, if_pos c_42]), by rw [ht]; exact hP9, hD9⟩, hS.F ht⟩) hS.2.2 dX3_addSign_66
        · skip
          refine lv_aload_n hx hb dX3_addSign_45 rfl (lv_at hl 1 rfl) ?_
          refine va_get (D := (dC, dI)) (ci := 3) (v := .ref sA) (C := RX3) (T := TX3) (N := 2) hx hb hts i3 hown hK hP 0 rfl rfl 0 (by decide) (hts (.fieldLink RX3 9 "StopSetter$Tape" "signs" "[C") (by decide +kernel)) (fun _ h9 => h9) rfl dX3_addSign_46 ?_
          refine lv_aload_n hx hb dX3_addSign_49 rfl (lv_at hl 1 rfl) ?_
          refine va_get (D := (dC, dI)) (ci := 3) (v := .int (nI n)) (C := RX3) (T := TX3) (N := 2) hx hb hts i3 hown hK hP 0 rfl rfl 1 (by decide) (hts (.fieldLink RX3 17 "StopSetter$Tape" "length" "I") (by decide +kernel)) (fun _ h9 => h9) rfl dX3_addSign_50 ?_
          refine lv_iload_n hx hb dX3_addSign_53 rfl (lv_at hl 2 rfl) ?_
          refine lv_i2c (v := (p0.toUInt32 % 65536).toInt32) hx hb dX3_addSign_54 rfl ?_
          refine va_cast hx hb hK hP hD hS 1 2 rfl rfl (vp_in_nI (nk_lt (N := 1600) rfl c_42 (by omega)) (by decide)) dX3_addSign_55 (fun H locs hP hD hS => ?_)
          have hP : va_P (dC, dI) vwCl [(h0, .inr (3, [.ref sA, .int (nI n)])), (sA, .inl (cC, 1600, .inl (upd fs ((nI n).toNatClampNeg) (vp_nar .char (p0.toUInt32 % 65536).toInt32))))] H := hP
          have hD : va_D A [(h0, .inr (3, [.ref sA, .int (nI n)])), (sA, .inl (cC, 1600, .inl (upd fs ((nI n).toNatClampNeg) (vp_nar .char (p0.toUInt32 % 65536).toInt32))))] := hD
          refine lv_aload_n hx hb dX3_addSign_56 rfl (lv_at hl 1 rfl) ?_
          refine lv_dup hx hb dX3_addSign_57 rfl ?_
          refine va_get (D := (dC, dI)) (ci := 3) (v := .int (nI n)) (C := RX3) (T := TX3) (N := 2) hx hb hts i3 hown hK hP 0 rfl rfl 1 (by decide) (hts (.fieldLink RX3 17 "StopSetter$Tape" "length" "I") (by decide +kernel)) (fun _ h9 => h9) rfl dX3_addSign_58 ?_
          refine lv_iconst (v := 1) hx hb dX3_addSign_61 (by decide) ?_
          refine lv_iadd hx hb dX3_addSign_62 ?_
          refine lv_topi (fun v_ ev_ => ?_)
          obtain rfl : v_ = (nI (n + 1)) := ev_.trans (nI_1 n)
          refine va_put (D := (dC, dI)) (ci := 3) (v := .int (nI (n + 1))) (ty := tyX3 1) (C := RX3) (T := TX3) (N := 2) hx hb hts i3 tyX3 tyX3_ok nmX3 hown hK hP hD hS 0 rfl rfl 1 (by decide) (hts (.fieldLink RX3 17 "StopSetter$Tape" "length" "I") (by decide +kernel)) (fun _ h9 => h9) rfl (by decide +kernel) rfl rfl (Nat.le_of_ble_eq_true rfl) dX3_addSign_63 (fun H locs hP hD hS => ?_)
          have hP : va_P (dC, dI) vwCl [(h0, .inr (3, [.ref sA, .int (nI (n + 1))])), (sA, .inl (cC, 1600, .inl (upd fs ((nI n).toNatClampNeg) (vp_nar .char (p0.toUInt32 % 65536).toInt32))))] H := hP
          have hD : va_D A [(h0, .inr (3, [.ref sA, .int (nI (n + 1))])), (sA, .inl (cC, 1600, .inl (upd fs ((nI n).toNatClampNeg) (vp_nar .char (p0.toUInt32 % 65536).toInt32))))] := hD
          have hP9 := hP.sub (ws' := [(h0, .inr (3, [.ref sA, .int (nI (n + 1))])), (sA, .inl (cC, 1600, .inl (upd fs ((nI n).toNatClampNeg) (vp_nar .char (p0.toUInt32 % 65536).toInt32))))]) [0, 1] rfl
          have hD9 := hD.sub (ws' := [(h0, .inr (3, [.ref sA, .int (nI (n + 1))])), (sA, .inl (cC, 1600, .inl (upd fs ((nI n).toNatClampNeg) (vp_nar .char (p0.toUInt32 % 65536).toInt32))))]) [0, 1] (by decide) rfl
          exact W.vret hx hb hr (fun t ht hW => ⟨⟨((upd fs ((nI n).toNatClampNeg) (vp_nar .char (p0.toUInt32 % 65536).toInt32)), (nI (n + 1))), rfl, (by simp only [sgn, if_neg c_3, if_neg c_9, if_neg c_15, if_neg c_42]), by rw [ht]; exact hP9, hD9⟩, hS.F ht⟩) hS.2.2 dX3_addSign_66
set_option maxHeartbeats 4000000 in
set_option maxRecDepth 100000 in
theorem k_addBytes (l : Launch) (dC : Nat → ClassId) (dI : Nat → Nat → Nat) (cI cZ cC cJ : ClassId) (sz : Nat) (h0 : Nat) (sA : Nat) (n : Nat) (fs : Nat → Int32) (p0 : Int64) (hn : n ≤ 1600) : Met l yX3_addBytes wsX3_addBytes ({ frames := 1, cells := 0, slots := 0, locals := 22 }) (va_Pc [.ref h0, .long p0] (sPre dC dI cI cZ cC cJ [(h0, .inr (3, [.ref sA, .int (nI n)])), (sA, .inl (cC, 1600, .inl fs))] sz)) (va_Qv (fun (u : (Nat → Int32) × (Int32)) => match u with | (gs, lN) => lN = nI (sgF (byU p0) ks8 n)) (fun (u : (Nat → Int32) × (Int32)) t => match u with | (gs, lN) => sB dC dI (va_A [(h0, .inr (3, [.ref sA, .int (nI n)])), (sA, .inl (cC, 1600, .inl fs))] sz) [(h0, .inr (3, [.ref sA, .int lN])), (sA, .inl (cC, 1600, .inl gs))] t) (va_A [(h0, .inr (3, [.ref sA, .int (nI n)])), (sA, .inl (cC, 1600, .inl fs))] sz)) 0 0 (va_A [(h0, .inr (3, [.ref sA, .int (nI n)])), (sA, .inl (cC, 1600, .inl fs))] sz) := by
  refine Met.ofW (cc := cX3_addBytes) (maxL := 4) (ret := none) (by decide) rfl ?_
  intro p e s m args below meth c s₁ B hml hv
  obtain ⟨rfl, hsz, hP, hsk, hD0⟩ := hv
  have hx := B.exec
  have hb := B.bytes
  have hr := B.returns
  have hts := atoms_spec (ws := wsX3_addBytes) B.pre
  have hown : s.vm.findClass RX3 = some m.cls := findClass_of_methodNamed B.named
  have hlocks := B.notSynchronized
  have hK := hsk.1
  subst hsz
  have hD := hD0.self (sz := s.heap.size)
  generalize hAe : va_A [(h0, .inr (3, [.ref sA, .int (nI n)])), (sA, .inl (cC, 1600, .inl fs))] s.heap.size = A at hD ⊢
  have hA : ∀ q : Nat, s.heap.size ≤ q → A q := fun q h => by rw [← hAe]; exact Or.inr h
  have hS : va_S A s.heap s.heap [] := va_S.rf
  have hl := lv_entry ([.ref h0, .long p0]) (n := 4) (Nat.le_of_ble_eq_true rfl)
  rw [lg_entry_eq]
  generalize (lg_sl ([.ref h0, .long p0]) ++ List.replicate (4 - (lg_sl ([.ref h0, .long p0])).length) Slot.unset).toArray = ls at hl ⊢
  have hl : lv_has ls 4 [(0, .ref h0), (1, .long p0)] := hl
  refine lv_bipush (v := 56) hx hb dX3_addBytes_0 (by decide) ?_
  refine lv_istore_n (lv' := [(3, .int 56), (0, .ref h0), (1, .long p0)]) hx hb dX3_addBytes_2 rfl hl (by decide) rfl (fun ls hl => ?_)
  refine lv_iload_n hx hb dX3_addBytes_3 rfl (lv_at hl 0 rfl) ?_
  refine lv_if_lt (tgt := 25) hx hb dX3_addBytes_4 (by decide) (fun h9 => absurd h9 (by decide)) (fun _ => ?_)
  refine lv_aload_n hx hb dX3_addBytes_7 rfl (lv_at hl 1 rfl) ?_
  refine lv_lload_n hx hb dX3_addBytes_8 rfl (lv_at hl 2 rfl) ?_
  refine lv_iload_n hx hb dX3_addBytes_9 rfl (lv_at hl 0 rfl) ?_
  refine lv_lushr (v := (p0.toUInt64 >>> ((56 : Int32).toInt64.toUInt64 &&& Int64.toUInt64 63)).toInt64) hx hb dX3_addBytes_10 rfl ?_
  refine lv_l2i (v := ((p0.toUInt64 >>> ((56 : Int32).toInt64.toUInt64 &&& Int64.toUInt64 63)).toInt64).toInt32) hx hb dX3_addBytes_11 rfl ?_
  refine lv_sipush (v := 255) hx hb dX3_addBytes_12 (by decide) ?_
  refine lv_iand hx hb dX3_addBytes_15 ?_
  refine lv_topi (fun v_ ev_ => ?_)
  obtain rfl : v_ = (byU p0 56) := ev_.trans (rfl)
  have hPc := hP.sub (ws' := [(h0, .inr (3, [.ref sA, .int (nI n)])), (sA, .inl (cC, 1600, .inl fs))]) [0, 1] rfl
  have hDc := hD.sub (ws' := [(h0, .inr (3, [.ref sA, .int (nI n)])), (sA, .inl (cC, 1600, .inl fs))]) [0, 1] (by decide) rfl
  have hFc := va_free (wc := [(h0, .inr (3, [.ref sA, .int (nI n)])), (sA, .inl (cC, 1600, .inl fs))]) hD hS hA [0, 1] rfl
  refine va_callv (va_runV (As := [.int (byU p0 56)]) (rest := []) ⟨hx, hb, hml, hown, hts⟩ (k_addSign l dC dI cI cZ cC cJ s.heap.size h0 sA n fs (byU p0 56) hn) (cwV 1 hts gX3_addBytes_X3_addSign rfl rfl rfl (by decide +kernel) ⟨Nat.le_of_ble_eq_true rfl, Nat.le_of_ble_eq_true rfl⟩) ⟨sPre_blind, va_recv hK hPc (ci := 3) (q0 := 0) rfl rfl, fun U hU hW => ⟨rfl, sPre_ok hsk hPc hDc hU hW⟩⟩ rfl rfl hl.1 rfl (lv_room (Nat.le_of_ble_eq_true rfl)) dX3_addBytes_16 ⟨(show 0 + 0 ≤ 0 by omega), (show 0 + 0 ≤ 0 by omega)⟩) hS (fun q _ h => hFc q h) hFc (fun u t H1 locs ht hvm hw hB hz1 hk1 hS => ?_)
  obtain ⟨g_2, l_3⟩ := u
  try dsimp only at hw hB
  have hw_4 := hw
  obtain rfl : l_3 = nI (sgn n (byU p0 56)) := hw_4
  obtain ⟨hP1, hD1⟩ := hB
  rw [ht] at hP1
  obtain ⟨hP, hD⟩ := va_join (wr := []) (w1 := [(h0, .inr (3, [.ref sA, .int (nI (sgn n (byU p0 56)))])), (sA, .inl (cC, 1600, .inl g_2))]) hP hD [0, 1] [] rfl rfl (by decide) (by decide) hk1 hFc hP1 hD1
  generalize H1 = H at hP hS ⊢
  have hP : va_P (dC, dI) vwCl [(h0, .inr (3, [.ref sA, .int (nI (sgn n (byU p0 56)))])), (sA, .inl (cC, 1600, .inl g_2))] H := hP
  have hD : va_D A [(h0, .inr (3, [.ref sA, .int (nI (sgn n (byU p0 56)))])), (sA, .inl (cC, 1600, .inl g_2))] := hD
  refine lv_iinc (v := 48) (lv' := [(3, .int 48), (0, .ref h0), (1, .long p0)]) hx hb dX3_addBytes_19 hl (k := 0) rfl (by decide) (by decide) rfl (fun ls hl => ?_)
  refine lv_goto (tgt := 3) hx hb dX3_addBytes_22 (by decide) ?_
  refine lv_iload_n hx hb dX3_addBytes_3 rfl (lv_at hl 0 rfl) ?_
  refine lv_if_lt (tgt := 25) hx hb dX3_addBytes_4 (by decide) (fun h9 => absurd h9 (by decide)) (fun _ => ?_)
  refine lv_aload_n hx hb dX3_addBytes_7 rfl (lv_at hl 1 rfl) ?_
  refine lv_lload_n hx hb dX3_addBytes_8 rfl (lv_at hl 2 rfl) ?_
  refine lv_iload_n hx hb dX3_addBytes_9 rfl (lv_at hl 0 rfl) ?_
  refine lv_lushr (v := (p0.toUInt64 >>> ((48 : Int32).toInt64.toUInt64 &&& Int64.toUInt64 63)).toInt64) hx hb dX3_addBytes_10 rfl ?_
  refine lv_l2i (v := ((p0.toUInt64 >>> ((48 : Int32).toInt64.toUInt64 &&& Int64.toUInt64 63)).toInt64).toInt32) hx hb dX3_addBytes_11 rfl ?_
  refine lv_sipush (v := 255) hx hb dX3_addBytes_12 (by decide) ?_
  refine lv_iand hx hb dX3_addBytes_15 ?_
  refine lv_topi (fun v_ ev_ => ?_)
  obtain rfl : v_ = (byU p0 48) := ev_.trans (rfl)
  have hPc := hP.sub (ws' := [(h0, .inr (3, [.ref sA, .int (nI (sgn n (byU p0 56)))])), (sA, .inl (cC, 1600, .inl g_2))]) [0, 1] rfl
  have hDc := hD.sub (ws' := [(h0, .inr (3, [.ref sA, .int (nI (sgn n (byU p0 56)))])), (sA, .inl (cC, 1600, .inl g_2))]) [0, 1] (by decide) rfl
  have hFc := va_free (wc := [(h0, .inr (3, [.ref sA, .int (nI (sgn n (byU p0 56)))])), (sA, .inl (cC, 1600, .inl g_2))]) hD hS hA [0, 1] rfl
  refine va_callv (va_runV (As := [.int (byU p0 48)]) (rest := []) ⟨hx, hb, hml, hown, hts⟩ (k_addSign l dC dI cI cZ cC cJ H.size h0 sA (sgn n (byU p0 56)) g_2 (byU p0 48) (sgn_le hn)) (cwV 1 hts gX3_addBytes_X3_addSign rfl rfl rfl (by decide +kernel) ⟨Nat.le_of_ble_eq_true rfl, Nat.le_of_ble_eq_true rfl⟩) ⟨sPre_blind, va_recv hK hPc (ci := 3) (q0 := 0) rfl rfl, fun U hU hW => ⟨rfl, sPre_ok hsk hPc hDc hU hW⟩⟩ rfl rfl hl.1 rfl (lv_room (Nat.le_of_ble_eq_true rfl)) dX3_addBytes_16 ⟨(show 0 + 0 ≤ 0 by omega), (show 0 + 0 ≤ 0 by omega)⟩) hS (fun q _ h => hFc q h) hFc (fun u t H1 locs ht hvm hw hB hz1 hk1 hS => ?_)
  obtain ⟨g_6, l_7⟩ := u
  try dsimp only at hw hB
  have hw_8 := hw
  obtain rfl : l_7 = nI (sgn (sgn n (byU p0 56)) (byU p0 48)) := hw_8
  obtain ⟨hP1, hD1⟩ := hB
  rw [ht] at hP1
  obtain ⟨hP, hD⟩ := va_join (wr := []) (w1 := [(h0, .inr (3, [.ref sA, .int (nI (sgn (sgn n (byU p0 56)) (byU p0 48)))])), (sA, .inl (cC, 1600, .inl g_6))]) hP hD [0, 1] [] rfl rfl (by decide) (by decide) hk1 hFc hP1 hD1
  generalize H1 = H at hP hS ⊢
  have hP : va_P (dC, dI) vwCl [(h0, .inr (3, [.ref sA, .int (nI (sgn (sgn n (byU p0 56)) (byU p0 48)))])), (sA, .inl (cC, 1600, .inl g_6))] H := hP
  have hD : va_D A [(h0, .inr (3, [.ref sA, .int (nI (sgn (sgn n (byU p0 56)) (byU p0 48)))])), (sA, .inl (cC, 1600, .inl g_6))] := hD
  refine lv_iinc (v := 40) (lv' := [(3, .int 40), (0, .ref h0), (1, .long p0)]) hx hb dX3_addBytes_19 hl (k := 0) rfl (by decide) (by decide) rfl (fun ls hl => ?_)
  refine lv_goto (tgt := 3) hx hb dX3_addBytes_22 (by decide) ?_
  refine lv_iload_n hx hb dX3_addBytes_3 rfl (lv_at hl 0 rfl) ?_
  refine lv_if_lt (tgt := 25) hx hb dX3_addBytes_4 (by decide) (fun h9 => absurd h9 (by decide)) (fun _ => ?_)
  refine lv_aload_n hx hb dX3_addBytes_7 rfl (lv_at hl 1 rfl) ?_
  refine lv_lload_n hx hb dX3_addBytes_8 rfl (lv_at hl 2 rfl) ?_
  refine lv_iload_n hx hb dX3_addBytes_9 rfl (lv_at hl 0 rfl) ?_
  refine lv_lushr (v := (p0.toUInt64 >>> ((40 : Int32).toInt64.toUInt64 &&& Int64.toUInt64 63)).toInt64) hx hb dX3_addBytes_10 rfl ?_
  refine lv_l2i (v := ((p0.toUInt64 >>> ((40 : Int32).toInt64.toUInt64 &&& Int64.toUInt64 63)).toInt64).toInt32) hx hb dX3_addBytes_11 rfl ?_
  refine lv_sipush (v := 255) hx hb dX3_addBytes_12 (by decide) ?_
  refine lv_iand hx hb dX3_addBytes_15 ?_
  refine lv_topi (fun v_ ev_ => ?_)
  obtain rfl : v_ = (byU p0 40) := ev_.trans (rfl)
  have hPc := hP.sub (ws' := [(h0, .inr (3, [.ref sA, .int (nI (sgn (sgn n (byU p0 56)) (byU p0 48)))])), (sA, .inl (cC, 1600, .inl g_6))]) [0, 1] rfl
  have hDc := hD.sub (ws' := [(h0, .inr (3, [.ref sA, .int (nI (sgn (sgn n (byU p0 56)) (byU p0 48)))])), (sA, .inl (cC, 1600, .inl g_6))]) [0, 1] (by decide) rfl
  have hFc := va_free (wc := [(h0, .inr (3, [.ref sA, .int (nI (sgn (sgn n (byU p0 56)) (byU p0 48)))])), (sA, .inl (cC, 1600, .inl g_6))]) hD hS hA [0, 1] rfl
  refine va_callv (va_runV (As := [.int (byU p0 40)]) (rest := []) ⟨hx, hb, hml, hown, hts⟩ (k_addSign l dC dI cI cZ cC cJ H.size h0 sA (sgn (sgn n (byU p0 56)) (byU p0 48)) g_6 (byU p0 40) (sgn_le (sgn_le hn))) (cwV 1 hts gX3_addBytes_X3_addSign rfl rfl rfl (by decide +kernel) ⟨Nat.le_of_ble_eq_true rfl, Nat.le_of_ble_eq_true rfl⟩) ⟨sPre_blind, va_recv hK hPc (ci := 3) (q0 := 0) rfl rfl, fun U hU hW => ⟨rfl, sPre_ok hsk hPc hDc hU hW⟩⟩ rfl rfl hl.1 rfl (lv_room (Nat.le_of_ble_eq_true rfl)) dX3_addBytes_16 ⟨(show 0 + 0 ≤ 0 by omega), (show 0 + 0 ≤ 0 by omega)⟩) hS (fun q _ h => hFc q h) hFc (fun u t H1 locs ht hvm hw hB hz1 hk1 hS => ?_)
  obtain ⟨g_10, l_11⟩ := u
  try dsimp only at hw hB
  have hw_12 := hw
  obtain rfl : l_11 = nI (sgn (sgn (sgn n (byU p0 56)) (byU p0 48)) (byU p0 40)) := hw_12
  obtain ⟨hP1, hD1⟩ := hB
  rw [ht] at hP1
  obtain ⟨hP, hD⟩ := va_join (wr := []) (w1 := [(h0, .inr (3, [.ref sA, .int (nI (sgn (sgn (sgn n (byU p0 56)) (byU p0 48)) (byU p0 40)))])), (sA, .inl (cC, 1600, .inl g_10))]) hP hD [0, 1] [] rfl rfl (by decide) (by decide) hk1 hFc hP1 hD1
  generalize H1 = H at hP hS ⊢
  have hP : va_P (dC, dI) vwCl [(h0, .inr (3, [.ref sA, .int (nI (sgn (sgn (sgn n (byU p0 56)) (byU p0 48)) (byU p0 40)))])), (sA, .inl (cC, 1600, .inl g_10))] H := hP
  have hD : va_D A [(h0, .inr (3, [.ref sA, .int (nI (sgn (sgn (sgn n (byU p0 56)) (byU p0 48)) (byU p0 40)))])), (sA, .inl (cC, 1600, .inl g_10))] := hD
  refine lv_iinc (v := 32) (lv' := [(3, .int 32), (0, .ref h0), (1, .long p0)]) hx hb dX3_addBytes_19 hl (k := 0) rfl (by decide) (by decide) rfl (fun ls hl => ?_)
  refine lv_goto (tgt := 3) hx hb dX3_addBytes_22 (by decide) ?_
  refine lv_iload_n hx hb dX3_addBytes_3 rfl (lv_at hl 0 rfl) ?_
  refine lv_if_lt (tgt := 25) hx hb dX3_addBytes_4 (by decide) (fun h9 => absurd h9 (by decide)) (fun _ => ?_)
  refine lv_aload_n hx hb dX3_addBytes_7 rfl (lv_at hl 1 rfl) ?_
  refine lv_lload_n hx hb dX3_addBytes_8 rfl (lv_at hl 2 rfl) ?_
  refine lv_iload_n hx hb dX3_addBytes_9 rfl (lv_at hl 0 rfl) ?_
  refine lv_lushr (v := (p0.toUInt64 >>> ((32 : Int32).toInt64.toUInt64 &&& Int64.toUInt64 63)).toInt64) hx hb dX3_addBytes_10 rfl ?_
  refine lv_l2i (v := ((p0.toUInt64 >>> ((32 : Int32).toInt64.toUInt64 &&& Int64.toUInt64 63)).toInt64).toInt32) hx hb dX3_addBytes_11 rfl ?_
  refine lv_sipush (v := 255) hx hb dX3_addBytes_12 (by decide) ?_
  refine lv_iand hx hb dX3_addBytes_15 ?_
  refine lv_topi (fun v_ ev_ => ?_)
  obtain rfl : v_ = (byU p0 32) := ev_.trans (rfl)
  have hPc := hP.sub (ws' := [(h0, .inr (3, [.ref sA, .int (nI (sgn (sgn (sgn n (byU p0 56)) (byU p0 48)) (byU p0 40)))])), (sA, .inl (cC, 1600, .inl g_10))]) [0, 1] rfl
  have hDc := hD.sub (ws' := [(h0, .inr (3, [.ref sA, .int (nI (sgn (sgn (sgn n (byU p0 56)) (byU p0 48)) (byU p0 40)))])), (sA, .inl (cC, 1600, .inl g_10))]) [0, 1] (by decide) rfl
  have hFc := va_free (wc := [(h0, .inr (3, [.ref sA, .int (nI (sgn (sgn (sgn n (byU p0 56)) (byU p0 48)) (byU p0 40)))])), (sA, .inl (cC, 1600, .inl g_10))]) hD hS hA [0, 1] rfl
  refine va_callv (va_runV (As := [.int (byU p0 32)]) (rest := []) ⟨hx, hb, hml, hown, hts⟩ (k_addSign l dC dI cI cZ cC cJ H.size h0 sA (sgn (sgn (sgn n (byU p0 56)) (byU p0 48)) (byU p0 40)) g_10 (byU p0 32) (sgn_le (sgn_le (sgn_le hn)))) (cwV 1 hts gX3_addBytes_X3_addSign rfl rfl rfl (by decide +kernel) ⟨Nat.le_of_ble_eq_true rfl, Nat.le_of_ble_eq_true rfl⟩) ⟨sPre_blind, va_recv hK hPc (ci := 3) (q0 := 0) rfl rfl, fun U hU hW => ⟨rfl, sPre_ok hsk hPc hDc hU hW⟩⟩ rfl rfl hl.1 rfl (lv_room (Nat.le_of_ble_eq_true rfl)) dX3_addBytes_16 ⟨(show 0 + 0 ≤ 0 by omega), (show 0 + 0 ≤ 0 by omega)⟩) hS (fun q _ h => hFc q h) hFc (fun u t H1 locs ht hvm hw hB hz1 hk1 hS => ?_)
  obtain ⟨g_14, l_15⟩ := u
  try dsimp only at hw hB
  have hw_16 := hw
  obtain rfl : l_15 = nI (sgn (sgn (sgn (sgn n (byU p0 56)) (byU p0 48)) (byU p0 40)) (byU p0 32)) := hw_16
  obtain ⟨hP1, hD1⟩ := hB
  rw [ht] at hP1
  obtain ⟨hP, hD⟩ := va_join (wr := []) (w1 := [(h0, .inr (3, [.ref sA, .int (nI (sgn (sgn (sgn (sgn n (byU p0 56)) (byU p0 48)) (byU p0 40)) (byU p0 32)))])), (sA, .inl (cC, 1600, .inl g_14))]) hP hD [0, 1] [] rfl rfl (by decide) (by decide) hk1 hFc hP1 hD1
  generalize H1 = H at hP hS ⊢
  have hP : va_P (dC, dI) vwCl [(h0, .inr (3, [.ref sA, .int (nI (sgn (sgn (sgn (sgn n (byU p0 56)) (byU p0 48)) (byU p0 40)) (byU p0 32)))])), (sA, .inl (cC, 1600, .inl g_14))] H := hP
  have hD : va_D A [(h0, .inr (3, [.ref sA, .int (nI (sgn (sgn (sgn (sgn n (byU p0 56)) (byU p0 48)) (byU p0 40)) (byU p0 32)))])), (sA, .inl (cC, 1600, .inl g_14))] := hD
  refine lv_iinc (v := 24) (lv' := [(3, .int 24), (0, .ref h0), (1, .long p0)]) hx hb dX3_addBytes_19 hl (k := 0) rfl (by decide) (by decide) rfl (fun ls hl => ?_)
  refine lv_goto (tgt := 3) hx hb dX3_addBytes_22 (by decide) ?_
  refine lv_iload_n hx hb dX3_addBytes_3 rfl (lv_at hl 0 rfl) ?_
  refine lv_if_lt (tgt := 25) hx hb dX3_addBytes_4 (by decide) (fun h9 => absurd h9 (by decide)) (fun _ => ?_)
  refine lv_aload_n hx hb dX3_addBytes_7 rfl (lv_at hl 1 rfl) ?_
  refine lv_lload_n hx hb dX3_addBytes_8 rfl (lv_at hl 2 rfl) ?_
  refine lv_iload_n hx hb dX3_addBytes_9 rfl (lv_at hl 0 rfl) ?_
  refine lv_lushr (v := (p0.toUInt64 >>> ((24 : Int32).toInt64.toUInt64 &&& Int64.toUInt64 63)).toInt64) hx hb dX3_addBytes_10 rfl ?_
  refine lv_l2i (v := ((p0.toUInt64 >>> ((24 : Int32).toInt64.toUInt64 &&& Int64.toUInt64 63)).toInt64).toInt32) hx hb dX3_addBytes_11 rfl ?_
  refine lv_sipush (v := 255) hx hb dX3_addBytes_12 (by decide) ?_
  refine lv_iand hx hb dX3_addBytes_15 ?_
  refine lv_topi (fun v_ ev_ => ?_)
  obtain rfl : v_ = (byU p0 24) := ev_.trans (rfl)
  have hPc := hP.sub (ws' := [(h0, .inr (3, [.ref sA, .int (nI (sgn (sgn (sgn (sgn n (byU p0 56)) (byU p0 48)) (byU p0 40)) (byU p0 32)))])), (sA, .inl (cC, 1600, .inl g_14))]) [0, 1] rfl
  have hDc := hD.sub (ws' := [(h0, .inr (3, [.ref sA, .int (nI (sgn (sgn (sgn (sgn n (byU p0 56)) (byU p0 48)) (byU p0 40)) (byU p0 32)))])), (sA, .inl (cC, 1600, .inl g_14))]) [0, 1] (by decide) rfl
  have hFc := va_free (wc := [(h0, .inr (3, [.ref sA, .int (nI (sgn (sgn (sgn (sgn n (byU p0 56)) (byU p0 48)) (byU p0 40)) (byU p0 32)))])), (sA, .inl (cC, 1600, .inl g_14))]) hD hS hA [0, 1] rfl
  refine va_callv (va_runV (As := [.int (byU p0 24)]) (rest := []) ⟨hx, hb, hml, hown, hts⟩ (k_addSign l dC dI cI cZ cC cJ H.size h0 sA (sgn (sgn (sgn (sgn n (byU p0 56)) (byU p0 48)) (byU p0 40)) (byU p0 32)) g_14 (byU p0 24) (sgn_le (sgn_le (sgn_le (sgn_le hn))))) (cwV 1 hts gX3_addBytes_X3_addSign rfl rfl rfl (by decide +kernel) ⟨Nat.le_of_ble_eq_true rfl, Nat.le_of_ble_eq_true rfl⟩) ⟨sPre_blind, va_recv hK hPc (ci := 3) (q0 := 0) rfl rfl, fun U hU hW => ⟨rfl, sPre_ok hsk hPc hDc hU hW⟩⟩ rfl rfl hl.1 rfl (lv_room (Nat.le_of_ble_eq_true rfl)) dX3_addBytes_16 ⟨(show 0 + 0 ≤ 0 by omega), (show 0 + 0 ≤ 0 by omega)⟩) hS (fun q _ h => hFc q h) hFc (fun u t H1 locs ht hvm hw hB hz1 hk1 hS => ?_)
  obtain ⟨g_18, l_19⟩ := u
  try dsimp only at hw hB
  have hw_20 := hw
  obtain rfl : l_19 = nI (sgn (sgn (sgn (sgn (sgn n (byU p0 56)) (byU p0 48)) (byU p0 40)) (byU p0 32)) (byU p0 24)) := hw_20
  obtain ⟨hP1, hD1⟩ := hB
  rw [ht] at hP1
  obtain ⟨hP, hD⟩ := va_join (wr := []) (w1 := [(h0, .inr (3, [.ref sA, .int (nI (sgn (sgn (sgn (sgn (sgn n (byU p0 56)) (byU p0 48)) (byU p0 40)) (byU p0 32)) (byU p0 24)))])), (sA, .inl (cC, 1600, .inl g_18))]) hP hD [0, 1] [] rfl rfl (by decide) (by decide) hk1 hFc hP1 hD1
  generalize H1 = H at hP hS ⊢
  have hP : va_P (dC, dI) vwCl [(h0, .inr (3, [.ref sA, .int (nI (sgn (sgn (sgn (sgn (sgn n (byU p0 56)) (byU p0 48)) (byU p0 40)) (byU p0 32)) (byU p0 24)))])), (sA, .inl (cC, 1600, .inl g_18))] H := hP
  have hD : va_D A [(h0, .inr (3, [.ref sA, .int (nI (sgn (sgn (sgn (sgn (sgn n (byU p0 56)) (byU p0 48)) (byU p0 40)) (byU p0 32)) (byU p0 24)))])), (sA, .inl (cC, 1600, .inl g_18))] := hD
  refine lv_iinc (v := 16) (lv' := [(3, .int 16), (0, .ref h0), (1, .long p0)]) hx hb dX3_addBytes_19 hl (k := 0) rfl (by decide) (by decide) rfl (fun ls hl => ?_)
  refine lv_goto (tgt := 3) hx hb dX3_addBytes_22 (by decide) ?_
  refine lv_iload_n hx hb dX3_addBytes_3 rfl (lv_at hl 0 rfl) ?_
  refine lv_if_lt (tgt := 25) hx hb dX3_addBytes_4 (by decide) (fun h9 => absurd h9 (by decide)) (fun _ => ?_)
  refine lv_aload_n hx hb dX3_addBytes_7 rfl (lv_at hl 1 rfl) ?_
  refine lv_lload_n hx hb dX3_addBytes_8 rfl (lv_at hl 2 rfl) ?_
  refine lv_iload_n hx hb dX3_addBytes_9 rfl (lv_at hl 0 rfl) ?_
  refine lv_lushr (v := (p0.toUInt64 >>> ((16 : Int32).toInt64.toUInt64 &&& Int64.toUInt64 63)).toInt64) hx hb dX3_addBytes_10 rfl ?_
  refine lv_l2i (v := ((p0.toUInt64 >>> ((16 : Int32).toInt64.toUInt64 &&& Int64.toUInt64 63)).toInt64).toInt32) hx hb dX3_addBytes_11 rfl ?_
  refine lv_sipush (v := 255) hx hb dX3_addBytes_12 (by decide) ?_
  refine lv_iand hx hb dX3_addBytes_15 ?_
  refine lv_topi (fun v_ ev_ => ?_)
  obtain rfl : v_ = (byU p0 16) := ev_.trans (rfl)
  have hPc := hP.sub (ws' := [(h0, .inr (3, [.ref sA, .int (nI (sgn (sgn (sgn (sgn (sgn n (byU p0 56)) (byU p0 48)) (byU p0 40)) (byU p0 32)) (byU p0 24)))])), (sA, .inl (cC, 1600, .inl g_18))]) [0, 1] rfl
  have hDc := hD.sub (ws' := [(h0, .inr (3, [.ref sA, .int (nI (sgn (sgn (sgn (sgn (sgn n (byU p0 56)) (byU p0 48)) (byU p0 40)) (byU p0 32)) (byU p0 24)))])), (sA, .inl (cC, 1600, .inl g_18))]) [0, 1] (by decide) rfl
  have hFc := va_free (wc := [(h0, .inr (3, [.ref sA, .int (nI (sgn (sgn (sgn (sgn (sgn n (byU p0 56)) (byU p0 48)) (byU p0 40)) (byU p0 32)) (byU p0 24)))])), (sA, .inl (cC, 1600, .inl g_18))]) hD hS hA [0, 1] rfl
  refine va_callv (va_runV (As := [.int (byU p0 16)]) (rest := []) ⟨hx, hb, hml, hown, hts⟩ (k_addSign l dC dI cI cZ cC cJ H.size h0 sA (sgn (sgn (sgn (sgn (sgn n (byU p0 56)) (byU p0 48)) (byU p0 40)) (byU p0 32)) (byU p0 24)) g_18 (byU p0 16) (sgn_le (sgn_le (sgn_le (sgn_le (sgn_le hn)))))) (cwV 1 hts gX3_addBytes_X3_addSign rfl rfl rfl (by decide +kernel) ⟨Nat.le_of_ble_eq_true rfl, Nat.le_of_ble_eq_true rfl⟩) ⟨sPre_blind, va_recv hK hPc (ci := 3) (q0 := 0) rfl rfl, fun U hU hW => ⟨rfl, sPre_ok hsk hPc hDc hU hW⟩⟩ rfl rfl hl.1 rfl (lv_room (Nat.le_of_ble_eq_true rfl)) dX3_addBytes_16 ⟨(show 0 + 0 ≤ 0 by omega), (show 0 + 0 ≤ 0 by omega)⟩) hS (fun q _ h => hFc q h) hFc (fun u t H1 locs ht hvm hw hB hz1 hk1 hS => ?_)
  obtain ⟨g_22, l_23⟩ := u
  try dsimp only at hw hB
  have hw_24 := hw
  obtain rfl : l_23 = nI (sgn (sgn (sgn (sgn (sgn (sgn n (byU p0 56)) (byU p0 48)) (byU p0 40)) (byU p0 32)) (byU p0 24)) (byU p0 16)) := hw_24
  obtain ⟨hP1, hD1⟩ := hB
  rw [ht] at hP1
  obtain ⟨hP, hD⟩ := va_join (wr := []) (w1 := [(h0, .inr (3, [.ref sA, .int (nI (sgn (sgn (sgn (sgn (sgn (sgn n (byU p0 56)) (byU p0 48)) (byU p0 40)) (byU p0 32)) (byU p0 24)) (byU p0 16)))])), (sA, .inl (cC, 1600, .inl g_22))]) hP hD [0, 1] [] rfl rfl (by decide) (by decide) hk1 hFc hP1 hD1
  generalize H1 = H at hP hS ⊢
  have hP : va_P (dC, dI) vwCl [(h0, .inr (3, [.ref sA, .int (nI (sgn (sgn (sgn (sgn (sgn (sgn n (byU p0 56)) (byU p0 48)) (byU p0 40)) (byU p0 32)) (byU p0 24)) (byU p0 16)))])), (sA, .inl (cC, 1600, .inl g_22))] H := hP
  have hD : va_D A [(h0, .inr (3, [.ref sA, .int (nI (sgn (sgn (sgn (sgn (sgn (sgn n (byU p0 56)) (byU p0 48)) (byU p0 40)) (byU p0 32)) (byU p0 24)) (byU p0 16)))])), (sA, .inl (cC, 1600, .inl g_22))] := hD
  refine lv_iinc (v := 8) (lv' := [(3, .int 8), (0, .ref h0), (1, .long p0)]) hx hb dX3_addBytes_19 hl (k := 0) rfl (by decide) (by decide) rfl (fun ls hl => ?_)
  refine lv_goto (tgt := 3) hx hb dX3_addBytes_22 (by decide) ?_
  refine lv_iload_n hx hb dX3_addBytes_3 rfl (lv_at hl 0 rfl) ?_
  refine lv_if_lt (tgt := 25) hx hb dX3_addBytes_4 (by decide) (fun h9 => absurd h9 (by decide)) (fun _ => ?_)
  refine lv_aload_n hx hb dX3_addBytes_7 rfl (lv_at hl 1 rfl) ?_
  refine lv_lload_n hx hb dX3_addBytes_8 rfl (lv_at hl 2 rfl) ?_
  refine lv_iload_n hx hb dX3_addBytes_9 rfl (lv_at hl 0 rfl) ?_
  refine lv_lushr (v := (p0.toUInt64 >>> ((8 : Int32).toInt64.toUInt64 &&& Int64.toUInt64 63)).toInt64) hx hb dX3_addBytes_10 rfl ?_
  refine lv_l2i (v := ((p0.toUInt64 >>> ((8 : Int32).toInt64.toUInt64 &&& Int64.toUInt64 63)).toInt64).toInt32) hx hb dX3_addBytes_11 rfl ?_
  refine lv_sipush (v := 255) hx hb dX3_addBytes_12 (by decide) ?_
  refine lv_iand hx hb dX3_addBytes_15 ?_
  refine lv_topi (fun v_ ev_ => ?_)
  obtain rfl : v_ = (byU p0 8) := ev_.trans (rfl)
  have hPc := hP.sub (ws' := [(h0, .inr (3, [.ref sA, .int (nI (sgn (sgn (sgn (sgn (sgn (sgn n (byU p0 56)) (byU p0 48)) (byU p0 40)) (byU p0 32)) (byU p0 24)) (byU p0 16)))])), (sA, .inl (cC, 1600, .inl g_22))]) [0, 1] rfl
  have hDc := hD.sub (ws' := [(h0, .inr (3, [.ref sA, .int (nI (sgn (sgn (sgn (sgn (sgn (sgn n (byU p0 56)) (byU p0 48)) (byU p0 40)) (byU p0 32)) (byU p0 24)) (byU p0 16)))])), (sA, .inl (cC, 1600, .inl g_22))]) [0, 1] (by decide) rfl
  have hFc := va_free (wc := [(h0, .inr (3, [.ref sA, .int (nI (sgn (sgn (sgn (sgn (sgn (sgn n (byU p0 56)) (byU p0 48)) (byU p0 40)) (byU p0 32)) (byU p0 24)) (byU p0 16)))])), (sA, .inl (cC, 1600, .inl g_22))]) hD hS hA [0, 1] rfl
  refine va_callv (va_runV (As := [.int (byU p0 8)]) (rest := []) ⟨hx, hb, hml, hown, hts⟩ (k_addSign l dC dI cI cZ cC cJ H.size h0 sA (sgn (sgn (sgn (sgn (sgn (sgn n (byU p0 56)) (byU p0 48)) (byU p0 40)) (byU p0 32)) (byU p0 24)) (byU p0 16)) g_22 (byU p0 8) (sgn_le (sgn_le (sgn_le (sgn_le (sgn_le (sgn_le hn))))))) (cwV 1 hts gX3_addBytes_X3_addSign rfl rfl rfl (by decide +kernel) ⟨Nat.le_of_ble_eq_true rfl, Nat.le_of_ble_eq_true rfl⟩) ⟨sPre_blind, va_recv hK hPc (ci := 3) (q0 := 0) rfl rfl, fun U hU hW => ⟨rfl, sPre_ok hsk hPc hDc hU hW⟩⟩ rfl rfl hl.1 rfl (lv_room (Nat.le_of_ble_eq_true rfl)) dX3_addBytes_16 ⟨(show 0 + 0 ≤ 0 by omega), (show 0 + 0 ≤ 0 by omega)⟩) hS (fun q _ h => hFc q h) hFc (fun u t H1 locs ht hvm hw hB hz1 hk1 hS => ?_)
  obtain ⟨g_26, l_27⟩ := u
  try dsimp only at hw hB
  have hw_28 := hw
  obtain rfl : l_27 = nI (sgn (sgn (sgn (sgn (sgn (sgn (sgn n (byU p0 56)) (byU p0 48)) (byU p0 40)) (byU p0 32)) (byU p0 24)) (byU p0 16)) (byU p0 8)) := hw_28
  obtain ⟨hP1, hD1⟩ := hB
  rw [ht] at hP1
  obtain ⟨hP, hD⟩ := va_join (wr := []) (w1 := [(h0, .inr (3, [.ref sA, .int (nI (sgn (sgn (sgn (sgn (sgn (sgn (sgn n (byU p0 56)) (byU p0 48)) (byU p0 40)) (byU p0 32)) (byU p0 24)) (byU p0 16)) (byU p0 8)))])), (sA, .inl (cC, 1600, .inl g_26))]) hP hD [0, 1] [] rfl rfl (by decide) (by decide) hk1 hFc hP1 hD1
  generalize H1 = H at hP hS ⊢
  have hP : va_P (dC, dI) vwCl [(h0, .inr (3, [.ref sA, .int (nI (sgn (sgn (sgn (sgn (sgn (sgn (sgn n (byU p0 56)) (byU p0 48)) (byU p0 40)) (byU p0 32)) (byU p0 24)) (byU p0 16)) (byU p0 8)))])), (sA, .inl (cC, 1600, .inl g_26))] H := hP
  have hD : va_D A [(h0, .inr (3, [.ref sA, .int (nI (sgn (sgn (sgn (sgn (sgn (sgn (sgn n (byU p0 56)) (byU p0 48)) (byU p0 40)) (byU p0 32)) (byU p0 24)) (byU p0 16)) (byU p0 8)))])), (sA, .inl (cC, 1600, .inl g_26))] := hD
  refine lv_iinc (v := 0) (lv' := [(3, .int 0), (0, .ref h0), (1, .long p0)]) hx hb dX3_addBytes_19 hl (k := 0) rfl (by decide) (by decide) rfl (fun ls hl => ?_)
  refine lv_goto (tgt := 3) hx hb dX3_addBytes_22 (by decide) ?_
  refine lv_iload_n hx hb dX3_addBytes_3 rfl (lv_at hl 0 rfl) ?_
  refine lv_if_lt (tgt := 25) hx hb dX3_addBytes_4 (by decide) (fun h9 => absurd h9 (by decide)) (fun _ => ?_)
  refine lv_aload_n hx hb dX3_addBytes_7 rfl (lv_at hl 1 rfl) ?_
  refine lv_lload_n hx hb dX3_addBytes_8 rfl (lv_at hl 2 rfl) ?_
  refine lv_iload_n hx hb dX3_addBytes_9 rfl (lv_at hl 0 rfl) ?_
  refine lv_lushr (v := (p0.toUInt64 >>> ((0 : Int32).toInt64.toUInt64 &&& Int64.toUInt64 63)).toInt64) hx hb dX3_addBytes_10 rfl ?_
  refine lv_l2i (v := ((p0.toUInt64 >>> ((0 : Int32).toInt64.toUInt64 &&& Int64.toUInt64 63)).toInt64).toInt32) hx hb dX3_addBytes_11 rfl ?_
  refine lv_sipush (v := 255) hx hb dX3_addBytes_12 (by decide) ?_
  refine lv_iand hx hb dX3_addBytes_15 ?_
  refine lv_topi (fun v_ ev_ => ?_)
  obtain rfl : v_ = (byU p0 0) := ev_.trans (rfl)
  have hPc := hP.sub (ws' := [(h0, .inr (3, [.ref sA, .int (nI (sgn (sgn (sgn (sgn (sgn (sgn (sgn n (byU p0 56)) (byU p0 48)) (byU p0 40)) (byU p0 32)) (byU p0 24)) (byU p0 16)) (byU p0 8)))])), (sA, .inl (cC, 1600, .inl g_26))]) [0, 1] rfl
  have hDc := hD.sub (ws' := [(h0, .inr (3, [.ref sA, .int (nI (sgn (sgn (sgn (sgn (sgn (sgn (sgn n (byU p0 56)) (byU p0 48)) (byU p0 40)) (byU p0 32)) (byU p0 24)) (byU p0 16)) (byU p0 8)))])), (sA, .inl (cC, 1600, .inl g_26))]) [0, 1] (by decide) rfl
  have hFc := va_free (wc := [(h0, .inr (3, [.ref sA, .int (nI (sgn (sgn (sgn (sgn (sgn (sgn (sgn n (byU p0 56)) (byU p0 48)) (byU p0 40)) (byU p0 32)) (byU p0 24)) (byU p0 16)) (byU p0 8)))])), (sA, .inl (cC, 1600, .inl g_26))]) hD hS hA [0, 1] rfl
  refine va_callv (va_runV (As := [.int (byU p0 0)]) (rest := []) ⟨hx, hb, hml, hown, hts⟩ (k_addSign l dC dI cI cZ cC cJ H.size h0 sA (sgn (sgn (sgn (sgn (sgn (sgn (sgn n (byU p0 56)) (byU p0 48)) (byU p0 40)) (byU p0 32)) (byU p0 24)) (byU p0 16)) (byU p0 8)) g_26 (byU p0 0) (sgn_le (sgn_le (sgn_le (sgn_le (sgn_le (sgn_le (sgn_le hn)))))))) (cwV 1 hts gX3_addBytes_X3_addSign rfl rfl rfl (by decide +kernel) ⟨Nat.le_of_ble_eq_true rfl, Nat.le_of_ble_eq_true rfl⟩) ⟨sPre_blind, va_recv hK hPc (ci := 3) (q0 := 0) rfl rfl, fun U hU hW => ⟨rfl, sPre_ok hsk hPc hDc hU hW⟩⟩ rfl rfl hl.1 rfl (lv_room (Nat.le_of_ble_eq_true rfl)) dX3_addBytes_16 ⟨(show 0 + 0 ≤ 0 by omega), (show 0 + 0 ≤ 0 by omega)⟩) hS (fun q _ h => hFc q h) hFc (fun u t H1 locs ht hvm hw hB hz1 hk1 hS => ?_)
  obtain ⟨g_30, l_31⟩ := u
  try dsimp only at hw hB
  have hw_32 := hw
  obtain rfl : l_31 = nI (sgn (sgn (sgn (sgn (sgn (sgn (sgn (sgn n (byU p0 56)) (byU p0 48)) (byU p0 40)) (byU p0 32)) (byU p0 24)) (byU p0 16)) (byU p0 8)) (byU p0 0)) := hw_32
  obtain ⟨hP1, hD1⟩ := hB
  rw [ht] at hP1
  obtain ⟨hP, hD⟩ := va_join (wr := []) (w1 := [(h0, .inr (3, [.ref sA, .int (nI (sgn (sgn (sgn (sgn (sgn (sgn (sgn (sgn n (byU p0 56)) (byU p0 48)) (byU p0 40)) (byU p0 32)) (byU p0 24)) (byU p0 16)) (byU p0 8)) (byU p0 0)))])), (sA, .inl (cC, 1600, .inl g_30))]) hP hD [0, 1] [] rfl rfl (by decide) (by decide) hk1 hFc hP1 hD1
  generalize H1 = H at hP hS ⊢
  have hP : va_P (dC, dI) vwCl [(h0, .inr (3, [.ref sA, .int (nI (sgn (sgn (sgn (sgn (sgn (sgn (sgn (sgn n (byU p0 56)) (byU p0 48)) (byU p0 40)) (byU p0 32)) (byU p0 24)) (byU p0 16)) (byU p0 8)) (byU p0 0)))])), (sA, .inl (cC, 1600, .inl g_30))] H := hP
  have hD : va_D A [(h0, .inr (3, [.ref sA, .int (nI (sgn (sgn (sgn (sgn (sgn (sgn (sgn (sgn n (byU p0 56)) (byU p0 48)) (byU p0 40)) (byU p0 32)) (byU p0 24)) (byU p0 16)) (byU p0 8)) (byU p0 0)))])), (sA, .inl (cC, 1600, .inl g_30))] := hD
  refine lv_iinc (v := (-8)) (lv' := [(3, .int (-8)), (0, .ref h0), (1, .long p0)]) hx hb dX3_addBytes_19 hl (k := 0) rfl (by decide) (by decide) rfl (fun ls hl => ?_)
  refine lv_goto (tgt := 3) hx hb dX3_addBytes_22 (by decide) ?_
  refine lv_iload_n hx hb dX3_addBytes_3 rfl (lv_at hl 0 rfl) ?_
  refine lv_if_lt (tgt := 25) hx hb dX3_addBytes_4 (by decide) (fun _ => ?_) (fun h9 => absurd (by decide) h9)
  have hP9 := hP.sub (ws' := [(h0, .inr (3, [.ref sA, .int (nI (sgn (sgn (sgn (sgn (sgn (sgn (sgn (sgn n (byU p0 56)) (byU p0 48)) (byU p0 40)) (byU p0 32)) (byU p0 24)) (byU p0 16)) (byU p0 8)) (byU p0 0)))])), (sA, .inl (cC, 1600, .inl g_30))]) [0, 1] rfl
  have hD9 := hD.sub (ws' := [(h0, .inr (3, [.ref sA, .int (nI (sgn (sgn (sgn (sgn (sgn (sgn (sgn (sgn n (byU p0 56)) (byU p0 48)) (byU p0 40)) (byU p0 32)) (byU p0 24)) (byU p0 16)) (byU p0 8)) (byU p0 0)))])), (sA, .inl (cC, 1600, .inl g_30))]) [0, 1] (by decide) rfl
  exact W.vret hx hb hr (fun t ht hW => ⟨⟨(g_30, nI (sgn (sgn (sgn (sgn (sgn (sgn (sgn (sgn n (byU p0 56)) (byU p0 48)) (byU p0 40)) (byU p0 32)) (byU p0 24)) (byU p0 16)) (byU p0 8)) (byU p0 0))), rfl, rfl, by rw [ht]; exact hP9, hD9⟩, hS.F ht⟩) hS.2.2 dX3_addBytes_25
set_option maxHeartbeats 4000000 in
set_option maxRecDepth 100000 in
theorem k_feed (l : Launch) (dC : Nat → ClassId) (dI : Nat → Nat → Nat) (cI cZ cC cJ : ClassId) (sz : Nat) (h0 : Nat) (kO : Nat) (nO : Nat) (rO : Nat) (mO : Nat) (tO : Nat) (rdO : Nat) (lnO : Nat) (drO : Nat) (chO : Nat) (sA : Nat) (n : Nat) (fs : Nat → Int32) (p0 : Int64) (p1 : Int64) (p2 : Int64) (hn : n ≤ 1600) : Met l yX4_feed wsX4_feed ({ frames := 2, cells := 0, slots := 0, locals := 45 }) (va_Pc [.ref h0, .long p0, .long p1, .long p2] (sPre dC dI cI cZ cC cJ [(h0, .inr (4, [.ref kO, .ref nO, .ref rO, .ref mO, .int 0, .ref tO, .ref rdO, .ref lnO, .ref drO, .ref chO])), (tO, .inr (3, [.ref sA, .int (nI n)])), (sA, .inl (cC, 1600, .inl fs))] sz)) (va_Qi (fun (r : Int32) (u : Unit) => r = nI (sgF (byU p2) ks8 (sgF (byU p1) ks8 (sgF (byU p0) ks8 n)))) (fun _ => sB dC dI (va_A [(h0, .inr (4, [.ref kO, .ref nO, .ref rO, .ref mO, .int 0, .ref tO, .ref rdO, .ref lnO, .ref drO, .ref chO])), (tO, .inr (3, [.ref sA, .int (nI n)])), (sA, .inl (cC, 1600, .inl fs))] sz) []) (va_A [(h0, .inr (4, [.ref kO, .ref nO, .ref rO, .ref mO, .int 0, .ref tO, .ref rdO, .ref lnO, .ref drO, .ref chO])), (tO, .inr (3, [.ref sA, .int (nI n)])), (sA, .inl (cC, 1600, .inl fs))] sz)) 0 0 (va_A [(h0, .inr (4, [.ref kO, .ref nO, .ref rO, .ref mO, .int 0, .ref tO, .ref rdO, .ref lnO, .ref drO, .ref chO])), (tO, .inr (3, [.ref sA, .int (nI n)])), (sA, .inl (cC, 1600, .inl fs))] sz) := by
  refine Met.ofW (cc := cX4_feed) (maxL := 7) (ret := (some .int)) (by decide) rfl ?_
  intro p e s m args below meth c s₁ B hml hv
  obtain ⟨rfl, hsz, hP, hsk, hD0⟩ := hv
  have hx := B.exec
  have hb := B.bytes
  have hr := B.returns
  have hts := atoms_spec (ws := wsX4_feed) B.pre
  have hown : s.vm.findClass RX4 = some m.cls := findClass_of_methodNamed B.named
  have hlocks := B.notSynchronized
  have hK := hsk.1
  have i3 : ∀ w ∈ wsX30, w ∈ wsX4_feed := by decide +kernel
  have i4 : ∀ w ∈ wsX40, w ∈ wsX4_feed := by decide +kernel
  subst hsz
  have hD := hD0.self (sz := s.heap.size)
  generalize hAe : va_A [(h0, .inr (4, [.ref kO, .ref nO, .ref rO, .ref mO, .int 0, .ref tO, .ref rdO, .ref lnO, .ref drO, .ref chO])), (tO, .inr (3, [.ref sA, .int (nI n)])), (sA, .inl (cC, 1600, .inl fs))] s.heap.size = A at hD ⊢
  have hA : ∀ q : Nat, s.heap.size ≤ q → A q := fun q h => by rw [← hAe]; exact Or.inr h
  have hS : va_S A s.heap s.heap [] := va_S.rf
  have hl := lv_entry ([.ref h0, .long p0, .long p1, .long p2]) (n := 7) (Nat.le_of_ble_eq_true rfl)
  rw [lg_entry_eq]
  generalize (lg_sl ([.ref h0, .long p0, .long p1, .long p2]) ++ List.replicate (7 - (lg_sl ([.ref h0, .long p0, .long p1, .long p2])).length) Slot.unset).toArray = ls at hl ⊢
  have hl : lv_has ls 7 [(0, .ref h0), (1, .long p0), (3, .long p1), (5, .long p2)] := hl
  refine lv_aload_n hx hb dX4_feed_0 rfl (lv_at hl 0 rfl) ?_
  refine va_get (D := (dC, dI)) (ci := 4) (v := .ref tO) (C := RX4) (T := TX4) (N := 10) hx hb hts i4 hown hK hP 0 rfl rfl 5 (by decide) (hts (.fieldLink RX4 26 "StopSetter" "tape" "LStopSetter$Tape;") (by decide +kernel)) (fun _ h9 => h9) rfl dX4_feed_1 ?_
  refine lv_lload_n hx hb dX4_feed_4 rfl (lv_at hl 1 rfl) ?_
  have hPc := hP.sub (ws' := [(tO, .inr (3, [.ref sA, .int (nI n)])), (sA, .inl (cC, 1600, .inl fs))]) [1, 2] rfl
  have hDc := hD.sub (ws' := [(tO, .inr (3, [.ref sA, .int (nI n)])), (sA, .inl (cC, 1600, .inl fs))]) [1, 2] (by decide) rfl
  have hFc := va_free (wc := [(tO, .inr (3, [.ref sA, .int (nI n)])), (sA, .inl (cC, 1600, .inl fs))]) hD hS hA [1, 2] rfl
  refine va_callv (va_runV (As := [.long p0]) (rest := []) ⟨hx, hb, hml, hown, hts⟩ (k_addBytes l dC dI cI cZ cC cJ s.heap.size tO sA n fs p0 hn) (cwV 1 hts gX4_feed_X3_addBytes rfl rfl rfl (by decide +kernel) ⟨Nat.le_of_ble_eq_true rfl, Nat.le_of_ble_eq_true rfl⟩) ⟨sPre_blind, va_recv hK hPc (ci := 3) (q0 := 0) rfl rfl, fun U hU hW => ⟨rfl, sPre_ok hsk hPc hDc hU hW⟩⟩ rfl rfl hl.1 rfl (lv_room (Nat.le_of_ble_eq_true rfl)) dX4_feed_5 ⟨(show 0 + 0 ≤ 0 by omega), (show 0 + 0 ≤ 0 by omega)⟩) hS (fun q _ h => hFc q h) hFc (fun u t H1 locs ht hvm hw hB hz1 hk1 hS => ?_)
  obtain ⟨g_2, l_3⟩ := u
  try dsimp only at hw hB
  have hw_4 := hw
  obtain rfl : l_3 = nI (sgF (byU p0) ks8 n) := hw_4
  obtain ⟨hP1, hD1⟩ := hB
  rw [ht] at hP1
  obtain ⟨hP, hD⟩ := va_join (wr := [(h0, .inr (4, [.ref kO, .ref nO, .ref rO, .ref mO, .int 0, .ref tO, .ref rdO, .ref lnO, .ref drO, .ref chO]))]) (w1 := [(tO, .inr (3, [.ref sA, .int (nI (sgF (byU p0) ks8 n))])), (sA, .inl (cC, 1600, .inl g_2))]) hP hD [1, 2] [0] rfl rfl (by decide) (by decide) hk1 hFc hP1 hD1
  generalize H1 = H at hP hS ⊢
  have hP : va_P (dC, dI) vwCl [(h0, .inr (4, [.ref kO, .ref nO, .ref rO, .ref mO, .int 0, .ref tO, .ref rdO, .ref lnO, .ref drO, .ref chO])), (tO, .inr (3, [.ref sA, .int (nI (sgF (byU p0) ks8 n))])), (sA, .inl (cC, 1600, .inl g_2))] H := hP
  have hD : va_D A [(h0, .inr (4, [.ref kO, .ref nO, .ref rO, .ref mO, .int 0, .ref tO, .ref rdO, .ref lnO, .ref drO, .ref chO])), (tO, .inr (3, [.ref sA, .int (nI (sgF (byU p0) ks8 n))])), (sA, .inl (cC, 1600, .inl g_2))] := hD
  refine lv_aload_n hx hb dX4_feed_8 rfl (lv_at hl 0 rfl) ?_
  refine va_get (D := (dC, dI)) (ci := 4) (v := .ref tO) (C := RX4) (T := TX4) (N := 10) hx hb hts i4 hown hK hP 0 rfl rfl 5 (by decide) (hts (.fieldLink RX4 26 "StopSetter" "tape" "LStopSetter$Tape;") (by decide +kernel)) (fun _ h9 => h9) rfl dX4_feed_9 ?_
  refine lv_lload_n hx hb dX4_feed_12 rfl (lv_at hl 2 rfl) ?_
  have hPc := hP.sub (ws' := [(tO, .inr (3, [.ref sA, .int (nI (sgF (byU p0) ks8 n))])), (sA, .inl (cC, 1600, .inl g_2))]) [1, 2] rfl
  have hDc := hD.sub (ws' := [(tO, .inr (3, [.ref sA, .int (nI (sgF (byU p0) ks8 n))])), (sA, .inl (cC, 1600, .inl g_2))]) [1, 2] (by decide) rfl
  have hFc := va_free (wc := [(tO, .inr (3, [.ref sA, .int (nI (sgF (byU p0) ks8 n))])), (sA, .inl (cC, 1600, .inl g_2))]) hD hS hA [1, 2] rfl
  refine va_callv (va_runV (As := [.long p1]) (rest := []) ⟨hx, hb, hml, hown, hts⟩ (k_addBytes l dC dI cI cZ cC cJ H.size tO sA (sgF (byU p0) ks8 n) g_2 p1 (sgF_le _ _ _ hn)) (cwV 1 hts gX4_feed_X3_addBytes rfl rfl rfl (by decide +kernel) ⟨Nat.le_of_ble_eq_true rfl, Nat.le_of_ble_eq_true rfl⟩) ⟨sPre_blind, va_recv hK hPc (ci := 3) (q0 := 0) rfl rfl, fun U hU hW => ⟨rfl, sPre_ok hsk hPc hDc hU hW⟩⟩ rfl rfl hl.1 rfl (lv_room (Nat.le_of_ble_eq_true rfl)) dX4_feed_13 ⟨(show 0 + 0 ≤ 0 by omega), (show 0 + 0 ≤ 0 by omega)⟩) hS (fun q _ h => hFc q h) hFc (fun u t H1 locs ht hvm hw hB hz1 hk1 hS => ?_)
  obtain ⟨g_6, l_7⟩ := u
  try dsimp only at hw hB
  have hw_8 := hw
  obtain rfl : l_7 = nI (sgF (byU p1) ks8 (sgF (byU p0) ks8 n)) := hw_8
  obtain ⟨hP1, hD1⟩ := hB
  rw [ht] at hP1
  obtain ⟨hP, hD⟩ := va_join (wr := [(h0, .inr (4, [.ref kO, .ref nO, .ref rO, .ref mO, .int 0, .ref tO, .ref rdO, .ref lnO, .ref drO, .ref chO]))]) (w1 := [(tO, .inr (3, [.ref sA, .int (nI (sgF (byU p1) ks8 (sgF (byU p0) ks8 n)))])), (sA, .inl (cC, 1600, .inl g_6))]) hP hD [1, 2] [0] rfl rfl (by decide) (by decide) hk1 hFc hP1 hD1
  generalize H1 = H at hP hS ⊢
  have hP : va_P (dC, dI) vwCl [(h0, .inr (4, [.ref kO, .ref nO, .ref rO, .ref mO, .int 0, .ref tO, .ref rdO, .ref lnO, .ref drO, .ref chO])), (tO, .inr (3, [.ref sA, .int (nI (sgF (byU p1) ks8 (sgF (byU p0) ks8 n)))])), (sA, .inl (cC, 1600, .inl g_6))] H := hP
  have hD : va_D A [(h0, .inr (4, [.ref kO, .ref nO, .ref rO, .ref mO, .int 0, .ref tO, .ref rdO, .ref lnO, .ref drO, .ref chO])), (tO, .inr (3, [.ref sA, .int (nI (sgF (byU p1) ks8 (sgF (byU p0) ks8 n)))])), (sA, .inl (cC, 1600, .inl g_6))] := hD
  refine lv_aload_n hx hb dX4_feed_16 rfl (lv_at hl 0 rfl) ?_
  refine va_get (D := (dC, dI)) (ci := 4) (v := .ref tO) (C := RX4) (T := TX4) (N := 10) hx hb hts i4 hown hK hP 0 rfl rfl 5 (by decide) (hts (.fieldLink RX4 26 "StopSetter" "tape" "LStopSetter$Tape;") (by decide +kernel)) (fun _ h9 => h9) rfl dX4_feed_17 ?_
  refine lv_lload hx hb dX4_feed_20 (lv_at hl 3 rfl) ?_
  have hPc := hP.sub (ws' := [(tO, .inr (3, [.ref sA, .int (nI (sgF (byU p1) ks8 (sgF (byU p0) ks8 n)))])), (sA, .inl (cC, 1600, .inl g_6))]) [1, 2] rfl
  have hDc := hD.sub (ws' := [(tO, .inr (3, [.ref sA, .int (nI (sgF (byU p1) ks8 (sgF (byU p0) ks8 n)))])), (sA, .inl (cC, 1600, .inl g_6))]) [1, 2] (by decide) rfl
  have hFc := va_free (wc := [(tO, .inr (3, [.ref sA, .int (nI (sgF (byU p1) ks8 (sgF (byU p0) ks8 n)))])), (sA, .inl (cC, 1600, .inl g_6))]) hD hS hA [1, 2] rfl
  refine va_callv (va_runV (As := [.long p2]) (rest := []) ⟨hx, hb, hml, hown, hts⟩ (k_addBytes l dC dI cI cZ cC cJ H.size tO sA (sgF (byU p1) ks8 (sgF (byU p0) ks8 n)) g_6 p2 (sgF_le _ _ _ (sgF_le _ _ _ hn))) (cwV 1 hts gX4_feed_X3_addBytes rfl rfl rfl (by decide +kernel) ⟨Nat.le_of_ble_eq_true rfl, Nat.le_of_ble_eq_true rfl⟩) ⟨sPre_blind, va_recv hK hPc (ci := 3) (q0 := 0) rfl rfl, fun U hU hW => ⟨rfl, sPre_ok hsk hPc hDc hU hW⟩⟩ rfl rfl hl.1 rfl (lv_room (Nat.le_of_ble_eq_true rfl)) dX4_feed_22 ⟨(show 0 + 0 ≤ 0 by omega), (show 0 + 0 ≤ 0 by omega)⟩) hS (fun q _ h => hFc q h) hFc (fun u t H1 locs ht hvm hw hB hz1 hk1 hS => ?_)
  obtain ⟨g_10, l_11⟩ := u
  try dsimp only at hw hB
  have hw_12 := hw
  obtain rfl : l_11 = nI (sgF (byU p2) ks8 (sgF (byU p1) ks8 (sgF (byU p0) ks8 n))) := hw_12
  obtain ⟨hP1, hD1⟩ := hB
  rw [ht] at hP1
  obtain ⟨hP, hD⟩ := va_join (wr := [(h0, .inr (4, [.ref kO, .ref nO, .ref rO, .ref mO, .int 0, .ref tO, .ref rdO, .ref lnO, .ref drO, .ref chO]))]) (w1 := [(tO, .inr (3, [.ref sA, .int (nI (sgF (byU p2) ks8 (sgF (byU p1) ks8 (sgF (byU p0) ks8 n))))])), (sA, .inl (cC, 1600, .inl g_10))]) hP hD [1, 2] [0] rfl rfl (by decide) (by decide) hk1 hFc hP1 hD1
  generalize H1 = H at hP hS ⊢
  have hP : va_P (dC, dI) vwCl [(h0, .inr (4, [.ref kO, .ref nO, .ref rO, .ref mO, .int 0, .ref tO, .ref rdO, .ref lnO, .ref drO, .ref chO])), (tO, .inr (3, [.ref sA, .int (nI (sgF (byU p2) ks8 (sgF (byU p1) ks8 (sgF (byU p0) ks8 n))))])), (sA, .inl (cC, 1600, .inl g_10))] H := hP
  have hD : va_D A [(h0, .inr (4, [.ref kO, .ref nO, .ref rO, .ref mO, .int 0, .ref tO, .ref rdO, .ref lnO, .ref drO, .ref chO])), (tO, .inr (3, [.ref sA, .int (nI (sgF (byU p2) ks8 (sgF (byU p1) ks8 (sgF (byU p0) ks8 n))))])), (sA, .inl (cC, 1600, .inl g_10))] := hD
  refine lv_aload_n hx hb dX4_feed_25 rfl (lv_at hl 0 rfl) ?_
  refine va_get (D := (dC, dI)) (ci := 4) (v := .ref tO) (C := RX4) (T := TX4) (N := 10) hx hb hts i4 hown hK hP 0 rfl rfl 5 (by decide) (hts (.fieldLink RX4 26 "StopSetter" "tape" "LStopSetter$Tape;") (by decide +kernel)) (fun _ h9 => h9) rfl dX4_feed_26 ?_
  refine va_getN (D := (dC, dI)) (ci := 3) (v := .int (nI (sgF (byU p2) ks8 (sgF (byU p1) ks8 (sgF (byU p0) ks8 n))))) (C := RX3) (T := TX3) (N := 2) hx hb hts i3 hown hK hP 1 rfl rfl 1 (by decide) (va_Nw.use rfl (hsk.2.1 ("StopSetter", 85, "StopSetter$Tape", "length", "I", "StopSetter") (by decide +kernel))) (fun _ h9 => h9) rfl dX4_feed_29 ?_
  have hP9 := hP.sub (ws' := []) [] rfl
  have hD9 := hD.sub (ws' := []) [] (by decide) rfl
  exact W.iret (v := nI (sgF (byU p2) ks8 (sgF (byU p1) ks8 (sgF (byU p0) ks8 n)))) hx hb hr (fun t ht hW => ⟨⟨nI (sgF (byU p2) ks8 (sgF (byU p1) ks8 (sgF (byU p0) ks8 n))), (), rfl, rfl, by rw [ht]; exact hP9, hD9⟩, hS.F ht⟩) hS.2.2 dX4_feed_32
set_option maxHeartbeats 4000000 in
set_option maxRecDepth 100000 in
theorem k_signAt0 (l : Launch) (dC : Nat → ClassId) (dI : Nat → Nat → Nat) (cI cZ cC cJ : ClassId) (sz : Nat) (h0 : Nat) (sA : Nat)  : Met l yX3_signAt wsX3_signAt ({ frames := 0, cells := 0, slots := 0, locals := 0 }) (va_Pc [.ref h0, .int 0] (sPre dC dI cI cZ cC cJ [(h0, .inr (3, [.ref sA, .int 0]))] sz)) (va_Qi (fun (r : Int32) (u : Unit) => r = (-1)) (fun _ => sB dC dI (va_A [(h0, .inr (3, [.ref sA, .int 0]))] sz) [(h0, .inr (3, [.ref sA, .int 0]))]) (va_A [(h0, .inr (3, [.ref sA, .int 0]))] sz)) 0 0 (va_A [(h0, .inr (3, [.ref sA, .int 0]))] sz) := by
  refine Met.ofW (cc := cX3_signAt) (maxL := 2) (ret := (some .int)) (by decide) rfl ?_
  intro p e s m args below meth c s₁ B hml hv
  obtain ⟨rfl, hsz, hP, hsk, hD0⟩ := hv
  have hx := B.exec
  have hb := B.bytes
  have hr := B.returns
  have hts := atoms_spec (ws := wsX3_signAt) B.pre
  have hown : s.vm.findClass RX3 = some m.cls := findClass_of_methodNamed B.named
  have hlocks := B.notSynchronized
  have hK := hsk.1
  have i3 : ∀ w ∈ wsX30, w ∈ wsX3_signAt := by decide +kernel
  subst hsz
  have hD := hD0.self (sz := s.heap.size)
  generalize hAe : va_A [(h0, .inr (3, [.ref sA, .int 0]))] s.heap.size = A at hD ⊢
  have hA : ∀ q : Nat, s.heap.size ≤ q → A q := fun q h => by rw [← hAe]; exact Or.inr h
  have hS : va_S A s.heap s.heap [] := va_S.rf
  have hl := lv_entry ([.ref h0, .int 0]) (n := 2) (Nat.le_of_ble_eq_true rfl)
  rw [lg_entry_eq]
  generalize (lg_sl ([.ref h0, .int 0]) ++ List.replicate (2 - (lg_sl ([.ref h0, .int 0])).length) Slot.unset).toArray = ls at hl ⊢
  have hl : lv_has ls 2 [(0, .ref h0), (1, .int 0)] := hl
  refine lv_iload_n hx hb dX3_signAt_0 rfl (lv_at hl 1 rfl) ?_
  refine lv_if_lt (tgt := 28) hx hb dX3_signAt_1 (by decide) (fun h9 => absurd h9 (by decide)) (fun _ => ?_)
  refine lv_iload_n hx hb dX3_signAt_4 rfl (lv_at hl 1 rfl) ?_
  refine lv_aload_n hx hb dX3_signAt_5 rfl (lv_at hl 0 rfl) ?_
  refine va_get (D := (dC, dI)) (ci := 3) (v := .int 0) (C := RX3) (T := TX3) (N := 2) hx hb hts i3 hown hK hP 0 rfl rfl 1 (by decide) (hts (.fieldLink RX3 17 "StopSetter$Tape" "length" "I") (by decide +kernel)) (fun _ h9 => h9) rfl dX3_signAt_6 ?_
  refine lv_icmp_ge (tgt := 28) hx hb dX3_signAt_9 (by decide) (fun _ => ?_) (fun h9 => absurd (by decide) h9)
  refine lv_iconst (v := (-1)) hx hb dX3_signAt_28 (by decide) ?_
  have hP9 := hP.sub (ws' := [(h0, .inr (3, [.ref sA, .int 0]))]) [0] rfl
  have hD9 := hD.sub (ws' := [(h0, .inr (3, [.ref sA, .int 0]))]) [0] (by decide) rfl
  exact W.iret (v := (-1)) hx hb hr (fun t ht hW => ⟨⟨(-1), (), rfl, rfl, by rw [ht]; exact hP9, hD9⟩, hS.F ht⟩) hS.2.2 dX3_signAt_29
set_option maxHeartbeats 4000000 in
set_option maxRecDepth 100000 in
theorem k_sortOfEnd (l : Launch) (dC : Nat → ClassId) (dI : Nat → Nat → Nat) (cI cZ cC cJ : ClassId) (sz : Nat)   : Met l yX2_sortOf wsX2_sortOf ({ frames := 0, cells := 0, slots := 0, locals := 0 }) (va_Pc [.int (-1)] (sPre dC dI cI cZ cC cJ [] sz)) (va_Qi (fun (r : Int32) (u : Unit) => r = 0) (fun _ => sB dC dI (va_A [] sz) []) (va_A [] sz)) 0 0 (va_A [] sz) := by
  refine Met.ofW (cc := cX2_sortOf) (maxL := 1) (ret := (some .int)) (by decide) rfl ?_
  intro p e s m args below meth c s₁ B hml hv
  obtain ⟨rfl, hsz, hP, hsk, hD0⟩ := hv
  have hx := B.exec
  have hb := B.bytes
  have hr := B.returns
  have hts := atoms_spec (ws := wsX2_sortOf) B.pre
  have hown : s.vm.findClass RX2 = some m.cls := findClass_of_methodNamed B.named
  have hlocks := B.notSynchronized
  have hK := hsk.1
  subst hsz
  have hD := hD0.self (sz := s.heap.size)
  generalize hAe : va_A [] s.heap.size = A at hD ⊢
  have hA : ∀ q : Nat, s.heap.size ≤ q → A q := fun q h => by rw [← hAe]; exact Or.inr h
  have hS : va_S A s.heap s.heap [] := va_S.rf
  have hl := lv_entry ([.int (-1)]) (n := 1) (Nat.le_of_ble_eq_true rfl)
  rw [lg_entry_eq]
  generalize (lg_sl ([.int (-1)]) ++ List.replicate (1 - (lg_sl ([.int (-1)])).length) Slot.unset).toArray = ls at hl ⊢
  have hl : lv_has ls 1 [(0, .int (-1))] := hl
  refine lv_iload_n hx hb dX2_sortOf_0 rfl (lv_at hl 0 rfl) ?_
  refine lv_iconst (v := (-1)) hx hb dX2_sortOf_1 (by decide) ?_
  refine lv_icmp_ne (tgt := 7) hx hb dX2_sortOf_2 (by decide) (fun h9 => absurd (by decide) h9) (fun _ => ?_)
  refine lv_iconst (v := 0) hx hb dX2_sortOf_5 (by decide) ?_
  have hP9 := hP.sub (ws' := []) [] rfl
  have hD9 := hD.sub (ws' := []) [] (by decide) rfl
  exact W.iret (v := 0) hx hb hr (fun t ht hW => ⟨⟨0, (), rfl, rfl, by rw [ht]; exact hP9, hD9⟩, hS.F ht⟩) hS.2.2 dX2_sortOf_6
set_option maxHeartbeats 4000000 in
set_option maxRecDepth 100000 in
theorem k_runEnd0 (l : Launch) (dC : Nat → ClassId) (dI : Nat → Nat → Nat) (cI cZ cC cJ : ClassId) (sz : Nat) (h0 : Nat) (tO : Nat) (sA : Nat)  : Met l yX2_runEnd wsX2_runEnd ({ frames := 0, cells := 0, slots := 0, locals := 0 }) (va_Pc [.ref h0, .int 0, .int 1] (sPre dC dI cI cZ cC cJ [(h0, .inr (2, [.ref tO, .int 0, .int 0, .int 0, .int 0])), (tO, .inr (3, [.ref sA, .int 0]))] sz)) (va_Qi (fun (r : Int32) (u : Unit) => r = 0) (fun _ => sB dC dI (va_A [(h0, .inr (2, [.ref tO, .int 0, .int 0, .int 0, .int 0])), (tO, .inr (3, [.ref sA, .int 0]))] sz) [(h0, .inr (2, [.ref tO, .int 0, .int 0, .int 0, .int 0])), (tO, .inr (3, [.ref sA, .int 0]))]) (va_A [(h0, .inr (2, [.ref tO, .int 0, .int 0, .int 0, .int 0])), (tO, .inr (3, [.ref sA, .int 0]))] sz)) 0 0 (va_A [(h0, .inr (2, [.ref tO, .int 0, .int 0, .int 0, .int 0])), (tO, .inr (3, [.ref sA, .int 0]))] sz) := by
  refine Met.ofW (cc := cX2_runEnd) (maxL := 4) (ret := (some .int)) (by decide) rfl ?_
  intro p e s m args below meth c s₁ B hml hv
  obtain ⟨rfl, hsz, hP, hsk, hD0⟩ := hv
  have hx := B.exec
  have hb := B.bytes
  have hr := B.returns
  have hts := atoms_spec (ws := wsX2_runEnd) B.pre
  have hown : s.vm.findClass RX2 = some m.cls := findClass_of_methodNamed B.named
  have hlocks := B.notSynchronized
  have hK := hsk.1
  have i2 : ∀ w ∈ wsX20, w ∈ wsX2_runEnd := by decide +kernel
  have i3 : ∀ w ∈ wsX30, w ∈ wsX2_runEnd := by decide +kernel
  subst hsz
  have hD := hD0.self (sz := s.heap.size)
  generalize hAe : va_A [(h0, .inr (2, [.ref tO, .int 0, .int 0, .int 0, .int 0])), (tO, .inr (3, [.ref sA, .int 0]))] s.heap.size = A at hD ⊢
  have hA : ∀ q : Nat, s.heap.size ≤ q → A q := fun q h => by rw [← hAe]; exact Or.inr h
  have hS : va_S A s.heap s.heap [] := va_S.rf
  have hl := lv_entry ([.ref h0, .int 0, .int 1]) (n := 4) (Nat.le_of_ble_eq_true rfl)
  rw [lg_entry_eq]
  generalize (lg_sl ([.ref h0, .int 0, .int 1]) ++ List.replicate (4 - (lg_sl ([.ref h0, .int 0, .int 1])).length) Slot.unset).toArray = ls at hl ⊢
  have hl : lv_has ls 4 [(0, .ref h0), (1, .int 0), (2, .int 1)] := hl
  refine lv_iload_n hx hb dX2_runEnd_0 rfl (lv_at hl 1 rfl) ?_
  refine lv_istore_n (lv' := [(3, .int 0), (0, .ref h0), (1, .int 0), (2, .int 1)]) hx hb dX2_runEnd_1 rfl hl (by decide) rfl (fun ls hl => ?_)
  refine lv_iload_n hx hb dX2_runEnd_2 rfl (lv_at hl 0 rfl) ?_
  refine lv_aload_n hx hb dX2_runEnd_3 rfl (lv_at hl 1 rfl) ?_
  refine va_get (D := (dC, dI)) (ci := 2) (v := .ref tO) (C := RX2) (T := TX2) (N := 5) hx hb hts i2 hown hK hP 0 rfl rfl 0 (by decide) (hts (.fieldLink RX2 9 "StopSetter$Reader" "tape" "LStopSetter$Tape;") (by decide +kernel)) (fun _ h9 => h9) rfl dX2_runEnd_4 ?_
  refine va_getN (D := (dC, dI)) (ci := 3) (v := .int 0) (C := RX3) (T := TX3) (N := 2) hx hb hts i3 hown hK hP 1 rfl rfl 1 (by decide) (va_Nw.use rfl (hsk.2.1 ("StopSetter$Reader", 119, "StopSetter$Tape", "length", "I", "StopSetter") (by decide +kernel))) (fun _ h9 => h9) rfl dX2_runEnd_7 ?_
  refine lv_icmp_ge (tgt := 36) hx hb dX2_runEnd_10 (by decide) (fun _ => ?_) (fun h9 => absurd (by decide) h9)
  refine lv_aload_n hx hb dX2_runEnd_36 rfl (lv_at hl 1 rfl) ?_
  refine va_get (D := (dC, dI)) (ci := 2) (v := .ref tO) (C := RX2) (T := TX2) (N := 5) hx hb hts i2 hown hK hP 0 rfl rfl 0 (by decide) (hts (.fieldLink RX2 9 "StopSetter$Reader" "tape" "LStopSetter$Tape;") (by decide +kernel)) (fun _ h9 => h9) rfl dX2_runEnd_37 ?_
  refine va_getN (D := (dC, dI)) (ci := 3) (v := .int 0) (C := RX3) (T := TX3) (N := 2) hx hb hts i3 hown hK hP 1 rfl rfl 1 (by decide) (va_Nw.use rfl (hsk.2.1 ("StopSetter$Reader", 119, "StopSetter$Tape", "length", "I", "StopSetter") (by decide +kernel))) (fun _ h9 => h9) rfl dX2_runEnd_40 ?_
  have hP9 := hP.sub (ws' := [(h0, .inr (2, [.ref tO, .int 0, .int 0, .int 0, .int 0])), (tO, .inr (3, [.ref sA, .int 0]))]) [0, 1] rfl
  have hD9 := hD.sub (ws' := [(h0, .inr (2, [.ref tO, .int 0, .int 0, .int 0, .int 0])), (tO, .inr (3, [.ref sA, .int 0]))]) [0, 1] (by decide) rfl
  exact W.iret (v := 0) hx hb hr (fun t ht hW => ⟨⟨0, (), rfl, rfl, by rw [ht]; exact hP9, hD9⟩, hS.F ht⟩) hS.2.2 dX2_runEnd_43
set_option maxHeartbeats 4000000 in
set_option maxRecDepth 100000 in
theorem k_advance0 (l : Launch) (dC : Nat → ClassId) (dI : Nat → Nat → Nat) (cI cZ cC cJ : ClassId) (sz : Nat) (h0 : Nat) (tO : Nat) (sA : Nat)  : Met l yX2_advance wsX2_advance ({ frames := 1, cells := 0, slots := 0, locals := 23 }) (va_Pc [.ref h0] (sPre dC dI cI cZ cC cJ [(h0, .inr (2, [.ref tO, .int 0, .int 0, .int 0, .int 0])), (tO, .inr (3, [.ref sA, .int 0]))] sz)) (va_Qv (fun (u : Unit) => True) (fun _ => sB dC dI (va_A [(h0, .inr (2, [.ref tO, .int 0, .int 0, .int 0, .int 0])), (tO, .inr (3, [.ref sA, .int 0]))] sz) [(h0, .inr (2, [.ref tO, .int 0, .int 0, .int 0, .int 0])), (tO, .inr (3, [.ref sA, .int 0]))]) (va_A [(h0, .inr (2, [.ref tO, .int 0, .int 0, .int 0, .int 0])), (tO, .inr (3, [.ref sA, .int 0]))] sz)) 0 0 (va_A [(h0, .inr (2, [.ref tO, .int 0, .int 0, .int 0, .int 0])), (tO, .inr (3, [.ref sA, .int 0]))] sz) := by
  refine Met.ofW (cc := cX2_advance) (maxL := 2) (ret := none) (by decide) rfl ?_
  intro p e s m args below meth c s₁ B hml hv
  obtain ⟨rfl, hsz, hP, hsk, hD0⟩ := hv
  have hx := B.exec
  have hb := B.bytes
  have hr := B.returns
  have hts := atoms_spec (ws := wsX2_advance) B.pre
  have hown : s.vm.findClass RX2 = some m.cls := findClass_of_methodNamed B.named
  have hlocks := B.notSynchronized
  have hK := hsk.1
  have i2 : ∀ w ∈ wsX20, w ∈ wsX2_advance := by decide +kernel
  subst hsz
  have hD := hD0.self (sz := s.heap.size)
  generalize hAe : va_A [(h0, .inr (2, [.ref tO, .int 0, .int 0, .int 0, .int 0])), (tO, .inr (3, [.ref sA, .int 0]))] s.heap.size = A at hD ⊢
  have hA : ∀ q : Nat, s.heap.size ≤ q → A q := fun q h => by rw [← hAe]; exact Or.inr h
  have hS : va_S A s.heap s.heap [] := va_S.rf
  have hl := lv_entry ([.ref h0]) (n := 2) (Nat.le_of_ble_eq_true rfl)
  rw [lg_entry_eq]
  generalize (lg_sl ([.ref h0]) ++ List.replicate (2 - (lg_sl ([.ref h0])).length) Slot.unset).toArray = ls at hl ⊢
  have hl : lv_has ls 2 [(0, .ref h0)] := hl
  refine lv_aload_n hx hb dX2_advance_0 rfl (lv_at hl 0 rfl) ?_
  refine lv_aload_n hx hb dX2_advance_1 rfl (lv_at hl 0 rfl) ?_
  refine lv_aload_n hx hb dX2_advance_2 rfl (lv_at hl 0 rfl) ?_
  refine va_get (D := (dC, dI)) (ci := 2) (v := .int 0) (C := RX2) (T := TX2) (N := 5) hx hb hts i2 hown hK hP 0 rfl rfl 3 (by decide) (hts (.fieldLink RX2 24 "StopSetter$Reader" "behind" "I") (by decide +kernel)) (fun _ h9 => h9) rfl dX2_advance_3 ?_
  refine lv_iconst (v := 1) hx hb dX2_advance_6 (by decide) ?_
  have hPc := hP.sub (ws' := [(h0, .inr (2, [.ref tO, .int 0, .int 0, .int 0, .int 0])), (tO, .inr (3, [.ref sA, .int 0]))]) [0, 1] rfl
  have hDc := hD.sub (ws' := [(h0, .inr (2, [.ref tO, .int 0, .int 0, .int 0, .int 0])), (tO, .inr (3, [.ref sA, .int 0]))]) [0, 1] (by decide) rfl
  have hFc := va_free (wc := [(h0, .inr (2, [.ref tO, .int 0, .int 0, .int 0, .int 0])), (tO, .inr (3, [.ref sA, .int 0]))]) hD hS hA [0, 1] rfl
  refine va_calli (va_runV (As := [.int 0, .int 1]) (rest := [.ref h0]) ⟨hx, hb, hml, hown, hts⟩ (k_runEnd0 l dC dI cI cZ cC cJ s.heap.size h0 tO sA ) (cwV 2 hts gX2_advance_X2_runEnd rfl rfl rfl (by decide +kernel) ⟨Nat.le_of_ble_eq_true rfl, Nat.le_of_ble_eq_true rfl⟩) ⟨sPre_blind, va_recv hK hPc (ci := 2) (q0 := 0) rfl rfl, fun U hU hW => ⟨rfl, sPre_ok hsk hPc hDc hU hW⟩⟩ rfl rfl hl.1 rfl (lv_room (Nat.le_of_ble_eq_true rfl)) dX2_advance_7 ⟨(show 0 + 0 ≤ 0 by omega), (show 0 + 0 ≤ 0 by omega)⟩) hS (fun q _ h => hFc q h) hFc (fun r_1 u t H1 locs ht hvm hw hB hz1 hk1 hS => ?_)
  try dsimp only at hw hB
  have hw_2 := hw
  obtain rfl : r_1 = 0 := hw_2
  obtain ⟨hP1, hD1⟩ := hB
  rw [ht] at hP1
  obtain ⟨hP, hD⟩ := va_join (wr := []) (w1 := [(h0, .inr (2, [.ref tO, .int 0, .int 0, .int 0, .int 0])), (tO, .inr (3, [.ref sA, .int 0]))]) hP hD [0, 1] [] rfl rfl (by decide) (by decide) hk1 hFc hP1 hD1
  generalize H1 = H at hP hS ⊢
  have hP : va_P (dC, dI) vwCl [(h0, .inr (2, [.ref tO, .int 0, .int 0, .int 0, .int 0])), (tO, .inr (3, [.ref sA, .int 0]))] H := hP
  have hD : va_D A [(h0, .inr (2, [.ref tO, .int 0, .int 0, .int 0, .int 0])), (tO, .inr (3, [.ref sA, .int 0]))] := hD
  refine va_put (D := (dC, dI)) (ci := 2) (v := .int 0) (ty := tyX2 2) (C := RX2) (T := TX2) (N := 5) hx hb hts i2 tyX2 tyX2_ok nmX2 hown hK hP hD hS 0 rfl rfl 2 (by decide) (hts (.fieldLink RX2 106 "StopSetter$Reader" "place" "I") (by decide +kernel)) (fun _ h9 => h9) rfl (by decide +kernel) rfl rfl (Nat.le_of_ble_eq_true rfl) dX2_advance_10 (fun H locs hP hD hS => ?_)
  have hP : va_P (dC, dI) vwCl [(h0, .inr (2, [.ref tO, .int 0, .int 0, .int 0, .int 0])), (tO, .inr (3, [.ref sA, .int 0]))] H := hP
  have hD : va_D A [(h0, .inr (2, [.ref tO, .int 0, .int 0, .int 0, .int 0])), (tO, .inr (3, [.ref sA, .int 0]))] := hD
  refine lv_aload_n hx hb dX2_advance_13 rfl (lv_at hl 0 rfl) ?_
  refine lv_aload_n hx hb dX2_advance_14 rfl (lv_at hl 0 rfl) ?_
  refine va_get (D := (dC, dI)) (ci := 2) (v := .ref tO) (C := RX2) (T := TX2) (N := 5) hx hb hts i2 hown hK hP 0 rfl rfl 0 (by decide) (hts (.fieldLink RX2 9 "StopSetter$Reader" "tape" "LStopSetter$Tape;") (by decide +kernel)) (fun _ h9 => h9) rfl dX2_advance_15 ?_
  refine lv_aload_n hx hb dX2_advance_18 rfl (lv_at hl 0 rfl) ?_
  refine va_get (D := (dC, dI)) (ci := 2) (v := .int 0) (C := RX2) (T := TX2) (N := 5) hx hb hts i2 hown hK hP 0 rfl rfl 2 (by decide) (hts (.fieldLink RX2 106 "StopSetter$Reader" "place" "I") (by decide +kernel)) (fun _ h9 => h9) rfl dX2_advance_19 ?_
  have hPc := hP.sub (ws' := [(tO, .inr (3, [.ref sA, .int 0]))]) [1] rfl
  have hDc := hD.sub (ws' := [(tO, .inr (3, [.ref sA, .int 0]))]) [1] (by decide) rfl
  have hFc := va_free (wc := [(tO, .inr (3, [.ref sA, .int 0]))]) hD hS hA [1] rfl
  refine va_calli (va_runV (As := [.int 0]) (rest := [.ref h0]) ⟨hx, hb, hml, hown, hts⟩ (k_signAt0 l dC dI cI cZ cC cJ H.size tO sA ) (cwV 1 hts gX2_advance_X3_signAt rfl rfl rfl (by decide +kernel) ⟨Nat.le_of_ble_eq_true rfl, Nat.le_of_ble_eq_true rfl⟩) ⟨sPre_blind, va_recv hK hPc (ci := 3) (q0 := 0) rfl rfl, fun U hU hW => ⟨rfl, sPre_ok hsk hPc hDc hU hW⟩⟩ rfl rfl hl.1 rfl (lv_room (Nat.le_of_ble_eq_true rfl)) dX2_advance_22 ⟨(show 0 + 0 ≤ 0 by omega), (show 0 + 0 ≤ 0 by omega)⟩) hS (fun q _ h => hFc q h) hFc (fun r_3 u t H1 locs ht hvm hw hB hz1 hk1 hS => ?_)
  try dsimp only at hw hB
  have hw_4 := hw
  obtain rfl : r_3 = (-1) := hw_4
  obtain ⟨hP1, hD1⟩ := hB
  rw [ht] at hP1
  obtain ⟨hP, hD⟩ := va_join (wr := [(h0, .inr (2, [.ref tO, .int 0, .int 0, .int 0, .int 0]))]) (w1 := [(tO, .inr (3, [.ref sA, .int 0]))]) hP hD [1] [0] rfl rfl (by decide) (by decide) hk1 hFc hP1 hD1
  generalize H1 = H at hP hS ⊢
  have hP : va_P (dC, dI) vwCl [(h0, .inr (2, [.ref tO, .int 0, .int 0, .int 0, .int 0])), (tO, .inr (3, [.ref sA, .int 0]))] H := hP
  have hD : va_D A [(h0, .inr (2, [.ref tO, .int 0, .int 0, .int 0, .int 0])), (tO, .inr (3, [.ref sA, .int 0]))] := hD
  have hPc := hP.sub (ws' := []) [] rfl
  have hDc := hD.sub (ws' := []) [] (by decide) rfl
  have hFc := va_free (wc := []) hD hS hA [] rfl
  refine va_calli (va_runS (As := [.int (-1)]) (rest := [.ref h0]) ⟨hx, hb, hml, hown, hts⟩ (k_sortOfEnd l dC dI cI cZ cC cJ H.size  ) (va_cwS 1 hts gX2_advance_X2_sortOf rfl rfl rfl (by decide +kernel) ⟨Nat.le_of_ble_eq_true rfl, Nat.le_of_ble_eq_true rfl⟩) ⟨sPre_blind, fun U hU hW => ⟨rfl, sPre_ok hsk hPc hDc hU hW⟩⟩ rfl rfl hl.1 rfl (lv_room (Nat.le_of_ble_eq_true rfl)) dX2_advance_25 ⟨(show 0 + 0 ≤ 0 by omega), (show 0 + 0 ≤ 0 by omega)⟩) hS (fun q _ h => hFc q h) hFc (fun r_5 u t H1 locs ht hvm hw hB hz1 hk1 hS => ?_)
  try dsimp only at hw hB
  have hw_6 := hw
  obtain rfl : r_5 = 0 := hw_6
  obtain ⟨hP1, hD1⟩ := hB
  rw [ht] at hP1
  obtain ⟨hP, hD⟩ := va_join (wr := [(h0, .inr (2, [.ref tO, .int 0, .int 0, .int 0, .int 0])), (tO, .inr (3, [.ref sA, .int 0]))]) (w1 := []) hP hD [] [0, 1] rfl rfl (by decide) (by decide) hk1 hFc hP1 hD1
  generalize H1 = H at hP hS ⊢
  have hP : va_P (dC, dI) vwCl [(h0, .inr (2, [.ref tO, .int 0, .int 0, .int 0, .int 0])), (tO, .inr (3, [.ref sA, .int 0]))] H := hP
  have hD : va_D A [(h0, .inr (2, [.ref tO, .int 0, .int 0, .int 0, .int 0])), (tO, .inr (3, [.ref sA, .int 0]))] := hD
  refine va_put (D := (dC, dI)) (ci := 2) (v := .int 0) (ty := tyX2 1) (C := RX2) (T := TX2) (N := 5) hx hb hts i2 tyX2 tyX2_ok nmX2 hown hK hP hD hS 0 rfl rfl 1 (by decide) (hts (.fieldLink RX2 32 "StopSetter$Reader" "sort" "I") (by decide +kernel)) (fun _ h9 => h9) rfl (by decide +kernel) rfl rfl (Nat.le_of_ble_eq_true rfl) dX2_advance_28 (fun H locs hP hD hS => ?_)
  have hP : va_P (dC, dI) vwCl [(h0, .inr (2, [.ref tO, .int 0, .int 0, .int 0, .int 0])), (tO, .inr (3, [.ref sA, .int 0]))] H := hP
  have hD : va_D A [(h0, .inr (2, [.ref tO, .int 0, .int 0, .int 0, .int 0])), (tO, .inr (3, [.ref sA, .int 0]))] := hD
  refine lv_aload_n hx hb dX2_advance_31 rfl (lv_at hl 0 rfl) ?_
  refine va_get (D := (dC, dI)) (ci := 2) (v := .int 0) (C := RX2) (T := TX2) (N := 5) hx hb hts i2 hown hK hP 0 rfl rfl 1 (by decide) (hts (.fieldLink RX2 32 "StopSetter$Reader" "sort" "I") (by decide +kernel)) (fun _ h9 => h9) rfl dX2_advance_32 ?_
  refine lv_iconst (v := 2) hx hb dX2_advance_35 (by decide) ?_
  refine lv_icmp_eq (tgt := 47) hx hb dX2_advance_36 (by decide) (fun h9 => absurd h9 (by decide)) (fun _ => ?_)
  refine lv_aload_n hx hb dX2_advance_39 rfl (lv_at hl 0 rfl) ?_
  refine va_get (D := (dC, dI)) (ci := 2) (v := .int 0) (C := RX2) (T := TX2) (N := 5) hx hb hts i2 hown hK hP 0 rfl rfl 1 (by decide) (hts (.fieldLink RX2 32 "StopSetter$Reader" "sort" "I") (by decide +kernel)) (fun _ h9 => h9) rfl dX2_advance_40 ?_
  refine lv_iconst (v := 3) hx hb dX2_advance_43 (by decide) ?_
  refine lv_icmp_ne (tgt := 99) hx hb dX2_advance_44 (by decide) (fun _ => ?_) (fun h9 => absurd h9 (by decide))
  refine lv_aload_n hx hb dX2_advance_99 rfl (lv_at hl 0 rfl) ?_
  refine lv_aload_n hx hb dX2_advance_100 rfl (lv_at hl 0 rfl) ?_
  refine va_get (D := (dC, dI)) (ci := 2) (v := .int 0) (C := RX2) (T := TX2) (N := 5) hx hb hts i2 hown hK hP 0 rfl rfl 1 (by decide) (hts (.fieldLink RX2 32 "StopSetter$Reader" "sort" "I") (by decide +kernel)) (fun _ h9 => h9) rfl dX2_advance_101 ?_
  refine lv_if_ne (tgt := 114) hx hb dX2_advance_104 (by decide) (fun h9 => absurd (by decide) h9) (fun _ => ?_)
  refine lv_aload_n hx hb dX2_advance_107 rfl (lv_at hl 0 rfl) ?_
  refine va_get (D := (dC, dI)) (ci := 2) (v := .int 0) (C := RX2) (T := TX2) (N := 5) hx hb hts i2 hown hK hP 0 rfl rfl 2 (by decide) (hts (.fieldLink RX2 106 "StopSetter$Reader" "place" "I") (by decide +kernel)) (fun _ h9 => h9) rfl dX2_advance_108 ?_
  refine lv_goto (tgt := 120) hx hb dX2_advance_111 (by decide) ?_
  refine va_put (D := (dC, dI)) (ci := 2) (v := .int 0) (ty := tyX2 3) (C := RX2) (T := TX2) (N := 5) hx hb hts i2 tyX2 tyX2_ok nmX2 hown hK hP hD hS 0 rfl rfl 3 (by decide) (hts (.fieldLink RX2 24 "StopSetter$Reader" "behind" "I") (by decide +kernel)) (fun _ h9 => h9) rfl (by decide +kernel) rfl rfl (Nat.le_of_ble_eq_true rfl) dX2_advance_120 (fun H locs hP hD hS => ?_)
  have hP : va_P (dC, dI) vwCl [(h0, .inr (2, [.ref tO, .int 0, .int 0, .int 0, .int 0])), (tO, .inr (3, [.ref sA, .int 0]))] H := hP
  have hD : va_D A [(h0, .inr (2, [.ref tO, .int 0, .int 0, .int 0, .int 0])), (tO, .inr (3, [.ref sA, .int 0]))] := hD
  have hP9 := hP.sub (ws' := [(h0, .inr (2, [.ref tO, .int 0, .int 0, .int 0, .int 0])), (tO, .inr (3, [.ref sA, .int 0]))]) [0, 1] rfl
  have hD9 := hD.sub (ws' := [(h0, .inr (2, [.ref tO, .int 0, .int 0, .int 0, .int 0])), (tO, .inr (3, [.ref sA, .int 0]))]) [0, 1] (by decide) rfl
  exact W.vret hx hb hr (fun t ht hW => ⟨⟨(), rfl, trivial, by rw [ht]; exact hP9, hD9⟩, hS.F ht⟩) hS.2.2 dX2_advance_123
set_option maxHeartbeats 4000000 in
set_option maxRecDepth 100000 in
theorem k_gempty (l : Launch) (dC : Nat → ClassId) (dI : Nat → Nat → Nat) (cI cZ cC cJ : ClassId) (sz : Nat) (h0 : Nat) (gF : Nat) (gK : Nat) (gT : Nat) (gC : Nat) (gM : Nat) (eF : Nat) (eC : Nat) (eM : Nat) (hopA : Nat) (gc : Int32) (ec : Int32)  : Met l yX1_empty wsX1_empty ({ frames := 0, cells := 0, slots := 0, locals := 0 }) (va_Pc [.ref h0] (sPre dC dI cI cZ cC cJ [(h0, .inr (1, [.ref gF, .ref gK, .ref gT, .ref gC, .ref gM, .int gc, .ref eF, .ref eC, .ref eM, .int ec, .ref hopA]))] sz)) (va_Qv (fun (u : Unit) => True) (fun _ => sB dC dI (va_A [(h0, .inr (1, [.ref gF, .ref gK, .ref gT, .ref gC, .ref gM, .int gc, .ref eF, .ref eC, .ref eM, .int ec, .ref hopA]))] sz) [(h0, .inr (1, [.ref gF, .ref gK, .ref gT, .ref gC, .ref gM, .int 0, .ref eF, .ref eC, .ref eM, .int 0, .ref hopA]))]) (va_A [(h0, .inr (1, [.ref gF, .ref gK, .ref gT, .ref gC, .ref gM, .int gc, .ref eF, .ref eC, .ref eM, .int ec, .ref hopA]))] sz)) 0 0 (va_A [(h0, .inr (1, [.ref gF, .ref gK, .ref gT, .ref gC, .ref gM, .int gc, .ref eF, .ref eC, .ref eM, .int ec, .ref hopA]))] sz) := by
  refine Met.ofW (cc := cX1_empty) (maxL := 1) (ret := none) (by decide) rfl ?_
  intro p e s m args below meth c s₁ B hml hv
  obtain ⟨rfl, hsz, hP, hsk, hD0⟩ := hv
  have hx := B.exec
  have hb := B.bytes
  have hr := B.returns
  have hts := atoms_spec (ws := wsX1_empty) B.pre
  have hown : s.vm.findClass RX1 = some m.cls := findClass_of_methodNamed B.named
  have hlocks := B.notSynchronized
  have hK := hsk.1
  have i1 : ∀ w ∈ wsX10, w ∈ wsX1_empty := by decide +kernel
  subst hsz
  have hD := hD0.self (sz := s.heap.size)
  generalize hAe : va_A [(h0, .inr (1, [.ref gF, .ref gK, .ref gT, .ref gC, .ref gM, .int gc, .ref eF, .ref eC, .ref eM, .int ec, .ref hopA]))] s.heap.size = A at hD ⊢
  have hA : ∀ q : Nat, s.heap.size ≤ q → A q := fun q h => by rw [← hAe]; exact Or.inr h
  have hS : va_S A s.heap s.heap [] := va_S.rf
  have hl := lv_entry ([.ref h0]) (n := 1) (Nat.le_of_ble_eq_true rfl)
  rw [lg_entry_eq]
  generalize (lg_sl ([.ref h0]) ++ List.replicate (1 - (lg_sl ([.ref h0])).length) Slot.unset).toArray = ls at hl ⊢
  have hl : lv_has ls 1 [(0, .ref h0)] := hl
  refine lv_aload_n hx hb dX1_empty_0 rfl (lv_at hl 0 rfl) ?_
  refine lv_iconst (v := 0) hx hb dX1_empty_1 (by decide) ?_
  refine va_put (D := (dC, dI)) (ci := 1) (v := .int 0) (ty := tyX1 5) (C := RX1) (T := TX1) (N := 11) hx hb hts i1 tyX1 tyX1_ok nmX1 hown hK hP hD hS 0 rfl rfl 5 (by decide) (hts (.fieldLink RX1 42 "StopSetter$Grammar" "goCount" "I") (by decide +kernel)) (fun _ h9 => h9) rfl (by decide +kernel) rfl rfl (Nat.le_of_ble_eq_true rfl) dX1_empty_2 (fun H locs hP hD hS => ?_)
  have hP : va_P (dC, dI) vwCl [(h0, .inr (1, [.ref gF, .ref gK, .ref gT, .ref gC, .ref gM, .int 0, .ref eF, .ref eC, .ref eM, .int ec, .ref hopA]))] H := hP
  have hD : va_D A [(h0, .inr (1, [.ref gF, .ref gK, .ref gT, .ref gC, .ref gM, .int 0, .ref eF, .ref eC, .ref eM, .int ec, .ref hopA]))] := hD
  refine lv_aload_n hx hb dX1_empty_5 rfl (lv_at hl 0 rfl) ?_
  refine lv_iconst (v := 0) hx hb dX1_empty_6 (by decide) ?_
  refine va_put (D := (dC, dI)) (ci := 1) (v := .int 0) (ty := tyX1 9) (C := RX1) (T := TX1) (N := 11) hx hb hts i1 tyX1 tyX1_ok nmX1 hown hK hP hD hS 0 rfl rfl 9 (by decide) (hts (.fieldLink RX1 46 "StopSetter$Grammar" "endCount" "I") (by decide +kernel)) (fun _ h9 => h9) rfl (by decide +kernel) rfl rfl (Nat.le_of_ble_eq_true rfl) dX1_empty_7 (fun H locs hP hD hS => ?_)
  have hP : va_P (dC, dI) vwCl [(h0, .inr (1, [.ref gF, .ref gK, .ref gT, .ref gC, .ref gM, .int 0, .ref eF, .ref eC, .ref eM, .int 0, .ref hopA]))] H := hP
  have hD : va_D A [(h0, .inr (1, [.ref gF, .ref gK, .ref gT, .ref gC, .ref gM, .int 0, .ref eF, .ref eC, .ref eM, .int 0, .ref hopA]))] := hD
  have hP9 := hP.sub (ws' := [(h0, .inr (1, [.ref gF, .ref gK, .ref gT, .ref gC, .ref gM, .int 0, .ref eF, .ref eC, .ref eM, .int 0, .ref hopA]))]) [0] rfl
  have hD9 := hD.sub (ws' := [(h0, .inr (1, [.ref gF, .ref gK, .ref gT, .ref gC, .ref gM, .int 0, .ref eF, .ref eC, .ref eM, .int 0, .ref hopA]))]) [0] (by decide) rfl
  exact W.vret hx hb hr (fun t ht hW => ⟨⟨(), rfl, trivial, by rw [ht]; exact hP9, hD9⟩, hS.F ht⟩) hS.2.2 dX1_empty_10
set_option maxHeartbeats 4000000 in
set_option maxRecDepth 100000 in
theorem k_tempty (l : Launch) (dC : Nat → ClassId) (dI : Nat → Nat → Nat) (cI cZ cC cJ : ClassId) (sz : Nat) (h0 : Nat) (sA : Nat) (ln : Int32)  : Met l yX3_empty wsX3_empty ({ frames := 0, cells := 0, slots := 0, locals := 0 }) (va_Pc [.ref h0] (sPre dC dI cI cZ cC cJ [(h0, .inr (3, [.ref sA, .int ln]))] sz)) (va_Qv (fun (u : Unit) => True) (fun _ => sB dC dI (va_A [(h0, .inr (3, [.ref sA, .int ln]))] sz) [(h0, .inr (3, [.ref sA, .int 0]))]) (va_A [(h0, .inr (3, [.ref sA, .int ln]))] sz)) 0 0 (va_A [(h0, .inr (3, [.ref sA, .int ln]))] sz) := by
  refine Met.ofW (cc := cX3_empty) (maxL := 1) (ret := none) (by decide) rfl ?_
  intro p e s m args below meth c s₁ B hml hv
  obtain ⟨rfl, hsz, hP, hsk, hD0⟩ := hv
  have hx := B.exec
  have hb := B.bytes
  have hr := B.returns
  have hts := atoms_spec (ws := wsX3_empty) B.pre
  have hown : s.vm.findClass RX3 = some m.cls := findClass_of_methodNamed B.named
  have hlocks := B.notSynchronized
  have hK := hsk.1
  have i3 : ∀ w ∈ wsX30, w ∈ wsX3_empty := by decide +kernel
  subst hsz
  have hD := hD0.self (sz := s.heap.size)
  generalize hAe : va_A [(h0, .inr (3, [.ref sA, .int ln]))] s.heap.size = A at hD ⊢
  have hA : ∀ q : Nat, s.heap.size ≤ q → A q := fun q h => by rw [← hAe]; exact Or.inr h
  have hS : va_S A s.heap s.heap [] := va_S.rf
  have hl := lv_entry ([.ref h0]) (n := 1) (Nat.le_of_ble_eq_true rfl)
  rw [lg_entry_eq]
  generalize (lg_sl ([.ref h0]) ++ List.replicate (1 - (lg_sl ([.ref h0])).length) Slot.unset).toArray = ls at hl ⊢
  have hl : lv_has ls 1 [(0, .ref h0)] := hl
  refine lv_aload_n hx hb dX3_empty_0 rfl (lv_at hl 0 rfl) ?_
  refine lv_iconst (v := 0) hx hb dX3_empty_1 (by decide) ?_
  refine va_put (D := (dC, dI)) (ci := 3) (v := .int 0) (ty := tyX3 1) (C := RX3) (T := TX3) (N := 2) hx hb hts i3 tyX3 tyX3_ok nmX3 hown hK hP hD hS 0 rfl rfl 1 (by decide) (hts (.fieldLink RX3 17 "StopSetter$Tape" "length" "I") (by decide +kernel)) (fun _ h9 => h9) rfl (by decide +kernel) rfl rfl (Nat.le_of_ble_eq_true rfl) dX3_empty_2 (fun H locs hP hD hS => ?_)
  have hP : va_P (dC, dI) vwCl [(h0, .inr (3, [.ref sA, .int 0]))] H := hP
  have hD : va_D A [(h0, .inr (3, [.ref sA, .int 0]))] := hD
  have hP9 := hP.sub (ws' := [(h0, .inr (3, [.ref sA, .int 0]))]) [0] rfl
  have hD9 := hD.sub (ws' := [(h0, .inr (3, [.ref sA, .int 0]))]) [0] (by decide) rfl
  exact W.vret hx hb hr (fun t ht hW => ⟨⟨(), rfl, trivial, by rw [ht]; exact hP9, hD9⟩, hS.F ht⟩) hS.2.2 dX3_empty_5
set_option maxHeartbeats 4000000 in
set_option maxRecDepth 100000 in
theorem k_read0 (l : Launch) (dC : Nat → ClassId) (dI : Nat → Nat → Nat) (cI cZ cC cJ : ClassId) (sz : Nat) (h0 : Nat) (tO : Nat) (sA : Nat) (g0 : Nat) (gF : Nat) (gK : Nat) (gT : Nat) (gC : Nat) (gM : Nat) (eF : Nat) (eC : Nat) (eM : Nat) (hopA : Nat)  : Met l yX2_read wsX2_read ({ frames := 2, cells := 0, slots := 0, locals := 44 }) (va_Pc [.ref h0, .ref g0] (sPre dC dI cI cZ cC cJ [(h0, .inr (2, [.ref tO, .int 0, .int 0, .int 0, .int 0])), (tO, .inr (3, [.ref sA, .int 0])), (g0, .inr (1, [.ref gF, .ref gK, .ref gT, .ref gC, .ref gM, .int 0, .ref eF, .ref eC, .ref eM, .int 0, .ref hopA]))] sz)) (va_Qi (fun (r : Int32) (u : Unit) => r = 0) (fun _ => sB dC dI (va_A [(h0, .inr (2, [.ref tO, .int 0, .int 0, .int 0, .int 0])), (tO, .inr (3, [.ref sA, .int 0])), (g0, .inr (1, [.ref gF, .ref gK, .ref gT, .ref gC, .ref gM, .int 0, .ref eF, .ref eC, .ref eM, .int 0, .ref hopA]))] sz) [(h0, .inr (2, [.ref tO, .int 0, .int 0, .int 0, .int 0])), (tO, .inr (3, [.ref sA, .int 0])), (g0, .inr (1, [.ref gF, .ref gK, .ref gT, .ref gC, .ref gM, .int 0, .ref eF, .ref eC, .ref eM, .int 0, .ref hopA]))]) (va_A [(h0, .inr (2, [.ref tO, .int 0, .int 0, .int 0, .int 0])), (tO, .inr (3, [.ref sA, .int 0])), (g0, .inr (1, [.ref gF, .ref gK, .ref gT, .ref gC, .ref gM, .int 0, .ref eF, .ref eC, .ref eM, .int 0, .ref hopA]))] sz)) 0 0 (va_A [(h0, .inr (2, [.ref tO, .int 0, .int 0, .int 0, .int 0])), (tO, .inr (3, [.ref sA, .int 0])), (g0, .inr (1, [.ref gF, .ref gK, .ref gT, .ref gC, .ref gM, .int 0, .ref eF, .ref eC, .ref eM, .int 0, .ref hopA]))] sz) := by
  refine Met.ofW (cc := cX2_read) (maxL := 3) (ret := (some .int)) (by decide) rfl ?_
  intro p e s m args below meth c s₁ B hml hv
  obtain ⟨rfl, hsz, hP, hsk, hD0⟩ := hv
  have hx := B.exec
  have hb := B.bytes
  have hr := B.returns
  have hts := atoms_spec (ws := wsX2_read) B.pre
  have hown : s.vm.findClass RX2 = some m.cls := findClass_of_methodNamed B.named
  have hlocks := B.notSynchronized
  have hK := hsk.1
  have i2 : ∀ w ∈ wsX20, w ∈ wsX2_read := by decide +kernel
  subst hsz
  have hD := hD0.self (sz := s.heap.size)
  generalize hAe : va_A [(h0, .inr (2, [.ref tO, .int 0, .int 0, .int 0, .int 0])), (tO, .inr (3, [.ref sA, .int 0])), (g0, .inr (1, [.ref gF, .ref gK, .ref gT, .ref gC, .ref gM, .int 0, .ref eF, .ref eC, .ref eM, .int 0, .ref hopA]))] s.heap.size = A at hD ⊢
  have hA : ∀ q : Nat, s.heap.size ≤ q → A q := fun q h => by rw [← hAe]; exact Or.inr h
  have hS : va_S A s.heap s.heap [] := va_S.rf
  have hl := lv_entry ([.ref h0, .ref g0]) (n := 3) (Nat.le_of_ble_eq_true rfl)
  rw [lg_entry_eq]
  generalize (lg_sl ([.ref h0, .ref g0]) ++ List.replicate (3 - (lg_sl ([.ref h0, .ref g0])).length) Slot.unset).toArray = ls at hl ⊢
  have hl : lv_has ls 3 [(0, .ref h0), (1, .ref g0)] := hl
  refine lv_aload_n hx hb dX2_read_0 rfl (lv_at hl 1 rfl) ?_
  have hPc := hP.sub (ws' := [(g0, .inr (1, [.ref gF, .ref gK, .ref gT, .ref gC, .ref gM, .int 0, .ref eF, .ref eC, .ref eM, .int 0, .ref hopA]))]) [2] rfl
  have hDc := hD.sub (ws' := [(g0, .inr (1, [.ref gF, .ref gK, .ref gT, .ref gC, .ref gM, .int 0, .ref eF, .ref eC, .ref eM, .int 0, .ref hopA]))]) [2] (by decide) rfl
  have hFc := va_free (wc := [(g0, .inr (1, [.ref gF, .ref gK, .ref gT, .ref gC, .ref gM, .int 0, .ref eF, .ref eC, .ref eM, .int 0, .ref hopA]))]) hD hS hA [2] rfl
  refine va_callv (va_runV (As := []) (rest := []) ⟨hx, hb, hml, hown, hts⟩ (k_gempty l dC dI cI cZ cC cJ s.heap.size g0 gF gK gT gC gM eF eC eM hopA 0 0 ) (cwV 0 hts gX2_read_X1_empty rfl rfl rfl (by decide +kernel) ⟨Nat.le_of_ble_eq_true rfl, Nat.le_of_ble_eq_true rfl⟩) ⟨sPre_blind, va_recv hK hPc (ci := 1) (q0 := 0) rfl rfl, fun U hU hW => ⟨rfl, sPre_ok hsk hPc hDc hU hW⟩⟩ rfl rfl hl.1 rfl (lv_room (Nat.le_of_ble_eq_true rfl)) dX2_read_1 ⟨(show 0 + 0 ≤ 0 by omega), (show 0 + 0 ≤ 0 by omega)⟩) hS (fun q _ h => hFc q h) hFc (fun u t H1 locs ht hvm hw hB hz1 hk1 hS => ?_)
  try dsimp only at hw hB
  obtain ⟨hP1, hD1⟩ := hB
  rw [ht] at hP1
  obtain ⟨hP, hD⟩ := va_join (wr := [(h0, .inr (2, [.ref tO, .int 0, .int 0, .int 0, .int 0])), (tO, .inr (3, [.ref sA, .int 0]))]) (w1 := [(g0, .inr (1, [.ref gF, .ref gK, .ref gT, .ref gC, .ref gM, .int 0, .ref eF, .ref eC, .ref eM, .int 0, .ref hopA]))]) hP hD [2] [0, 1] rfl rfl (by decide) (by decide) hk1 hFc hP1 hD1
  generalize H1 = H at hP hS ⊢
  have hP : va_P (dC, dI) vwCl [(h0, .inr (2, [.ref tO, .int 0, .int 0, .int 0, .int 0])), (tO, .inr (3, [.ref sA, .int 0])), (g0, .inr (1, [.ref gF, .ref gK, .ref gT, .ref gC, .ref gM, .int 0, .ref eF, .ref eC, .ref eM, .int 0, .ref hopA]))] H := hP
  have hD : va_D A [(h0, .inr (2, [.ref tO, .int 0, .int 0, .int 0, .int 0])), (tO, .inr (3, [.ref sA, .int 0])), (g0, .inr (1, [.ref gF, .ref gK, .ref gT, .ref gC, .ref gM, .int 0, .ref eF, .ref eC, .ref eM, .int 0, .ref hopA]))] := hD
  refine lv_aload_n hx hb dX2_read_4 rfl (lv_at hl 0 rfl) ?_
  refine lv_iconst (v := 0) hx hb dX2_read_5 (by decide) ?_
  refine va_put (D := (dC, dI)) (ci := 2) (v := .int 0) (ty := tyX2 4) (C := RX2) (T := TX2) (N := 5) hx hb hts i2 tyX2 tyX2_ok nmX2 hown hK hP hD hS 0 rfl rfl 4 (by decide) (hts (.fieldLink RX2 20 "StopSetter$Reader" "fault" "I") (by decide +kernel)) (fun _ h9 => h9) rfl (by decide +kernel) rfl rfl (Nat.le_of_ble_eq_true rfl) dX2_read_6 (fun H locs hP hD hS => ?_)
  have hP : va_P (dC, dI) vwCl [(h0, .inr (2, [.ref tO, .int 0, .int 0, .int 0, .int 0])), (tO, .inr (3, [.ref sA, .int 0])), (g0, .inr (1, [.ref gF, .ref gK, .ref gT, .ref gC, .ref gM, .int 0, .ref eF, .ref eC, .ref eM, .int 0, .ref hopA]))] H := hP
  have hD : va_D A [(h0, .inr (2, [.ref tO, .int 0, .int 0, .int 0, .int 0])), (tO, .inr (3, [.ref sA, .int 0])), (g0, .inr (1, [.ref gF, .ref gK, .ref gT, .ref gC, .ref gM, .int 0, .ref eF, .ref eC, .ref eM, .int 0, .ref hopA]))] := hD
  refine lv_aload_n hx hb dX2_read_9 rfl (lv_at hl 0 rfl) ?_
  refine lv_iconst (v := 0) hx hb dX2_read_10 (by decide) ?_
  refine va_put (D := (dC, dI)) (ci := 2) (v := .int 0) (ty := tyX2 3) (C := RX2) (T := TX2) (N := 5) hx hb hts i2 tyX2 tyX2_ok nmX2 hown hK hP hD hS 0 rfl rfl 3 (by decide) (hts (.fieldLink RX2 24 "StopSetter$Reader" "behind" "I") (by decide +kernel)) (fun _ h9 => h9) rfl (by decide +kernel) rfl rfl (Nat.le_of_ble_eq_true rfl) dX2_read_11 (fun H locs hP hD hS => ?_)
  have hP : va_P (dC, dI) vwCl [(h0, .inr (2, [.ref tO, .int 0, .int 0, .int 0, .int 0])), (tO, .inr (3, [.ref sA, .int 0])), (g0, .inr (1, [.ref gF, .ref gK, .ref gT, .ref gC, .ref gM, .int 0, .ref eF, .ref eC, .ref eM, .int 0, .ref hopA]))] H := hP
  have hD : va_D A [(h0, .inr (2, [.ref tO, .int 0, .int 0, .int 0, .int 0])), (tO, .inr (3, [.ref sA, .int 0])), (g0, .inr (1, [.ref gF, .ref gK, .ref gT, .ref gC, .ref gM, .int 0, .ref eF, .ref eC, .ref eM, .int 0, .ref hopA]))] := hD
  refine lv_aload_n hx hb dX2_read_14 rfl (lv_at hl 0 rfl) ?_
  have hPc := hP.sub (ws' := [(h0, .inr (2, [.ref tO, .int 0, .int 0, .int 0, .int 0])), (tO, .inr (3, [.ref sA, .int 0]))]) [0, 1] rfl
  have hDc := hD.sub (ws' := [(h0, .inr (2, [.ref tO, .int 0, .int 0, .int 0, .int 0])), (tO, .inr (3, [.ref sA, .int 0]))]) [0, 1] (by decide) rfl
  have hFc := va_free (wc := [(h0, .inr (2, [.ref tO, .int 0, .int 0, .int 0, .int 0])), (tO, .inr (3, [.ref sA, .int 0]))]) hD hS hA [0, 1] rfl
  refine va_callv (va_runV (As := []) (rest := []) ⟨hx, hb, hml, hown, hts⟩ (k_advance0 l dC dI cI cZ cC cJ H.size h0 tO sA ) (cwV 0 hts gX2_read_X2_advance rfl rfl rfl (by decide +kernel) ⟨Nat.le_of_ble_eq_true rfl, Nat.le_of_ble_eq_true rfl⟩) ⟨sPre_blind, va_recv hK hPc (ci := 2) (q0 := 0) rfl rfl, fun U hU hW => ⟨rfl, sPre_ok hsk hPc hDc hU hW⟩⟩ rfl rfl hl.1 rfl (lv_room (Nat.le_of_ble_eq_true rfl)) dX2_read_15 ⟨(show 0 + 0 ≤ 0 by omega), (show 0 + 0 ≤ 0 by omega)⟩) hS (fun q _ h => hFc q h) hFc (fun u t H1 locs ht hvm hw hB hz1 hk1 hS => ?_)
  try dsimp only at hw hB
  obtain ⟨hP1, hD1⟩ := hB
  rw [ht] at hP1
  obtain ⟨hP, hD⟩ := va_join (wr := [(g0, .inr (1, [.ref gF, .ref gK, .ref gT, .ref gC, .ref gM, .int 0, .ref eF, .ref eC, .ref eM, .int 0, .ref hopA]))]) (w1 := [(h0, .inr (2, [.ref tO, .int 0, .int 0, .int 0, .int 0])), (tO, .inr (3, [.ref sA, .int 0]))]) hP hD [0, 1] [2] rfl rfl (by decide) (by decide) hk1 hFc hP1 hD1
  generalize H1 = H at hP hS ⊢
  have hP : va_P (dC, dI) vwCl [(g0, .inr (1, [.ref gF, .ref gK, .ref gT, .ref gC, .ref gM, .int 0, .ref eF, .ref eC, .ref eM, .int 0, .ref hopA])), (h0, .inr (2, [.ref tO, .int 0, .int 0, .int 0, .int 0])), (tO, .inr (3, [.ref sA, .int 0]))] H := hP
  have hD : va_D A [(g0, .inr (1, [.ref gF, .ref gK, .ref gT, .ref gC, .ref gM, .int 0, .ref eF, .ref eC, .ref eM, .int 0, .ref hopA])), (h0, .inr (2, [.ref tO, .int 0, .int 0, .int 0, .int 0])), (tO, .inr (3, [.ref sA, .int 0]))] := hD
  refine lv_iconst (v := 0) hx hb dX2_read_18 (by decide) ?_
  refine lv_istore_n (lv' := [(2, .int 0), (0, .ref h0), (1, .ref g0)]) hx hb dX2_read_19 rfl hl (by decide) rfl (fun ls hl => ?_)
  refine lv_iload_n hx hb dX2_read_20 rfl (lv_at hl 0 rfl) ?_
  refine lv_sipush (v := 1600) hx hb dX2_read_21 (by decide) ?_
  refine lv_icmp_ge (tgt := 86) hx hb dX2_read_24 (by decide) (fun h9 => absurd h9 (by decide)) (fun _ => ?_)
  refine lv_aload_n hx hb dX2_read_27 rfl (lv_at hl 1 rfl) ?_
  refine va_get (D := (dC, dI)) (ci := 2) (v := .int 0) (C := RX2) (T := TX2) (N := 5) hx hb hts i2 hown hK hP 1 rfl rfl 4 (by decide) (hts (.fieldLink RX2 20 "StopSetter$Reader" "fault" "I") (by decide +kernel)) (fun _ h9 => h9) rfl dX2_read_28 ?_
  refine lv_if_ne (tgt := 86) hx hb dX2_read_31 (by decide) (fun h9 => absurd (by decide) h9) (fun _ => ?_)
  refine lv_aload_n hx hb dX2_read_34 rfl (lv_at hl 1 rfl) ?_
  refine va_get (D := (dC, dI)) (ci := 2) (v := .int 0) (C := RX2) (T := TX2) (N := 5) hx hb hts i2 hown hK hP 1 rfl rfl 1 (by decide) (hts (.fieldLink RX2 32 "StopSetter$Reader" "sort" "I") (by decide +kernel)) (fun _ h9 => h9) rfl dX2_read_35 ?_
  refine lv_if_eq (tgt := 86) hx hb dX2_read_38 (by decide) (fun _ => ?_) (fun h9 => absurd (by decide) h9)
  refine lv_aload_n hx hb dX2_read_86 rfl (lv_at hl 1 rfl) ?_
  refine va_get (D := (dC, dI)) (ci := 2) (v := .int 0) (C := RX2) (T := TX2) (N := 5) hx hb hts i2 hown hK hP 1 rfl rfl 4 (by decide) (hts (.fieldLink RX2 20 "StopSetter$Reader" "fault" "I") (by decide +kernel)) (fun _ h9 => h9) rfl dX2_read_87 ?_
  have hP9 := hP.sub (ws' := [(h0, .inr (2, [.ref tO, .int 0, .int 0, .int 0, .int 0])), (tO, .inr (3, [.ref sA, .int 0])), (g0, .inr (1, [.ref gF, .ref gK, .ref gT, .ref gC, .ref gM, .int 0, .ref eF, .ref eC, .ref eM, .int 0, .ref hopA]))]) [1, 2, 0] rfl
  have hD9 := hD.sub (ws' := [(h0, .inr (2, [.ref tO, .int 0, .int 0, .int 0, .int 0])), (tO, .inr (3, [.ref sA, .int 0])), (g0, .inr (1, [.ref gF, .ref gK, .ref gT, .ref gC, .ref gM, .int 0, .ref eF, .ref eC, .ref eM, .int 0, .ref hopA]))]) [1, 2, 0] (by decide) rfl
  exact W.iret (v := 0) hx hb hr (fun t ht hW => ⟨⟨0, (), rfl, rfl, by rw [ht]; exact hP9, hD9⟩, hS.F ht⟩) hS.2.2 dX2_read_90
set_option maxHeartbeats 4000000 in
set_option maxRecDepth 100000 in
theorem k_findHopeful0 (l : Launch) (dC : Nat → ClassId) (dI : Nat → Nat → Nat) (cI cZ cC cJ : ClassId) (sz : Nat) (h0 : Nat) (gF : Nat) (gK : Nat) (gT : Nat) (gC : Nat) (gM : Nat) (eF : Nat) (eC : Nat) (eM : Nat) (hopA : Nat) (fh : Nat → Int32)  : Met l yX1_findHopeful wsX1_findHopeful ({ frames := 0, cells := 0, slots := 0, locals := 0 }) (va_Pc [.ref h0] (sPre dC dI cI cZ cC cJ [(h0, .inr (1, [.ref gF, .ref gK, .ref gT, .ref gC, .ref gM, .int 0, .ref eF, .ref eC, .ref eM, .int 0, .ref hopA])), (hopA, .inl (cZ, 20, .inl fh))] sz)) (va_Qv (fun (u : Unit) => True) (fun _ => sB dC dI (va_A [(h0, .inr (1, [.ref gF, .ref gK, .ref gT, .ref gC, .ref gM, .int 0, .ref eF, .ref eC, .ref eM, .int 0, .ref hopA])), (hopA, .inl (cZ, 20, .inl fh))] sz) [(h0, .inr (1, [.ref gF, .ref gK, .ref gT, .ref gC, .ref gM, .int 0, .ref eF, .ref eC, .ref eM, .int 0, .ref hopA]))]) (va_A [(h0, .inr (1, [.ref gF, .ref gK, .ref gT, .ref gC, .ref gM, .int 0, .ref eF, .ref eC, .ref eM, .int 0, .ref hopA])), (hopA, .inl (cZ, 20, .inl fh))] sz)) 0 0 (va_A [(h0, .inr (1, [.ref gF, .ref gK, .ref gT, .ref gC, .ref gM, .int 0, .ref eF, .ref eC, .ref eM, .int 0, .ref hopA])), (hopA, .inl (cZ, 20, .inl fh))] sz) := by
  refine Met.ofW (cc := cX1_findHopeful) (maxL := 3) (ret := none) (by decide) rfl ?_
  intro p e s m args below meth c s₁ B hml hv
  obtain ⟨rfl, hsz, hP, hsk, hD0⟩ := hv
  have hx := B.exec
  have hb := B.bytes
  have hr := B.returns
  have hts := atoms_spec (ws := wsX1_findHopeful) B.pre
  have hown : s.vm.findClass RX1 = some m.cls := findClass_of_methodNamed B.named
  have hlocks := B.notSynchronized
  have hK := hsk.1
  have i1 : ∀ w ∈ wsX10, w ∈ wsX1_findHopeful := by decide +kernel
  subst hsz
  have hD := hD0.self (sz := s.heap.size)
  generalize hAe : va_A [(h0, .inr (1, [.ref gF, .ref gK, .ref gT, .ref gC, .ref gM, .int 0, .ref eF, .ref eC, .ref eM, .int 0, .ref hopA])), (hopA, .inl (cZ, 20, .inl fh))] s.heap.size = A at hD ⊢
  have hA : ∀ q : Nat, s.heap.size ≤ q → A q := fun q h => by rw [← hAe]; exact Or.inr h
  have hS : va_S A s.heap s.heap [] := va_S.rf
  have hl := lv_entry ([.ref h0]) (n := 3) (Nat.le_of_ble_eq_true rfl)
  rw [lg_entry_eq]
  generalize (lg_sl ([.ref h0]) ++ List.replicate (3 - (lg_sl ([.ref h0])).length) Slot.unset).toArray = ls at hl ⊢
  have hl : lv_has ls 3 [(0, .ref h0)] := hl
  refine lv_iconst (v := 0) hx hb dX1_findHopeful_0 (by decide) ?_
  refine lv_istore_n (lv' := [(1, .int 0), (0, .ref h0)]) hx hb dX1_findHopeful_1 rfl hl (by decide) rfl (fun ls hl => ?_)
  have lp_2 : ∀ (n_2 : Nat) (k : Nat) (fh : Nat → Int32), 21 ≤ k + n_2 → k ≤ 20 → ∀ (H : Heap) (locs : List Loc) (ls : Array Slot), va_P (dC, dI) vwCl [(h0, .inr (1, [.ref gF, .ref gK, .ref gT, .ref gC, .ref gM, .int 0, .ref eF, .ref eC, .ref eM, .int 0, .ref hopA])), (hopA, .inl (cZ, 20, .inl fh))] H → va_D A [(h0, .inr (1, [.ref gF, .ref gK, .ref gT, .ref gC, .ref gM, .int 0, .ref eF, .ref eC, .ref eM, .int 0, .ref hopA])), (hopA, .inl (cZ, 20, .inl fh))] → va_S A s.heap H locs → lv_has ls 3 [(1, .int (nI k)), (0, .ref h0)] → W p l e (headSpec wsX1_findHopeful ({ frames := 0, cells := 0, slots := 0, locals := 0 })).room s m ([.ref h0]).toArray below meth c H locs 0 0 (MQ below (va_Qv (fun (u : Unit) => True) (fun _ => sB dC dI A [(h0, .inr (1, [.ref gF, .ref gK, .ref gT, .ref gC, .ref gM, .int 0, .ref eF, .ref eC, .ref eM, .int 0, .ref hopA]))]) A) ([.ref h0]).toArray s 0 0 A) (F0 m 2 ls []) := by
    intro n_2
    induction n_2 with
    | zero =>
      intro k fh fuel_2 hk
      exact absurd fuel_2 (by omega)
    | succ n_2 ih_2 =>
      intro k fh fuel_2 hk H locs ls hP hD hS hl
      refine lv_iload_n hx hb dX1_findHopeful_2 rfl (lv_at hl 0 rfl) ?_
      refine lv_bipush (v := 20) hx hb dX1_findHopeful_3 (by decide) ?_
      refine lv_icmp_ge (tgt := 21) hx hb dX1_findHopeful_5 (by decide) (fun c_5 => ?_) (fun c_5 => ?_)
      · skip
        refine lv_iconst (v := 0) hx hb dX1_findHopeful_21 (by decide) ?_
        refine lv_istore_n (lv' := [(1, .int 0), (0, .ref h0)]) hx hb dX1_findHopeful_22 rfl hl (by decide) rfl (fun ls hl => ?_)
        refine lv_iload_n hx hb dX1_findHopeful_23 rfl (lv_at hl 0 rfl) ?_
        refine lv_aload_n hx hb dX1_findHopeful_24 rfl (lv_at hl 1 rfl) ?_
        refine va_get (D := (dC, dI)) (ci := 1) (v := .int 0) (C := RX1) (T := TX1) (N := 11) hx hb hts i1 hown hK hP 0 rfl rfl 9 (by decide) (hts (.fieldLink RX1 46 "StopSetter$Grammar" "endCount" "I") (by decide +kernel)) (fun _ h9 => h9) rfl dX1_findHopeful_25 ?_
        refine lv_icmp_ge (tgt := 63) hx hb dX1_findHopeful_28 (by decide) (fun _ => ?_) (fun h9 => absurd (by decide) h9)
        refine lv_iconst (v := 0) hx hb dX1_findHopeful_63 (by decide) ?_
        refine lv_istore_n (lv' := [(1, .int 0), (0, .ref h0)]) hx hb dX1_findHopeful_64 rfl hl (by decide) rfl (fun ls hl => ?_)
        have lp_65 : ∀ (n_65 : Nat) (k : Nat), 21 ≤ k + n_65 → k ≤ 20 → ∀ (H : Heap) (locs : List Loc) (ls : Array Slot), va_P (dC, dI) vwCl [(h0, .inr (1, [.ref gF, .ref gK, .ref gT, .ref gC, .ref gM, .int 0, .ref eF, .ref eC, .ref eM, .int 0, .ref hopA])), (hopA, .inl (cZ, 20, .inl fh))] H → va_D A [(h0, .inr (1, [.ref gF, .ref gK, .ref gT, .ref gC, .ref gM, .int 0, .ref eF, .ref eC, .ref eM, .int 0, .ref hopA])), (hopA, .inl (cZ, 20, .inl fh))] → va_S A s.heap H locs → lv_has ls 3 [(1, .int (nI k)), (0, .ref h0)] → W p l e (headSpec wsX1_findHopeful ({ frames := 0, cells := 0, slots := 0, locals := 0 })).room s m ([.ref h0]).toArray below meth c H locs 0 0 (MQ below (va_Qv (fun (u : Unit) => True) (fun _ => sB dC dI A [(h0, .inr (1, [.ref gF, .ref gK, .ref gT, .ref gC, .ref gM, .int 0, .ref eF, .ref eC, .ref eM, .int 0, .ref hopA]))]) A) ([.ref h0]).toArray s 0 0 A) (F0 m 65 ls []) := by
          intro n_65
          induction n_65 with
          | zero =>
            intro k fuel_65 hk
            exact absurd fuel_65 (by omega)
          | succ n_65 ih_65 =>
            intro k fuel_65 hk H locs ls hP hD hS hl
            refine lv_iload_n hx hb dX1_findHopeful_65 rfl (lv_at hl 0 rfl) ?_
            refine lv_bipush (v := 20) hx hb dX1_findHopeful_66 (by decide) ?_
            refine lv_icmp_ge (tgt := 105) hx hb dX1_findHopeful_68 (by decide) (fun c_68 => ?_) (fun c_68 => ?_)
            · skip
              have hP9 := hP.sub (ws' := [(h0, .inr (1, [.ref gF, .ref gK, .ref gT, .ref gC, .ref gM, .int 0, .ref eF, .ref eC, .ref eM, .int 0, .ref hopA]))]) [0] rfl
              have hD9 := hD.sub (ws' := [(h0, .inr (1, [.ref gF, .ref gK, .ref gT, .ref gC, .ref gM, .int 0, .ref eF, .ref eC, .ref eM, .int 0, .ref hopA]))]) [0] (by decide) rfl
              exact W.vret hx hb hr (fun t ht hW => ⟨⟨(), rfl, trivial, by rw [ht]; exact hP9, hD9⟩, hS.F ht⟩) hS.2.2 dX1_findHopeful_105
            · skip
              have hk3 : k < 20 := nk_lt (N := 20) rfl c_68 (by omega)
              refine lv_iconst (v := 0) hx hb dX1_findHopeful_71 (by decide) ?_
              refine lv_istore_n (lv' := [(2, .int 0), (1, .int (nI k)), (0, .ref h0)]) hx hb dX1_findHopeful_72 rfl hl (by decide) rfl (fun ls hl => ?_)
              refine lv_iload_n hx hb dX1_findHopeful_73 rfl (lv_at hl 0 rfl) ?_
              refine lv_aload_n hx hb dX1_findHopeful_74 rfl (lv_at hl 2 rfl) ?_
              refine va_get (D := (dC, dI)) (ci := 1) (v := .int 0) (C := RX1) (T := TX1) (N := 11) hx hb hts i1 hown hK hP 0 rfl rfl 5 (by decide) (hts (.fieldLink RX1 42 "StopSetter$Grammar" "goCount" "I") (by decide +kernel)) (fun _ h9 => h9) rfl dX1_findHopeful_75 ?_
              refine lv_icmp_ge (tgt := 99) hx hb dX1_findHopeful_78 (by decide) (fun _ => ?_) (fun h9 => absurd (by decide) h9)
              refine lv_iinc (v := (nI (k + 1))) (lv' := [(1, .int (nI (k + 1))), (2, .int 0), (0, .ref h0)]) hx hb dX1_findHopeful_99 hl (k := 1) rfl (nI_1 k) (by decide) rfl (fun ls hl => ?_)
              refine lv_goto (tgt := 65) hx hb dX1_findHopeful_102 (by decide) ?_
              exact ih_65  (k + 1) (by omega) (by omega) _ _ _ hP hD hS (lv_sub hl [0, 2] rfl)
        exact lp_65 21 0 (by omega) (by omega) _ _ _ hP hD hS (lv_sub hl [0, 1] rfl)
      · skip
        have hk3 : k < 20 := nk_lt (N := 20) rfl c_5 (by omega)
        refine lv_aload_n hx hb dX1_findHopeful_8 rfl (lv_at hl 1 rfl) ?_
        refine va_get (D := (dC, dI)) (ci := 1) (v := .ref hopA) (C := RX1) (T := TX1) (N := 11) hx hb hts i1 hown hK hP 0 rfl rfl 10 (by decide) (hts (.fieldLink RX1 38 "StopSetter$Grammar" "hopeful" "[Z") (by decide +kernel)) (fun _ h9 => h9) rfl dX1_findHopeful_9 ?_
        refine lv_iload_n hx hb dX1_findHopeful_12 rfl (lv_at hl 0 rfl) ?_
        refine lv_iconst (v := 0) hx hb dX1_findHopeful_13 (by decide) ?_
        refine va_zast hx hb hK hP hD hS 1 1 rfl rfl (vp_in_nI hk3 (by decide)) dX1_findHopeful_14 (fun H locs hP hD hS => ?_)
        have hP : va_P (dC, dI) vwCl [(h0, .inr (1, [.ref gF, .ref gK, .ref gT, .ref gC, .ref gM, .int 0, .ref eF, .ref eC, .ref eM, .int 0, .ref hopA])), (hopA, .inl (cZ, 20, .inl (upd fh ((nI k).toNatClampNeg) (vp_nar .boolean 0))))] H := hP
        have hD : va_D A [(h0, .inr (1, [.ref gF, .ref gK, .ref gT, .ref gC, .ref gM, .int 0, .ref eF, .ref eC, .ref eM, .int 0, .ref hopA])), (hopA, .inl (cZ, 20, .inl (upd fh ((nI k).toNatClampNeg) (vp_nar .boolean 0))))] := hD
        refine lv_iinc (v := (nI (k + 1))) (lv' := [(1, .int (nI (k + 1))), (0, .ref h0)]) hx hb dX1_findHopeful_15 hl (k := 0) rfl (nI_1 k) (by decide) rfl (fun ls hl => ?_)
        refine lv_goto (tgt := 2) hx hb dX1_findHopeful_18 (by decide) ?_
        exact ih_2  (k + 1) (upd fh ((nI k).toNatClampNeg) (vp_nar .boolean 0)) (by omega) (by omega) _ _ _ hP hD hS (lv_sub hl [0, 1] rfl)
  exact lp_2 21 0 fh (by omega) (by omega) _ _ _ hP hD hS (lv_sub hl [0, 1] rfl)
set_option maxHeartbeats 4000000 in
set_option maxRecDepth 100000 in
theorem k_grammar (l : Launch) (dC : Nat → ClassId) (dI : Nat → Nat → Nat) (cI cZ cC cJ : ClassId) (sz : Nat) (h0 : Nat) (kO : Nat) (nO : Nat) (rO : Nat) (mO : Nat) (tO : Nat) (rdO : Nat) (lnO : Nat) (drO : Nat) (chO : Nat) (sA : Nat) (gF : Nat) (gK : Nat) (gT : Nat) (gC : Nat) (gM : Nat) (eF : Nat) (eC : Nat) (eM : Nat) (hopA : Nat) (fh : Nat → Int32) (bA : Nat) (xA : Nat) (kA : Nat) (aA : Nat) (eA : Nat) (gA : Nat) (oA : Nat) (le : Int32)  : Met l yX4_grammar wsX4_grammar ({ frames := 3, cells := 0, slots := 0, locals := 66 }) (va_Pc [.ref h0] (sPre dC dI cI cZ cC cJ [(h0, .inr (4, [.ref kO, .ref nO, .ref rO, .ref mO, .int 0, .ref tO, .ref rdO, .ref lnO, .ref drO, .ref chO])), (rdO, .inr (2, [.ref tO, .int 0, .int 0, .int 0, .int 0])), (tO, .inr (3, [.ref sA, .int 0])), (drO, .inr (1, [.ref gF, .ref gK, .ref gT, .ref gC, .ref gM, .int 0, .ref eF, .ref eC, .ref eM, .int 0, .ref hopA])), (hopA, .inl (cZ, 20, .inl fh)), (chO, .inr (0, [.ref bA, .ref xA, .ref kA, .ref aA, .ref eA, .ref gA, .ref oA, .int 0, .int 1000000000, .int 1000000000, .int 0, .int le]))] sz)) (va_Qi (fun (r : Int32) (u : Unit) => r = 0) (fun _ => sB dC dI (va_A [(h0, .inr (4, [.ref kO, .ref nO, .ref rO, .ref mO, .int 0, .ref tO, .ref rdO, .ref lnO, .ref drO, .ref chO])), (rdO, .inr (2, [.ref tO, .int 0, .int 0, .int 0, .int 0])), (tO, .inr (3, [.ref sA, .int 0])), (drO, .inr (1, [.ref gF, .ref gK, .ref gT, .ref gC, .ref gM, .int 0, .ref eF, .ref eC, .ref eM, .int 0, .ref hopA])), (hopA, .inl (cZ, 20, .inl fh)), (chO, .inr (0, [.ref bA, .ref xA, .ref kA, .ref aA, .ref eA, .ref gA, .ref oA, .int 0, .int 1000000000, .int 1000000000, .int 0, .int le]))] sz) []) (va_A [(h0, .inr (4, [.ref kO, .ref nO, .ref rO, .ref mO, .int 0, .ref tO, .ref rdO, .ref lnO, .ref drO, .ref chO])), (rdO, .inr (2, [.ref tO, .int 0, .int 0, .int 0, .int 0])), (tO, .inr (3, [.ref sA, .int 0])), (drO, .inr (1, [.ref gF, .ref gK, .ref gT, .ref gC, .ref gM, .int 0, .ref eF, .ref eC, .ref eM, .int 0, .ref hopA])), (hopA, .inl (cZ, 20, .inl fh)), (chO, .inr (0, [.ref bA, .ref xA, .ref kA, .ref aA, .ref eA, .ref gA, .ref oA, .int 0, .int 1000000000, .int 1000000000, .int 0, .int le]))] sz)) 0 0 (va_A [(h0, .inr (4, [.ref kO, .ref nO, .ref rO, .ref mO, .int 0, .ref tO, .ref rdO, .ref lnO, .ref drO, .ref chO])), (rdO, .inr (2, [.ref tO, .int 0, .int 0, .int 0, .int 0])), (tO, .inr (3, [.ref sA, .int 0])), (drO, .inr (1, [.ref gF, .ref gK, .ref gT, .ref gC, .ref gM, .int 0, .ref eF, .ref eC, .ref eM, .int 0, .ref hopA])), (hopA, .inl (cZ, 20, .inl fh)), (chO, .inr (0, [.ref bA, .ref xA, .ref kA, .ref aA, .ref eA, .ref gA, .ref oA, .int 0, .int 1000000000, .int 1000000000, .int 0, .int le]))] sz) := by
  refine Met.ofW (cc := cX4_grammar) (maxL := 3) (ret := (some .int)) (by decide) rfl ?_
  intro p e s m args below meth c s₁ B hml hv
  obtain ⟨rfl, hsz, hP, hsk, hD0⟩ := hv
  have hx := B.exec
  have hb := B.bytes
  have hr := B.returns
  have hts := atoms_spec (ws := wsX4_grammar) B.pre
  have hown : s.vm.findClass RX4 = some m.cls := findClass_of_methodNamed B.named
  have hlocks := B.notSynchronized
  have hK := hsk.1
  have i4 : ∀ w ∈ wsX40, w ∈ wsX4_grammar := by decide +kernel
  subst hsz
  have hD := hD0.self (sz := s.heap.size)
  generalize hAe : va_A [(h0, .inr (4, [.ref kO, .ref nO, .ref rO, .ref mO, .int 0, .ref tO, .ref rdO, .ref lnO, .ref drO, .ref chO])), (rdO, .inr (2, [.ref tO, .int 0, .int 0, .int 0, .int 0])), (tO, .inr (3, [.ref sA, .int 0])), (drO, .inr (1, [.ref gF, .ref gK, .ref gT, .ref gC, .ref gM, .int 0, .ref eF, .ref eC, .ref eM, .int 0, .ref hopA])), (hopA, .inl (cZ, 20, .inl fh)), (chO, .inr (0, [.ref bA, .ref xA, .ref kA, .ref aA, .ref eA, .ref gA, .ref oA, .int 0, .int 1000000000, .int 1000000000, .int 0, .int le]))] s.heap.size = A at hD ⊢
  have hA : ∀ q : Nat, s.heap.size ≤ q → A q := fun q h => by rw [← hAe]; exact Or.inr h
  have hS : va_S A s.heap s.heap [] := va_S.rf
  have hl := lv_entry ([.ref h0]) (n := 3) (Nat.le_of_ble_eq_true rfl)
  rw [lg_entry_eq]
  generalize (lg_sl ([.ref h0]) ++ List.replicate (3 - (lg_sl ([.ref h0])).length) Slot.unset).toArray = ls at hl ⊢
  have hl : lv_has ls 3 [(0, .ref h0)] := hl
  refine lv_aload_n hx hb dX4_grammar_0 rfl (lv_at hl 0 rfl) ?_
  refine va_get (D := (dC, dI)) (ci := 4) (v := .ref rdO) (C := RX4) (T := TX4) (N := 10) hx hb hts i4 hown hK hP 0 rfl rfl 6 (by decide) (hts (.fieldLink RX4 35 "StopSetter" "reader" "LStopSetter$Reader;") (by decide +kernel)) (fun _ h9 => h9) rfl dX4_grammar_1 ?_
  refine lv_aload_n hx hb dX4_grammar_4 rfl (lv_at hl 0 rfl) ?_
  refine va_get (D := (dC, dI)) (ci := 4) (v := .ref drO) (C := RX4) (T := TX4) (N := 10) hx hb hts i4 hown hK hP 0 rfl rfl 8 (by decide) (hts (.fieldLink RX4 46 "StopSetter" "draft" "LStopSetter$Grammar;") (by decide +kernel)) (fun _ h9 => h9) rfl dX4_grammar_5 ?_
  have hPc := hP.sub (ws' := [(rdO, .inr (2, [.ref tO, .int 0, .int 0, .int 0, .int 0])), (tO, .inr (3, [.ref sA, .int 0])), (drO, .inr (1, [.ref gF, .ref gK, .ref gT, .ref gC, .ref gM, .int 0, .ref eF, .ref eC, .ref eM, .int 0, .ref hopA]))]) [1, 2, 3] rfl
  have hDc := hD.sub (ws' := [(rdO, .inr (2, [.ref tO, .int 0, .int 0, .int 0, .int 0])), (tO, .inr (3, [.ref sA, .int 0])), (drO, .inr (1, [.ref gF, .ref gK, .ref gT, .ref gC, .ref gM, .int 0, .ref eF, .ref eC, .ref eM, .int 0, .ref hopA]))]) [1, 2, 3] (by decide) rfl
  have hFc := va_free (wc := [(rdO, .inr (2, [.ref tO, .int 0, .int 0, .int 0, .int 0])), (tO, .inr (3, [.ref sA, .int 0])), (drO, .inr (1, [.ref gF, .ref gK, .ref gT, .ref gC, .ref gM, .int 0, .ref eF, .ref eC, .ref eM, .int 0, .ref hopA]))]) hD hS hA [1, 2, 3] rfl
  refine va_calli (va_runV (As := [.ref drO]) (rest := []) ⟨hx, hb, hml, hown, hts⟩ (k_read0 l dC dI cI cZ cC cJ s.heap.size rdO tO sA drO gF gK gT gC gM eF eC eM hopA ) (cwV 1 hts gX4_grammar_X2_read rfl rfl rfl (by decide +kernel) ⟨Nat.le_of_ble_eq_true rfl, Nat.le_of_ble_eq_true rfl⟩) ⟨sPre_blind, va_recv hK hPc (ci := 2) (q0 := 0) rfl rfl, fun U hU hW => ⟨rfl, sPre_ok hsk hPc hDc hU hW⟩⟩ rfl rfl hl.1 rfl (lv_room (Nat.le_of_ble_eq_true rfl)) dX4_grammar_8 ⟨(show 0 + 0 ≤ 0 by omega), (show 0 + 0 ≤ 0 by omega)⟩) hS (fun q _ h => hFc q h) hFc (fun r_1 u t H1 locs ht hvm hw hB hz1 hk1 hS => ?_)
  try dsimp only at hw hB
  have hw_2 := hw
  obtain rfl : r_1 = 0 := hw_2
  obtain ⟨hP1, hD1⟩ := hB
  rw [ht] at hP1
  obtain ⟨hP, hD⟩ := va_join (wr := [(h0, .inr (4, [.ref kO, .ref nO, .ref rO, .ref mO, .int 0, .ref tO, .ref rdO, .ref lnO, .ref drO, .ref chO])), (hopA, .inl (cZ, 20, .inl fh)), (chO, .inr (0, [.ref bA, .ref xA, .ref kA, .ref aA, .ref eA, .ref gA, .ref oA, .int 0, .int 1000000000, .int 1000000000, .int 0, .int le]))]) (w1 := [(rdO, .inr (2, [.ref tO, .int 0, .int 0, .int 0, .int 0])), (tO, .inr (3, [.ref sA, .int 0])), (drO, .inr (1, [.ref gF, .ref gK, .ref gT, .ref gC, .ref gM, .int 0, .ref eF, .ref eC, .ref eM, .int 0, .ref hopA]))]) hP hD [1, 2, 3] [0, 4, 5] rfl rfl (by decide) (by decide) hk1 hFc hP1 hD1
  generalize H1 = H at hP hS ⊢
  have hP : va_P (dC, dI) vwCl [(h0, .inr (4, [.ref kO, .ref nO, .ref rO, .ref mO, .int 0, .ref tO, .ref rdO, .ref lnO, .ref drO, .ref chO])), (hopA, .inl (cZ, 20, .inl fh)), (chO, .inr (0, [.ref bA, .ref xA, .ref kA, .ref aA, .ref eA, .ref gA, .ref oA, .int 0, .int 1000000000, .int 1000000000, .int 0, .int le])), (rdO, .inr (2, [.ref tO, .int 0, .int 0, .int 0, .int 0])), (tO, .inr (3, [.ref sA, .int 0])), (drO, .inr (1, [.ref gF, .ref gK, .ref gT, .ref gC, .ref gM, .int 0, .ref eF, .ref eC, .ref eM, .int 0, .ref hopA]))] H := hP
  have hD : va_D A [(h0, .inr (4, [.ref kO, .ref nO, .ref rO, .ref mO, .int 0, .ref tO, .ref rdO, .ref lnO, .ref drO, .ref chO])), (hopA, .inl (cZ, 20, .inl fh)), (chO, .inr (0, [.ref bA, .ref xA, .ref kA, .ref aA, .ref eA, .ref gA, .ref oA, .int 0, .int 1000000000, .int 1000000000, .int 0, .int le])), (rdO, .inr (2, [.ref tO, .int 0, .int 0, .int 0, .int 0])), (tO, .inr (3, [.ref sA, .int 0])), (drO, .inr (1, [.ref gF, .ref gK, .ref gT, .ref gC, .ref gM, .int 0, .ref eF, .ref eC, .ref eM, .int 0, .ref hopA]))] := hD
  refine lv_istore_n (lv' := [(1, .int 0), (0, .ref h0)]) hx hb dX4_grammar_11 rfl hl (by decide) rfl (fun ls hl => ?_)
  refine lv_aload_n hx hb dX4_grammar_12 rfl (lv_at hl 1 rfl) ?_
  refine va_get (D := (dC, dI)) (ci := 4) (v := .ref tO) (C := RX4) (T := TX4) (N := 10) hx hb hts i4 hown hK hP 0 rfl rfl 5 (by decide) (hts (.fieldLink RX4 26 "StopSetter" "tape" "LStopSetter$Tape;") (by decide +kernel)) (fun _ h9 => h9) rfl dX4_grammar_13 ?_
  have hPc := hP.sub (ws' := [(tO, .inr (3, [.ref sA, .int 0]))]) [4] rfl
  have hDc := hD.sub (ws' := [(tO, .inr (3, [.ref sA, .int 0]))]) [4] (by decide) rfl
  have hFc := va_free (wc := [(tO, .inr (3, [.ref sA, .int 0]))]) hD hS hA [4] rfl
  refine va_callv (va_runV (As := []) (rest := []) ⟨hx, hb, hml, hown, hts⟩ (k_tempty l dC dI cI cZ cC cJ H.size tO sA 0 ) (cwV 0 hts gX4_grammar_X3_empty rfl rfl rfl (by decide +kernel) ⟨Nat.le_of_ble_eq_true rfl, Nat.le_of_ble_eq_true rfl⟩) ⟨sPre_blind, va_recv hK hPc (ci := 3) (q0 := 0) rfl rfl, fun U hU hW => ⟨rfl, sPre_ok hsk hPc hDc hU hW⟩⟩ rfl rfl hl.1 rfl (lv_room (Nat.le_of_ble_eq_true rfl)) dX4_grammar_16 ⟨(show 0 + 0 ≤ 0 by omega), (show 0 + 0 ≤ 0 by omega)⟩) hS (fun q _ h => hFc q h) hFc (fun u t H1 locs ht hvm hw hB hz1 hk1 hS => ?_)
  try dsimp only at hw hB
  obtain ⟨hP1, hD1⟩ := hB
  rw [ht] at hP1
  obtain ⟨hP, hD⟩ := va_join (wr := [(h0, .inr (4, [.ref kO, .ref nO, .ref rO, .ref mO, .int 0, .ref tO, .ref rdO, .ref lnO, .ref drO, .ref chO])), (hopA, .inl (cZ, 20, .inl fh)), (chO, .inr (0, [.ref bA, .ref xA, .ref kA, .ref aA, .ref eA, .ref gA, .ref oA, .int 0, .int 1000000000, .int 1000000000, .int 0, .int le])), (rdO, .inr (2, [.ref tO, .int 0, .int 0, .int 0, .int 0])), (drO, .inr (1, [.ref gF, .ref gK, .ref gT, .ref gC, .ref gM, .int 0, .ref eF, .ref eC, .ref eM, .int 0, .ref hopA]))]) (w1 := [(tO, .inr (3, [.ref sA, .int 0]))]) hP hD [4] [0, 1, 2, 3, 5] rfl rfl (by decide) (by decide) hk1 hFc hP1 hD1
  generalize H1 = H at hP hS ⊢
  have hP : va_P (dC, dI) vwCl [(h0, .inr (4, [.ref kO, .ref nO, .ref rO, .ref mO, .int 0, .ref tO, .ref rdO, .ref lnO, .ref drO, .ref chO])), (hopA, .inl (cZ, 20, .inl fh)), (chO, .inr (0, [.ref bA, .ref xA, .ref kA, .ref aA, .ref eA, .ref gA, .ref oA, .int 0, .int 1000000000, .int 1000000000, .int 0, .int le])), (rdO, .inr (2, [.ref tO, .int 0, .int 0, .int 0, .int 0])), (drO, .inr (1, [.ref gF, .ref gK, .ref gT, .ref gC, .ref gM, .int 0, .ref eF, .ref eC, .ref eM, .int 0, .ref hopA])), (tO, .inr (3, [.ref sA, .int 0]))] H := hP
  have hD : va_D A [(h0, .inr (4, [.ref kO, .ref nO, .ref rO, .ref mO, .int 0, .ref tO, .ref rdO, .ref lnO, .ref drO, .ref chO])), (hopA, .inl (cZ, 20, .inl fh)), (chO, .inr (0, [.ref bA, .ref xA, .ref kA, .ref aA, .ref eA, .ref gA, .ref oA, .int 0, .int 1000000000, .int 1000000000, .int 0, .int le])), (rdO, .inr (2, [.ref tO, .int 0, .int 0, .int 0, .int 0])), (drO, .inr (1, [.ref gF, .ref gK, .ref gT, .ref gC, .ref gM, .int 0, .ref eF, .ref eC, .ref eM, .int 0, .ref hopA])), (tO, .inr (3, [.ref sA, .int 0]))] := hD
  refine lv_iload_n hx hb dX4_grammar_19 rfl (lv_at hl 0 rfl) ?_
  refine lv_if_ne (tgt := 56) hx hb dX4_grammar_20 (by decide) (fun h9 => absurd (by decide) h9) (fun _ => ?_)
  refine lv_aload_n hx hb dX4_grammar_23 rfl (lv_at hl 1 rfl) ?_
  refine va_get (D := (dC, dI)) (ci := 4) (v := .ref lnO) (C := RX4) (T := TX4) (N := 10) hx hb hts i4 hown hK hP 0 rfl rfl 7 (by decide) (hts (.fieldLink RX4 42 "StopSetter" "lines" "LStopSetter$Grammar;") (by decide +kernel)) (fun _ h9 => h9) rfl dX4_grammar_24 ?_
  refine lv_astore_n (lv' := [(2, .ref lnO), (1, .int 0), (0, .ref h0)]) hx hb dX4_grammar_27 rfl hl (by decide) rfl (fun ls hl => ?_)
  refine lv_aload_n hx hb dX4_grammar_28 rfl (lv_at hl 2 rfl) ?_
  refine lv_aload_n hx hb dX4_grammar_29 rfl (lv_at hl 2 rfl) ?_
  refine va_get (D := (dC, dI)) (ci := 4) (v := .ref drO) (C := RX4) (T := TX4) (N := 10) hx hb hts i4 hown hK hP 0 rfl rfl 8 (by decide) (hts (.fieldLink RX4 46 "StopSetter" "draft" "LStopSetter$Grammar;") (by decide +kernel)) (fun _ h9 => h9) rfl dX4_grammar_30 ?_
  refine va_put (D := (dC, dI)) (ci := 4) (v := .ref drO) (ty := tyX4 7) (C := RX4) (T := TX4) (N := 10) hx hb hts i4 tyX4 tyX4_ok nmX4 hown hK hP hD hS 0 rfl rfl 7 (by decide) (hts (.fieldLink RX4 42 "StopSetter" "lines" "LStopSetter$Grammar;") (by decide +kernel)) (fun _ h9 => h9) rfl (by decide +kernel) rfl rfl (Nat.le_of_ble_eq_true rfl) dX4_grammar_33 (fun H locs hP hD hS => ?_)
  have hP : va_P (dC, dI) vwCl [(h0, .inr (4, [.ref kO, .ref nO, .ref rO, .ref mO, .int 0, .ref tO, .ref rdO, .ref drO, .ref drO, .ref chO])), (hopA, .inl (cZ, 20, .inl fh)), (chO, .inr (0, [.ref bA, .ref xA, .ref kA, .ref aA, .ref eA, .ref gA, .ref oA, .int 0, .int 1000000000, .int 1000000000, .int 0, .int le])), (rdO, .inr (2, [.ref tO, .int 0, .int 0, .int 0, .int 0])), (drO, .inr (1, [.ref gF, .ref gK, .ref gT, .ref gC, .ref gM, .int 0, .ref eF, .ref eC, .ref eM, .int 0, .ref hopA])), (tO, .inr (3, [.ref sA, .int 0]))] H := hP
  have hD : va_D A [(h0, .inr (4, [.ref kO, .ref nO, .ref rO, .ref mO, .int 0, .ref tO, .ref rdO, .ref drO, .ref drO, .ref chO])), (hopA, .inl (cZ, 20, .inl fh)), (chO, .inr (0, [.ref bA, .ref xA, .ref kA, .ref aA, .ref eA, .ref gA, .ref oA, .int 0, .int 1000000000, .int 1000000000, .int 0, .int le])), (rdO, .inr (2, [.ref tO, .int 0, .int 0, .int 0, .int 0])), (drO, .inr (1, [.ref gF, .ref gK, .ref gT, .ref gC, .ref gM, .int 0, .ref eF, .ref eC, .ref eM, .int 0, .ref hopA])), (tO, .inr (3, [.ref sA, .int 0]))] := hD
  refine lv_aload_n hx hb dX4_grammar_36 rfl (lv_at hl 2 rfl) ?_
  refine lv_aload_n hx hb dX4_grammar_37 rfl (lv_at hl 0 rfl) ?_
  refine va_put (D := (dC, dI)) (ci := 4) (v := .ref lnO) (ty := tyX4 8) (C := RX4) (T := TX4) (N := 10) hx hb hts i4 tyX4 tyX4_ok nmX4 hown hK hP hD hS 0 rfl rfl 8 (by decide) (hts (.fieldLink RX4 46 "StopSetter" "draft" "LStopSetter$Grammar;") (by decide +kernel)) (fun _ h9 => h9) rfl (by decide +kernel) rfl rfl (Nat.le_of_ble_eq_true rfl) dX4_grammar_38 (fun H locs hP hD hS => ?_)
  have hP : va_P (dC, dI) vwCl [(h0, .inr (4, [.ref kO, .ref nO, .ref rO, .ref mO, .int 0, .ref tO, .ref rdO, .ref drO, .ref lnO, .ref chO])), (hopA, .inl (cZ, 20, .inl fh)), (chO, .inr (0, [.ref bA, .ref xA, .ref kA, .ref aA, .ref eA, .ref gA, .ref oA, .int 0, .int 1000000000, .int 1000000000, .int 0, .int le])), (rdO, .inr (2, [.ref tO, .int 0, .int 0, .int 0, .int 0])), (drO, .inr (1, [.ref gF, .ref gK, .ref gT, .ref gC, .ref gM, .int 0, .ref eF, .ref eC, .ref eM, .int 0, .ref hopA])), (tO, .inr (3, [.ref sA, .int 0]))] H := hP
  have hD : va_D A [(h0, .inr (4, [.ref kO, .ref nO, .ref rO, .ref mO, .int 0, .ref tO, .ref rdO, .ref drO, .ref lnO, .ref chO])), (hopA, .inl (cZ, 20, .inl fh)), (chO, .inr (0, [.ref bA, .ref xA, .ref kA, .ref aA, .ref eA, .ref gA, .ref oA, .int 0, .int 1000000000, .int 1000000000, .int 0, .int le])), (rdO, .inr (2, [.ref tO, .int 0, .int 0, .int 0, .int 0])), (drO, .inr (1, [.ref gF, .ref gK, .ref gT, .ref gC, .ref gM, .int 0, .ref eF, .ref eC, .ref eM, .int 0, .ref hopA])), (tO, .inr (3, [.ref sA, .int 0]))] := hD
  refine lv_aload_n hx hb dX4_grammar_41 rfl (lv_at hl 2 rfl) ?_
  refine va_get (D := (dC, dI)) (ci := 4) (v := .ref drO) (C := RX4) (T := TX4) (N := 10) hx hb hts i4 hown hK hP 0 rfl rfl 7 (by decide) (hts (.fieldLink RX4 42 "StopSetter" "lines" "LStopSetter$Grammar;") (by decide +kernel)) (fun _ h9 => h9) rfl dX4_grammar_42 ?_
  have hPc := hP.sub (ws' := [(drO, .inr (1, [.ref gF, .ref gK, .ref gT, .ref gC, .ref gM, .int 0, .ref eF, .ref eC, .ref eM, .int 0, .ref hopA])), (hopA, .inl (cZ, 20, .inl fh))]) [4, 1] rfl
  have hDc := hD.sub (ws' := [(drO, .inr (1, [.ref gF, .ref gK, .ref gT, .ref gC, .ref gM, .int 0, .ref eF, .ref eC, .ref eM, .int 0, .ref hopA])), (hopA, .inl (cZ, 20, .inl fh))]) [4, 1] (by decide) rfl
  have hFc := va_free (wc := [(drO, .inr (1, [.ref gF, .ref gK, .ref gT, .ref gC, .ref gM, .int 0, .ref eF, .ref eC, .ref eM, .int 0, .ref hopA])), (hopA, .inl (cZ, 20, .inl fh))]) hD hS hA [4, 1] rfl
  refine va_callv (va_runV (As := []) (rest := []) ⟨hx, hb, hml, hown, hts⟩ (k_findHopeful0 l dC dI cI cZ cC cJ H.size drO gF gK gT gC gM eF eC eM hopA fh ) (cwV 0 hts gX4_grammar_X1_findHopeful rfl rfl rfl (by decide +kernel) ⟨Nat.le_of_ble_eq_true rfl, Nat.le_of_ble_eq_true rfl⟩) ⟨sPre_blind, va_recv hK hPc (ci := 1) (q0 := 0) rfl rfl, fun U hU hW => ⟨rfl, sPre_ok hsk hPc hDc hU hW⟩⟩ rfl rfl hl.1 rfl (lv_room (Nat.le_of_ble_eq_true rfl)) dX4_grammar_45 ⟨(show 0 + 0 ≤ 0 by omega), (show 0 + 0 ≤ 0 by omega)⟩) hS (fun q _ h => hFc q h) hFc (fun u t H1 locs ht hvm hw hB hz1 hk1 hS => ?_)
  try dsimp only at hw hB
  obtain ⟨hP1, hD1⟩ := hB
  rw [ht] at hP1
  obtain ⟨hP, hD⟩ := va_join (wr := [(h0, .inr (4, [.ref kO, .ref nO, .ref rO, .ref mO, .int 0, .ref tO, .ref rdO, .ref drO, .ref lnO, .ref chO])), (chO, .inr (0, [.ref bA, .ref xA, .ref kA, .ref aA, .ref eA, .ref gA, .ref oA, .int 0, .int 1000000000, .int 1000000000, .int 0, .int le])), (rdO, .inr (2, [.ref tO, .int 0, .int 0, .int 0, .int 0])), (tO, .inr (3, [.ref sA, .int 0]))]) (w1 := [(drO, .inr (1, [.ref gF, .ref gK, .ref gT, .ref gC, .ref gM, .int 0, .ref eF, .ref eC, .ref eM, .int 0, .ref hopA]))]) hP hD [4, 1] [0, 2, 3, 5] rfl rfl (by decide) (by decide) hk1 hFc hP1 hD1
  generalize H1 = H at hP hS ⊢
  have hP : va_P (dC, dI) vwCl [(h0, .inr (4, [.ref kO, .ref nO, .ref rO, .ref mO, .int 0, .ref tO, .ref rdO, .ref drO, .ref lnO, .ref chO])), (chO, .inr (0, [.ref bA, .ref xA, .ref kA, .ref aA, .ref eA, .ref gA, .ref oA, .int 0, .int 1000000000, .int 1000000000, .int 0, .int le])), (rdO, .inr (2, [.ref tO, .int 0, .int 0, .int 0, .int 0])), (tO, .inr (3, [.ref sA, .int 0])), (drO, .inr (1, [.ref gF, .ref gK, .ref gT, .ref gC, .ref gM, .int 0, .ref eF, .ref eC, .ref eM, .int 0, .ref hopA]))] H := hP
  have hD : va_D A [(h0, .inr (4, [.ref kO, .ref nO, .ref rO, .ref mO, .int 0, .ref tO, .ref rdO, .ref drO, .ref lnO, .ref chO])), (chO, .inr (0, [.ref bA, .ref xA, .ref kA, .ref aA, .ref eA, .ref gA, .ref oA, .int 0, .int 1000000000, .int 1000000000, .int 0, .int le])), (rdO, .inr (2, [.ref tO, .int 0, .int 0, .int 0, .int 0])), (tO, .inr (3, [.ref sA, .int 0])), (drO, .inr (1, [.ref gF, .ref gK, .ref gT, .ref gC, .ref gM, .int 0, .ref eF, .ref eC, .ref eM, .int 0, .ref hopA]))] := hD
  refine lv_aload_n hx hb dX4_grammar_48 rfl (lv_at hl 2 rfl) ?_
  refine va_get (D := (dC, dI)) (ci := 4) (v := .ref chO) (C := RX4) (T := TX4) (N := 10) hx hb hts i4 hown hK hP 0 rfl rfl 9 (by decide) (hts (.fieldLink RX4 52 "StopSetter" "chart" "LStopSetter$Chart;") (by decide +kernel)) (fun _ h9 => h9) rfl dX4_grammar_49 ?_
  refine lv_iconst (v := 0) hx hb dX4_grammar_52 (by decide) ?_
  have hPc := hP.sub (ws' := [(chO, .inr (0, [.ref bA, .ref xA, .ref kA, .ref aA, .ref eA, .ref gA, .ref oA, .int 0, .int 1000000000, .int 1000000000, .int 0, .int le]))]) [1] rfl
  have hDc := hD.sub (ws' := [(chO, .inr (0, [.ref bA, .ref xA, .ref kA, .ref aA, .ref eA, .ref gA, .ref oA, .int 0, .int 1000000000, .int 1000000000, .int 0, .int le]))]) [1] (by decide) rfl
  have hFc := va_free (wc := [(chO, .inr (0, [.ref bA, .ref xA, .ref kA, .ref aA, .ref eA, .ref gA, .ref oA, .int 0, .int 1000000000, .int 1000000000, .int 0, .int le]))]) hD hS hA [1] rfl
  refine va_callv (va_runV (As := [.int 0]) (rest := []) ⟨hx, hb, hml, hown, hts⟩ (k_keep0le l dC dI cI cZ cC cJ H.size chO bA xA kA aA eA gA oA le ) (cwV 1 hts gX4_grammar_X0_keep rfl rfl rfl (by decide +kernel) ⟨Nat.le_of_ble_eq_true rfl, Nat.le_of_ble_eq_true rfl⟩) ⟨sPre_blind, va_recv hK hPc (ci := 0) (q0 := 0) rfl rfl, fun U hU hW => ⟨rfl, sPre_ok hsk hPc hDc hU hW⟩⟩ rfl rfl hl.1 rfl (lv_room (Nat.le_of_ble_eq_true rfl)) dX4_grammar_53 ⟨(show 0 + 0 ≤ 0 by omega), (show 0 + 0 ≤ 0 by omega)⟩) hS (fun q _ h => hFc q h) hFc (fun u t H1 locs ht hvm hw hB hz1 hk1 hS => ?_)
  try dsimp only at hw hB
  obtain ⟨hP1, hD1⟩ := hB
  rw [ht] at hP1
  obtain ⟨hP, hD⟩ := va_join (wr := [(h0, .inr (4, [.ref kO, .ref nO, .ref rO, .ref mO, .int 0, .ref tO, .ref rdO, .ref drO, .ref lnO, .ref chO])), (rdO, .inr (2, [.ref tO, .int 0, .int 0, .int 0, .int 0])), (tO, .inr (3, [.ref sA, .int 0])), (drO, .inr (1, [.ref gF, .ref gK, .ref gT, .ref gC, .ref gM, .int 0, .ref eF, .ref eC, .ref eM, .int 0, .ref hopA]))]) (w1 := [(chO, .inr (0, [.ref bA, .ref xA, .ref kA, .ref aA, .ref eA, .ref gA, .ref oA, .int 0, .int 1000000000, .int 1000000000, .int 0, .int le]))]) hP hD [1] [0, 2, 3, 4] rfl rfl (by decide) (by decide) hk1 hFc hP1 hD1
  generalize H1 = H at hP hS ⊢
  have hP : va_P (dC, dI) vwCl [(h0, .inr (4, [.ref kO, .ref nO, .ref rO, .ref mO, .int 0, .ref tO, .ref rdO, .ref drO, .ref lnO, .ref chO])), (rdO, .inr (2, [.ref tO, .int 0, .int 0, .int 0, .int 0])), (tO, .inr (3, [.ref sA, .int 0])), (drO, .inr (1, [.ref gF, .ref gK, .ref gT, .ref gC, .ref gM, .int 0, .ref eF, .ref eC, .ref eM, .int 0, .ref hopA])), (chO, .inr (0, [.ref bA, .ref xA, .ref kA, .ref aA, .ref eA, .ref gA, .ref oA, .int 0, .int 1000000000, .int 1000000000, .int 0, .int le]))] H := hP
  have hD : va_D A [(h0, .inr (4, [.ref kO, .ref nO, .ref rO, .ref mO, .int 0, .ref tO, .ref rdO, .ref drO, .ref lnO, .ref chO])), (rdO, .inr (2, [.ref tO, .int 0, .int 0, .int 0, .int 0])), (tO, .inr (3, [.ref sA, .int 0])), (drO, .inr (1, [.ref gF, .ref gK, .ref gT, .ref gC, .ref gM, .int 0, .ref eF, .ref eC, .ref eM, .int 0, .ref hopA])), (chO, .inr (0, [.ref bA, .ref xA, .ref kA, .ref aA, .ref eA, .ref gA, .ref oA, .int 0, .int 1000000000, .int 1000000000, .int 0, .int le]))] := hD
  refine lv_iload_n hx hb dX4_grammar_56 rfl (lv_at hl 1 rfl) ?_
  have hP9 := hP.sub (ws' := []) [] rfl
  have hD9 := hD.sub (ws' := []) [] (by decide) rfl
  exact W.iret (v := 0) hx hb hr (fun t ht hW => ⟨⟨0, (), rfl, rfl, by rw [ht]; exact hP9, hD9⟩, hS.F ht⟩) hS.2.2 dX4_grammar_57

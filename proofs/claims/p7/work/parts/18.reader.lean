set_option maxHeartbeats 4000000 in
set_option maxRecDepth 100000 in
theorem k_refuse (l : Launch) (dC : Nat → ClassId) (dI : Nat → Nat → Nat) (cI cZ cC cJ : ClassId) (sz : Nat) (h0 : Nat) (tO : Nat) (so : Int32) (pl : Int32) (bh : Int32) (fa_ : Int32) (p0 : Int32)  : Met l yX2_refuse wsX2_refuse ({ frames := 0, cells := 0, slots := 0, locals := 0 }) (va_Pc [.ref h0, .int p0] (sPre dC dI cI cZ cC cJ [(h0, .inr (2, [.ref tO, .int so, .int pl, .int bh, .int fa_]))] sz)) (va_Qv (fun (u : (Int32)) => match u with | fa_2 => True) (fun (u : (Int32)) t => match u with | fa_2 => sB dC dI (va_A [(h0, .inr (2, [.ref tO, .int so, .int pl, .int bh, .int fa_]))] sz) [(h0, .inr (2, [.ref tO, .int so, .int pl, .int bh, .int fa_2]))] t) (va_A [(h0, .inr (2, [.ref tO, .int so, .int pl, .int bh, .int fa_]))] sz)) 0 0 (va_A [(h0, .inr (2, [.ref tO, .int so, .int pl, .int bh, .int fa_]))] sz) := by
  refine Met.ofW (cc := cX2_refuse) (maxL := 2) (ret := none) (by decide) rfl ?_
  intro p e s m args below meth c s₁ B hml hv
  obtain ⟨rfl, hsz, hP, hsk, hD0⟩ := hv
  have hx := B.exec
  have hb := B.bytes
  have hr := B.returns
  have hts := atoms_spec (ws := wsX2_refuse) B.pre
  have hown : s.vm.findClass RX2 = some m.cls := findClass_of_methodNamed B.named
  have hlocks := B.notSynchronized
  have hK := hsk.1
  have i2 : ∀ w ∈ wsX20, w ∈ wsX2_refuse := by decide +kernel
  subst hsz
  have hD := hD0.self (sz := s.heap.size)
  generalize hAe : va_A [(h0, .inr (2, [.ref tO, .int so, .int pl, .int bh, .int fa_]))] s.heap.size = A at hD ⊢
  have hA : ∀ q : Nat, s.heap.size ≤ q → A q := fun q h => by rw [← hAe]; exact Or.inr h
  have hS : va_S A s.heap s.heap [] := va_S.rf
  have hl := lv_entry ([.ref h0, .int p0]) (n := 2) (Nat.le_of_ble_eq_true rfl)
  rw [lg_entry_eq]
  generalize (lg_sl ([.ref h0, .int p0]) ++ List.replicate (2 - (lg_sl ([.ref h0, .int p0])).length) Slot.unset).toArray = ls at hl ⊢
  have hl : lv_has ls 2 [(0, .ref h0), (1, .int p0)] := hl
  refine lv_aload_n hx hb dX2_refuse_0 rfl (lv_at hl 0 rfl) ?_
  refine va_get (D := (dC, dI)) (ci := 2) (v := .int fa_) (C := RX2) (T := TX2) (N := 5) hx hb hts i2 hown hK hP 0 rfl rfl 4 (by decide) (hts (.fieldLink RX2 20 "StopSetter$Reader" "fault" "I") (by decide +kernel)) (fun _ h9 => h9) rfl dX2_refuse_1 ?_
  refine lv_if_ne (tgt := 20) hx hb dX2_refuse_4 (by decide) (fun c_4 => ?_) (fun c_4 => ?_)
  · skip
    have hP9 := hP.sub (ws' := [(h0, .inr (2, [.ref tO, .int so, .int pl, .int bh, .int fa_]))]) [0] rfl
    have hD9 := hD.sub (ws' := [(h0, .inr (2, [.ref tO, .int so, .int pl, .int bh, .int fa_]))]) [0] (by decide) rfl
    exact W.vret hx hb hr (fun t ht hW => ⟨⟨(fa_), rfl, trivial, by rw [ht]; exact hP9, hD9⟩, hS.F ht⟩) hS.2.2 dX2_refuse_20
  · skip
    refine lv_aload_n hx hb dX2_refuse_7 rfl (lv_at hl 0 rfl) ?_
    refine lv_iload_n hx hb dX2_refuse_8 rfl (lv_at hl 1 rfl) ?_
    refine lv_bipush (v := 16) hx hb dX2_refuse_9 (by decide) ?_
    refine lv_aload_n hx hb dX2_refuse_11 rfl (lv_at hl 0 rfl) ?_
    refine va_get (D := (dC, dI)) (ci := 2) (v := .int pl) (C := RX2) (T := TX2) (N := 5) hx hb hts i2 hown hK hP 0 rfl rfl 2 (by decide) (hts (.fieldLink RX2 106 "StopSetter$Reader" "place" "I") (by decide +kernel)) (fun _ h9 => h9) rfl dX2_refuse_12 ?_
    refine lv_imul hx hb dX2_refuse_15 ?_
    refine lv_topi (fun v_1 ev_1 => ?_)
    refine lv_iadd hx hb dX2_refuse_16 ?_
    refine lv_topi (fun v_2 ev_2 => ?_)
    refine va_put (D := (dC, dI)) (ci := 2) (v := .int v_2) (ty := tyX2 4) (C := RX2) (T := TX2) (N := 5) hx hb hts i2 tyX2 tyX2_ok nmX2 hown hK hP hD hS 0 rfl rfl 4 (by decide) (hts (.fieldLink RX2 20 "StopSetter$Reader" "fault" "I") (by decide +kernel)) (fun _ h9 => h9) rfl (by decide +kernel) rfl rfl (Nat.le_of_ble_eq_true rfl) dX2_refuse_17 (fun H locs hP hD hS => ?_)
    have hP : va_P (dC, dI) vwCl [(h0, .inr (2, [.ref tO, .int so, .int pl, .int bh, .int v_2]))] H := hP
    have hD : va_D A [(h0, .inr (2, [.ref tO, .int so, .int pl, .int bh, .int v_2]))] := hD
    have hP9 := hP.sub (ws' := [(h0, .inr (2, [.ref tO, .int so, .int pl, .int bh, .int v_2]))]) [0] rfl
    have hD9 := hD.sub (ws' := [(h0, .inr (2, [.ref tO, .int so, .int pl, .int bh, .int v_2]))]) [0] (by decide) rfl
    exact W.vret hx hb hr (fun t ht hW => ⟨⟨(v_2), rfl, trivial, by rw [ht]; exact hP9, hD9⟩, hS.F ht⟩) hS.2.2 dX2_refuse_20
set_option maxHeartbeats 4000000 in
set_option maxRecDepth 100000 in
theorem k_sortOf (l : Launch) (dC : Nat → ClassId) (dI : Nat → Nat → Nat) (cI cZ cC cJ : ClassId) (sz : Nat) (p0 : Int32)  : Met l yX2_sortOf wsX2_sortOf ({ frames := 0, cells := 0, slots := 0, locals := 0 }) (va_Pc [.int p0] (sPre dC dI cI cZ cC cJ [] sz)) (va_Qi (fun (r : Int32) (u : Unit) => r = srt p0) (fun _ => sB dC dI (va_A [] sz) []) (va_A [] sz)) 0 0 (va_A [] sz) := by
  refine Met.ofW (cc := cX2_sortOf) (maxL := 1) (ret := (some .int)) (by decide) rfl ?_
  intro p e s m args below meth c s₁ B hml hv
  obtain ⟨rfl, hsz, hP, hsk, hD0⟩ := hv
  have hx := B.exec
  have hb := B.bytes
  have hr := B.returns
  have hts := atoms_spec (ws := wsX2_sortOf) B.pre
  have hown : s.vm.findClass RX2 = some m.cls := findClass_of_methodNamed B.named
  have hlocks := B.notSynchronized
  have hK := hsk.1
  subst hsz
  have hD := hD0.self (sz := s.heap.size)
  generalize hAe : va_A [] s.heap.size = A at hD ⊢
  have hA : ∀ q : Nat, s.heap.size ≤ q → A q := fun q h => by rw [← hAe]; exact Or.inr h
  have hS : va_S A s.heap s.heap [] := va_S.rf
  have hl := lv_entry ([.int p0]) (n := 1) (Nat.le_of_ble_eq_true rfl)
  rw [lg_entry_eq]
  generalize (lg_sl ([.int p0]) ++ List.replicate (1 - (lg_sl ([.int p0])).length) Slot.unset).toArray = ls at hl ⊢
  have hl : lv_has ls 1 [(0, .int p0)] := hl
  refine lv_iload_n hx hb dX2_sortOf_0 rfl (lv_at hl 0 rfl) ?_
  refine lv_iconst (v := (-1)) hx hb dX2_sortOf_1 (by decide) ?_
  refine lv_icmp_ne (tgt := 7) hx hb dX2_sortOf_2 (by decide) (fun c_2 => ?_) (fun c_2 => ?_)
  · skip
    refine lv_iload_n hx hb dX2_sortOf_7 rfl (lv_at hl 0 rfl) ?_
    refine lv_bipush (v := 10) hx hb dX2_sortOf_8 (by decide) ?_
    refine lv_icmp_eq (tgt := 19) hx hb dX2_sortOf_10 (by decide) (fun c_10 => ?_) (fun c_10 => ?_)
    · skip
      refine lv_iconst (v := 1) hx hb dX2_sortOf_19 (by decide) ?_
      have hP9 := hP.sub (ws' := []) [] rfl
      have hD9 := hD.sub (ws' := []) [] (by decide) rfl
      exact W.iret (v := 1) hx hb hr (fun t ht hW => ⟨⟨1, (), rfl, (by simp only [srt, if_neg c_2, if_pos c_10]), by rw [ht]; exact hP9, hD9⟩, hS.F ht⟩) hS.2.2 dX2_sortOf_20
    · skip
      refine lv_iload_n hx hb dX2_sortOf_13 rfl (lv_at hl 0 rfl) ?_
      refine lv_bipush (v := 32) hx hb dX2_sortOf_14 (by decide) ?_
      refine lv_icmp_ne (tgt := 21) hx hb dX2_sortOf_16 (by decide) (fun c_16 => ?_) (fun c_16 => ?_)
      · skip
        refine lv_iload_n hx hb dX2_sortOf_21 rfl (lv_at hl 0 rfl) ?_
        refine lv_bipush (v := 97) hx hb dX2_sortOf_22 (by decide) ?_
        refine lv_icmp_lt (tgt := 35) hx hb dX2_sortOf_24 (by decide) (fun c_24 => ?_) (fun c_24 => ?_)
        · skip
          refine lv_iload_n hx hb dX2_sortOf_35 rfl (lv_at hl 0 rfl) ?_
          refine lv_bipush (v := 48) hx hb dX2_sortOf_36 (by decide) ?_
          refine lv_icmp_lt (tgt := 49) hx hb dX2_sortOf_38 (by decide) (fun c_38 => ?_) (fun c_38 => ?_)
          · skip
            refine lv_iload_n hx hb dX2_sortOf_49 rfl (lv_at hl 0 rfl) ?_
            refine lv_bipush (v := 59) hx hb dX2_sortOf_50 (by decide) ?_
            refine lv_icmp_ne (tgt := 59) hx hb dX2_sortOf_52 (by decide) (fun c_52 => ?_) (fun c_52 => ?_)
            · skip
              refine lv_iconst (v := 5) hx hb dX2_sortOf_59 (by decide) ?_
              have hP9 := hP.sub (ws' := []) [] rfl
              have hD9 := hD.sub (ws' := []) [] (by decide) rfl
              exact W.iret (v := 5) hx hb hr (fun t ht hW => ⟨⟨5, (), rfl, (by simp only [srt, if_neg c_2, if_neg c_10, if_neg c_16, if_pos c_24, if_pos c_38, if_neg c_52]), by rw [ht]; exact hP9, hD9⟩, hS.F ht⟩) hS.2.2 dX2_sortOf_60
            · skip
              refine lv_iconst (v := 4) hx hb dX2_sortOf_55 (by decide) ?_
              refine lv_goto (tgt := 60) hx hb dX2_sortOf_56 (by decide) ?_
              have hP9 := hP.sub (ws' := []) [] rfl
              have hD9 := hD.sub (ws' := []) [] (by decide) rfl
              exact W.iret (v := 4) hx hb hr (fun t ht hW => ⟨⟨4, (), rfl, (by simp only [srt, if_neg c_2, if_neg c_10, if_neg c_16, if_pos c_24, if_pos c_38, if_pos c_52]), by rw [ht]; exact hP9, hD9⟩, hS.F ht⟩) hS.2.2 dX2_sortOf_60
          · skip
            refine lv_iload_n hx hb dX2_sortOf_41 rfl (lv_at hl 0 rfl) ?_
            refine lv_bipush (v := 57) hx hb dX2_sortOf_42 (by decide) ?_
            refine lv_icmp_gt (tgt := 49) hx hb dX2_sortOf_44 (by decide) (fun c_44 => ?_) (fun c_44 => ?_)
            · skip
              refine lv_iload_n hx hb dX2_sortOf_49 rfl (lv_at hl 0 rfl) ?_
              refine lv_bipush (v := 59) hx hb dX2_sortOf_50 (by decide) ?_
              refine lv_icmp_ne (tgt := 59) hx hb dX2_sortOf_52 (by decide) (fun c_52 => ?_) (fun c_52 => ?_)
              · skip
                refine lv_iconst (v := 5) hx hb dX2_sortOf_59 (by decide) ?_
                have hP9 := hP.sub (ws' := []) [] rfl
                have hD9 := hD.sub (ws' := []) [] (by decide) rfl
                exact W.iret (v := 5) hx hb hr (fun t ht hW => ⟨⟨5, (), rfl, (by simp only [srt, if_neg c_2, if_neg c_10, if_neg c_16, if_pos c_24, if_neg c_38, if_pos c_44, if_neg c_52]), by rw [ht]; exact hP9, hD9⟩, hS.F ht⟩) hS.2.2 dX2_sortOf_60
              · skip
                refine lv_iconst (v := 4) hx hb dX2_sortOf_55 (by decide) ?_
                refine lv_goto (tgt := 60) hx hb dX2_sortOf_56 (by decide) ?_
                have hP9 := hP.sub (ws' := []) [] rfl
                have hD9 := hD.sub (ws' := []) [] (by decide) rfl
                exact W.iret (v := 4) hx hb hr (fun t ht hW => ⟨⟨4, (), rfl, (by simp only [srt, if_neg c_2, if_neg c_10, if_neg c_16, if_pos c_24, if_neg c_38, if_pos c_44, if_pos c_52]), by rw [ht]; exact hP9, hD9⟩, hS.F ht⟩) hS.2.2 dX2_sortOf_60
            · skip
              refine lv_iconst (v := 3) hx hb dX2_sortOf_47 (by decide) ?_
              have hP9 := hP.sub (ws' := []) [] rfl
              have hD9 := hD.sub (ws' := []) [] (by decide) rfl
              exact W.iret (v := 3) hx hb hr (fun t ht hW => ⟨⟨3, (), rfl, (by simp only [srt, if_neg c_2, if_neg c_10, if_neg c_16, if_pos c_24, if_neg c_38, if_neg c_44]), by rw [ht]; exact hP9, hD9⟩, hS.F ht⟩) hS.2.2 dX2_sortOf_48
        · skip
          refine lv_iload_n hx hb dX2_sortOf_27 rfl (lv_at hl 0 rfl) ?_
          refine lv_bipush (v := 122) hx hb dX2_sortOf_28 (by decide) ?_
          refine lv_icmp_gt (tgt := 35) hx hb dX2_sortOf_30 (by decide) (fun c_30 => ?_) (fun c_30 => ?_)
          · skip
            refine lv_iload_n hx hb dX2_sortOf_35 rfl (lv_at hl 0 rfl) ?_
            refine lv_bipush (v := 48) hx hb dX2_sortOf_36 (by decide) ?_
            refine lv_icmp_lt (tgt := 49) hx hb dX2_sortOf_38 (by decide) (fun c_38 => ?_) (fun c_38 => ?_)
            · skip
              refine lv_iload_n hx hb dX2_sortOf_49 rfl (lv_at hl 0 rfl) ?_
              refine lv_bipush (v := 59) hx hb dX2_sortOf_50 (by decide) ?_
              refine lv_icmp_ne (tgt := 59) hx hb dX2_sortOf_52 (by decide) (fun c_52 => ?_) (fun c_52 => ?_)
              · skip
                refine lv_iconst (v := 5) hx hb dX2_sortOf_59 (by decide) ?_
                have hP9 := hP.sub (ws' := []) [] rfl
                have hD9 := hD.sub (ws' := []) [] (by decide) rfl
                exact W.iret (v := 5) hx hb hr (fun t ht hW => ⟨⟨5, (), rfl, (by simp only [srt, if_neg c_2, if_neg c_10, if_neg c_16, if_neg c_24, if_pos c_30, if_pos c_38, if_neg c_52]), by rw [ht]; exact hP9, hD9⟩, hS.F ht⟩) hS.2.2 dX2_sortOf_60
              · skip
                refine lv_iconst (v := 4) hx hb dX2_sortOf_55 (by decide) ?_
                refine lv_goto (tgt := 60) hx hb dX2_sortOf_56 (by decide) ?_
                have hP9 := hP.sub (ws' := []) [] rfl
                have hD9 := hD.sub (ws' := []) [] (by decide) rfl
                exact W.iret (v := 4) hx hb hr (fun t ht hW => ⟨⟨4, (), rfl, (by simp only [srt, if_neg c_2, if_neg c_10, if_neg c_16, if_neg c_24, if_pos c_30, if_pos c_38, if_pos c_52]), by rw [ht]; exact hP9, hD9⟩, hS.F ht⟩) hS.2.2 dX2_sortOf_60
            · skip
              refine lv_iload_n hx hb dX2_sortOf_41 rfl (lv_at hl 0 rfl) ?_
              refine lv_bipush (v := 57) hx hb dX2_sortOf_42 (by decide) ?_
              refine lv_icmp_gt (tgt := 49) hx hb dX2_sortOf_44 (by decide) (fun c_44 => ?_) (fun c_44 => ?_)
              · skip
                refine lv_iload_n hx hb dX2_sortOf_49 rfl (lv_at hl 0 rfl) ?_
                refine lv_bipush (v := 59) hx hb dX2_sortOf_50 (by decide) ?_
                refine lv_icmp_ne (tgt := 59) hx hb dX2_sortOf_52 (by decide) (fun c_52 => ?_) (fun c_52 => ?_)
                · skip
                  refine lv_iconst (v := 5) hx hb dX2_sortOf_59 (by decide) ?_
                  have hP9 := hP.sub (ws' := []) [] rfl
                  have hD9 := hD.sub (ws' := []) [] (by decide) rfl
                  exact W.iret (v := 5) hx hb hr (fun t ht hW => ⟨⟨5, (), rfl, (by simp only [srt, if_neg c_2, if_neg c_10, if_neg c_16, if_neg c_24, if_pos c_30, if_neg c_38, if_pos c_44, if_neg c_52]), by rw [ht]; exact hP9, hD9⟩, hS.F ht⟩) hS.2.2 dX2_sortOf_60
                · skip
                  refine lv_iconst (v := 4) hx hb dX2_sortOf_55 (by decide) ?_
                  refine lv_goto (tgt := 60) hx hb dX2_sortOf_56 (by decide) ?_
                  have hP9 := hP.sub (ws' := []) [] rfl
                  have hD9 := hD.sub (ws' := []) [] (by decide) rfl
                  exact W.iret (v := 4) hx hb hr (fun t ht hW => ⟨⟨4, (), rfl, (by simp only [srt, if_neg c_2, if_neg c_10, if_neg c_16, if_neg c_24, if_pos c_30, if_neg c_38, if_pos c_44, if_pos c_52]), by rw [ht]; exact hP9, hD9⟩, hS.F ht⟩) hS.2.2 dX2_sortOf_60
              · skip
                refine lv_iconst (v := 3) hx hb dX2_sortOf_47 (by decide) ?_
                have hP9 := hP.sub (ws' := []) [] rfl
                have hD9 := hD.sub (ws' := []) [] (by decide) rfl
                exact W.iret (v := 3) hx hb hr (fun t ht hW => ⟨⟨3, (), rfl, (by simp only [srt, if_neg c_2, if_neg c_10, if_neg c_16, if_neg c_24, if_pos c_30, if_neg c_38, if_neg c_44]), by rw [ht]; exact hP9, hD9⟩, hS.F ht⟩) hS.2.2 dX2_sortOf_48
          · skip
            refine lv_iconst (v := 2) hx hb dX2_sortOf_33 (by decide) ?_
            have hP9 := hP.sub (ws' := []) [] rfl
            have hD9 := hD.sub (ws' := []) [] (by decide) rfl
            exact W.iret (v := 2) hx hb hr (fun t ht hW => ⟨⟨2, (), rfl, (by simp only [srt, if_neg c_2, if_neg c_10, if_neg c_16, if_neg c_24, if_neg c_30]), by rw [ht]; exact hP9, hD9⟩, hS.F ht⟩) hS.2.2 dX2_sortOf_34
      · skip
        refine lv_iconst (v := 1) hx hb dX2_sortOf_19 (by decide) ?_
        have hP9 := hP.sub (ws' := []) [] rfl
        have hD9 := hD.sub (ws' := []) [] (by decide) rfl
        exact W.iret (v := 1) hx hb hr (fun t ht hW => ⟨⟨1, (), rfl, (by simp only [srt, if_neg c_2, if_neg c_10, if_pos c_16]), by rw [ht]; exact hP9, hD9⟩, hS.F ht⟩) hS.2.2 dX2_sortOf_20
  · skip
    refine lv_iconst (v := 0) hx hb dX2_sortOf_5 (by decide) ?_
    have hP9 := hP.sub (ws' := []) [] rfl
    have hD9 := hD.sub (ws' := []) [] (by decide) rfl
    exact W.iret (v := 0) hx hb hr (fun t ht hW => ⟨⟨0, (), rfl, (by simp only [srt, if_pos c_2]), by rw [ht]; exact hP9, hD9⟩, hS.F ht⟩) hS.2.2 dX2_sortOf_6
set_option maxHeartbeats 4000000 in
set_option maxRecDepth 100000 in
theorem k_runEnd (l : Launch) (dC : Nat → ClassId) (dI : Nat → Nat → Nat) (cI cZ cC cJ : ClassId) (sz : Nat) (h0 : Nat) (tO : Nat) (so : Int32) (pl : Int32) (bh : Int32) (fa_ : Int32) (sA : Nat) (tl : Int32) (fs : Nat → Int32) (p0 : Int32) (p1 : Int32)  : Met l yX2_runEnd wsX2_runEnd ({ frames := 1, cells := 0, slots := 0, locals := 21 }) (va_Pc [.ref h0, .int p0, .int p1] (sPre dC dI cI cZ cC cJ [(h0, .inr (2, [.ref tO, .int so, .int pl, .int bh, .int fa_])), (tO, .inr (3, [.ref sA, .int tl])), (sA, .inl (cC, 1600, .inl fs))] sz)) (va_Qi (fun (r : Int32) (u : Unit) => True) (fun _ => sB dC dI (va_A [(h0, .inr (2, [.ref tO, .int so, .int pl, .int bh, .int fa_])), (tO, .inr (3, [.ref sA, .int tl])), (sA, .inl (cC, 1600, .inl fs))] sz) [(h0, .inr (2, [.ref tO, .int so, .int pl, .int bh, .int fa_])), (tO, .inr (3, [.ref sA, .int tl])), (sA, .inl (cC, 1600, .inl fs))]) (va_A [(h0, .inr (2, [.ref tO, .int so, .int pl, .int bh, .int fa_])), (tO, .inr (3, [.ref sA, .int tl])), (sA, .inl (cC, 1600, .inl fs))] sz)) 0 0 (va_A [(h0, .inr (2, [.ref tO, .int so, .int pl, .int bh, .int fa_])), (tO, .inr (3, [.ref sA, .int tl])), (sA, .inl (cC, 1600, .inl fs))] sz) := by
  refine Met.ofW (cc := cX2_runEnd) (maxL := 4) (ret := (some .int)) (by decide) rfl ?_
  intro p e s m args below meth c s₁ B hml hv
  obtain ⟨rfl, hsz, hP, hsk, hD0⟩ := hv
  have hx := B.exec
  have hb := B.bytes
  have hr := B.returns
  have hts := atoms_spec (ws := wsX2_runEnd) B.pre
  have hown : s.vm.findClass RX2 = some m.cls := findClass_of_methodNamed B.named
  have hlocks := B.notSynchronized
  have hK := hsk.1
  have i2 : ∀ w ∈ wsX20, w ∈ wsX2_runEnd := by decide +kernel
  have i3 : ∀ w ∈ wsX30, w ∈ wsX2_runEnd := by decide +kernel
  subst hsz
  have hD := hD0.self (sz := s.heap.size)
  generalize hAe : va_A [(h0, .inr (2, [.ref tO, .int so, .int pl, .int bh, .int fa_])), (tO, .inr (3, [.ref sA, .int tl])), (sA, .inl (cC, 1600, .inl fs))] s.heap.size = A at hD ⊢
  have hA : ∀ q : Nat, s.heap.size ≤ q → A q := fun q h => by rw [← hAe]; exact Or.inr h
  have hS : va_S A s.heap s.heap [] := va_S.rf
  have hl := lv_entry ([.ref h0, .int p0, .int p1]) (n := 4) (Nat.le_of_ble_eq_true rfl)
  rw [lg_entry_eq]
  generalize (lg_sl ([.ref h0, .int p0, .int p1]) ++ List.replicate (4 - (lg_sl ([.ref h0, .int p0, .int p1])).length) Slot.unset).toArray = ls at hl ⊢
  have hl : lv_has ls 4 [(0, .ref h0), (1, .int p0), (2, .int p1)] := hl
  refine lv_iload_n hx hb dX2_runEnd_0 rfl (lv_at hl 1 rfl) ?_
  refine lv_istore_n (lv' := [(3, .int p0), (0, .ref h0), (1, .int p0), (2, .int p1)]) hx hb dX2_runEnd_1 rfl hl (by decide) rfl (fun ls hl => ?_)
  have lp_2 : ∀ (n_2 : Nat) (iv : Int32), ((tl : Int32).toInt - (iv : Int32).toInt < n_2 ∧ 0 < n_2) → ∀ (H : Heap) (locs : List Loc) (ls : Array Slot), va_P (dC, dI) vwCl [(h0, .inr (2, [.ref tO, .int so, .int pl, .int bh, .int fa_])), (tO, .inr (3, [.ref sA, .int tl])), (sA, .inl (cC, 1600, .inl fs))] H → va_D A [(h0, .inr (2, [.ref tO, .int so, .int pl, .int bh, .int fa_])), (tO, .inr (3, [.ref sA, .int tl])), (sA, .inl (cC, 1600, .inl fs))] → va_S A s.heap H locs → lv_has ls 4 [(3, .int iv), (0, .ref h0), (1, .int p0), (2, .int p1)] → W p l e (headSpec wsX2_runEnd ({ frames := 1, cells := 0, slots := 0, locals := 21 })).room s m ([.ref h0, .int p0, .int p1]).toArray below meth c H locs 0 0 (MQ below (va_Qi (fun (r : Int32) (u : Unit) => True) (fun _ => sB dC dI A [(h0, .inr (2, [.ref tO, .int so, .int pl, .int bh, .int fa_])), (tO, .inr (3, [.ref sA, .int tl])), (sA, .inl (cC, 1600, .inl fs))]) A) ([.ref h0, .int p0, .int p1]).toArray s 0 0 A) (F0 m 2 ls []) := by
    intro n_2
    induction n_2 with
    | zero =>
      intro iv fuel_2 
      exact absurd fuel_2 (by omega)
    | succ n_2 ih_2 =>
      intro iv fuel_2  H locs ls hP hD hS hl
      refine lv_iload_n hx hb dX2_runEnd_2 rfl (lv_at hl 0 rfl) ?_
      refine lv_aload_n hx hb dX2_runEnd_3 rfl (lv_at hl 1 rfl) ?_
      refine va_get (D := (dC, dI)) (ci := 2) (v := .ref tO) (C := RX2) (T := TX2) (N := 5) hx hb hts i2 hown hK hP 0 rfl rfl 0 (by decide) (hts (.fieldLink RX2 9 "StopSetter$Reader" "tape" "LStopSetter$Tape;") (by decide +kernel)) (fun _ h9 => h9) rfl dX2_runEnd_4 ?_
      refine va_getN (D := (dC, dI)) (ci := 3) (v := .int tl) (C := RX3) (T := TX3) (N := 2) hx hb hts i3 hown hK hP 1 rfl rfl 1 (by decide) (va_Nw.use rfl (hsk.2.1 ("StopSetter$Reader", 119, "StopSetter$Tape", "length", "I", "StopSetter") (by decide +kernel))) (fun _ h9 => h9) rfl dX2_runEnd_7 ?_
      refine lv_icmp_ge (tgt := 36) hx hb dX2_runEnd_10 (by decide) (fun c_10 => ?_) (fun c_10 => ?_)
      · skip
        refine lv_aload_n hx hb dX2_runEnd_36 rfl (lv_at hl 1 rfl) ?_
        refine va_get (D := (dC, dI)) (ci := 2) (v := .ref tO) (C := RX2) (T := TX2) (N := 5) hx hb hts i2 hown hK hP 0 rfl rfl 0 (by decide) (hts (.fieldLink RX2 9 "StopSetter$Reader" "tape" "LStopSetter$Tape;") (by decide +kernel)) (fun _ h9 => h9) rfl dX2_runEnd_37 ?_
        refine va_getN (D := (dC, dI)) (ci := 3) (v := .int tl) (C := RX3) (T := TX3) (N := 2) hx hb hts i3 hown hK hP 1 rfl rfl 1 (by decide) (va_Nw.use rfl (hsk.2.1 ("StopSetter$Reader", 119, "StopSetter$Tape", "length", "I", "StopSetter") (by decide +kernel))) (fun _ h9 => h9) rfl dX2_runEnd_40 ?_
        have hP9 := hP.sub (ws' := [(h0, .inr (2, [.ref tO, .int so, .int pl, .int bh, .int fa_])), (tO, .inr (3, [.ref sA, .int tl])), (sA, .inl (cC, 1600, .inl fs))]) [0, 1, 2] rfl
        have hD9 := hD.sub (ws' := [(h0, .inr (2, [.ref tO, .int so, .int pl, .int bh, .int fa_])), (tO, .inr (3, [.ref sA, .int tl])), (sA, .inl (cC, 1600, .inl fs))]) [0, 1, 2] (by decide) rfl
        exact W.iret (v := tl) hx hb hr (fun t ht hW => ⟨⟨tl, (), rfl, trivial, by rw [ht]; exact hP9, hD9⟩, hS.F ht⟩) hS.2.2 dX2_runEnd_43
      · skip
        refine lv_aload_n hx hb dX2_runEnd_13 rfl (lv_at hl 1 rfl) ?_
        refine va_get (D := (dC, dI)) (ci := 2) (v := .ref tO) (C := RX2) (T := TX2) (N := 5) hx hb hts i2 hown hK hP 0 rfl rfl 0 (by decide) (hts (.fieldLink RX2 9 "StopSetter$Reader" "tape" "LStopSetter$Tape;") (by decide +kernel)) (fun _ h9 => h9) rfl dX2_runEnd_14 ?_
        refine lv_iload_n hx hb dX2_runEnd_17 rfl (lv_at hl 0 rfl) ?_
        have hPc := hP.sub (ws' := [(tO, .inr (3, [.ref sA, .int tl])), (sA, .inl (cC, 1600, .inl fs))]) [1, 2] rfl
        have hDc := hD.sub (ws' := [(tO, .inr (3, [.ref sA, .int tl])), (sA, .inl (cC, 1600, .inl fs))]) [1, 2] (by decide) rfl
        have hFc := va_free (wc := [(tO, .inr (3, [.ref sA, .int tl])), (sA, .inl (cC, 1600, .inl fs))]) hD hS hA [1, 2] rfl
        refine va_calli (va_runV (As := [.int iv]) (rest := []) ⟨hx, hb, hml, hown, hts⟩ (k_signAt l dC dI cI cZ cC cJ H.size  tO sA tl fs iv ) (cwV 1 hts gX2_runEnd_X3_signAt rfl rfl rfl (by decide +kernel) ⟨Nat.le_of_ble_eq_true rfl, Nat.le_of_ble_eq_true rfl⟩) ⟨sPre_blind, va_recv hK hPc (ci := 3) (q0 := 0) rfl rfl, fun U hU hW => ⟨rfl, sPre_ok hsk hPc hDc hU hW⟩⟩ rfl rfl hl.1 rfl (lv_room (Nat.le_of_ble_eq_true rfl)) dX2_runEnd_18 ⟨(show 0 + 0 ≤ 0 by omega), (show 0 + 0 ≤ 0 by omega)⟩) hS (fun q _ h => hFc q h) hFc (fun r_1 u t H1 locs ht hvm hw hB hz1 hk1 hS => ?_)
        try dsimp only at hw hB
        obtain ⟨hP1, hD1⟩ := hB
        rw [ht] at hP1
        obtain ⟨hP, hD⟩ := va_join (wr := [(h0, .inr (2, [.ref tO, .int so, .int pl, .int bh, .int fa_]))]) (w1 := [(tO, .inr (3, [.ref sA, .int tl])), (sA, .inl (cC, 1600, .inl fs))]) hP hD [1, 2] [0] rfl rfl (by decide) (by decide) hk1 hFc hP1 hD1
        generalize H1 = H at hP hS ⊢
        have hP : va_P (dC, dI) vwCl [(h0, .inr (2, [.ref tO, .int so, .int pl, .int bh, .int fa_])), (tO, .inr (3, [.ref sA, .int tl])), (sA, .inl (cC, 1600, .inl fs))] H := hP
        have hD : va_D A [(h0, .inr (2, [.ref tO, .int so, .int pl, .int bh, .int fa_])), (tO, .inr (3, [.ref sA, .int tl])), (sA, .inl (cC, 1600, .inl fs))] := hD
        have hw_r_1 := hw
        have hPc := hP.sub (ws' := []) [] rfl
        have hDc := hD.sub (ws' := []) [] (by decide) rfl
        have hFc := va_free (wc := []) hD hS hA [] rfl
        refine va_calli (va_runS (As := [.int r_1]) (rest := []) ⟨hx, hb, hml, hown, hts⟩ (k_sortOf l dC dI cI cZ cC cJ H.size  r_1 ) (va_cwS 1 hts gX2_runEnd_X2_sortOf rfl rfl rfl (by decide +kernel) ⟨Nat.le_of_ble_eq_true rfl, Nat.le_of_ble_eq_true rfl⟩) ⟨sPre_blind, fun U hU hW => ⟨rfl, sPre_ok hsk hPc hDc hU hW⟩⟩ rfl rfl hl.1 rfl (lv_room (Nat.le_of_ble_eq_true rfl)) dX2_runEnd_21 ⟨(show 0 + 0 ≤ 0 by omega), (show 0 + 0 ≤ 0 by omega)⟩) hS (fun q _ h => hFc q h) hFc (fun r_2 u t H1 locs ht hvm hw hB hz1 hk1 hS => ?_)
        try dsimp only at hw hB
        have hw_3 := hw
        obtain rfl : r_2 = srt r_1 := hw_3
        obtain ⟨hP1, hD1⟩ := hB
        rw [ht] at hP1
        obtain ⟨hP, hD⟩ := va_join (wr := [(h0, .inr (2, [.ref tO, .int so, .int pl, .int bh, .int fa_])), (tO, .inr (3, [.ref sA, .int tl])), (sA, .inl (cC, 1600, .inl fs))]) (w1 := []) hP hD [] [0, 1, 2] rfl rfl (by decide) (by decide) hk1 hFc hP1 hD1
        generalize H1 = H at hP hS ⊢
        have hP : va_P (dC, dI) vwCl [(h0, .inr (2, [.ref tO, .int so, .int pl, .int bh, .int fa_])), (tO, .inr (3, [.ref sA, .int tl])), (sA, .inl (cC, 1600, .inl fs))] H := hP
        have hD : va_D A [(h0, .inr (2, [.ref tO, .int so, .int pl, .int bh, .int fa_])), (tO, .inr (3, [.ref sA, .int tl])), (sA, .inl (cC, 1600, .inl fs))] := hD
        refine lv_iload_n hx hb dX2_runEnd_24 rfl (lv_at hl 3 rfl) ?_
        refine lv_icmp_eq (tgt := 30) hx hb dX2_runEnd_25 (by decide) (fun c_25 => ?_) (fun c_25 => ?_)
        · skip
          refine lv_iinc (v := (iv + 1)) (lv' := [(3, .int (iv + 1)), (0, .ref h0), (1, .int p0), (2, .int p1)]) hx hb dX2_runEnd_30 hl (k := 0) rfl rfl (by decide) rfl (fun ls hl => ?_)
          refine lv_goto (tgt := 2) hx hb dX2_runEnd_33 (by decide) ?_
          exact ih_2  (iv + 1) (up_f c_10 fuel_2) _ _ _ hP hD hS (lv_sub hl [0, 1, 2, 3] rfl)
        · skip
          refine lv_iload_n hx hb dX2_runEnd_28 rfl (lv_at hl 0 rfl) ?_
          have hP9 := hP.sub (ws' := [(h0, .inr (2, [.ref tO, .int so, .int pl, .int bh, .int fa_])), (tO, .inr (3, [.ref sA, .int tl])), (sA, .inl (cC, 1600, .inl fs))]) [0, 1, 2] rfl
          have hD9 := hD.sub (ws' := [(h0, .inr (2, [.ref tO, .int so, .int pl, .int bh, .int fa_])), (tO, .inr (3, [.ref sA, .int tl])), (sA, .inl (cC, 1600, .inl fs))]) [0, 1, 2] (by decide) rfl
          exact W.iret (v := iv) hx hb hr (fun t ht hW => ⟨⟨iv, (), rfl, trivial, by rw [ht]; exact hP9, hD9⟩, hS.F ht⟩) hS.2.2 dX2_runEnd_29
  exact lp_2 (((tl : Int32).toInt - (p0 : Int32).toInt).toNat + 1) p0 (by omega) _ _ _ hP hD hS (lv_sub hl [0, 1, 2, 3] rfl)
set_option maxHeartbeats 4000000 in
set_option maxRecDepth 100000 in
theorem k_advance (l : Launch) (dC : Nat → ClassId) (dI : Nat → Nat → Nat) (cI cZ cC cJ : ClassId) (sz : Nat) (h0 : Nat) (tO : Nat) (so : Int32) (pl : Int32) (bh : Int32) (fa_ : Int32) (sA : Nat) (tl : Int32) (fs : Nat → Int32)  : Met l yX2_advance wsX2_advance ({ frames := 2, cells := 0, slots := 0, locals := 44 }) (va_Pc [.ref h0] (sPre dC dI cI cZ cC cJ [(h0, .inr (2, [.ref tO, .int so, .int pl, .int bh, .int fa_])), (tO, .inr (3, [.ref sA, .int tl])), (sA, .inl (cC, 1600, .inl fs))] sz)) (va_Qv (fun (u : (Int32) × (Int32) × (Int32)) => match u with | (so2, pl2, bh2) => True) (fun (u : (Int32) × (Int32) × (Int32)) t => match u with | (so2, pl2, bh2) => sB dC dI (va_A [(h0, .inr (2, [.ref tO, .int so, .int pl, .int bh, .int fa_])), (tO, .inr (3, [.ref sA, .int tl])), (sA, .inl (cC, 1600, .inl fs))] sz) [(h0, .inr (2, [.ref tO, .int so2, .int pl2, .int bh2, .int fa_])), (tO, .inr (3, [.ref sA, .int tl])), (sA, .inl (cC, 1600, .inl fs))] t) (va_A [(h0, .inr (2, [.ref tO, .int so, .int pl, .int bh, .int fa_])), (tO, .inr (3, [.ref sA, .int tl])), (sA, .inl (cC, 1600, .inl fs))] sz)) 0 0 (va_A [(h0, .inr (2, [.ref tO, .int so, .int pl, .int bh, .int fa_])), (tO, .inr (3, [.ref sA, .int tl])), (sA, .inl (cC, 1600, .inl fs))] sz) := by
  refine Met.ofW (cc := cX2_advance) (maxL := 2) (ret := none) (by decide) rfl ?_
  intro p e s m args below meth c s₁ B hml hv
  obtain ⟨rfl, hsz, hP, hsk, hD0⟩ := hv
  have hx := B.exec
  have hb := B.bytes
  have hr := B.returns
  have hts := atoms_spec (ws := wsX2_advance) B.pre
  have hown : s.vm.findClass RX2 = some m.cls := findClass_of_methodNamed B.named
  have hlocks := B.notSynchronized
  have hK := hsk.1
  have i2 : ∀ w ∈ wsX20, w ∈ wsX2_advance := by decide +kernel
  subst hsz
  have hD := hD0.self (sz := s.heap.size)
  generalize hAe : va_A [(h0, .inr (2, [.ref tO, .int so, .int pl, .int bh, .int fa_])), (tO, .inr (3, [.ref sA, .int tl])), (sA, .inl (cC, 1600, .inl fs))] s.heap.size = A at hD ⊢
  have hA : ∀ q : Nat, s.heap.size ≤ q → A q := fun q h => by rw [← hAe]; exact Or.inr h
  have hS : va_S A s.heap s.heap [] := va_S.rf
  have hl := lv_entry ([.ref h0]) (n := 2) (Nat.le_of_ble_eq_true rfl)
  rw [lg_entry_eq]
  generalize (lg_sl ([.ref h0]) ++ List.replicate (2 - (lg_sl ([.ref h0])).length) Slot.unset).toArray = ls at hl ⊢
  have hl : lv_has ls 2 [(0, .ref h0)] := hl
  refine lv_aload_n hx hb dX2_advance_0 rfl (lv_at hl 0 rfl) ?_
  refine lv_aload_n hx hb dX2_advance_1 rfl (lv_at hl 0 rfl) ?_
  refine lv_aload_n hx hb dX2_advance_2 rfl (lv_at hl 0 rfl) ?_
  refine va_get (D := (dC, dI)) (ci := 2) (v := .int bh) (C := RX2) (T := TX2) (N := 5) hx hb hts i2 hown hK hP 0 rfl rfl 3 (by decide) (hts (.fieldLink RX2 24 "StopSetter$Reader" "behind" "I") (by decide +kernel)) (fun _ h9 => h9) rfl dX2_advance_3 ?_
  refine lv_iconst (v := 1) hx hb dX2_advance_6 (by decide) ?_
  have hPc := hP.sub (ws' := [(h0, .inr (2, [.ref tO, .int so, .int pl, .int bh, .int fa_])), (tO, .inr (3, [.ref sA, .int tl])), (sA, .inl (cC, 1600, .inl fs))]) [0, 1, 2] rfl
  have hDc := hD.sub (ws' := [(h0, .inr (2, [.ref tO, .int so, .int pl, .int bh, .int fa_])), (tO, .inr (3, [.ref sA, .int tl])), (sA, .inl (cC, 1600, .inl fs))]) [0, 1, 2] (by decide) rfl
  have hFc := va_free (wc := [(h0, .inr (2, [.ref tO, .int so, .int pl, .int bh, .int fa_])), (tO, .inr (3, [.ref sA, .int tl])), (sA, .inl (cC, 1600, .inl fs))]) hD hS hA [0, 1, 2] rfl
  refine va_calli (va_runV (As := [.int bh, .int 1]) (rest := [.ref h0]) ⟨hx, hb, hml, hown, hts⟩ (k_runEnd l dC dI cI cZ cC cJ s.heap.size  h0 tO so pl bh fa_ sA tl fs bh 1 ) (cwV 2 hts gX2_advance_X2_runEnd rfl rfl rfl (by decide +kernel) ⟨Nat.le_of_ble_eq_true rfl, Nat.le_of_ble_eq_true rfl⟩) ⟨sPre_blind, va_recv hK hPc (ci := 2) (q0 := 0) rfl rfl, fun U hU hW => ⟨rfl, sPre_ok hsk hPc hDc hU hW⟩⟩ rfl rfl hl.1 rfl (lv_room (Nat.le_of_ble_eq_true rfl)) dX2_advance_7 ⟨(show 0 + 0 ≤ 0 by omega), (show 0 + 0 ≤ 0 by omega)⟩) hS (fun q _ h => hFc q h) hFc (fun r_1 u t H1 locs ht hvm hw hB hz1 hk1 hS => ?_)
  try dsimp only at hw hB
  obtain ⟨hP1, hD1⟩ := hB
  rw [ht] at hP1
  obtain ⟨hP, hD⟩ := va_join (wr := []) (w1 := [(h0, .inr (2, [.ref tO, .int so, .int pl, .int bh, .int fa_])), (tO, .inr (3, [.ref sA, .int tl])), (sA, .inl (cC, 1600, .inl fs))]) hP hD [0, 1, 2] [] rfl rfl (by decide) (by decide) hk1 hFc hP1 hD1
  generalize H1 = H at hP hS ⊢
  have hP : va_P (dC, dI) vwCl [(h0, .inr (2, [.ref tO, .int so, .int pl, .int bh, .int fa_])), (tO, .inr (3, [.ref sA, .int tl])), (sA, .inl (cC, 1600, .inl fs))] H := hP
  have hD : va_D A [(h0, .inr (2, [.ref tO, .int so, .int pl, .int bh, .int fa_])), (tO, .inr (3, [.ref sA, .int tl])), (sA, .inl (cC, 1600, .inl fs))] := hD
  have hw_r_1 := hw
  refine va_put (D := (dC, dI)) (ci := 2) (v := .int r_1) (ty := tyX2 2) (C := RX2) (T := TX2) (N := 5) hx hb hts i2 tyX2 tyX2_ok nmX2 hown hK hP hD hS 0 rfl rfl 2 (by decide) (hts (.fieldLink RX2 106 "StopSetter$Reader" "place" "I") (by decide +kernel)) (fun _ h9 => h9) rfl (by decide +kernel) rfl rfl (Nat.le_of_ble_eq_true rfl) dX2_advance_10 (fun H locs hP hD hS => ?_)
  have hP : va_P (dC, dI) vwCl [(h0, .inr (2, [.ref tO, .int so, .int r_1, .int bh, .int fa_])), (tO, .inr (3, [.ref sA, .int tl])), (sA, .inl (cC, 1600, .inl fs))] H := hP
  have hD : va_D A [(h0, .inr (2, [.ref tO, .int so, .int r_1, .int bh, .int fa_])), (tO, .inr (3, [.ref sA, .int tl])), (sA, .inl (cC, 1600, .inl fs))] := hD
  refine lv_aload_n hx hb dX2_advance_13 rfl (lv_at hl 0 rfl) ?_
  refine lv_aload_n hx hb dX2_advance_14 rfl (lv_at hl 0 rfl) ?_
  refine va_get (D := (dC, dI)) (ci := 2) (v := .ref tO) (C := RX2) (T := TX2) (N := 5) hx hb hts i2 hown hK hP 0 rfl rfl 0 (by decide) (hts (.fieldLink RX2 9 "StopSetter$Reader" "tape" "LStopSetter$Tape;") (by decide +kernel)) (fun _ h9 => h9) rfl dX2_advance_15 ?_
  refine lv_aload_n hx hb dX2_advance_18 rfl (lv_at hl 0 rfl) ?_
  refine va_get (D := (dC, dI)) (ci := 2) (v := .int r_1) (C := RX2) (T := TX2) (N := 5) hx hb hts i2 hown hK hP 0 rfl rfl 2 (by decide) (hts (.fieldLink RX2 106 "StopSetter$Reader" "place" "I") (by decide +kernel)) (fun _ h9 => h9) rfl dX2_advance_19 ?_
  have hPc := hP.sub (ws' := [(tO, .inr (3, [.ref sA, .int tl])), (sA, .inl (cC, 1600, .inl fs))]) [1, 2] rfl
  have hDc := hD.sub (ws' := [(tO, .inr (3, [.ref sA, .int tl])), (sA, .inl (cC, 1600, .inl fs))]) [1, 2] (by decide) rfl
  have hFc := va_free (wc := [(tO, .inr (3, [.ref sA, .int tl])), (sA, .inl (cC, 1600, .inl fs))]) hD hS hA [1, 2] rfl
  refine va_calli (va_runV (As := [.int r_1]) (rest := [.ref h0]) ⟨hx, hb, hml, hown, hts⟩ (k_signAt l dC dI cI cZ cC cJ H.size  tO sA tl fs r_1 ) (cwV 1 hts gX2_advance_X3_signAt rfl rfl rfl (by decide +kernel) ⟨Nat.le_of_ble_eq_true rfl, Nat.le_of_ble_eq_true rfl⟩) ⟨sPre_blind, va_recv hK hPc (ci := 3) (q0 := 0) rfl rfl, fun U hU hW => ⟨rfl, sPre_ok hsk hPc hDc hU hW⟩⟩ rfl rfl hl.1 rfl (lv_room (Nat.le_of_ble_eq_true rfl)) dX2_advance_22 ⟨(show 0 + 0 ≤ 0 by omega), (show 0 + 0 ≤ 0 by omega)⟩) hS (fun q _ h => hFc q h) hFc (fun r_2 u t H1 locs ht hvm hw hB hz1 hk1 hS => ?_)
  try dsimp only at hw hB
  obtain ⟨hP1, hD1⟩ := hB
  rw [ht] at hP1
  obtain ⟨hP, hD⟩ := va_join (wr := [(h0, .inr (2, [.ref tO, .int so, .int r_1, .int bh, .int fa_]))]) (w1 := [(tO, .inr (3, [.ref sA, .int tl])), (sA, .inl (cC, 1600, .inl fs))]) hP hD [1, 2] [0] rfl rfl (by decide) (by decide) hk1 hFc hP1 hD1
  generalize H1 = H at hP hS ⊢
  have hP : va_P (dC, dI) vwCl [(h0, .inr (2, [.ref tO, .int so, .int r_1, .int bh, .int fa_])), (tO, .inr (3, [.ref sA, .int tl])), (sA, .inl (cC, 1600, .inl fs))] H := hP
  have hD : va_D A [(h0, .inr (2, [.ref tO, .int so, .int r_1, .int bh, .int fa_])), (tO, .inr (3, [.ref sA, .int tl])), (sA, .inl (cC, 1600, .inl fs))] := hD
  have hw_r_2 := hw
  have hPc := hP.sub (ws' := []) [] rfl
  have hDc := hD.sub (ws' := []) [] (by decide) rfl
  have hFc := va_free (wc := []) hD hS hA [] rfl
  refine va_calli (va_runS (As := [.int r_2]) (rest := [.ref h0]) ⟨hx, hb, hml, hown, hts⟩ (k_sortOf l dC dI cI cZ cC cJ H.size  r_2 ) (va_cwS 1 hts gX2_advance_X2_sortOf rfl rfl rfl (by decide +kernel) ⟨Nat.le_of_ble_eq_true rfl, Nat.le_of_ble_eq_true rfl⟩) ⟨sPre_blind, fun U hU hW => ⟨rfl, sPre_ok hsk hPc hDc hU hW⟩⟩ rfl rfl hl.1 rfl (lv_room (Nat.le_of_ble_eq_true rfl)) dX2_advance_25 ⟨(show 0 + 0 ≤ 0 by omega), (show 0 + 0 ≤ 0 by omega)⟩) hS (fun q _ h => hFc q h) hFc (fun r_3 u t H1 locs ht hvm hw hB hz1 hk1 hS => ?_)
  try dsimp only at hw hB
  have hw_4 := hw
  obtain rfl : r_3 = srt r_2 := hw_4
  obtain ⟨hP1, hD1⟩ := hB
  rw [ht] at hP1
  obtain ⟨hP, hD⟩ := va_join (wr := [(h0, .inr (2, [.ref tO, .int so, .int r_1, .int bh, .int fa_])), (tO, .inr (3, [.ref sA, .int tl])), (sA, .inl (cC, 1600, .inl fs))]) (w1 := []) hP hD [] [0, 1, 2] rfl rfl (by decide) (by decide) hk1 hFc hP1 hD1
  generalize H1 = H at hP hS ⊢
  have hP : va_P (dC, dI) vwCl [(h0, .inr (2, [.ref tO, .int so, .int r_1, .int bh, .int fa_])), (tO, .inr (3, [.ref sA, .int tl])), (sA, .inl (cC, 1600, .inl fs))] H := hP
  have hD : va_D A [(h0, .inr (2, [.ref tO, .int so, .int r_1, .int bh, .int fa_])), (tO, .inr (3, [.ref sA, .int tl])), (sA, .inl (cC, 1600, .inl fs))] := hD
  refine va_put (D := (dC, dI)) (ci := 2) (v := .int (srt r_2)) (ty := tyX2 1) (C := RX2) (T := TX2) (N := 5) hx hb hts i2 tyX2 tyX2_ok nmX2 hown hK hP hD hS 0 rfl rfl 1 (by decide) (hts (.fieldLink RX2 32 "StopSetter$Reader" "sort" "I") (by decide +kernel)) (fun _ h9 => h9) rfl (by decide +kernel) rfl rfl (Nat.le_of_ble_eq_true rfl) dX2_advance_28 (fun H locs hP hD hS => ?_)
  have hP : va_P (dC, dI) vwCl [(h0, .inr (2, [.ref tO, .int (srt r_2), .int r_1, .int bh, .int fa_])), (tO, .inr (3, [.ref sA, .int tl])), (sA, .inl (cC, 1600, .inl fs))] H := hP
  have hD : va_D A [(h0, .inr (2, [.ref tO, .int (srt r_2), .int r_1, .int bh, .int fa_])), (tO, .inr (3, [.ref sA, .int tl])), (sA, .inl (cC, 1600, .inl fs))] := hD
  refine lv_aload_n hx hb dX2_advance_31 rfl (lv_at hl 0 rfl) ?_
  refine va_get (D := (dC, dI)) (ci := 2) (v := .int (srt r_2)) (C := RX2) (T := TX2) (N := 5) hx hb hts i2 hown hK hP 0 rfl rfl 1 (by decide) (hts (.fieldLink RX2 32 "StopSetter$Reader" "sort" "I") (by decide +kernel)) (fun _ h9 => h9) rfl dX2_advance_32 ?_
  refine lv_iconst (v := 2) hx hb dX2_advance_35 (by decide) ?_
  refine lv_icmp_eq (tgt := 47) hx hb dX2_advance_36 (by decide) (fun c_36 => ?_) (fun c_36 => ?_)
  · skip
    refine lv_aload_n hx hb dX2_advance_47 rfl (lv_at hl 0 rfl) ?_
    refine lv_aload_n hx hb dX2_advance_48 rfl (lv_at hl 0 rfl) ?_
    refine lv_aload_n hx hb dX2_advance_49 rfl (lv_at hl 0 rfl) ?_
    refine va_get (D := (dC, dI)) (ci := 2) (v := .int r_1) (C := RX2) (T := TX2) (N := 5) hx hb hts i2 hown hK hP 0 rfl rfl 2 (by decide) (hts (.fieldLink RX2 106 "StopSetter$Reader" "place" "I") (by decide +kernel)) (fun _ h9 => h9) rfl dX2_advance_50 ?_
    refine lv_aload_n hx hb dX2_advance_53 rfl (lv_at hl 0 rfl) ?_
    refine va_get (D := (dC, dI)) (ci := 2) (v := .int (srt r_2)) (C := RX2) (T := TX2) (N := 5) hx hb hts i2 hown hK hP 0 rfl rfl 1 (by decide) (hts (.fieldLink RX2 32 "StopSetter$Reader" "sort" "I") (by decide +kernel)) (fun _ h9 => h9) rfl dX2_advance_54 ?_
    have hPc := hP.sub (ws' := [(h0, .inr (2, [.ref tO, .int (srt r_2), .int r_1, .int bh, .int fa_])), (tO, .inr (3, [.ref sA, .int tl])), (sA, .inl (cC, 1600, .inl fs))]) [0, 1, 2] rfl
    have hDc := hD.sub (ws' := [(h0, .inr (2, [.ref tO, .int (srt r_2), .int r_1, .int bh, .int fa_])), (tO, .inr (3, [.ref sA, .int tl])), (sA, .inl (cC, 1600, .inl fs))]) [0, 1, 2] (by decide) rfl
    have hFc := va_free (wc := [(h0, .inr (2, [.ref tO, .int (srt r_2), .int r_1, .int bh, .int fa_])), (tO, .inr (3, [.ref sA, .int tl])), (sA, .inl (cC, 1600, .inl fs))]) hD hS hA [0, 1, 2] rfl
    refine va_calli (va_runV (As := [.int r_1, .int (srt r_2)]) (rest := [.ref h0]) ⟨hx, hb, hml, hown, hts⟩ (k_runEnd l dC dI cI cZ cC cJ H.size  h0 tO (srt r_2) r_1 bh fa_ sA tl fs r_1 (srt r_2) ) (cwV 2 hts gX2_advance_X2_runEnd rfl rfl rfl (by decide +kernel) ⟨Nat.le_of_ble_eq_true rfl, Nat.le_of_ble_eq_true rfl⟩) ⟨sPre_blind, va_recv hK hPc (ci := 2) (q0 := 0) rfl rfl, fun U hU hW => ⟨rfl, sPre_ok hsk hPc hDc hU hW⟩⟩ rfl rfl hl.1 rfl (lv_room (Nat.le_of_ble_eq_true rfl)) dX2_advance_57 ⟨(show 0 + 0 ≤ 0 by omega), (show 0 + 0 ≤ 0 by omega)⟩) hS (fun q _ h => hFc q h) hFc (fun r_5 u t H1 locs ht hvm hw hB hz1 hk1 hS => ?_)
    try dsimp only at hw hB
    obtain ⟨hP1, hD1⟩ := hB
    rw [ht] at hP1
    obtain ⟨hP, hD⟩ := va_join (wr := []) (w1 := [(h0, .inr (2, [.ref tO, .int (srt r_2), .int r_1, .int bh, .int fa_])), (tO, .inr (3, [.ref sA, .int tl])), (sA, .inl (cC, 1600, .inl fs))]) hP hD [0, 1, 2] [] rfl rfl (by decide) (by decide) hk1 hFc hP1 hD1
    generalize H1 = H at hP hS ⊢
    have hP : va_P (dC, dI) vwCl [(h0, .inr (2, [.ref tO, .int (srt r_2), .int r_1, .int bh, .int fa_])), (tO, .inr (3, [.ref sA, .int tl])), (sA, .inl (cC, 1600, .inl fs))] H := hP
    have hD : va_D A [(h0, .inr (2, [.ref tO, .int (srt r_2), .int r_1, .int bh, .int fa_])), (tO, .inr (3, [.ref sA, .int tl])), (sA, .inl (cC, 1600, .inl fs))] := hD
    have hw_r_5 := hw
    refine va_put (D := (dC, dI)) (ci := 2) (v := .int r_5) (ty := tyX2 3) (C := RX2) (T := TX2) (N := 5) hx hb hts i2 tyX2 tyX2_ok nmX2 hown hK hP hD hS 0 rfl rfl 3 (by decide) (hts (.fieldLink RX2 24 "StopSetter$Reader" "behind" "I") (by decide +kernel)) (fun _ h9 => h9) rfl (by decide +kernel) rfl rfl (Nat.le_of_ble_eq_true rfl) dX2_advance_60 (fun H locs hP hD hS => ?_)
    have hP : va_P (dC, dI) vwCl [(h0, .inr (2, [.ref tO, .int (srt r_2), .int r_1, .int r_5, .int fa_])), (tO, .inr (3, [.ref sA, .int tl])), (sA, .inl (cC, 1600, .inl fs))] H := hP
    have hD : va_D A [(h0, .inr (2, [.ref tO, .int (srt r_2), .int r_1, .int r_5, .int fa_])), (tO, .inr (3, [.ref sA, .int tl])), (sA, .inl (cC, 1600, .inl fs))] := hD
    refine lv_aload_n hx hb dX2_advance_63 rfl (lv_at hl 0 rfl) ?_
    refine va_get (D := (dC, dI)) (ci := 2) (v := .int (srt r_2)) (C := RX2) (T := TX2) (N := 5) hx hb hts i2 hown hK hP 0 rfl rfl 1 (by decide) (hts (.fieldLink RX2 32 "StopSetter$Reader" "sort" "I") (by decide +kernel)) (fun _ h9 => h9) rfl dX2_advance_64 ?_
    refine lv_iconst (v := 2) hx hb dX2_advance_67 (by decide) ?_
    refine lv_icmp_ne (tgt := 76) hx hb dX2_advance_68 (by decide) (fun c_68 => ?_) (fun c_68 => ?_)
    · skip
      refine lv_iconst (v := 4) hx hb dX2_advance_76 (by decide) ?_
      refine lv_istore_n (lv' := [(1, .int 4), (0, .ref h0)]) hx hb dX2_advance_77 rfl hl (by decide) rfl (fun ls hl => ?_)
      refine lv_aload_n hx hb dX2_advance_78 rfl (lv_at hl 1 rfl) ?_
      refine va_get (D := (dC, dI)) (ci := 2) (v := .int r_5) (C := RX2) (T := TX2) (N := 5) hx hb hts i2 hown hK hP 0 rfl rfl 3 (by decide) (hts (.fieldLink RX2 24 "StopSetter$Reader" "behind" "I") (by decide +kernel)) (fun _ h9 => h9) rfl dX2_advance_79 ?_
      refine lv_aload_n hx hb dX2_advance_82 rfl (lv_at hl 1 rfl) ?_
      refine va_get (D := (dC, dI)) (ci := 2) (v := .int r_1) (C := RX2) (T := TX2) (N := 5) hx hb hts i2 hown hK hP 0 rfl rfl 2 (by decide) (hts (.fieldLink RX2 106 "StopSetter$Reader" "place" "I") (by decide +kernel)) (fun _ h9 => h9) rfl dX2_advance_83 ?_
      refine lv_isub hx hb dX2_advance_86 ?_
      refine lv_topi (fun v_6 ev_6 => ?_)
      refine lv_iload_n hx hb dX2_advance_87 rfl (lv_at hl 0 rfl) ?_
      refine lv_icmp_le (tgt := 96) hx hb dX2_advance_88 (by decide) (fun c_88 => ?_) (fun c_88 => ?_)
      · skip
        refine lv_goto (tgt := 123) hx hb dX2_advance_96 (by decide) ?_
        have hP9 := hP.sub (ws' := [(h0, .inr (2, [.ref tO, .int (srt r_2), .int r_1, .int r_5, .int fa_])), (tO, .inr (3, [.ref sA, .int tl])), (sA, .inl (cC, 1600, .inl fs))]) [0, 1, 2] rfl
        have hD9 := hD.sub (ws' := [(h0, .inr (2, [.ref tO, .int (srt r_2), .int r_1, .int r_5, .int fa_])), (tO, .inr (3, [.ref sA, .int tl])), (sA, .inl (cC, 1600, .inl fs))]) [0, 1, 2] (by decide) rfl
        exact W.vret hx hb hr (fun t ht hW => ⟨⟨(srt r_2, r_1, r_5), rfl, trivial, by rw [ht]; exact hP9, hD9⟩, hS.F ht⟩) hS.2.2 dX2_advance_123
      · skip
        refine lv_aload_n hx hb dX2_advance_91 rfl (lv_at hl 1 rfl) ?_
        refine lv_iconst (v := 5) hx hb dX2_advance_92 (by decide) ?_
        refine va_put (D := (dC, dI)) (ci := 2) (v := .int 5) (ty := tyX2 1) (C := RX2) (T := TX2) (N := 5) hx hb hts i2 tyX2 tyX2_ok nmX2 hown hK hP hD hS 0 rfl rfl 1 (by decide) (hts (.fieldLink RX2 32 "StopSetter$Reader" "sort" "I") (by decide +kernel)) (fun _ h9 => h9) rfl (by decide +kernel) rfl rfl (Nat.le_of_ble_eq_true rfl) dX2_advance_93 (fun H locs hP hD hS => ?_)
        have hP : va_P (dC, dI) vwCl [(h0, .inr (2, [.ref tO, .int 5, .int r_1, .int r_5, .int fa_])), (tO, .inr (3, [.ref sA, .int tl])), (sA, .inl (cC, 1600, .inl fs))] H := hP
        have hD : va_D A [(h0, .inr (2, [.ref tO, .int 5, .int r_1, .int r_5, .int fa_])), (tO, .inr (3, [.ref sA, .int tl])), (sA, .inl (cC, 1600, .inl fs))] := hD
        refine lv_goto (tgt := 123) hx hb dX2_advance_96 (by decide) ?_
        have hP9 := hP.sub (ws' := [(h0, .inr (2, [.ref tO, .int 5, .int r_1, .int r_5, .int fa_])), (tO, .inr (3, [.ref sA, .int tl])), (sA, .inl (cC, 1600, .inl fs))]) [0, 1, 2] rfl
        have hD9 := hD.sub (ws' := [(h0, .inr (2, [.ref tO, .int 5, .int r_1, .int r_5, .int fa_])), (tO, .inr (3, [.ref sA, .int tl])), (sA, .inl (cC, 1600, .inl fs))]) [0, 1, 2] (by decide) rfl
        exact W.vret hx hb hr (fun t ht hW => ⟨⟨(5, r_1, r_5), rfl, trivial, by rw [ht]; exact hP9, hD9⟩, hS.F ht⟩) hS.2.2 dX2_advance_123
    · skip
      refine lv_bipush (v := 8) hx hb dX2_advance_71 (by decide) ?_
      refine lv_goto (tgt := 77) hx hb dX2_advance_73 (by decide) ?_
      refine lv_istore_n (lv' := [(1, .int 8), (0, .ref h0)]) hx hb dX2_advance_77 rfl hl (by decide) rfl (fun ls hl => ?_)
      refine lv_aload_n hx hb dX2_advance_78 rfl (lv_at hl 1 rfl) ?_
      refine va_get (D := (dC, dI)) (ci := 2) (v := .int r_5) (C := RX2) (T := TX2) (N := 5) hx hb hts i2 hown hK hP 0 rfl rfl 3 (by decide) (hts (.fieldLink RX2 24 "StopSetter$Reader" "behind" "I") (by decide +kernel)) (fun _ h9 => h9) rfl dX2_advance_79 ?_
      refine lv_aload_n hx hb dX2_advance_82 rfl (lv_at hl 1 rfl) ?_
      refine va_get (D := (dC, dI)) (ci := 2) (v := .int r_1) (C := RX2) (T := TX2) (N := 5) hx hb hts i2 hown hK hP 0 rfl rfl 2 (by decide) (hts (.fieldLink RX2 106 "StopSetter$Reader" "place" "I") (by decide +kernel)) (fun _ h9 => h9) rfl dX2_advance_83 ?_
      refine lv_isub hx hb dX2_advance_86 ?_
      refine lv_topi (fun v_7 ev_7 => ?_)
      refine lv_iload_n hx hb dX2_advance_87 rfl (lv_at hl 0 rfl) ?_
      refine lv_icmp_le (tgt := 96) hx hb dX2_advance_88 (by decide) (fun c_88 => ?_) (fun c_88 => ?_)
      · skip
        refine lv_goto (tgt := 123) hx hb dX2_advance_96 (by decide) ?_
        have hP9 := hP.sub (ws' := [(h0, .inr (2, [.ref tO, .int (srt r_2), .int r_1, .int r_5, .int fa_])), (tO, .inr (3, [.ref sA, .int tl])), (sA, .inl (cC, 1600, .inl fs))]) [0, 1, 2] rfl
        have hD9 := hD.sub (ws' := [(h0, .inr (2, [.ref tO, .int (srt r_2), .int r_1, .int r_5, .int fa_])), (tO, .inr (3, [.ref sA, .int tl])), (sA, .inl (cC, 1600, .inl fs))]) [0, 1, 2] (by decide) rfl
        exact W.vret hx hb hr (fun t ht hW => ⟨⟨(srt r_2, r_1, r_5), rfl, trivial, by rw [ht]; exact hP9, hD9⟩, hS.F ht⟩) hS.2.2 dX2_advance_123
      · skip
        refine lv_aload_n hx hb dX2_advance_91 rfl (lv_at hl 1 rfl) ?_
        refine lv_iconst (v := 5) hx hb dX2_advance_92 (by decide) ?_
        refine va_put (D := (dC, dI)) (ci := 2) (v := .int 5) (ty := tyX2 1) (C := RX2) (T := TX2) (N := 5) hx hb hts i2 tyX2 tyX2_ok nmX2 hown hK hP hD hS 0 rfl rfl 1 (by decide) (hts (.fieldLink RX2 32 "StopSetter$Reader" "sort" "I") (by decide +kernel)) (fun _ h9 => h9) rfl (by decide +kernel) rfl rfl (Nat.le_of_ble_eq_true rfl) dX2_advance_93 (fun H locs hP hD hS => ?_)
        have hP : va_P (dC, dI) vwCl [(h0, .inr (2, [.ref tO, .int 5, .int r_1, .int r_5, .int fa_])), (tO, .inr (3, [.ref sA, .int tl])), (sA, .inl (cC, 1600, .inl fs))] H := hP
        have hD : va_D A [(h0, .inr (2, [.ref tO, .int 5, .int r_1, .int r_5, .int fa_])), (tO, .inr (3, [.ref sA, .int tl])), (sA, .inl (cC, 1600, .inl fs))] := hD
        refine lv_goto (tgt := 123) hx hb dX2_advance_96 (by decide) ?_
        have hP9 := hP.sub (ws' := [(h0, .inr (2, [.ref tO, .int 5, .int r_1, .int r_5, .int fa_])), (tO, .inr (3, [.ref sA, .int tl])), (sA, .inl (cC, 1600, .inl fs))]) [0, 1, 2] rfl
        have hD9 := hD.sub (ws' := [(h0, .inr (2, [.ref tO, .int 5, .int r_1, .int r_5, .int fa_])), (tO, .inr (3, [.ref sA, .int tl])), (sA, .inl (cC, 1600, .inl fs))]) [0, 1, 2] (by decide) rfl
        exact W.vret hx hb hr (fun t ht hW => ⟨⟨(5, r_1, r_5), rfl, trivial, by rw [ht]; exact hP9, hD9⟩, hS.F ht⟩) hS.2.2 dX2_advance_123
  · skip
    refine lv_aload_n hx hb dX2_advance_39 rfl (lv_at hl 0 rfl) ?_
    refine va_get (D := (dC, dI)) (ci := 2) (v := .int (srt r_2)) (C := RX2) (T := TX2) (N := 5) hx hb hts i2 hown hK hP 0 rfl rfl 1 (by decide) (hts (.fieldLink RX2 32 "StopSetter$Reader" "sort" "I") (by decide +kernel)) (fun _ h9 => h9) rfl dX2_advance_40 ?_
    refine lv_iconst (v := 3) hx hb dX2_advance_43 (by decide) ?_
    refine lv_icmp_ne (tgt := 99) hx hb dX2_advance_44 (by decide) (fun c_44 => ?_) (fun c_44 => ?_)
    · skip
      refine lv_aload_n hx hb dX2_advance_99 rfl (lv_at hl 0 rfl) ?_
      refine lv_aload_n hx hb dX2_advance_100 rfl (lv_at hl 0 rfl) ?_
      refine va_get (D := (dC, dI)) (ci := 2) (v := .int (srt r_2)) (C := RX2) (T := TX2) (N := 5) hx hb hts i2 hown hK hP 0 rfl rfl 1 (by decide) (hts (.fieldLink RX2 32 "StopSetter$Reader" "sort" "I") (by decide +kernel)) (fun _ h9 => h9) rfl dX2_advance_101 ?_
      refine lv_if_ne (tgt := 114) hx hb dX2_advance_104 (by decide) (fun c_104 => ?_) (fun c_104 => ?_)
      · skip
        refine lv_aload_n hx hb dX2_advance_114 rfl (lv_at hl 0 rfl) ?_
        refine va_get (D := (dC, dI)) (ci := 2) (v := .int r_1) (C := RX2) (T := TX2) (N := 5) hx hb hts i2 hown hK hP 0 rfl rfl 2 (by decide) (hts (.fieldLink RX2 106 "StopSetter$Reader" "place" "I") (by decide +kernel)) (fun _ h9 => h9) rfl dX2_advance_115 ?_
        refine lv_iconst (v := 1) hx hb dX2_advance_118 (by decide) ?_
        refine lv_iadd hx hb dX2_advance_119 ?_
        refine lv_topi (fun v_8 ev_8 => ?_)
        refine va_put (D := (dC, dI)) (ci := 2) (v := .int v_8) (ty := tyX2 3) (C := RX2) (T := TX2) (N := 5) hx hb hts i2 tyX2 tyX2_ok nmX2 hown hK hP hD hS 0 rfl rfl 3 (by decide) (hts (.fieldLink RX2 24 "StopSetter$Reader" "behind" "I") (by decide +kernel)) (fun _ h9 => h9) rfl (by decide +kernel) rfl rfl (Nat.le_of_ble_eq_true rfl) dX2_advance_120 (fun H locs hP hD hS => ?_)
        have hP : va_P (dC, dI) vwCl [(h0, .inr (2, [.ref tO, .int (srt r_2), .int r_1, .int v_8, .int fa_])), (tO, .inr (3, [.ref sA, .int tl])), (sA, .inl (cC, 1600, .inl fs))] H := hP
        have hD : va_D A [(h0, .inr (2, [.ref tO, .int (srt r_2), .int r_1, .int v_8, .int fa_])), (tO, .inr (3, [.ref sA, .int tl])), (sA, .inl (cC, 1600, .inl fs))] := hD
        have hP9 := hP.sub (ws' := [(h0, .inr (2, [.ref tO, .int (srt r_2), .int r_1, .int v_8, .int fa_])), (tO, .inr (3, [.ref sA, .int tl])), (sA, .inl (cC, 1600, .inl fs))]) [0, 1, 2] rfl
        have hD9 := hD.sub (ws' := [(h0, .inr (2, [.ref tO, .int (srt r_2), .int r_1, .int v_8, .int fa_])), (tO, .inr (3, [.ref sA, .int tl])), (sA, .inl (cC, 1600, .inl fs))]) [0, 1, 2] (by decide) rfl
        exact W.vret hx hb hr (fun t ht hW => ⟨⟨(srt r_2, r_1, v_8), rfl, trivial, by rw [ht]; exact hP9, hD9⟩, hS.F ht⟩) hS.2.2 dX2_advance_123
      · skip
        refine lv_aload_n hx hb dX2_advance_107 rfl (lv_at hl 0 rfl) ?_
        refine va_get (D := (dC, dI)) (ci := 2) (v := .int r_1) (C := RX2) (T := TX2) (N := 5) hx hb hts i2 hown hK hP 0 rfl rfl 2 (by decide) (hts (.fieldLink RX2 106 "StopSetter$Reader" "place" "I") (by decide +kernel)) (fun _ h9 => h9) rfl dX2_advance_108 ?_
        refine lv_goto (tgt := 120) hx hb dX2_advance_111 (by decide) ?_
        refine va_put (D := (dC, dI)) (ci := 2) (v := .int r_1) (ty := tyX2 3) (C := RX2) (T := TX2) (N := 5) hx hb hts i2 tyX2 tyX2_ok nmX2 hown hK hP hD hS 0 rfl rfl 3 (by decide) (hts (.fieldLink RX2 24 "StopSetter$Reader" "behind" "I") (by decide +kernel)) (fun _ h9 => h9) rfl (by decide +kernel) rfl rfl (Nat.le_of_ble_eq_true rfl) dX2_advance_120 (fun H locs hP hD hS => ?_)
        have hP : va_P (dC, dI) vwCl [(h0, .inr (2, [.ref tO, .int (srt r_2), .int r_1, .int r_1, .int fa_])), (tO, .inr (3, [.ref sA, .int tl])), (sA, .inl (cC, 1600, .inl fs))] H := hP
        have hD : va_D A [(h0, .inr (2, [.ref tO, .int (srt r_2), .int r_1, .int r_1, .int fa_])), (tO, .inr (3, [.ref sA, .int tl])), (sA, .inl (cC, 1600, .inl fs))] := hD
        have hP9 := hP.sub (ws' := [(h0, .inr (2, [.ref tO, .int (srt r_2), .int r_1, .int r_1, .int fa_])), (tO, .inr (3, [.ref sA, .int tl])), (sA, .inl (cC, 1600, .inl fs))]) [0, 1, 2] rfl
        have hD9 := hD.sub (ws' := [(h0, .inr (2, [.ref tO, .int (srt r_2), .int r_1, .int r_1, .int fa_])), (tO, .inr (3, [.ref sA, .int tl])), (sA, .inl (cC, 1600, .inl fs))]) [0, 1, 2] (by decide) rfl
        exact W.vret hx hb hr (fun t ht hW => ⟨⟨(srt r_2, r_1, r_1), rfl, trivial, by rw [ht]; exact hP9, hD9⟩, hS.F ht⟩) hS.2.2 dX2_advance_123
    · skip
      refine lv_aload_n hx hb dX2_advance_47 rfl (lv_at hl 0 rfl) ?_
      refine lv_aload_n hx hb dX2_advance_48 rfl (lv_at hl 0 rfl) ?_
      refine lv_aload_n hx hb dX2_advance_49 rfl (lv_at hl 0 rfl) ?_
      refine va_get (D := (dC, dI)) (ci := 2) (v := .int r_1) (C := RX2) (T := TX2) (N := 5) hx hb hts i2 hown hK hP 0 rfl rfl 2 (by decide) (hts (.fieldLink RX2 106 "StopSetter$Reader" "place" "I") (by decide +kernel)) (fun _ h9 => h9) rfl dX2_advance_50 ?_
      refine lv_aload_n hx hb dX2_advance_53 rfl (lv_at hl 0 rfl) ?_
      refine va_get (D := (dC, dI)) (ci := 2) (v := .int (srt r_2)) (C := RX2) (T := TX2) (N := 5) hx hb hts i2 hown hK hP 0 rfl rfl 1 (by decide) (hts (.fieldLink RX2 32 "StopSetter$Reader" "sort" "I") (by decide +kernel)) (fun _ h9 => h9) rfl dX2_advance_54 ?_
      have hPc := hP.sub (ws' := [(h0, .inr (2, [.ref tO, .int (srt r_2), .int r_1, .int bh, .int fa_])), (tO, .inr (3, [.ref sA, .int tl])), (sA, .inl (cC, 1600, .inl fs))]) [0, 1, 2] rfl
      have hDc := hD.sub (ws' := [(h0, .inr (2, [.ref tO, .int (srt r_2), .int r_1, .int bh, .int fa_])), (tO, .inr (3, [.ref sA, .int tl])), (sA, .inl (cC, 1600, .inl fs))]) [0, 1, 2] (by decide) rfl
      have hFc := va_free (wc := [(h0, .inr (2, [.ref tO, .int (srt r_2), .int r_1, .int bh, .int fa_])), (tO, .inr (3, [.ref sA, .int tl])), (sA, .inl (cC, 1600, .inl fs))]) hD hS hA [0, 1, 2] rfl
      refine va_calli (va_runV (As := [.int r_1, .int (srt r_2)]) (rest := [.ref h0]) ⟨hx, hb, hml, hown, hts⟩ (k_runEnd l dC dI cI cZ cC cJ H.size  h0 tO (srt r_2) r_1 bh fa_ sA tl fs r_1 (srt r_2) ) (cwV 2 hts gX2_advance_X2_runEnd rfl rfl rfl (by decide +kernel) ⟨Nat.le_of_ble_eq_true rfl, Nat.le_of_ble_eq_true rfl⟩) ⟨sPre_blind, va_recv hK hPc (ci := 2) (q0 := 0) rfl rfl, fun U hU hW => ⟨rfl, sPre_ok hsk hPc hDc hU hW⟩⟩ rfl rfl hl.1 rfl (lv_room (Nat.le_of_ble_eq_true rfl)) dX2_advance_57 ⟨(show 0 + 0 ≤ 0 by omega), (show 0 + 0 ≤ 0 by omega)⟩) hS (fun q _ h => hFc q h) hFc (fun r_9 u t H1 locs ht hvm hw hB hz1 hk1 hS => ?_)
      try dsimp only at hw hB
      obtain ⟨hP1, hD1⟩ := hB
      rw [ht] at hP1
      obtain ⟨hP, hD⟩ := va_join (wr := []) (w1 := [(h0, .inr (2, [.ref tO, .int (srt r_2), .int r_1, .int bh, .int fa_])), (tO, .inr (3, [.ref sA, .int tl])), (sA, .inl (cC, 1600, .inl fs))]) hP hD [0, 1, 2] [] rfl rfl (by decide) (by decide) hk1 hFc hP1 hD1
      generalize H1 = H at hP hS ⊢
      have hP : va_P (dC, dI) vwCl [(h0, .inr (2, [.ref tO, .int (srt r_2), .int r_1, .int bh, .int fa_])), (tO, .inr (3, [.ref sA, .int tl])), (sA, .inl (cC, 1600, .inl fs))] H := hP
      have hD : va_D A [(h0, .inr (2, [.ref tO, .int (srt r_2), .int r_1, .int bh, .int fa_])), (tO, .inr (3, [.ref sA, .int tl])), (sA, .inl (cC, 1600, .inl fs))] := hD
      have hw_r_9 := hw
      refine va_put (D := (dC, dI)) (ci := 2) (v := .int r_9) (ty := tyX2 3) (C := RX2) (T := TX2) (N := 5) hx hb hts i2 tyX2 tyX2_ok nmX2 hown hK hP hD hS 0 rfl rfl 3 (by decide) (hts (.fieldLink RX2 24 "StopSetter$Reader" "behind" "I") (by decide +kernel)) (fun _ h9 => h9) rfl (by decide +kernel) rfl rfl (Nat.le_of_ble_eq_true rfl) dX2_advance_60 (fun H locs hP hD hS => ?_)
      have hP : va_P (dC, dI) vwCl [(h0, .inr (2, [.ref tO, .int (srt r_2), .int r_1, .int r_9, .int fa_])), (tO, .inr (3, [.ref sA, .int tl])), (sA, .inl (cC, 1600, .inl fs))] H := hP
      have hD : va_D A [(h0, .inr (2, [.ref tO, .int (srt r_2), .int r_1, .int r_9, .int fa_])), (tO, .inr (3, [.ref sA, .int tl])), (sA, .inl (cC, 1600, .inl fs))] := hD
      refine lv_aload_n hx hb dX2_advance_63 rfl (lv_at hl 0 rfl) ?_
      refine va_get (D := (dC, dI)) (ci := 2) (v := .int (srt r_2)) (C := RX2) (T := TX2) (N := 5) hx hb hts i2 hown hK hP 0 rfl rfl 1 (by decide) (hts (.fieldLink RX2 32 "StopSetter$Reader" "sort" "I") (by decide +kernel)) (fun _ h9 => h9) rfl dX2_advance_64 ?_
      refine lv_iconst (v := 2) hx hb dX2_advance_67 (by decide) ?_
      refine lv_icmp_ne (tgt := 76) hx hb dX2_advance_68 (by decide) (fun c_68 => ?_) (fun c_68 => ?_)
      · skip
        refine lv_iconst (v := 4) hx hb dX2_advance_76 (by decide) ?_
        refine lv_istore_n (lv' := [(1, .int 4), (0, .ref h0)]) hx hb dX2_advance_77 rfl hl (by decide) rfl (fun ls hl => ?_)
        refine lv_aload_n hx hb dX2_advance_78 rfl (lv_at hl 1 rfl) ?_
        refine va_get (D := (dC, dI)) (ci := 2) (v := .int r_9) (C := RX2) (T := TX2) (N := 5) hx hb hts i2 hown hK hP 0 rfl rfl 3 (by decide) (hts (.fieldLink RX2 24 "StopSetter$Reader" "behind" "I") (by decide +kernel)) (fun _ h9 => h9) rfl dX2_advance_79 ?_
        refine lv_aload_n hx hb dX2_advance_82 rfl (lv_at hl 1 rfl) ?_
        refine va_get (D := (dC, dI)) (ci := 2) (v := .int r_1) (C := RX2) (T := TX2) (N := 5) hx hb hts i2 hown hK hP 0 rfl rfl 2 (by decide) (hts (.fieldLink RX2 106 "StopSetter$Reader" "place" "I") (by decide +kernel)) (fun _ h9 => h9) rfl dX2_advance_83 ?_
        refine lv_isub hx hb dX2_advance_86 ?_
        refine lv_topi (fun v_10 ev_10 => ?_)
        refine lv_iload_n hx hb dX2_advance_87 rfl (lv_at hl 0 rfl) ?_
        refine lv_icmp_le (tgt := 96) hx hb dX2_advance_88 (by decide) (fun c_88 => ?_) (fun c_88 => ?_)
        · skip
          refine lv_goto (tgt := 123) hx hb dX2_advance_96 (by decide) ?_
          have hP9 := hP.sub (ws' := [(h0, .inr (2, [.ref tO, .int (srt r_2), .int r_1, .int r_9, .int fa_])), (tO, .inr (3, [.ref sA, .int tl])), (sA, .inl (cC, 1600, .inl fs))]) [0, 1, 2] rfl
          have hD9 := hD.sub (ws' := [(h0, .inr (2, [.ref tO, .int (srt r_2), .int r_1, .int r_9, .int fa_])), (tO, .inr (3, [.ref sA, .int tl])), (sA, .inl (cC, 1600, .inl fs))]) [0, 1, 2] (by decide) rfl
          exact W.vret hx hb hr (fun t ht hW => ⟨⟨(srt r_2, r_1, r_9), rfl, trivial, by rw [ht]; exact hP9, hD9⟩, hS.F ht⟩) hS.2.2 dX2_advance_123
        · skip
          refine lv_aload_n hx hb dX2_advance_91 rfl (lv_at hl 1 rfl) ?_
          refine lv_iconst (v := 5) hx hb dX2_advance_92 (by decide) ?_
          refine va_put (D := (dC, dI)) (ci := 2) (v := .int 5) (ty := tyX2 1) (C := RX2) (T := TX2) (N := 5) hx hb hts i2 tyX2 tyX2_ok nmX2 hown hK hP hD hS 0 rfl rfl 1 (by decide) (hts (.fieldLink RX2 32 "StopSetter$Reader" "sort" "I") (by decide +kernel)) (fun _ h9 => h9) rfl (by decide +kernel) rfl rfl (Nat.le_of_ble_eq_true rfl) dX2_advance_93 (fun H locs hP hD hS => ?_)
          have hP : va_P (dC, dI) vwCl [(h0, .inr (2, [.ref tO, .int 5, .int r_1, .int r_9, .int fa_])), (tO, .inr (3, [.ref sA, .int tl])), (sA, .inl (cC, 1600, .inl fs))] H := hP
          have hD : va_D A [(h0, .inr (2, [.ref tO, .int 5, .int r_1, .int r_9, .int fa_])), (tO, .inr (3, [.ref sA, .int tl])), (sA, .inl (cC, 1600, .inl fs))] := hD
          refine lv_goto (tgt := 123) hx hb dX2_advance_96 (by decide) ?_
          have hP9 := hP.sub (ws' := [(h0, .inr (2, [.ref tO, .int 5, .int r_1, .int r_9, .int fa_])), (tO, .inr (3, [.ref sA, .int tl])), (sA, .inl (cC, 1600, .inl fs))]) [0, 1, 2] rfl
          have hD9 := hD.sub (ws' := [(h0, .inr (2, [.ref tO, .int 5, .int r_1, .int r_9, .int fa_])), (tO, .inr (3, [.ref sA, .int tl])), (sA, .inl (cC, 1600, .inl fs))]) [0, 1, 2] (by decide) rfl
          exact W.vret hx hb hr (fun t ht hW => ⟨⟨(5, r_1, r_9), rfl, trivial, by rw [ht]; exact hP9, hD9⟩, hS.F ht⟩) hS.2.2 dX2_advance_123
      · skip
        refine lv_bipush (v := 8) hx hb dX2_advance_71 (by decide) ?_
        refine lv_goto (tgt := 77) hx hb dX2_advance_73 (by decide) ?_
        refine lv_istore_n (lv' := [(1, .int 8), (0, .ref h0)]) hx hb dX2_advance_77 rfl hl (by decide) rfl (fun ls hl => ?_)
        refine lv_aload_n hx hb dX2_advance_78 rfl (lv_at hl 1 rfl) ?_
        refine va_get (D := (dC, dI)) (ci := 2) (v := .int r_9) (C := RX2) (T := TX2) (N := 5) hx hb hts i2 hown hK hP 0 rfl rfl 3 (by decide) (hts (.fieldLink RX2 24 "StopSetter$Reader" "behind" "I") (by decide +kernel)) (fun _ h9 => h9) rfl dX2_advance_79 ?_
        refine lv_aload_n hx hb dX2_advance_82 rfl (lv_at hl 1 rfl) ?_
        refine va_get (D := (dC, dI)) (ci := 2) (v := .int r_1) (C := RX2) (T := TX2) (N := 5) hx hb hts i2 hown hK hP 0 rfl rfl 2 (by decide) (hts (.fieldLink RX2 106 "StopSetter$Reader" "place" "I") (by decide +kernel)) (fun _ h9 => h9) rfl dX2_advance_83 ?_
        refine lv_isub hx hb dX2_advance_86 ?_
        refine lv_topi (fun v_11 ev_11 => ?_)
        refine lv_iload_n hx hb dX2_advance_87 rfl (lv_at hl 0 rfl) ?_
        refine lv_icmp_le (tgt := 96) hx hb dX2_advance_88 (by decide) (fun c_88 => ?_) (fun c_88 => ?_)
        · skip
          refine lv_goto (tgt := 123) hx hb dX2_advance_96 (by decide) ?_
          have hP9 := hP.sub (ws' := [(h0, .inr (2, [.ref tO, .int (srt r_2), .int r_1, .int r_9, .int fa_])), (tO, .inr (3, [.ref sA, .int tl])), (sA, .inl (cC, 1600, .inl fs))]) [0, 1, 2] rfl
          have hD9 := hD.sub (ws' := [(h0, .inr (2, [.ref tO, .int (srt r_2), .int r_1, .int r_9, .int fa_])), (tO, .inr (3, [.ref sA, .int tl])), (sA, .inl (cC, 1600, .inl fs))]) [0, 1, 2] (by decide) rfl
          exact W.vret hx hb hr (fun t ht hW => ⟨⟨(srt r_2, r_1, r_9), rfl, trivial, by rw [ht]; exact hP9, hD9⟩, hS.F ht⟩) hS.2.2 dX2_advance_123
        · skip
          refine lv_aload_n hx hb dX2_advance_91 rfl (lv_at hl 1 rfl) ?_
          refine lv_iconst (v := 5) hx hb dX2_advance_92 (by decide) ?_
          refine va_put (D := (dC, dI)) (ci := 2) (v := .int 5) (ty := tyX2 1) (C := RX2) (T := TX2) (N := 5) hx hb hts i2 tyX2 tyX2_ok nmX2 hown hK hP hD hS 0 rfl rfl 1 (by decide) (hts (.fieldLink RX2 32 "StopSetter$Reader" "sort" "I") (by decide +kernel)) (fun _ h9 => h9) rfl (by decide +kernel) rfl rfl (Nat.le_of_ble_eq_true rfl) dX2_advance_93 (fun H locs hP hD hS => ?_)
          have hP : va_P (dC, dI) vwCl [(h0, .inr (2, [.ref tO, .int 5, .int r_1, .int r_9, .int fa_])), (tO, .inr (3, [.ref sA, .int tl])), (sA, .inl (cC, 1600, .inl fs))] H := hP
          have hD : va_D A [(h0, .inr (2, [.ref tO, .int 5, .int r_1, .int r_9, .int fa_])), (tO, .inr (3, [.ref sA, .int tl])), (sA, .inl (cC, 1600, .inl fs))] := hD
          refine lv_goto (tgt := 123) hx hb dX2_advance_96 (by decide) ?_
          have hP9 := hP.sub (ws' := [(h0, .inr (2, [.ref tO, .int 5, .int r_1, .int r_9, .int fa_])), (tO, .inr (3, [.ref sA, .int tl])), (sA, .inl (cC, 1600, .inl fs))]) [0, 1, 2] rfl
          have hD9 := hD.sub (ws' := [(h0, .inr (2, [.ref tO, .int 5, .int r_1, .int r_9, .int fa_])), (tO, .inr (3, [.ref sA, .int tl])), (sA, .inl (cC, 1600, .inl fs))]) [0, 1, 2] (by decide) rfl
          exact W.vret hx hb hr (fun t ht hW => ⟨⟨(5, r_1, r_9), rfl, trivial, by rw [ht]; exact hP9, hD9⟩, hS.F ht⟩) hS.2.2 dX2_advance_123
set_option maxHeartbeats 4000000 in
set_option maxRecDepth 100000 in
theorem k_numberHere (l : Launch) (dC : Nat → ClassId) (dI : Nat → Nat → Nat) (cI cZ cC cJ : ClassId) (sz : Nat) (h0 : Nat) (tO : Nat) (so : Int32) (pl : Int32) (bh : Int32) (fa_ : Int32) (sA : Nat) (tl : Int32) (fs : Nat → Int32)  : Met l yX2_numberHere wsX2_numberHere ({ frames := 1, cells := 0, slots := 0, locals := 21 }) (va_Pc [.ref h0] (sPre dC dI cI cZ cC cJ [(h0, .inr (2, [.ref tO, .int so, .int pl, .int bh, .int fa_])), (tO, .inr (3, [.ref sA, .int tl])), (sA, .inl (cC, 1600, .inl fs))] sz)) (va_Qi (fun (r : Int32) (u : Unit) => True) (fun _ => sB dC dI (va_A [(h0, .inr (2, [.ref tO, .int so, .int pl, .int bh, .int fa_])), (tO, .inr (3, [.ref sA, .int tl])), (sA, .inl (cC, 1600, .inl fs))] sz) [(h0, .inr (2, [.ref tO, .int so, .int pl, .int bh, .int fa_])), (tO, .inr (3, [.ref sA, .int tl])), (sA, .inl (cC, 1600, .inl fs))]) (va_A [(h0, .inr (2, [.ref tO, .int so, .int pl, .int bh, .int fa_])), (tO, .inr (3, [.ref sA, .int tl])), (sA, .inl (cC, 1600, .inl fs))] sz)) 0 0 (va_A [(h0, .inr (2, [.ref tO, .int so, .int pl, .int bh, .int fa_])), (tO, .inr (3, [.ref sA, .int tl])), (sA, .inl (cC, 1600, .inl fs))] sz) := by
  refine Met.ofW (cc := cX2_numberHere) (maxL := 3) (ret := (some .int)) (by decide) rfl ?_
  intro p e s m args below meth c s₁ B hml hv
  obtain ⟨rfl, hsz, hP, hsk, hD0⟩ := hv
  have hx := B.exec
  have hb := B.bytes
  have hr := B.returns
  have hts := atoms_spec (ws := wsX2_numberHere) B.pre
  have hown : s.vm.findClass RX2 = some m.cls := findClass_of_methodNamed B.named
  have hlocks := B.notSynchronized
  have hK := hsk.1
  have i2 : ∀ w ∈ wsX20, w ∈ wsX2_numberHere := by decide +kernel
  subst hsz
  have hD := hD0.self (sz := s.heap.size)
  generalize hAe : va_A [(h0, .inr (2, [.ref tO, .int so, .int pl, .int bh, .int fa_])), (tO, .inr (3, [.ref sA, .int tl])), (sA, .inl (cC, 1600, .inl fs))] s.heap.size = A at hD ⊢
  have hA : ∀ q : Nat, s.heap.size ≤ q → A q := fun q h => by rw [← hAe]; exact Or.inr h
  have hS : va_S A s.heap s.heap [] := va_S.rf
  have hl := lv_entry ([.ref h0]) (n := 3) (Nat.le_of_ble_eq_true rfl)
  rw [lg_entry_eq]
  generalize (lg_sl ([.ref h0]) ++ List.replicate (3 - (lg_sl ([.ref h0])).length) Slot.unset).toArray = ls at hl ⊢
  have hl : lv_has ls 3 [(0, .ref h0)] := hl
  refine lv_iconst (v := 0) hx hb dX2_numberHere_0 (by decide) ?_
  refine lv_istore_n (lv' := [(1, .int 0), (0, .ref h0)]) hx hb dX2_numberHere_1 rfl hl (by decide) rfl (fun ls hl => ?_)
  refine lv_aload_n hx hb dX2_numberHere_2 rfl (lv_at hl 1 rfl) ?_
  refine va_get (D := (dC, dI)) (ci := 2) (v := .int pl) (C := RX2) (T := TX2) (N := 5) hx hb hts i2 hown hK hP 0 rfl rfl 2 (by decide) (hts (.fieldLink RX2 106 "StopSetter$Reader" "place" "I") (by decide +kernel)) (fun _ h9 => h9) rfl dX2_numberHere_3 ?_
  refine lv_istore_n (lv' := [(2, .int pl), (1, .int 0), (0, .ref h0)]) hx hb dX2_numberHere_6 rfl hl (by decide) rfl (fun ls hl => ?_)
  have lp_7 : ∀ (n_7 : Nat) (iv : Int32) (va : Int32), ((bh : Int32).toInt - (iv : Int32).toInt < n_7 ∧ 0 < n_7) → ∀ (H : Heap) (locs : List Loc) (ls : Array Slot), va_P (dC, dI) vwCl [(h0, .inr (2, [.ref tO, .int so, .int pl, .int bh, .int fa_])), (tO, .inr (3, [.ref sA, .int tl])), (sA, .inl (cC, 1600, .inl fs))] H → va_D A [(h0, .inr (2, [.ref tO, .int so, .int pl, .int bh, .int fa_])), (tO, .inr (3, [.ref sA, .int tl])), (sA, .inl (cC, 1600, .inl fs))] → va_S A s.heap H locs → lv_has ls 3 [(2, .int iv), (1, .int va), (0, .ref h0)] → W p l e (headSpec wsX2_numberHere ({ frames := 1, cells := 0, slots := 0, locals := 21 })).room s m ([.ref h0]).toArray below meth c H locs 0 0 (MQ below (va_Qi (fun (r : Int32) (u : Unit) => True) (fun _ => sB dC dI A [(h0, .inr (2, [.ref tO, .int so, .int pl, .int bh, .int fa_])), (tO, .inr (3, [.ref sA, .int tl])), (sA, .inl (cC, 1600, .inl fs))]) A) ([.ref h0]).toArray s 0 0 A) (F0 m 7 ls []) := by
    intro n_7
    induction n_7 with
    | zero =>
      intro iv va fuel_7 
      exact absurd fuel_7 (by omega)
    | succ n_7 ih_7 =>
      intro iv va fuel_7  H locs ls hP hD hS hl
      refine lv_iload_n hx hb dX2_numberHere_7 rfl (lv_at hl 0 rfl) ?_
      refine lv_aload_n hx hb dX2_numberHere_8 rfl (lv_at hl 2 rfl) ?_
      refine va_get (D := (dC, dI)) (ci := 2) (v := .int bh) (C := RX2) (T := TX2) (N := 5) hx hb hts i2 hown hK hP 0 rfl rfl 3 (by decide) (hts (.fieldLink RX2 24 "StopSetter$Reader" "behind" "I") (by decide +kernel)) (fun _ h9 => h9) rfl dX2_numberHere_9 ?_
      refine lv_icmp_ge (tgt := 38) hx hb dX2_numberHere_12 (by decide) (fun c_12 => ?_) (fun c_12 => ?_)
      · skip
        refine lv_iload_n hx hb dX2_numberHere_38 rfl (lv_at hl 1 rfl) ?_
        have hP9 := hP.sub (ws' := [(h0, .inr (2, [.ref tO, .int so, .int pl, .int bh, .int fa_])), (tO, .inr (3, [.ref sA, .int tl])), (sA, .inl (cC, 1600, .inl fs))]) [0, 1, 2] rfl
        have hD9 := hD.sub (ws' := [(h0, .inr (2, [.ref tO, .int so, .int pl, .int bh, .int fa_])), (tO, .inr (3, [.ref sA, .int tl])), (sA, .inl (cC, 1600, .inl fs))]) [0, 1, 2] (by decide) rfl
        exact W.iret (v := va) hx hb hr (fun t ht hW => ⟨⟨va, (), rfl, trivial, by rw [ht]; exact hP9, hD9⟩, hS.F ht⟩) hS.2.2 dX2_numberHere_39
      · skip
        refine lv_iload_n hx hb dX2_numberHere_15 rfl (lv_at hl 1 rfl) ?_
        refine lv_bipush (v := 10) hx hb dX2_numberHere_16 (by decide) ?_
        refine lv_imul hx hb dX2_numberHere_18 ?_
        refine lv_topi (fun v_1 ev_1 => ?_)
        refine lv_aload_n hx hb dX2_numberHere_19 rfl (lv_at hl 2 rfl) ?_
        refine va_get (D := (dC, dI)) (ci := 2) (v := .ref tO) (C := RX2) (T := TX2) (N := 5) hx hb hts i2 hown hK hP 0 rfl rfl 0 (by decide) (hts (.fieldLink RX2 9 "StopSetter$Reader" "tape" "LStopSetter$Tape;") (by decide +kernel)) (fun _ h9 => h9) rfl dX2_numberHere_20 ?_
        refine lv_iload_n hx hb dX2_numberHere_23 rfl (lv_at hl 0 rfl) ?_
        have hPc := hP.sub (ws' := [(tO, .inr (3, [.ref sA, .int tl])), (sA, .inl (cC, 1600, .inl fs))]) [1, 2] rfl
        have hDc := hD.sub (ws' := [(tO, .inr (3, [.ref sA, .int tl])), (sA, .inl (cC, 1600, .inl fs))]) [1, 2] (by decide) rfl
        have hFc := va_free (wc := [(tO, .inr (3, [.ref sA, .int tl])), (sA, .inl (cC, 1600, .inl fs))]) hD hS hA [1, 2] rfl
        refine va_calli (va_runV (As := [.int iv]) (rest := [.int v_1]) ⟨hx, hb, hml, hown, hts⟩ (k_signAt l dC dI cI cZ cC cJ H.size  tO sA tl fs iv ) (cwV 1 hts gX2_numberHere_X3_signAt rfl rfl rfl (by decide +kernel) ⟨Nat.le_of_ble_eq_true rfl, Nat.le_of_ble_eq_true rfl⟩) ⟨sPre_blind, va_recv hK hPc (ci := 3) (q0 := 0) rfl rfl, fun U hU hW => ⟨rfl, sPre_ok hsk hPc hDc hU hW⟩⟩ rfl rfl hl.1 rfl (lv_room (Nat.le_of_ble_eq_true rfl)) dX2_numberHere_24 ⟨(show 0 + 0 ≤ 0 by omega), (show 0 + 0 ≤ 0 by omega)⟩) hS (fun q _ h => hFc q h) hFc (fun r_2 u t H1 locs ht hvm hw hB hz1 hk1 hS => ?_)
        try dsimp only at hw hB
        obtain ⟨hP1, hD1⟩ := hB
        rw [ht] at hP1
        obtain ⟨hP, hD⟩ := va_join (wr := [(h0, .inr (2, [.ref tO, .int so, .int pl, .int bh, .int fa_]))]) (w1 := [(tO, .inr (3, [.ref sA, .int tl])), (sA, .inl (cC, 1600, .inl fs))]) hP hD [1, 2] [0] rfl rfl (by decide) (by decide) hk1 hFc hP1 hD1
        generalize H1 = H at hP hS ⊢
        have hP : va_P (dC, dI) vwCl [(h0, .inr (2, [.ref tO, .int so, .int pl, .int bh, .int fa_])), (tO, .inr (3, [.ref sA, .int tl])), (sA, .inl (cC, 1600, .inl fs))] H := hP
        have hD : va_D A [(h0, .inr (2, [.ref tO, .int so, .int pl, .int bh, .int fa_])), (tO, .inr (3, [.ref sA, .int tl])), (sA, .inl (cC, 1600, .inl fs))] := hD
        have hw_r_2 := hw
        refine lv_iadd hx hb dX2_numberHere_27 ?_
        refine lv_topi (fun v_3 ev_3 => ?_)
        refine lv_bipush (v := 48) hx hb dX2_numberHere_28 (by decide) ?_
        refine lv_isub hx hb dX2_numberHere_30 ?_
        refine lv_topi (fun v_4 ev_4 => ?_)
        refine lv_istore_n (lv' := [(1, .int v_4), (2, .int iv), (0, .ref h0)]) hx hb dX2_numberHere_31 rfl hl (by decide) rfl (fun ls hl => ?_)
        refine lv_iinc (v := (iv + 1)) (lv' := [(2, .int (iv + 1)), (1, .int v_4), (0, .ref h0)]) hx hb dX2_numberHere_32 hl (k := 1) rfl rfl (by decide) rfl (fun ls hl => ?_)
        refine lv_goto (tgt := 7) hx hb dX2_numberHere_35 (by decide) ?_
        exact ih_7  (iv + 1) v_4 (up_f c_12 fuel_7) _ _ _ hP hD hS (lv_sub hl [0, 1, 2] rfl)
  exact lp_7 (((bh : Int32).toInt - (pl : Int32).toInt).toNat + 1) pl 0 (by omega) _ _ _ hP hD hS (lv_sub hl [0, 1, 2] rfl)
set_option maxHeartbeats 4000000 in
set_option maxRecDepth 100000 in
theorem k_readNumber (l : Launch) (dC : Nat → ClassId) (dI : Nat → Nat → Nat) (cI cZ cC cJ : ClassId) (sz : Nat) (h0 : Nat) (tO : Nat) (so : Int32) (pl : Int32) (bh : Int32) (fa_ : Int32) (sA : Nat) (tl : Int32) (fs : Nat → Int32) (p0 : Int32)  : Met l yX2_readNumber wsX2_readNumber ({ frames := 3, cells := 0, slots := 0, locals := 65 }) (va_Pc [.ref h0, .int p0] (sPre dC dI cI cZ cC cJ [(h0, .inr (2, [.ref tO, .int so, .int pl, .int bh, .int fa_])), (tO, .inr (3, [.ref sA, .int tl])), (sA, .inl (cC, 1600, .inl fs))] sz)) (va_Qi (fun (r : Int32) (u : (Int32) × (Int32) × (Int32) × (Int32)) => match u with | (so2, pl2, bh2, fa_2) => True) (fun (u : (Int32) × (Int32) × (Int32) × (Int32)) t => match u with | (so2, pl2, bh2, fa_2) => sB dC dI (va_A [(h0, .inr (2, [.ref tO, .int so, .int pl, .int bh, .int fa_])), (tO, .inr (3, [.ref sA, .int tl])), (sA, .inl (cC, 1600, .inl fs))] sz) [(h0, .inr (2, [.ref tO, .int so2, .int pl2, .int bh2, .int fa_2])), (tO, .inr (3, [.ref sA, .int tl])), (sA, .inl (cC, 1600, .inl fs))] t) (va_A [(h0, .inr (2, [.ref tO, .int so, .int pl, .int bh, .int fa_])), (tO, .inr (3, [.ref sA, .int tl])), (sA, .inl (cC, 1600, .inl fs))] sz)) 0 0 (va_A [(h0, .inr (2, [.ref tO, .int so, .int pl, .int bh, .int fa_])), (tO, .inr (3, [.ref sA, .int tl])), (sA, .inl (cC, 1600, .inl fs))] sz) := by
  refine Met.ofW (cc := cX2_readNumber) (maxL := 3) (ret := (some .int)) (by decide) rfl ?_
  intro p e s m args below meth c s₁ B hml hv
  obtain ⟨rfl, hsz, hP, hsk, hD0⟩ := hv
  have hx := B.exec
  have hb := B.bytes
  have hr := B.returns
  have hts := atoms_spec (ws := wsX2_readNumber) B.pre
  have hown : s.vm.findClass RX2 = some m.cls := findClass_of_methodNamed B.named
  have hlocks := B.notSynchronized
  have hK := hsk.1
  have i2 : ∀ w ∈ wsX20, w ∈ wsX2_readNumber := by decide +kernel
  subst hsz
  have hD := hD0.self (sz := s.heap.size)
  generalize hAe : va_A [(h0, .inr (2, [.ref tO, .int so, .int pl, .int bh, .int fa_])), (tO, .inr (3, [.ref sA, .int tl])), (sA, .inl (cC, 1600, .inl fs))] s.heap.size = A at hD ⊢
  have hA : ∀ q : Nat, s.heap.size ≤ q → A q := fun q h => by rw [← hAe]; exact Or.inr h
  have hS : va_S A s.heap s.heap [] := va_S.rf
  have hl := lv_entry ([.ref h0, .int p0]) (n := 3) (Nat.le_of_ble_eq_true rfl)
  rw [lg_entry_eq]
  generalize (lg_sl ([.ref h0, .int p0]) ++ List.replicate (3 - (lg_sl ([.ref h0, .int p0])).length) Slot.unset).toArray = ls at hl ⊢
  have hl : lv_has ls 3 [(0, .ref h0), (1, .int p0)] := hl
  refine lv_aload_n hx hb dX2_readNumber_0 rfl (lv_at hl 0 rfl) ?_
  refine va_get (D := (dC, dI)) (ci := 2) (v := .int so) (C := RX2) (T := TX2) (N := 5) hx hb hts i2 hown hK hP 0 rfl rfl 1 (by decide) (hts (.fieldLink RX2 32 "StopSetter$Reader" "sort" "I") (by decide +kernel)) (fun _ h9 => h9) rfl dX2_readNumber_1 ?_
  refine lv_iconst (v := 3) hx hb dX2_readNumber_4 (by decide) ?_
  refine lv_icmp_ne (tgt := 15) hx hb dX2_readNumber_5 (by decide) (fun c_5 => ?_) (fun c_5 => ?_)
  · skip
    refine lv_iconst (v := 0) hx hb dX2_readNumber_15 (by decide) ?_
    refine lv_istore_n (lv' := [(2, .int 0), (0, .ref h0), (1, .int p0)]) hx hb dX2_readNumber_16 rfl hl (by decide) rfl (fun ls hl => ?_)
    refine lv_aload_n hx hb dX2_readNumber_17 rfl (lv_at hl 1 rfl) ?_
    refine va_get (D := (dC, dI)) (ci := 2) (v := .int so) (C := RX2) (T := TX2) (N := 5) hx hb hts i2 hown hK hP 0 rfl rfl 1 (by decide) (hts (.fieldLink RX2 32 "StopSetter$Reader" "sort" "I") (by decide +kernel)) (fun _ h9 => h9) rfl dX2_readNumber_18 ?_
    refine lv_iconst (v := 3) hx hb dX2_readNumber_21 (by decide) ?_
    refine lv_icmp_eq (tgt := 33) hx hb dX2_readNumber_22 (by decide) (fun c_22 => ?_) (fun c_22 => ?_)
    · skip
      refine lv_iload_n hx hb dX2_readNumber_33 rfl (lv_at hl 0 rfl) ?_
      refine lv_iload_n hx hb dX2_readNumber_34 rfl (lv_at hl 2 rfl) ?_
      refine lv_icmp_le (tgt := 46) hx hb dX2_readNumber_35 (by decide) (fun c_35 => ?_) (fun c_35 => ?_)
      · skip
        refine lv_aload_n hx hb dX2_readNumber_46 rfl (lv_at hl 1 rfl) ?_
        refine va_get (D := (dC, dI)) (ci := 2) (v := .int fa_) (C := RX2) (T := TX2) (N := 5) hx hb hts i2 hown hK hP 0 rfl rfl 4 (by decide) (hts (.fieldLink RX2 20 "StopSetter$Reader" "fault" "I") (by decide +kernel)) (fun _ h9 => h9) rfl dX2_readNumber_47 ?_
        refine lv_if_ne (tgt := 57) hx hb dX2_readNumber_50 (by decide) (fun c_50 => ?_) (fun c_50 => ?_)
        · skip
          refine lv_iload_n hx hb dX2_readNumber_57 rfl (lv_at hl 0 rfl) ?_
          have hP9 := hP.sub (ws' := [(h0, .inr (2, [.ref tO, .int so, .int pl, .int bh, .int fa_])), (tO, .inr (3, [.ref sA, .int tl])), (sA, .inl (cC, 1600, .inl fs))]) [0, 1, 2] rfl
          have hD9 := hD.sub (ws' := [(h0, .inr (2, [.ref tO, .int so, .int pl, .int bh, .int fa_])), (tO, .inr (3, [.ref sA, .int tl])), (sA, .inl (cC, 1600, .inl fs))]) [0, 1, 2] (by decide) rfl
          exact W.iret (v := 0) hx hb hr (fun t ht hW => ⟨⟨0, (so, pl, bh, fa_), rfl, trivial, by rw [ht]; exact hP9, hD9⟩, hS.F ht⟩) hS.2.2 dX2_readNumber_58
        · skip
          refine lv_aload_n hx hb dX2_readNumber_53 rfl (lv_at hl 1 rfl) ?_
          have hPc := hP.sub (ws' := [(h0, .inr (2, [.ref tO, .int so, .int pl, .int bh, .int fa_])), (tO, .inr (3, [.ref sA, .int tl])), (sA, .inl (cC, 1600, .inl fs))]) [0, 1, 2] rfl
          have hDc := hD.sub (ws' := [(h0, .inr (2, [.ref tO, .int so, .int pl, .int bh, .int fa_])), (tO, .inr (3, [.ref sA, .int tl])), (sA, .inl (cC, 1600, .inl fs))]) [0, 1, 2] (by decide) rfl
          have hFc := va_free (wc := [(h0, .inr (2, [.ref tO, .int so, .int pl, .int bh, .int fa_])), (tO, .inr (3, [.ref sA, .int tl])), (sA, .inl (cC, 1600, .inl fs))]) hD hS hA [0, 1, 2] rfl
          refine va_callv (va_runV (As := []) (rest := []) ⟨hx, hb, hml, hown, hts⟩ (k_advance l dC dI cI cZ cC cJ s.heap.size  h0 tO so pl bh fa_ sA tl fs ) (cwV 0 hts gX2_readNumber_X2_advance rfl rfl rfl (by decide +kernel) ⟨Nat.le_of_ble_eq_true rfl, Nat.le_of_ble_eq_true rfl⟩) ⟨sPre_blind, va_recv hK hPc (ci := 2) (q0 := 0) rfl rfl, fun U hU hW => ⟨rfl, sPre_ok hsk hPc hDc hU hW⟩⟩ rfl rfl hl.1 rfl (lv_room (Nat.le_of_ble_eq_true rfl)) dX2_readNumber_54 ⟨(show 0 + 0 ≤ 0 by omega), (show 0 + 0 ≤ 0 by omega)⟩) hS (fun q _ h => hFc q h) hFc (fun u t H1 locs ht hvm hw hB hz1 hk1 hS => ?_)
          obtain ⟨s_2, p_3, b_4⟩ := u
          try dsimp only at hw hB
          obtain ⟨hP1, hD1⟩ := hB
          rw [ht] at hP1
          obtain ⟨hP, hD⟩ := va_join (wr := []) (w1 := [(h0, .inr (2, [.ref tO, .int s_2, .int p_3, .int b_4, .int fa_])), (tO, .inr (3, [.ref sA, .int tl])), (sA, .inl (cC, 1600, .inl fs))]) hP hD [0, 1, 2] [] rfl rfl (by decide) (by decide) hk1 hFc hP1 hD1
          generalize H1 = H at hP hS ⊢
          have hP : va_P (dC, dI) vwCl [(h0, .inr (2, [.ref tO, .int s_2, .int p_3, .int b_4, .int fa_])), (tO, .inr (3, [.ref sA, .int tl])), (sA, .inl (cC, 1600, .inl fs))] H := hP
          have hD : va_D A [(h0, .inr (2, [.ref tO, .int s_2, .int p_3, .int b_4, .int fa_])), (tO, .inr (3, [.ref sA, .int tl])), (sA, .inl (cC, 1600, .inl fs))] := hD
          refine lv_iload_n hx hb dX2_readNumber_57 rfl (lv_at hl 0 rfl) ?_
          have hP9 := hP.sub (ws' := [(h0, .inr (2, [.ref tO, .int s_2, .int p_3, .int b_4, .int fa_])), (tO, .inr (3, [.ref sA, .int tl])), (sA, .inl (cC, 1600, .inl fs))]) [0, 1, 2] rfl
          have hD9 := hD.sub (ws' := [(h0, .inr (2, [.ref tO, .int s_2, .int p_3, .int b_4, .int fa_])), (tO, .inr (3, [.ref sA, .int tl])), (sA, .inl (cC, 1600, .inl fs))]) [0, 1, 2] (by decide) rfl
          exact W.iret (v := 0) hx hb hr (fun t ht hW => ⟨⟨0, (s_2, p_3, b_4, fa_), rfl, trivial, by rw [ht]; exact hP9, hD9⟩, hS.F ht⟩) hS.2.2 dX2_readNumber_58
      · skip
        refine lv_aload_n hx hb dX2_readNumber_38 rfl (lv_at hl 1 rfl) ?_
        refine lv_iconst (v := 4) hx hb dX2_readNumber_39 (by decide) ?_
        have hPc := hP.sub (ws' := [(h0, .inr (2, [.ref tO, .int so, .int pl, .int bh, .int fa_]))]) [0] rfl
        have hDc := hD.sub (ws' := [(h0, .inr (2, [.ref tO, .int so, .int pl, .int bh, .int fa_]))]) [0] (by decide) rfl
        have hFc := va_free (wc := [(h0, .inr (2, [.ref tO, .int so, .int pl, .int bh, .int fa_]))]) hD hS hA [0] rfl
        refine va_callv (va_runV (As := [.int 4]) (rest := []) ⟨hx, hb, hml, hown, hts⟩ (k_refuse l dC dI cI cZ cC cJ s.heap.size  h0 tO so pl bh fa_ 4 ) (cwV 1 hts gX2_readNumber_X2_refuse rfl rfl rfl (by decide +kernel) ⟨Nat.le_of_ble_eq_true rfl, Nat.le_of_ble_eq_true rfl⟩) ⟨sPre_blind, va_recv hK hPc (ci := 2) (q0 := 0) rfl rfl, fun U hU hW => ⟨rfl, sPre_ok hsk hPc hDc hU hW⟩⟩ rfl rfl hl.1 rfl (lv_room (Nat.le_of_ble_eq_true rfl)) dX2_readNumber_40 ⟨(show 0 + 0 ≤ 0 by omega), (show 0 + 0 ≤ 0 by omega)⟩) hS (fun q _ h => hFc q h) hFc (fun u t H1 locs ht hvm hw hB hz1 hk1 hS => ?_)
        obtain ⟨f_6, rfl⟩ : ∃ z, z = u := ⟨_, rfl⟩
        try dsimp only at hw hB
        obtain ⟨hP1, hD1⟩ := hB
        rw [ht] at hP1
        obtain ⟨hP, hD⟩ := va_join (wr := [(tO, .inr (3, [.ref sA, .int tl])), (sA, .inl (cC, 1600, .inl fs))]) (w1 := [(h0, .inr (2, [.ref tO, .int so, .int pl, .int bh, .int f_6]))]) hP hD [0] [1, 2] rfl rfl (by decide) (by decide) hk1 hFc hP1 hD1
        generalize H1 = H at hP hS ⊢
        have hP : va_P (dC, dI) vwCl [(tO, .inr (3, [.ref sA, .int tl])), (sA, .inl (cC, 1600, .inl fs)), (h0, .inr (2, [.ref tO, .int so, .int pl, .int bh, .int f_6]))] H := hP
        have hD : va_D A [(tO, .inr (3, [.ref sA, .int tl])), (sA, .inl (cC, 1600, .inl fs)), (h0, .inr (2, [.ref tO, .int so, .int pl, .int bh, .int f_6]))] := hD
        refine lv_goto (tgt := 57) hx hb dX2_readNumber_43 (by decide) ?_
        refine lv_iload_n hx hb dX2_readNumber_57 rfl (lv_at hl 0 rfl) ?_
        have hP9 := hP.sub (ws' := [(h0, .inr (2, [.ref tO, .int so, .int pl, .int bh, .int f_6])), (tO, .inr (3, [.ref sA, .int tl])), (sA, .inl (cC, 1600, .inl fs))]) [2, 0, 1] rfl
        have hD9 := hD.sub (ws' := [(h0, .inr (2, [.ref tO, .int so, .int pl, .int bh, .int f_6])), (tO, .inr (3, [.ref sA, .int tl])), (sA, .inl (cC, 1600, .inl fs))]) [2, 0, 1] (by decide) rfl
        exact W.iret (v := 0) hx hb hr (fun t ht hW => ⟨⟨0, (so, pl, bh, f_6), rfl, trivial, by rw [ht]; exact hP9, hD9⟩, hS.F ht⟩) hS.2.2 dX2_readNumber_58
    · skip
      refine lv_aload_n hx hb dX2_readNumber_25 rfl (lv_at hl 1 rfl) ?_
      refine lv_iconst (v := 1) hx hb dX2_readNumber_26 (by decide) ?_
      have hPc := hP.sub (ws' := [(h0, .inr (2, [.ref tO, .int so, .int pl, .int bh, .int fa_]))]) [0] rfl
      have hDc := hD.sub (ws' := [(h0, .inr (2, [.ref tO, .int so, .int pl, .int bh, .int fa_]))]) [0] (by decide) rfl
      have hFc := va_free (wc := [(h0, .inr (2, [.ref tO, .int so, .int pl, .int bh, .int fa_]))]) hD hS hA [0] rfl
      refine va_callv (va_runV (As := [.int 1]) (rest := []) ⟨hx, hb, hml, hown, hts⟩ (k_refuse l dC dI cI cZ cC cJ s.heap.size  h0 tO so pl bh fa_ 1 ) (cwV 1 hts gX2_readNumber_X2_refuse rfl rfl rfl (by decide +kernel) ⟨Nat.le_of_ble_eq_true rfl, Nat.le_of_ble_eq_true rfl⟩) ⟨sPre_blind, va_recv hK hPc (ci := 2) (q0 := 0) rfl rfl, fun U hU hW => ⟨rfl, sPre_ok hsk hPc hDc hU hW⟩⟩ rfl rfl hl.1 rfl (lv_room (Nat.le_of_ble_eq_true rfl)) dX2_readNumber_27 ⟨(show 0 + 0 ≤ 0 by omega), (show 0 + 0 ≤ 0 by omega)⟩) hS (fun q _ h => hFc q h) hFc (fun u t H1 locs ht hvm hw hB hz1 hk1 hS => ?_)
      obtain ⟨f_8, rfl⟩ : ∃ z, z = u := ⟨_, rfl⟩
      try dsimp only at hw hB
      obtain ⟨hP1, hD1⟩ := hB
      rw [ht] at hP1
      obtain ⟨hP, hD⟩ := va_join (wr := [(tO, .inr (3, [.ref sA, .int tl])), (sA, .inl (cC, 1600, .inl fs))]) (w1 := [(h0, .inr (2, [.ref tO, .int so, .int pl, .int bh, .int f_8]))]) hP hD [0] [1, 2] rfl rfl (by decide) (by decide) hk1 hFc hP1 hD1
      generalize H1 = H at hP hS ⊢
      have hP : va_P (dC, dI) vwCl [(tO, .inr (3, [.ref sA, .int tl])), (sA, .inl (cC, 1600, .inl fs)), (h0, .inr (2, [.ref tO, .int so, .int pl, .int bh, .int f_8]))] H := hP
      have hD : va_D A [(tO, .inr (3, [.ref sA, .int tl])), (sA, .inl (cC, 1600, .inl fs)), (h0, .inr (2, [.ref tO, .int so, .int pl, .int bh, .int f_8]))] := hD
      refine lv_goto (tgt := 57) hx hb dX2_readNumber_30 (by decide) ?_
      refine lv_iload_n hx hb dX2_readNumber_57 rfl (lv_at hl 0 rfl) ?_
      have hP9 := hP.sub (ws' := [(h0, .inr (2, [.ref tO, .int so, .int pl, .int bh, .int f_8])), (tO, .inr (3, [.ref sA, .int tl])), (sA, .inl (cC, 1600, .inl fs))]) [2, 0, 1] rfl
      have hD9 := hD.sub (ws' := [(h0, .inr (2, [.ref tO, .int so, .int pl, .int bh, .int f_8])), (tO, .inr (3, [.ref sA, .int tl])), (sA, .inl (cC, 1600, .inl fs))]) [2, 0, 1] (by decide) rfl
      exact W.iret (v := 0) hx hb hr (fun t ht hW => ⟨⟨0, (so, pl, bh, f_8), rfl, trivial, by rw [ht]; exact hP9, hD9⟩, hS.F ht⟩) hS.2.2 dX2_readNumber_58
  · skip
    refine lv_aload_n hx hb dX2_readNumber_8 rfl (lv_at hl 0 rfl) ?_
    have hPc := hP.sub (ws' := [(h0, .inr (2, [.ref tO, .int so, .int pl, .int bh, .int fa_])), (tO, .inr (3, [.ref sA, .int tl])), (sA, .inl (cC, 1600, .inl fs))]) [0, 1, 2] rfl
    have hDc := hD.sub (ws' := [(h0, .inr (2, [.ref tO, .int so, .int pl, .int bh, .int fa_])), (tO, .inr (3, [.ref sA, .int tl])), (sA, .inl (cC, 1600, .inl fs))]) [0, 1, 2] (by decide) rfl
    have hFc := va_free (wc := [(h0, .inr (2, [.ref tO, .int so, .int pl, .int bh, .int fa_])), (tO, .inr (3, [.ref sA, .int tl])), (sA, .inl (cC, 1600, .inl fs))]) hD hS hA [0, 1, 2] rfl
    refine va_calli (va_runV (As := []) (rest := []) ⟨hx, hb, hml, hown, hts⟩ (k_numberHere l dC dI cI cZ cC cJ s.heap.size  h0 tO so pl bh fa_ sA tl fs ) (cwV 0 hts gX2_readNumber_X2_numberHere rfl rfl rfl (by decide +kernel) ⟨Nat.le_of_ble_eq_true rfl, Nat.le_of_ble_eq_true rfl⟩) ⟨sPre_blind, va_recv hK hPc (ci := 2) (q0 := 0) rfl rfl, fun U hU hW => ⟨rfl, sPre_ok hsk hPc hDc hU hW⟩⟩ rfl rfl hl.1 rfl (lv_room (Nat.le_of_ble_eq_true rfl)) dX2_readNumber_9 ⟨(show 0 + 0 ≤ 0 by omega), (show 0 + 0 ≤ 0 by omega)⟩) hS (fun q _ h => hFc q h) hFc (fun r_9 u t H1 locs ht hvm hw hB hz1 hk1 hS => ?_)
    try dsimp only at hw hB
    obtain ⟨hP1, hD1⟩ := hB
    rw [ht] at hP1
    obtain ⟨hP, hD⟩ := va_join (wr := []) (w1 := [(h0, .inr (2, [.ref tO, .int so, .int pl, .int bh, .int fa_])), (tO, .inr (3, [.ref sA, .int tl])), (sA, .inl (cC, 1600, .inl fs))]) hP hD [0, 1, 2] [] rfl rfl (by decide) (by decide) hk1 hFc hP1 hD1
    generalize H1 = H at hP hS ⊢
    have hP : va_P (dC, dI) vwCl [(h0, .inr (2, [.ref tO, .int so, .int pl, .int bh, .int fa_])), (tO, .inr (3, [.ref sA, .int tl])), (sA, .inl (cC, 1600, .inl fs))] H := hP
    have hD : va_D A [(h0, .inr (2, [.ref tO, .int so, .int pl, .int bh, .int fa_])), (tO, .inr (3, [.ref sA, .int tl])), (sA, .inl (cC, 1600, .inl fs))] := hD
    have hw_r_9 := hw
    refine lv_goto (tgt := 16) hx hb dX2_readNumber_12 (by decide) ?_
    refine lv_istore_n (lv' := [(2, .int r_9), (0, .ref h0), (1, .int p0)]) hx hb dX2_readNumber_16 rfl hl (by decide) rfl (fun ls hl => ?_)
    refine lv_aload_n hx hb dX2_readNumber_17 rfl (lv_at hl 1 rfl) ?_
    refine va_get (D := (dC, dI)) (ci := 2) (v := .int so) (C := RX2) (T := TX2) (N := 5) hx hb hts i2 hown hK hP 0 rfl rfl 1 (by decide) (hts (.fieldLink RX2 32 "StopSetter$Reader" "sort" "I") (by decide +kernel)) (fun _ h9 => h9) rfl dX2_readNumber_18 ?_
    refine lv_iconst (v := 3) hx hb dX2_readNumber_21 (by decide) ?_
    refine lv_icmp_eq (tgt := 33) hx hb dX2_readNumber_22 (by decide) (fun c_22 => ?_) (fun c_22 => ?_)
    · skip
      refine lv_iload_n hx hb dX2_readNumber_33 rfl (lv_at hl 0 rfl) ?_
      refine lv_iload_n hx hb dX2_readNumber_34 rfl (lv_at hl 2 rfl) ?_
      refine lv_icmp_le (tgt := 46) hx hb dX2_readNumber_35 (by decide) (fun c_35 => ?_) (fun c_35 => ?_)
      · skip
        refine lv_aload_n hx hb dX2_readNumber_46 rfl (lv_at hl 1 rfl) ?_
        refine va_get (D := (dC, dI)) (ci := 2) (v := .int fa_) (C := RX2) (T := TX2) (N := 5) hx hb hts i2 hown hK hP 0 rfl rfl 4 (by decide) (hts (.fieldLink RX2 20 "StopSetter$Reader" "fault" "I") (by decide +kernel)) (fun _ h9 => h9) rfl dX2_readNumber_47 ?_
        refine lv_if_ne (tgt := 57) hx hb dX2_readNumber_50 (by decide) (fun c_50 => ?_) (fun c_50 => ?_)
        · skip
          refine lv_iload_n hx hb dX2_readNumber_57 rfl (lv_at hl 0 rfl) ?_
          have hP9 := hP.sub (ws' := [(h0, .inr (2, [.ref tO, .int so, .int pl, .int bh, .int fa_])), (tO, .inr (3, [.ref sA, .int tl])), (sA, .inl (cC, 1600, .inl fs))]) [0, 1, 2] rfl
          have hD9 := hD.sub (ws' := [(h0, .inr (2, [.ref tO, .int so, .int pl, .int bh, .int fa_])), (tO, .inr (3, [.ref sA, .int tl])), (sA, .inl (cC, 1600, .inl fs))]) [0, 1, 2] (by decide) rfl
          exact W.iret (v := r_9) hx hb hr (fun t ht hW => ⟨⟨r_9, (so, pl, bh, fa_), rfl, trivial, by rw [ht]; exact hP9, hD9⟩, hS.F ht⟩) hS.2.2 dX2_readNumber_58
        · skip
          refine lv_aload_n hx hb dX2_readNumber_53 rfl (lv_at hl 1 rfl) ?_
          have hPc := hP.sub (ws' := [(h0, .inr (2, [.ref tO, .int so, .int pl, .int bh, .int fa_])), (tO, .inr (3, [.ref sA, .int tl])), (sA, .inl (cC, 1600, .inl fs))]) [0, 1, 2] rfl
          have hDc := hD.sub (ws' := [(h0, .inr (2, [.ref tO, .int so, .int pl, .int bh, .int fa_])), (tO, .inr (3, [.ref sA, .int tl])), (sA, .inl (cC, 1600, .inl fs))]) [0, 1, 2] (by decide) rfl
          have hFc := va_free (wc := [(h0, .inr (2, [.ref tO, .int so, .int pl, .int bh, .int fa_])), (tO, .inr (3, [.ref sA, .int tl])), (sA, .inl (cC, 1600, .inl fs))]) hD hS hA [0, 1, 2] rfl
          refine va_callv (va_runV (As := []) (rest := []) ⟨hx, hb, hml, hown, hts⟩ (k_advance l dC dI cI cZ cC cJ H.size  h0 tO so pl bh fa_ sA tl fs ) (cwV 0 hts gX2_readNumber_X2_advance rfl rfl rfl (by decide +kernel) ⟨Nat.le_of_ble_eq_true rfl, Nat.le_of_ble_eq_true rfl⟩) ⟨sPre_blind, va_recv hK hPc (ci := 2) (q0 := 0) rfl rfl, fun U hU hW => ⟨rfl, sPre_ok hsk hPc hDc hU hW⟩⟩ rfl rfl hl.1 rfl (lv_room (Nat.le_of_ble_eq_true rfl)) dX2_readNumber_54 ⟨(show 0 + 0 ≤ 0 by omega), (show 0 + 0 ≤ 0 by omega)⟩) hS (fun q _ h => hFc q h) hFc (fun u t H1 locs ht hvm hw hB hz1 hk1 hS => ?_)
          obtain ⟨s_11, p_12, b_13⟩ := u
          try dsimp only at hw hB
          obtain ⟨hP1, hD1⟩ := hB
          rw [ht] at hP1
          obtain ⟨hP, hD⟩ := va_join (wr := []) (w1 := [(h0, .inr (2, [.ref tO, .int s_11, .int p_12, .int b_13, .int fa_])), (tO, .inr (3, [.ref sA, .int tl])), (sA, .inl (cC, 1600, .inl fs))]) hP hD [0, 1, 2] [] rfl rfl (by decide) (by decide) hk1 hFc hP1 hD1
          generalize H1 = H at hP hS ⊢
          have hP : va_P (dC, dI) vwCl [(h0, .inr (2, [.ref tO, .int s_11, .int p_12, .int b_13, .int fa_])), (tO, .inr (3, [.ref sA, .int tl])), (sA, .inl (cC, 1600, .inl fs))] H := hP
          have hD : va_D A [(h0, .inr (2, [.ref tO, .int s_11, .int p_12, .int b_13, .int fa_])), (tO, .inr (3, [.ref sA, .int tl])), (sA, .inl (cC, 1600, .inl fs))] := hD
          refine lv_iload_n hx hb dX2_readNumber_57 rfl (lv_at hl 0 rfl) ?_
          have hP9 := hP.sub (ws' := [(h0, .inr (2, [.ref tO, .int s_11, .int p_12, .int b_13, .int fa_])), (tO, .inr (3, [.ref sA, .int tl])), (sA, .inl (cC, 1600, .inl fs))]) [0, 1, 2] rfl
          have hD9 := hD.sub (ws' := [(h0, .inr (2, [.ref tO, .int s_11, .int p_12, .int b_13, .int fa_])), (tO, .inr (3, [.ref sA, .int tl])), (sA, .inl (cC, 1600, .inl fs))]) [0, 1, 2] (by decide) rfl
          exact W.iret (v := r_9) hx hb hr (fun t ht hW => ⟨⟨r_9, (s_11, p_12, b_13, fa_), rfl, trivial, by rw [ht]; exact hP9, hD9⟩, hS.F ht⟩) hS.2.2 dX2_readNumber_58
      · skip
        refine lv_aload_n hx hb dX2_readNumber_38 rfl (lv_at hl 1 rfl) ?_
        refine lv_iconst (v := 4) hx hb dX2_readNumber_39 (by decide) ?_
        have hPc := hP.sub (ws' := [(h0, .inr (2, [.ref tO, .int so, .int pl, .int bh, .int fa_]))]) [0] rfl
        have hDc := hD.sub (ws' := [(h0, .inr (2, [.ref tO, .int so, .int pl, .int bh, .int fa_]))]) [0] (by decide) rfl
        have hFc := va_free (wc := [(h0, .inr (2, [.ref tO, .int so, .int pl, .int bh, .int fa_]))]) hD hS hA [0] rfl
        refine va_callv (va_runV (As := [.int 4]) (rest := []) ⟨hx, hb, hml, hown, hts⟩ (k_refuse l dC dI cI cZ cC cJ H.size  h0 tO so pl bh fa_ 4 ) (cwV 1 hts gX2_readNumber_X2_refuse rfl rfl rfl (by decide +kernel) ⟨Nat.le_of_ble_eq_true rfl, Nat.le_of_ble_eq_true rfl⟩) ⟨sPre_blind, va_recv hK hPc (ci := 2) (q0 := 0) rfl rfl, fun U hU hW => ⟨rfl, sPre_ok hsk hPc hDc hU hW⟩⟩ rfl rfl hl.1 rfl (lv_room (Nat.le_of_ble_eq_true rfl)) dX2_readNumber_40 ⟨(show 0 + 0 ≤ 0 by omega), (show 0 + 0 ≤ 0 by omega)⟩) hS (fun q _ h => hFc q h) hFc (fun u t H1 locs ht hvm hw hB hz1 hk1 hS => ?_)
        obtain ⟨f_15, rfl⟩ : ∃ z, z = u := ⟨_, rfl⟩
        try dsimp only at hw hB
        obtain ⟨hP1, hD1⟩ := hB
        rw [ht] at hP1
        obtain ⟨hP, hD⟩ := va_join (wr := [(tO, .inr (3, [.ref sA, .int tl])), (sA, .inl (cC, 1600, .inl fs))]) (w1 := [(h0, .inr (2, [.ref tO, .int so, .int pl, .int bh, .int f_15]))]) hP hD [0] [1, 2] rfl rfl (by decide) (by decide) hk1 hFc hP1 hD1
        generalize H1 = H at hP hS ⊢
        have hP : va_P (dC, dI) vwCl [(tO, .inr (3, [.ref sA, .int tl])), (sA, .inl (cC, 1600, .inl fs)), (h0, .inr (2, [.ref tO, .int so, .int pl, .int bh, .int f_15]))] H := hP
        have hD : va_D A [(tO, .inr (3, [.ref sA, .int tl])), (sA, .inl (cC, 1600, .inl fs)), (h0, .inr (2, [.ref tO, .int so, .int pl, .int bh, .int f_15]))] := hD
        refine lv_goto (tgt := 57) hx hb dX2_readNumber_43 (by decide) ?_
        refine lv_iload_n hx hb dX2_readNumber_57 rfl (lv_at hl 0 rfl) ?_
        have hP9 := hP.sub (ws' := [(h0, .inr (2, [.ref tO, .int so, .int pl, .int bh, .int f_15])), (tO, .inr (3, [.ref sA, .int tl])), (sA, .inl (cC, 1600, .inl fs))]) [2, 0, 1] rfl
        have hD9 := hD.sub (ws' := [(h0, .inr (2, [.ref tO, .int so, .int pl, .int bh, .int f_15])), (tO, .inr (3, [.ref sA, .int tl])), (sA, .inl (cC, 1600, .inl fs))]) [2, 0, 1] (by decide) rfl
        exact W.iret (v := r_9) hx hb hr (fun t ht hW => ⟨⟨r_9, (so, pl, bh, f_15), rfl, trivial, by rw [ht]; exact hP9, hD9⟩, hS.F ht⟩) hS.2.2 dX2_readNumber_58
    · skip
      refine lv_aload_n hx hb dX2_readNumber_25 rfl (lv_at hl 1 rfl) ?_
      refine lv_iconst (v := 1) hx hb dX2_readNumber_26 (by decide) ?_
      have hPc := hP.sub (ws' := [(h0, .inr (2, [.ref tO, .int so, .int pl, .int bh, .int fa_]))]) [0] rfl
      have hDc := hD.sub (ws' := [(h0, .inr (2, [.ref tO, .int so, .int pl, .int bh, .int fa_]))]) [0] (by decide) rfl
      have hFc := va_free (wc := [(h0, .inr (2, [.ref tO, .int so, .int pl, .int bh, .int fa_]))]) hD hS hA [0] rfl
      refine va_callv (va_runV (As := [.int 1]) (rest := []) ⟨hx, hb, hml, hown, hts⟩ (k_refuse l dC dI cI cZ cC cJ H.size  h0 tO so pl bh fa_ 1 ) (cwV 1 hts gX2_readNumber_X2_refuse rfl rfl rfl (by decide +kernel) ⟨Nat.le_of_ble_eq_true rfl, Nat.le_of_ble_eq_true rfl⟩) ⟨sPre_blind, va_recv hK hPc (ci := 2) (q0 := 0) rfl rfl, fun U hU hW => ⟨rfl, sPre_ok hsk hPc hDc hU hW⟩⟩ rfl rfl hl.1 rfl (lv_room (Nat.le_of_ble_eq_true rfl)) dX2_readNumber_27 ⟨(show 0 + 0 ≤ 0 by omega), (show 0 + 0 ≤ 0 by omega)⟩) hS (fun q _ h => hFc q h) hFc (fun u t H1 locs ht hvm hw hB hz1 hk1 hS => ?_)
      obtain ⟨f_17, rfl⟩ : ∃ z, z = u := ⟨_, rfl⟩
      try dsimp only at hw hB
      obtain ⟨hP1, hD1⟩ := hB
      rw [ht] at hP1
      obtain ⟨hP, hD⟩ := va_join (wr := [(tO, .inr (3, [.ref sA, .int tl])), (sA, .inl (cC, 1600, .inl fs))]) (w1 := [(h0, .inr (2, [.ref tO, .int so, .int pl, .int bh, .int f_17]))]) hP hD [0] [1, 2] rfl rfl (by decide) (by decide) hk1 hFc hP1 hD1
      generalize H1 = H at hP hS ⊢
      have hP : va_P (dC, dI) vwCl [(tO, .inr (3, [.ref sA, .int tl])), (sA, .inl (cC, 1600, .inl fs)), (h0, .inr (2, [.ref tO, .int so, .int pl, .int bh, .int f_17]))] H := hP
      have hD : va_D A [(tO, .inr (3, [.ref sA, .int tl])), (sA, .inl (cC, 1600, .inl fs)), (h0, .inr (2, [.ref tO, .int so, .int pl, .int bh, .int f_17]))] := hD
      refine lv_goto (tgt := 57) hx hb dX2_readNumber_30 (by decide) ?_
      refine lv_iload_n hx hb dX2_readNumber_57 rfl (lv_at hl 0 rfl) ?_
      have hP9 := hP.sub (ws' := [(h0, .inr (2, [.ref tO, .int so, .int pl, .int bh, .int f_17])), (tO, .inr (3, [.ref sA, .int tl])), (sA, .inl (cC, 1600, .inl fs))]) [2, 0, 1] rfl
      have hD9 := hD.sub (ws' := [(h0, .inr (2, [.ref tO, .int so, .int pl, .int bh, .int f_17])), (tO, .inr (3, [.ref sA, .int tl])), (sA, .inl (cC, 1600, .inl fs))]) [2, 0, 1] (by decide) rfl
      exact W.iret (v := r_9) hx hb hr (fun t ht hW => ⟨⟨r_9, (so, pl, bh, f_17), rfl, trivial, by rw [ht]; exact hP9, hD9⟩, hS.F ht⟩) hS.2.2 dX2_readNumber_58
set_option maxHeartbeats 4000000 in
set_option maxRecDepth 100000 in
theorem k_passIf (l : Launch) (dC : Nat → ClassId) (dI : Nat → Nat → Nat) (cI cZ cC cJ : ClassId) (sz : Nat) (h0 : Nat) (tO : Nat) (so : Int32) (pl : Int32) (bh : Int32) (fa_ : Int32) (sA : Nat) (tl : Int32) (fs : Nat → Int32) (p0 : Int32)  : Met l yX2_passIf wsX2_passIf ({ frames := 3, cells := 0, slots := 0, locals := 65 }) (va_Pc [.ref h0, .int p0] (sPre dC dI cI cZ cC cJ [(h0, .inr (2, [.ref tO, .int so, .int pl, .int bh, .int fa_])), (tO, .inr (3, [.ref sA, .int tl])), (sA, .inl (cC, 1600, .inl fs))] sz)) (va_Qv (fun (u : (Int32) × (Int32) × (Int32) × (Int32)) => match u with | (so2, pl2, bh2, fa_2) => True) (fun (u : (Int32) × (Int32) × (Int32) × (Int32)) t => match u with | (so2, pl2, bh2, fa_2) => sB dC dI (va_A [(h0, .inr (2, [.ref tO, .int so, .int pl, .int bh, .int fa_])), (tO, .inr (3, [.ref sA, .int tl])), (sA, .inl (cC, 1600, .inl fs))] sz) [(h0, .inr (2, [.ref tO, .int so2, .int pl2, .int bh2, .int fa_2])), (tO, .inr (3, [.ref sA, .int tl])), (sA, .inl (cC, 1600, .inl fs))] t) (va_A [(h0, .inr (2, [.ref tO, .int so, .int pl, .int bh, .int fa_])), (tO, .inr (3, [.ref sA, .int tl])), (sA, .inl (cC, 1600, .inl fs))] sz)) 0 0 (va_A [(h0, .inr (2, [.ref tO, .int so, .int pl, .int bh, .int fa_])), (tO, .inr (3, [.ref sA, .int tl])), (sA, .inl (cC, 1600, .inl fs))] sz) := by
  refine Met.ofW (cc := cX2_passIf) (maxL := 2) (ret := none) (by decide) rfl ?_
  intro p e s m args below meth c s₁ B hml hv
  obtain ⟨rfl, hsz, hP, hsk, hD0⟩ := hv
  have hx := B.exec
  have hb := B.bytes
  have hr := B.returns
  have hts := atoms_spec (ws := wsX2_passIf) B.pre
  have hown : s.vm.findClass RX2 = some m.cls := findClass_of_methodNamed B.named
  have hlocks := B.notSynchronized
  have hK := hsk.1
  have i2 : ∀ w ∈ wsX20, w ∈ wsX2_passIf := by decide +kernel
  subst hsz
  have hD := hD0.self (sz := s.heap.size)
  generalize hAe : va_A [(h0, .inr (2, [.ref tO, .int so, .int pl, .int bh, .int fa_])), (tO, .inr (3, [.ref sA, .int tl])), (sA, .inl (cC, 1600, .inl fs))] s.heap.size = A at hD ⊢
  have hA : ∀ q : Nat, s.heap.size ≤ q → A q := fun q h => by rw [← hAe]; exact Or.inr h
  have hS : va_S A s.heap s.heap [] := va_S.rf
  have hl := lv_entry ([.ref h0, .int p0]) (n := 2) (Nat.le_of_ble_eq_true rfl)
  rw [lg_entry_eq]
  generalize (lg_sl ([.ref h0, .int p0]) ++ List.replicate (2 - (lg_sl ([.ref h0, .int p0])).length) Slot.unset).toArray = ls at hl ⊢
  have hl : lv_has ls 2 [(0, .ref h0), (1, .int p0)] := hl
  refine lv_iload_n hx hb dX2_passIf_0 rfl (lv_at hl 1 rfl) ?_
  refine lv_if_ne (tgt := 12) hx hb dX2_passIf_1 (by decide) (fun c_1 => ?_) (fun c_1 => ?_)
  · skip
    refine lv_aload_n hx hb dX2_passIf_12 rfl (lv_at hl 0 rfl) ?_
    refine va_get (D := (dC, dI)) (ci := 2) (v := .int fa_) (C := RX2) (T := TX2) (N := 5) hx hb hts i2 hown hK hP 0 rfl rfl 4 (by decide) (hts (.fieldLink RX2 20 "StopSetter$Reader" "fault" "I") (by decide +kernel)) (fun _ h9 => h9) rfl dX2_passIf_13 ?_
    refine lv_if_ne (tgt := 23) hx hb dX2_passIf_16 (by decide) (fun c_16 => ?_) (fun c_16 => ?_)
    · skip
      have hP9 := hP.sub (ws' := [(h0, .inr (2, [.ref tO, .int so, .int pl, .int bh, .int fa_])), (tO, .inr (3, [.ref sA, .int tl])), (sA, .inl (cC, 1600, .inl fs))]) [0, 1, 2] rfl
      have hD9 := hD.sub (ws' := [(h0, .inr (2, [.ref tO, .int so, .int pl, .int bh, .int fa_])), (tO, .inr (3, [.ref sA, .int tl])), (sA, .inl (cC, 1600, .inl fs))]) [0, 1, 2] (by decide) rfl
      exact W.vret hx hb hr (fun t ht hW => ⟨⟨(so, pl, bh, fa_), rfl, trivial, by rw [ht]; exact hP9, hD9⟩, hS.F ht⟩) hS.2.2 dX2_passIf_23
    · skip
      refine lv_aload_n hx hb dX2_passIf_19 rfl (lv_at hl 0 rfl) ?_
      have hPc := hP.sub (ws' := [(h0, .inr (2, [.ref tO, .int so, .int pl, .int bh, .int fa_])), (tO, .inr (3, [.ref sA, .int tl])), (sA, .inl (cC, 1600, .inl fs))]) [0, 1, 2] rfl
      have hDc := hD.sub (ws' := [(h0, .inr (2, [.ref tO, .int so, .int pl, .int bh, .int fa_])), (tO, .inr (3, [.ref sA, .int tl])), (sA, .inl (cC, 1600, .inl fs))]) [0, 1, 2] (by decide) rfl
      have hFc := va_free (wc := [(h0, .inr (2, [.ref tO, .int so, .int pl, .int bh, .int fa_])), (tO, .inr (3, [.ref sA, .int tl])), (sA, .inl (cC, 1600, .inl fs))]) hD hS hA [0, 1, 2] rfl
      refine va_callv (va_runV (As := []) (rest := []) ⟨hx, hb, hml, hown, hts⟩ (k_advance l dC dI cI cZ cC cJ s.heap.size  h0 tO so pl bh fa_ sA tl fs ) (cwV 0 hts gX2_passIf_X2_advance rfl rfl rfl (by decide +kernel) ⟨Nat.le_of_ble_eq_true rfl, Nat.le_of_ble_eq_true rfl⟩) ⟨sPre_blind, va_recv hK hPc (ci := 2) (q0 := 0) rfl rfl, fun U hU hW => ⟨rfl, sPre_ok hsk hPc hDc hU hW⟩⟩ rfl rfl hl.1 rfl (lv_room (Nat.le_of_ble_eq_true rfl)) dX2_passIf_20 ⟨(show 0 + 0 ≤ 0 by omega), (show 0 + 0 ≤ 0 by omega)⟩) hS (fun q _ h => hFc q h) hFc (fun u t H1 locs ht hvm hw hB hz1 hk1 hS => ?_)
      obtain ⟨s_2, p_3, b_4⟩ := u
      try dsimp only at hw hB
      obtain ⟨hP1, hD1⟩ := hB
      rw [ht] at hP1
      obtain ⟨hP, hD⟩ := va_join (wr := []) (w1 := [(h0, .inr (2, [.ref tO, .int s_2, .int p_3, .int b_4, .int fa_])), (tO, .inr (3, [.ref sA, .int tl])), (sA, .inl (cC, 1600, .inl fs))]) hP hD [0, 1, 2] [] rfl rfl (by decide) (by decide) hk1 hFc hP1 hD1
      generalize H1 = H at hP hS ⊢
      have hP : va_P (dC, dI) vwCl [(h0, .inr (2, [.ref tO, .int s_2, .int p_3, .int b_4, .int fa_])), (tO, .inr (3, [.ref sA, .int tl])), (sA, .inl (cC, 1600, .inl fs))] H := hP
      have hD : va_D A [(h0, .inr (2, [.ref tO, .int s_2, .int p_3, .int b_4, .int fa_])), (tO, .inr (3, [.ref sA, .int tl])), (sA, .inl (cC, 1600, .inl fs))] := hD
      have hP9 := hP.sub (ws' := [(h0, .inr (2, [.ref tO, .int s_2, .int p_3, .int b_4, .int fa_])), (tO, .inr (3, [.ref sA, .int tl])), (sA, .inl (cC, 1600, .inl fs))]) [0, 1, 2] rfl
      have hD9 := hD.sub (ws' := [(h0, .inr (2, [.ref tO, .int s_2, .int p_3, .int b_4, .int fa_])), (tO, .inr (3, [.ref sA, .int tl])), (sA, .inl (cC, 1600, .inl fs))]) [0, 1, 2] (by decide) rfl
      exact W.vret hx hb hr (fun t ht hW => ⟨⟨(s_2, p_3, b_4, fa_), rfl, trivial, by rw [ht]; exact hP9, hD9⟩, hS.F ht⟩) hS.2.2 dX2_passIf_23
  · skip
    refine lv_aload_n hx hb dX2_passIf_4 rfl (lv_at hl 0 rfl) ?_
    refine lv_iconst (v := 1) hx hb dX2_passIf_5 (by decide) ?_
    have hPc := hP.sub (ws' := [(h0, .inr (2, [.ref tO, .int so, .int pl, .int bh, .int fa_]))]) [0] rfl
    have hDc := hD.sub (ws' := [(h0, .inr (2, [.ref tO, .int so, .int pl, .int bh, .int fa_]))]) [0] (by decide) rfl
    have hFc := va_free (wc := [(h0, .inr (2, [.ref tO, .int so, .int pl, .int bh, .int fa_]))]) hD hS hA [0] rfl
    refine va_callv (va_runV (As := [.int 1]) (rest := []) ⟨hx, hb, hml, hown, hts⟩ (k_refuse l dC dI cI cZ cC cJ s.heap.size  h0 tO so pl bh fa_ 1 ) (cwV 1 hts gX2_passIf_X2_refuse rfl rfl rfl (by decide +kernel) ⟨Nat.le_of_ble_eq_true rfl, Nat.le_of_ble_eq_true rfl⟩) ⟨sPre_blind, va_recv hK hPc (ci := 2) (q0 := 0) rfl rfl, fun U hU hW => ⟨rfl, sPre_ok hsk hPc hDc hU hW⟩⟩ rfl rfl hl.1 rfl (lv_room (Nat.le_of_ble_eq_true rfl)) dX2_passIf_6 ⟨(show 0 + 0 ≤ 0 by omega), (show 0 + 0 ≤ 0 by omega)⟩) hS (fun q _ h => hFc q h) hFc (fun u t H1 locs ht hvm hw hB hz1 hk1 hS => ?_)
    obtain ⟨f_6, rfl⟩ : ∃ z, z = u := ⟨_, rfl⟩
    try dsimp only at hw hB
    obtain ⟨hP1, hD1⟩ := hB
    rw [ht] at hP1
    obtain ⟨hP, hD⟩ := va_join (wr := [(tO, .inr (3, [.ref sA, .int tl])), (sA, .inl (cC, 1600, .inl fs))]) (w1 := [(h0, .inr (2, [.ref tO, .int so, .int pl, .int bh, .int f_6]))]) hP hD [0] [1, 2] rfl rfl (by decide) (by decide) hk1 hFc hP1 hD1
    generalize H1 = H at hP hS ⊢
    have hP : va_P (dC, dI) vwCl [(tO, .inr (3, [.ref sA, .int tl])), (sA, .inl (cC, 1600, .inl fs)), (h0, .inr (2, [.ref tO, .int so, .int pl, .int bh, .int f_6]))] H := hP
    have hD : va_D A [(tO, .inr (3, [.ref sA, .int tl])), (sA, .inl (cC, 1600, .inl fs)), (h0, .inr (2, [.ref tO, .int so, .int pl, .int bh, .int f_6]))] := hD
    refine lv_goto (tgt := 23) hx hb dX2_passIf_9 (by decide) ?_
    have hP9 := hP.sub (ws' := [(h0, .inr (2, [.ref tO, .int so, .int pl, .int bh, .int f_6])), (tO, .inr (3, [.ref sA, .int tl])), (sA, .inl (cC, 1600, .inl fs))]) [2, 0, 1] rfl
    have hD9 := hD.sub (ws' := [(h0, .inr (2, [.ref tO, .int so, .int pl, .int bh, .int f_6])), (tO, .inr (3, [.ref sA, .int tl])), (sA, .inl (cC, 1600, .inl fs))]) [2, 0, 1] (by decide) rfl
    exact W.vret hx hb hr (fun t ht hW => ⟨⟨(so, pl, bh, f_6), rfl, trivial, by rw [ht]; exact hP9, hD9⟩, hS.F ht⟩) hS.2.2 dX2_passIf_23
set_option maxHeartbeats 4000000 in
set_option maxRecDepth 100000 in
theorem k_isText (l : Launch) (dC : Nat → ClassId) (dI : Nat → Nat → Nat) (cI cZ cC cJ : ClassId) (sz : Nat) (adK adV : Nat → Nat) (h0 : Nat) (tO : Nat) (so : Int32) (pl : Int32) (bh : Int32) (fa_ : Int32) (sA : Nat) (tl : Int32) (fs : Nat → Int32) (i : Nat) (hi : i < 12) : Met l yX2_isText wsX2_isText ({ frames := 4, cells := 0, slots := 0, locals := 85 }) (va_Pc [.ref h0, .ref (adK i)] (fun U => sPre dC dI cI cZ cC cJ [(h0, .inr (2, [.ref tO, .int so, .int pl, .int bh, .int fa_])), (tO, .inr (3, [.ref sA, .int tl])), (sA, .inl (cC, 1600, .inl fs))] sz U ∧ tW adK adV (va_A [(h0, .inr (2, [.ref tO, .int so, .int pl, .int bh, .int fa_])), (tO, .inr (3, [.ref sA, .int tl])), (sA, .inl (cC, 1600, .inl fs))] sz) U)) (va_Qi (fun (r : Int32) (u : Unit) => True) (fun _ => sB dC dI (va_A [(h0, .inr (2, [.ref tO, .int so, .int pl, .int bh, .int fa_])), (tO, .inr (3, [.ref sA, .int tl])), (sA, .inl (cC, 1600, .inl fs))] sz) [(h0, .inr (2, [.ref tO, .int so, .int pl, .int bh, .int fa_])), (tO, .inr (3, [.ref sA, .int tl])), (sA, .inl (cC, 1600, .inl fs))]) (va_A [(h0, .inr (2, [.ref tO, .int so, .int pl, .int bh, .int fa_])), (tO, .inr (3, [.ref sA, .int tl])), (sA, .inl (cC, 1600, .inl fs))] sz)) 0 0 (va_A [(h0, .inr (2, [.ref tO, .int so, .int pl, .int bh, .int fa_])), (tO, .inr (3, [.ref sA, .int tl])), (sA, .inl (cC, 1600, .inl fs))] sz) := by
  refine Met.ofW (cc := cX2_isText) (maxL := 3) (ret := (some .boolean)) (by decide) rfl ?_
  intro p e s m args below meth c s₁ B hml hv
  obtain ⟨rfl, ⟨hsz, hP, hsk, hD0⟩, htw⟩ := hv
  have hx := B.exec
  have hb := B.bytes
  have hr := B.returns
  have hts := atoms_spec (ws := wsX2_isText) B.pre
  have hown : s.vm.findClass RX2 = some m.cls := findClass_of_methodNamed B.named
  have hlocks := B.notSynchronized
  have hK := hsk.1
  have i2 : ∀ w ∈ wsX20, w ∈ wsX2_isText := by decide +kernel
  subst hsz
  have hD := hD0.self (sz := s.heap.size)
  generalize hAe : va_A [(h0, .inr (2, [.ref tO, .int so, .int pl, .int bh, .int fa_])), (tO, .inr (3, [.ref sA, .int tl])), (sA, .inl (cC, 1600, .inl fs))] s.heap.size = A at hD htw ⊢
  have hA : ∀ q : Nat, s.heap.size ≤ q → A q := fun q h => by rw [← hAe]; exact Or.inr h
  have hS : va_S A s.heap s.heap [] := va_S.rf
  have hl := lv_entry ([.ref h0, .ref (adK i)]) (n := 3) (Nat.le_of_ble_eq_true rfl)
  rw [lg_entry_eq]
  generalize (lg_sl ([.ref h0, .ref (adK i)]) ++ List.replicate (3 - (lg_sl ([.ref h0, .ref (adK i)])).length) Slot.unset).toArray = ls at hl ⊢
  have hl : lv_has ls 3 [(0, .ref h0), (1, .ref (adK i))] := hl
  have hl9 := len_lt i hi
  refine lv_aload_n hx hb dX2_isText_0 rfl (lv_at hl 0 rfl) ?_
  refine va_get (D := (dC, dI)) (ci := 2) (v := .int so) (C := RX2) (T := TX2) (N := 5) hx hb hts i2 hown hK hP 0 rfl rfl 1 (by decide) (hts (.fieldLink RX2 32 "StopSetter$Reader" "sort" "I") (by decide +kernel)) (fun _ h9 => h9) rfl dX2_isText_1 ?_
  refine lv_iconst (v := 2) hx hb dX2_isText_4 (by decide) ?_
  refine lv_icmp_ne (tgt := 24) hx hb dX2_isText_5 (by decide) (fun c_5 => ?_) (fun c_5 => ?_)
  · skip
    refine lv_iconst (v := 0) hx hb dX2_isText_24 (by decide) ?_
    have hP9 := hP.sub (ws' := [(h0, .inr (2, [.ref tO, .int so, .int pl, .int bh, .int fa_])), (tO, .inr (3, [.ref sA, .int tl])), (sA, .inl (cC, 1600, .inl fs))]) [0, 1, 2] rfl
    have hD9 := hD.sub (ws' := [(h0, .inr (2, [.ref tO, .int so, .int pl, .int bh, .int fa_])), (tO, .inr (3, [.ref sA, .int tl])), (sA, .inl (cC, 1600, .inl fs))]) [0, 1, 2] (by decide) rfl
    exact W.zret (v := 0) (ty := .boolean) hx hb hr rfl (fun t ht hW => ⟨⟨0, (), rfl, trivial, by rw [ht]; exact hP9, hD9⟩, hS.F ht⟩) hS.2.2 dX2_isText_25
  · skip
    refine lv_aload_n hx hb dX2_isText_8 rfl (lv_at hl 0 rfl) ?_
    refine va_get (D := (dC, dI)) (ci := 2) (v := .int bh) (C := RX2) (T := TX2) (N := 5) hx hb hts i2 hown hK hP 0 rfl rfl 3 (by decide) (hts (.fieldLink RX2 24 "StopSetter$Reader" "behind" "I") (by decide +kernel)) (fun _ h9 => h9) rfl dX2_isText_9 ?_
    refine lv_aload_n hx hb dX2_isText_12 rfl (lv_at hl 0 rfl) ?_
    refine va_get (D := (dC, dI)) (ci := 2) (v := .int pl) (C := RX2) (T := TX2) (N := 5) hx hb hts i2 hown hK hP 0 rfl rfl 2 (by decide) (hts (.fieldLink RX2 106 "StopSetter$Reader" "place" "I") (by decide +kernel)) (fun _ h9 => h9) rfl dX2_isText_13 ?_
    refine lv_isub hx hb dX2_isText_16 ?_
    refine lv_topi (fun v_1 ev_1 => ?_)
    refine lv_aload_n hx hb dX2_isText_17 rfl (lv_at hl 1 rfl) ?_
    have hPc := hP.sub (ws' := []) [] rfl
    have hDc := hD.sub (ws' := []) [] (by decide) rfl
    have hFc := va_free (wc := []) hD hS hA [] rfl
    refine va_calli (va_runV (As := []) (rest := [.int v_1]) ⟨hx, hb, hml, hown, hts⟩ (k_length l dC dI cI cZ cC cJ s.heap.size adK adV i hi) (cwV 0 hts gX2_isText_J0_length_8abf5 rfl rfl rfl (by decide +kernel) ⟨Nat.le_of_ble_eq_true rfl, Nat.le_of_ble_eq_true rfl⟩) ⟨tW_blind, vk_recv htw.1 hi hS, fun U hU hW => ⟨rfl, sPre_ok hsk hPc hDc hU hW, tW_warm hW hU hS (fun q h => hFc q h) htw⟩⟩ rfl rfl hl.1 rfl (lv_room (Nat.le_of_ble_eq_true rfl)) dX2_isText_18 ⟨(show 0 + 0 ≤ 0 by omega), (show 0 + 0 ≤ 0 by omega)⟩) hS (fun q _ h => hFc q h) hFc (fun r_2 u t H1 locs ht hvm hw hB hz1 hk1 hS => ?_)
    try dsimp only at hw hB
    have hw_3 := hw
    obtain rfl : r_2 = nI (lenS.getD i 0) := hw_3
    obtain ⟨hP1, hD1⟩ := hB
    rw [ht] at hP1
    obtain ⟨hP, hD⟩ := va_join (wr := [(h0, .inr (2, [.ref tO, .int so, .int pl, .int bh, .int fa_])), (tO, .inr (3, [.ref sA, .int tl])), (sA, .inl (cC, 1600, .inl fs))]) (w1 := []) hP hD [] [0, 1, 2] rfl rfl (by decide) (by decide) hk1 hFc hP1 hD1
    generalize H1 = H at hP hS ⊢
    have hP : va_P (dC, dI) vwCl [(h0, .inr (2, [.ref tO, .int so, .int pl, .int bh, .int fa_])), (tO, .inr (3, [.ref sA, .int tl])), (sA, .inl (cC, 1600, .inl fs))] H := hP
    have hD : va_D A [(h0, .inr (2, [.ref tO, .int so, .int pl, .int bh, .int fa_])), (tO, .inr (3, [.ref sA, .int tl])), (sA, .inl (cC, 1600, .inl fs))] := hD
    refine lv_icmp_eq (tgt := 26) hx hb dX2_isText_21 (by decide) (fun c_21 => ?_) (fun c_21 => ?_)
    · skip
      refine lv_iconst (v := 0) hx hb dX2_isText_26 (by decide) ?_
      refine lv_istore_n (lv' := [(2, .int 0), (0, .ref h0), (1, .ref (adK i))]) hx hb dX2_isText_27 rfl hl (by decide) rfl (fun ls hl => ?_)
      have lp_28 : ∀ (n_28 : Nat) (k : Nat), lenS.getD i 0 + 1 ≤ k + n_28 → k ≤ lenS.getD i 0 → ∀ (H : Heap) (locs : List Loc) (ls : Array Slot), va_P (dC, dI) vwCl [(h0, .inr (2, [.ref tO, .int so, .int pl, .int bh, .int fa_])), (tO, .inr (3, [.ref sA, .int tl])), (sA, .inl (cC, 1600, .inl fs))] H → va_D A [(h0, .inr (2, [.ref tO, .int so, .int pl, .int bh, .int fa_])), (tO, .inr (3, [.ref sA, .int tl])), (sA, .inl (cC, 1600, .inl fs))] → va_S A s.heap H locs → lv_has ls 3 [(2, .int (nI k)), (0, .ref h0), (1, .ref (adK i))] → W p l e (headSpec wsX2_isText ({ frames := 4, cells := 0, slots := 0, locals := 85 })).room s m ([.ref h0, .ref (adK i)]).toArray below meth c H locs 0 0 (MQ below (va_Qi (fun (r : Int32) (u : Unit) => True) (fun _ => sB dC dI A [(h0, .inr (2, [.ref tO, .int so, .int pl, .int bh, .int fa_])), (tO, .inr (3, [.ref sA, .int tl])), (sA, .inl (cC, 1600, .inl fs))]) A) ([.ref h0, .ref (adK i)]).toArray s 0 0 A) (F0 m 28 ls []) := by
        intro n_28
        induction n_28 with
        | zero =>
          intro k fuel_28 hk
          exact absurd fuel_28 (by omega)
        | succ n_28 ih_28 =>
          intro k fuel_28 hk H locs ls hP hD hS hl
          refine lv_iload_n hx hb dX2_isText_28 rfl (lv_at hl 0 rfl) ?_
          refine lv_aload_n hx hb dX2_isText_29 rfl (lv_at hl 2 rfl) ?_
          have hPc := hP.sub (ws' := []) [] rfl
          have hDc := hD.sub (ws' := []) [] (by decide) rfl
          have hFc := va_free (wc := []) hD hS hA [] rfl
          refine va_calli (va_runV (As := []) (rest := [.int (nI k)]) ⟨hx, hb, hml, hown, hts⟩ (k_length l dC dI cI cZ cC cJ H.size adK adV i hi) (cwV 0 hts gX2_isText_J0_length_8abf5 rfl rfl rfl (by decide +kernel) ⟨Nat.le_of_ble_eq_true rfl, Nat.le_of_ble_eq_true rfl⟩) ⟨tW_blind, vk_recv htw.1 hi hS, fun U hU hW => ⟨rfl, sPre_ok hsk hPc hDc hU hW, tW_warm hW hU hS (fun q h => hFc q h) htw⟩⟩ rfl rfl hl.1 rfl (lv_room (Nat.le_of_ble_eq_true rfl)) dX2_isText_30 ⟨(show 0 + 0 ≤ 0 by omega), (show 0 + 0 ≤ 0 by omega)⟩) hS (fun q _ h => hFc q h) hFc (fun r_4 u t H1 locs ht hvm hw hB hz1 hk1 hS => ?_)
          try dsimp only at hw hB
          have hw_5 := hw
          obtain rfl : r_4 = nI (lenS.getD i 0) := hw_5
          obtain ⟨hP1, hD1⟩ := hB
          rw [ht] at hP1
          obtain ⟨hP, hD⟩ := va_join (wr := [(h0, .inr (2, [.ref tO, .int so, .int pl, .int bh, .int fa_])), (tO, .inr (3, [.ref sA, .int tl])), (sA, .inl (cC, 1600, .inl fs))]) (w1 := []) hP hD [] [0, 1, 2] rfl rfl (by decide) (by decide) hk1 hFc hP1 hD1
          generalize H1 = H at hP hS ⊢
          have hP : va_P (dC, dI) vwCl [(h0, .inr (2, [.ref tO, .int so, .int pl, .int bh, .int fa_])), (tO, .inr (3, [.ref sA, .int tl])), (sA, .inl (cC, 1600, .inl fs))] H := hP
          have hD : va_D A [(h0, .inr (2, [.ref tO, .int so, .int pl, .int bh, .int fa_])), (tO, .inr (3, [.ref sA, .int tl])), (sA, .inl (cC, 1600, .inl fs))] := hD
          refine lv_icmp_ge (tgt := 65) hx hb dX2_isText_33 (by decide) (fun c_33 => ?_) (fun c_33 => ?_)
          · skip
            refine lv_iconst (v := 1) hx hb dX2_isText_65 (by decide) ?_
            have hP9 := hP.sub (ws' := [(h0, .inr (2, [.ref tO, .int so, .int pl, .int bh, .int fa_])), (tO, .inr (3, [.ref sA, .int tl])), (sA, .inl (cC, 1600, .inl fs))]) [0, 1, 2] rfl
            have hD9 := hD.sub (ws' := [(h0, .inr (2, [.ref tO, .int so, .int pl, .int bh, .int fa_])), (tO, .inr (3, [.ref sA, .int tl])), (sA, .inl (cC, 1600, .inl fs))]) [0, 1, 2] (by decide) rfl
            exact W.zret (v := 1) (ty := .boolean) hx hb hr rfl (fun t ht hW => ⟨⟨1, (), rfl, trivial, by rw [ht]; exact hP9, hD9⟩, hS.F ht⟩) hS.2.2 dX2_isText_66
          · skip
            have hk3 : k < lenS.getD i 0 := nk_lt (N := lenS.getD i 0) rfl c_33 (by omega)
            refine lv_aload_n hx hb dX2_isText_36 rfl (lv_at hl 1 rfl) ?_
            refine va_get (D := (dC, dI)) (ci := 2) (v := .ref tO) (C := RX2) (T := TX2) (N := 5) hx hb hts i2 hown hK hP 0 rfl rfl 0 (by decide) (hts (.fieldLink RX2 9 "StopSetter$Reader" "tape" "LStopSetter$Tape;") (by decide +kernel)) (fun _ h9 => h9) rfl dX2_isText_37 ?_
            refine lv_aload_n hx hb dX2_isText_40 rfl (lv_at hl 1 rfl) ?_
            refine va_get (D := (dC, dI)) (ci := 2) (v := .int pl) (C := RX2) (T := TX2) (N := 5) hx hb hts i2 hown hK hP 0 rfl rfl 2 (by decide) (hts (.fieldLink RX2 106 "StopSetter$Reader" "place" "I") (by decide +kernel)) (fun _ h9 => h9) rfl dX2_isText_41 ?_
            refine lv_iload_n hx hb dX2_isText_44 rfl (lv_at hl 0 rfl) ?_
            refine lv_iadd hx hb dX2_isText_45 ?_
            refine lv_topi (fun v_6 ev_6 => ?_)
            have hPc := hP.sub (ws' := [(tO, .inr (3, [.ref sA, .int tl])), (sA, .inl (cC, 1600, .inl fs))]) [1, 2] rfl
            have hDc := hD.sub (ws' := [(tO, .inr (3, [.ref sA, .int tl])), (sA, .inl (cC, 1600, .inl fs))]) [1, 2] (by decide) rfl
            have hFc := va_free (wc := [(tO, .inr (3, [.ref sA, .int tl])), (sA, .inl (cC, 1600, .inl fs))]) hD hS hA [1, 2] rfl
            refine va_calli (va_runV (As := [.int v_6]) (rest := []) ⟨hx, hb, hml, hown, hts⟩ (k_signAt l dC dI cI cZ cC cJ H.size  tO sA tl fs v_6 ) (cwV 1 hts gX2_isText_X3_signAt rfl rfl rfl (by decide +kernel) ⟨Nat.le_of_ble_eq_true rfl, Nat.le_of_ble_eq_true rfl⟩) ⟨sPre_blind, va_recv hK hPc (ci := 3) (q0 := 0) rfl rfl, fun U hU hW => ⟨rfl, sPre_ok hsk hPc hDc hU hW⟩⟩ rfl rfl hl.1 rfl (lv_room (Nat.le_of_ble_eq_true rfl)) dX2_isText_46 ⟨(show 0 + 0 ≤ 0 by omega), (show 0 + 0 ≤ 0 by omega)⟩) hS (fun q _ h => hFc q h) hFc (fun r_7 u t H1 locs ht hvm hw hB hz1 hk1 hS => ?_)
            try dsimp only at hw hB
            obtain ⟨hP1, hD1⟩ := hB
            rw [ht] at hP1
            obtain ⟨hP, hD⟩ := va_join (wr := [(h0, .inr (2, [.ref tO, .int so, .int pl, .int bh, .int fa_]))]) (w1 := [(tO, .inr (3, [.ref sA, .int tl])), (sA, .inl (cC, 1600, .inl fs))]) hP hD [1, 2] [0] rfl rfl (by decide) (by decide) hk1 hFc hP1 hD1
            generalize H1 = H at hP hS ⊢
            have hP : va_P (dC, dI) vwCl [(h0, .inr (2, [.ref tO, .int so, .int pl, .int bh, .int fa_])), (tO, .inr (3, [.ref sA, .int tl])), (sA, .inl (cC, 1600, .inl fs))] H := hP
            have hD : va_D A [(h0, .inr (2, [.ref tO, .int so, .int pl, .int bh, .int fa_])), (tO, .inr (3, [.ref sA, .int tl])), (sA, .inl (cC, 1600, .inl fs))] := hD
            have hw_r_7 := hw
            refine lv_aload_n hx hb dX2_isText_49 rfl (lv_at hl 2 rfl) ?_
            refine lv_iload_n hx hb dX2_isText_50 rfl (lv_at hl 0 rfl) ?_
            have hPc := hP.sub (ws' := []) [] rfl
            have hDc := hD.sub (ws' := []) [] (by decide) rfl
            have hFc := va_free (wc := []) hD hS hA [] rfl
            refine va_calli (va_runV (As := [.int (nI k)]) (rest := [.int r_7]) ⟨hx, hb, hml, hown, hts⟩ (k_charAt l dC dI cI cZ cC cJ H.size adK adV i k hi hk3) (cwV 1 hts gX2_isText_J0_charAt_5068e rfl rfl rfl (by decide +kernel) ⟨Nat.le_of_ble_eq_true rfl, Nat.le_of_ble_eq_true rfl⟩) ⟨tW_blind, vk_recv htw.1 hi hS, fun U hU hW => ⟨rfl, sPre_ok hsk hPc hDc hU hW, tW_warm hW hU hS (fun q h => hFc q h) htw⟩⟩ rfl rfl hl.1 rfl (lv_room (Nat.le_of_ble_eq_true rfl)) dX2_isText_51 ⟨(show 0 + 0 ≤ 0 by omega), (show 0 + 0 ≤ 0 by omega)⟩) hS (fun q _ h => hFc q h) hFc (fun r_8 u t H1 locs ht hvm hw hB hz1 hk1 hS => ?_)
            try dsimp only at hw hB
            have hw_9 := hw
            obtain rfl : r_8 = ((bytS.getD i []).getD k 0 &&& 255) := hw_9
            obtain ⟨hP1, hD1⟩ := hB
            rw [ht] at hP1
            obtain ⟨hP, hD⟩ := va_join (wr := [(h0, .inr (2, [.ref tO, .int so, .int pl, .int bh, .int fa_])), (tO, .inr (3, [.ref sA, .int tl])), (sA, .inl (cC, 1600, .inl fs))]) (w1 := []) hP hD [] [0, 1, 2] rfl rfl (by decide) (by decide) hk1 hFc hP1 hD1
            generalize H1 = H at hP hS ⊢
            have hP : va_P (dC, dI) vwCl [(h0, .inr (2, [.ref tO, .int so, .int pl, .int bh, .int fa_])), (tO, .inr (3, [.ref sA, .int tl])), (sA, .inl (cC, 1600, .inl fs))] H := hP
            have hD : va_D A [(h0, .inr (2, [.ref tO, .int so, .int pl, .int bh, .int fa_])), (tO, .inr (3, [.ref sA, .int tl])), (sA, .inl (cC, 1600, .inl fs))] := hD
            refine lv_icmp_eq (tgt := 59) hx hb dX2_isText_54 (by decide) (fun c_54 => ?_) (fun c_54 => ?_)
            · skip
              refine lv_iinc (v := (nI (k + 1))) (lv' := [(2, .int (nI (k + 1))), (0, .ref h0), (1, .ref (adK i))]) hx hb dX2_isText_59 hl (k := 0) rfl (nI_1 k) (by decide) rfl (fun ls hl => ?_)
              refine lv_goto (tgt := 28) hx hb dX2_isText_62 (by decide) ?_
              exact ih_28  (k + 1) (by omega) (by omega) _ _ _ hP hD hS (lv_sub hl [0, 1, 2] rfl)
            · skip
              refine lv_iconst (v := 0) hx hb dX2_isText_57 (by decide) ?_
              have hP9 := hP.sub (ws' := [(h0, .inr (2, [.ref tO, .int so, .int pl, .int bh, .int fa_])), (tO, .inr (3, [.ref sA, .int tl])), (sA, .inl (cC, 1600, .inl fs))]) [0, 1, 2] rfl
              have hD9 := hD.sub (ws' := [(h0, .inr (2, [.ref tO, .int so, .int pl, .int bh, .int fa_])), (tO, .inr (3, [.ref sA, .int tl])), (sA, .inl (cC, 1600, .inl fs))]) [0, 1, 2] (by decide) rfl
              exact W.zret (v := 0) (ty := .boolean) hx hb hr rfl (fun t ht hW => ⟨⟨0, (), rfl, trivial, by rw [ht]; exact hP9, hD9⟩, hS.F ht⟩) hS.2.2 dX2_isText_58
      exact lp_28 (lenS.getD i 0 + 1) 0 (by omega) (by omega) _ _ _ hP hD hS (lv_sub hl [0, 1, 2] rfl)
    · skip
      refine lv_iconst (v := 0) hx hb dX2_isText_24 (by decide) ?_
      have hP9 := hP.sub (ws' := [(h0, .inr (2, [.ref tO, .int so, .int pl, .int bh, .int fa_])), (tO, .inr (3, [.ref sA, .int tl])), (sA, .inl (cC, 1600, .inl fs))]) [0, 1, 2] rfl
      have hD9 := hD.sub (ws' := [(h0, .inr (2, [.ref tO, .int so, .int pl, .int bh, .int fa_])), (tO, .inr (3, [.ref sA, .int tl])), (sA, .inl (cC, 1600, .inl fs))]) [0, 1, 2] (by decide) rfl
      exact W.zret (v := 0) (ty := .boolean) hx hb hr rfl (fun t ht hW => ⟨⟨0, (), rfl, trivial, by rw [ht]; exact hP9, hD9⟩, hS.F ht⟩) hS.2.2 dX2_isText_25
set_option maxHeartbeats 4000000 in
set_option maxRecDepth 100000 in
theorem k_goMarkHere (l : Launch) (dC : Nat → ClassId) (dI : Nat → Nat → Nat) (cI cZ cC cJ : ClassId) (sz : Nat) (adK adV : Nat → Nat) (h0 : Nat) (tO : Nat) (so : Int32) (pl : Int32) (bh : Int32) (fa_ : Int32) (sA : Nat) (tl : Int32) (fs : Nat → Int32)  : Met l yX2_goMarkHere wsX2_goMarkHere ({ frames := 5, cells := 0, slots := 0, locals := 107 }) (va_Pc [.ref h0] (fun U => sPre dC dI cI cZ cC cJ [(h0, .inr (2, [.ref tO, .int so, .int pl, .int bh, .int fa_])), (tO, .inr (3, [.ref sA, .int tl])), (sA, .inl (cC, 1600, .inl fs))] sz U ∧ tW adK adV (va_A [(h0, .inr (2, [.ref tO, .int so, .int pl, .int bh, .int fa_])), (tO, .inr (3, [.ref sA, .int tl])), (sA, .inl (cC, 1600, .inl fs))] sz) U)) (va_Qi (fun (r : Int32) (u : Unit) => True) (fun _ => sB dC dI (va_A [(h0, .inr (2, [.ref tO, .int so, .int pl, .int bh, .int fa_])), (tO, .inr (3, [.ref sA, .int tl])), (sA, .inl (cC, 1600, .inl fs))] sz) [(h0, .inr (2, [.ref tO, .int so, .int pl, .int bh, .int fa_])), (tO, .inr (3, [.ref sA, .int tl])), (sA, .inl (cC, 1600, .inl fs))]) (va_A [(h0, .inr (2, [.ref tO, .int so, .int pl, .int bh, .int fa_])), (tO, .inr (3, [.ref sA, .int tl])), (sA, .inl (cC, 1600, .inl fs))] sz)) 0 0 (va_A [(h0, .inr (2, [.ref tO, .int so, .int pl, .int bh, .int fa_])), (tO, .inr (3, [.ref sA, .int tl])), (sA, .inl (cC, 1600, .inl fs))] sz) := by
  refine Met.ofW (cc := cX2_goMarkHere) (maxL := 1) (ret := (some .int)) (by decide) rfl ?_
  intro p e s m args below meth c s₁ B hml hv
  obtain ⟨rfl, ⟨hsz, hP, hsk, hD0⟩, htw⟩ := hv
  have hx := B.exec
  have hb := B.bytes
  have hr := B.returns
  have hts := atoms_spec (ws := wsX2_goMarkHere) B.pre
  have hown : s.vm.findClass RX2 = some m.cls := findClass_of_methodNamed B.named
  have hlocks := B.notSynchronized
  have hK := hsk.1
  subst hsz
  have hD := hD0.self (sz := s.heap.size)
  generalize hAe : va_A [(h0, .inr (2, [.ref tO, .int so, .int pl, .int bh, .int fa_])), (tO, .inr (3, [.ref sA, .int tl])), (sA, .inl (cC, 1600, .inl fs))] s.heap.size = A at hD htw ⊢
  have hA : ∀ q : Nat, s.heap.size ≤ q → A q := fun q h => by rw [← hAe]; exact Or.inr h
  have hS : va_S A s.heap s.heap [] := va_S.rf
  have hl := lv_entry ([.ref h0]) (n := 1) (Nat.le_of_ble_eq_true rfl)
  rw [lg_entry_eq]
  generalize (lg_sl ([.ref h0]) ++ List.replicate (1 - (lg_sl ([.ref h0])).length) Slot.unset).toArray = ls at hl ⊢
  have hl : lv_has ls 1 [(0, .ref h0)] := hl
  refine lv_aload_n hx hb dX2_goMarkHere_0 rfl (lv_at hl 0 rfl) ?_
  refine va_ldcS (own := RX2) (index := 91) (tx := "comma") hx hb hown (htw.2.1 5 (by decide)) dX2_goMarkHere_1 ?_
  have hPc := hP.sub (ws' := [(h0, .inr (2, [.ref tO, .int so, .int pl, .int bh, .int fa_])), (tO, .inr (3, [.ref sA, .int tl])), (sA, .inl (cC, 1600, .inl fs))]) [0, 1, 2] rfl
  have hDc := hD.sub (ws' := [(h0, .inr (2, [.ref tO, .int so, .int pl, .int bh, .int fa_])), (tO, .inr (3, [.ref sA, .int tl])), (sA, .inl (cC, 1600, .inl fs))]) [0, 1, 2] (by decide) rfl
  have hFc := va_free (wc := [(h0, .inr (2, [.ref tO, .int so, .int pl, .int bh, .int fa_])), (tO, .inr (3, [.ref sA, .int tl])), (sA, .inl (cC, 1600, .inl fs))]) hD hS hA [0, 1, 2] rfl
  refine va_calli (va_runV (As := [.ref (adK 5)]) (rest := []) ⟨hx, hb, hml, hown, hts⟩ (k_isText l dC dI cI cZ cC cJ s.heap.size adK adV h0 tO so pl bh fa_ sA tl fs 5 (by first | assumption | decide | omega)) (cwV 1 hts gX2_goMarkHere_X2_isText rfl rfl rfl (by decide +kernel) ⟨Nat.le_of_ble_eq_true rfl, Nat.le_of_ble_eq_true rfl⟩) ⟨tW_blind, va_recv hK hPc (ci := 2) (q0 := 0) rfl rfl, fun U hU hW => ⟨rfl, sPre_ok hsk hPc hDc hU hW, tW_warm hW hU hS (fun q h => hFc q h) htw⟩⟩ rfl rfl hl.1 rfl (lv_room (Nat.le_of_ble_eq_true rfl)) dX2_goMarkHere_3 ⟨(show 0 + 0 ≤ 0 by omega), (show 0 + 0 ≤ 0 by omega)⟩) hS (fun q _ h => hFc q h) hFc (fun r_1 u t H1 locs ht hvm hw hB hz1 hk1 hS => ?_)
  try dsimp only at hw hB
  obtain ⟨hP1, hD1⟩ := hB
  rw [ht] at hP1
  obtain ⟨hP, hD⟩ := va_join (wr := []) (w1 := [(h0, .inr (2, [.ref tO, .int so, .int pl, .int bh, .int fa_])), (tO, .inr (3, [.ref sA, .int tl])), (sA, .inl (cC, 1600, .inl fs))]) hP hD [0, 1, 2] [] rfl rfl (by decide) (by decide) hk1 hFc hP1 hD1
  generalize H1 = H at hP hS ⊢
  have hP : va_P (dC, dI) vwCl [(h0, .inr (2, [.ref tO, .int so, .int pl, .int bh, .int fa_])), (tO, .inr (3, [.ref sA, .int tl])), (sA, .inl (cC, 1600, .inl fs))] H := hP
  have hD : va_D A [(h0, .inr (2, [.ref tO, .int so, .int pl, .int bh, .int fa_])), (tO, .inr (3, [.ref sA, .int tl])), (sA, .inl (cC, 1600, .inl fs))] := hD
  have hw_r_1 := hw
  refine lv_if_eq (tgt := 13) hx hb dX2_goMarkHere_6 (by decide) (fun c_6 => ?_) (fun c_6 => ?_)
  · skip
    refine lv_aload_n hx hb dX2_goMarkHere_13 rfl (lv_at hl 0 rfl) ?_
    refine va_ldcS (own := RX2) (index := 93) (tx := "open") hx hb hown (htw.2.1 6 (by decide)) dX2_goMarkHere_14 ?_
    have hPc := hP.sub (ws' := [(h0, .inr (2, [.ref tO, .int so, .int pl, .int bh, .int fa_])), (tO, .inr (3, [.ref sA, .int tl])), (sA, .inl (cC, 1600, .inl fs))]) [0, 1, 2] rfl
    have hDc := hD.sub (ws' := [(h0, .inr (2, [.ref tO, .int so, .int pl, .int bh, .int fa_])), (tO, .inr (3, [.ref sA, .int tl])), (sA, .inl (cC, 1600, .inl fs))]) [0, 1, 2] (by decide) rfl
    have hFc := va_free (wc := [(h0, .inr (2, [.ref tO, .int so, .int pl, .int bh, .int fa_])), (tO, .inr (3, [.ref sA, .int tl])), (sA, .inl (cC, 1600, .inl fs))]) hD hS hA [0, 1, 2] rfl
    refine va_calli (va_runV (As := [.ref (adK 6)]) (rest := []) ⟨hx, hb, hml, hown, hts⟩ (k_isText l dC dI cI cZ cC cJ H.size adK adV h0 tO so pl bh fa_ sA tl fs 6 (by first | assumption | decide | omega)) (cwV 1 hts gX2_goMarkHere_X2_isText rfl rfl rfl (by decide +kernel) ⟨Nat.le_of_ble_eq_true rfl, Nat.le_of_ble_eq_true rfl⟩) ⟨tW_blind, va_recv hK hPc (ci := 2) (q0 := 0) rfl rfl, fun U hU hW => ⟨rfl, sPre_ok hsk hPc hDc hU hW, tW_warm hW hU hS (fun q h => hFc q h) htw⟩⟩ rfl rfl hl.1 rfl (lv_room (Nat.le_of_ble_eq_true rfl)) dX2_goMarkHere_16 ⟨(show 0 + 0 ≤ 0 by omega), (show 0 + 0 ≤ 0 by omega)⟩) hS (fun q _ h => hFc q h) hFc (fun r_2 u t H1 locs ht hvm hw hB hz1 hk1 hS => ?_)
    try dsimp only at hw hB
    obtain ⟨hP1, hD1⟩ := hB
    rw [ht] at hP1
    obtain ⟨hP, hD⟩ := va_join (wr := []) (w1 := [(h0, .inr (2, [.ref tO, .int so, .int pl, .int bh, .int fa_])), (tO, .inr (3, [.ref sA, .int tl])), (sA, .inl (cC, 1600, .inl fs))]) hP hD [0, 1, 2] [] rfl rfl (by decide) (by decide) hk1 hFc hP1 hD1
    generalize H1 = H at hP hS ⊢
    have hP : va_P (dC, dI) vwCl [(h0, .inr (2, [.ref tO, .int so, .int pl, .int bh, .int fa_])), (tO, .inr (3, [.ref sA, .int tl])), (sA, .inl (cC, 1600, .inl fs))] H := hP
    have hD : va_D A [(h0, .inr (2, [.ref tO, .int so, .int pl, .int bh, .int fa_])), (tO, .inr (3, [.ref sA, .int tl])), (sA, .inl (cC, 1600, .inl fs))] := hD
    have hw_r_2 := hw
    refine lv_if_eq (tgt := 26) hx hb dX2_goMarkHere_19 (by decide) (fun c_19 => ?_) (fun c_19 => ?_)
    · skip
      refine lv_aload_n hx hb dX2_goMarkHere_26 rfl (lv_at hl 0 rfl) ?_
      refine va_ldcS (own := RX2) (index := 95) (tx := "close") hx hb hown (htw.2.1 7 (by decide)) dX2_goMarkHere_27 ?_
      have hPc := hP.sub (ws' := [(h0, .inr (2, [.ref tO, .int so, .int pl, .int bh, .int fa_])), (tO, .inr (3, [.ref sA, .int tl])), (sA, .inl (cC, 1600, .inl fs))]) [0, 1, 2] rfl
      have hDc := hD.sub (ws' := [(h0, .inr (2, [.ref tO, .int so, .int pl, .int bh, .int fa_])), (tO, .inr (3, [.ref sA, .int tl])), (sA, .inl (cC, 1600, .inl fs))]) [0, 1, 2] (by decide) rfl
      have hFc := va_free (wc := [(h0, .inr (2, [.ref tO, .int so, .int pl, .int bh, .int fa_])), (tO, .inr (3, [.ref sA, .int tl])), (sA, .inl (cC, 1600, .inl fs))]) hD hS hA [0, 1, 2] rfl
      refine va_calli (va_runV (As := [.ref (adK 7)]) (rest := []) ⟨hx, hb, hml, hown, hts⟩ (k_isText l dC dI cI cZ cC cJ H.size adK adV h0 tO so pl bh fa_ sA tl fs 7 (by first | assumption | decide | omega)) (cwV 1 hts gX2_goMarkHere_X2_isText rfl rfl rfl (by decide +kernel) ⟨Nat.le_of_ble_eq_true rfl, Nat.le_of_ble_eq_true rfl⟩) ⟨tW_blind, va_recv hK hPc (ci := 2) (q0 := 0) rfl rfl, fun U hU hW => ⟨rfl, sPre_ok hsk hPc hDc hU hW, tW_warm hW hU hS (fun q h => hFc q h) htw⟩⟩ rfl rfl hl.1 rfl (lv_room (Nat.le_of_ble_eq_true rfl)) dX2_goMarkHere_29 ⟨(show 0 + 0 ≤ 0 by omega), (show 0 + 0 ≤ 0 by omega)⟩) hS (fun q _ h => hFc q h) hFc (fun r_3 u t H1 locs ht hvm hw hB hz1 hk1 hS => ?_)
      try dsimp only at hw hB
      obtain ⟨hP1, hD1⟩ := hB
      rw [ht] at hP1
      obtain ⟨hP, hD⟩ := va_join (wr := []) (w1 := [(h0, .inr (2, [.ref tO, .int so, .int pl, .int bh, .int fa_])), (tO, .inr (3, [.ref sA, .int tl])), (sA, .inl (cC, 1600, .inl fs))]) hP hD [0, 1, 2] [] rfl rfl (by decide) (by decide) hk1 hFc hP1 hD1
      generalize H1 = H at hP hS ⊢
      have hP : va_P (dC, dI) vwCl [(h0, .inr (2, [.ref tO, .int so, .int pl, .int bh, .int fa_])), (tO, .inr (3, [.ref sA, .int tl])), (sA, .inl (cC, 1600, .inl fs))] H := hP
      have hD : va_D A [(h0, .inr (2, [.ref tO, .int so, .int pl, .int bh, .int fa_])), (tO, .inr (3, [.ref sA, .int tl])), (sA, .inl (cC, 1600, .inl fs))] := hD
      have hw_r_3 := hw
      refine lv_if_eq (tgt := 39) hx hb dX2_goMarkHere_32 (by decide) (fun c_32 => ?_) (fun c_32 => ?_)
      · skip
        refine lv_iconst (v := 0) hx hb dX2_goMarkHere_39 (by decide) ?_
        have hP9 := hP.sub (ws' := [(h0, .inr (2, [.ref tO, .int so, .int pl, .int bh, .int fa_])), (tO, .inr (3, [.ref sA, .int tl])), (sA, .inl (cC, 1600, .inl fs))]) [0, 1, 2] rfl
        have hD9 := hD.sub (ws' := [(h0, .inr (2, [.ref tO, .int so, .int pl, .int bh, .int fa_])), (tO, .inr (3, [.ref sA, .int tl])), (sA, .inl (cC, 1600, .inl fs))]) [0, 1, 2] (by decide) rfl
        exact W.iret (v := 0) hx hb hr (fun t ht hW => ⟨⟨0, (), rfl, trivial, by rw [ht]; exact hP9, hD9⟩, hS.F ht⟩) hS.2.2 dX2_goMarkHere_40
      · skip
        refine lv_iconst (v := 3) hx hb dX2_goMarkHere_35 (by decide) ?_
        refine lv_goto (tgt := 40) hx hb dX2_goMarkHere_36 (by decide) ?_
        have hP9 := hP.sub (ws' := [(h0, .inr (2, [.ref tO, .int so, .int pl, .int bh, .int fa_])), (tO, .inr (3, [.ref sA, .int tl])), (sA, .inl (cC, 1600, .inl fs))]) [0, 1, 2] rfl
        have hD9 := hD.sub (ws' := [(h0, .inr (2, [.ref tO, .int so, .int pl, .int bh, .int fa_])), (tO, .inr (3, [.ref sA, .int tl])), (sA, .inl (cC, 1600, .inl fs))]) [0, 1, 2] (by decide) rfl
        exact W.iret (v := 3) hx hb hr (fun t ht hW => ⟨⟨3, (), rfl, trivial, by rw [ht]; exact hP9, hD9⟩, hS.F ht⟩) hS.2.2 dX2_goMarkHere_40
    · skip
      refine lv_iconst (v := 2) hx hb dX2_goMarkHere_22 (by decide) ?_
      refine lv_goto (tgt := 40) hx hb dX2_goMarkHere_23 (by decide) ?_
      have hP9 := hP.sub (ws' := [(h0, .inr (2, [.ref tO, .int so, .int pl, .int bh, .int fa_])), (tO, .inr (3, [.ref sA, .int tl])), (sA, .inl (cC, 1600, .inl fs))]) [0, 1, 2] rfl
      have hD9 := hD.sub (ws' := [(h0, .inr (2, [.ref tO, .int so, .int pl, .int bh, .int fa_])), (tO, .inr (3, [.ref sA, .int tl])), (sA, .inl (cC, 1600, .inl fs))]) [0, 1, 2] (by decide) rfl
      exact W.iret (v := 2) hx hb hr (fun t ht hW => ⟨⟨2, (), rfl, trivial, by rw [ht]; exact hP9, hD9⟩, hS.F ht⟩) hS.2.2 dX2_goMarkHere_40
  · skip
    refine lv_iconst (v := 1) hx hb dX2_goMarkHere_9 (by decide) ?_
    refine lv_goto (tgt := 40) hx hb dX2_goMarkHere_10 (by decide) ?_
    have hP9 := hP.sub (ws' := [(h0, .inr (2, [.ref tO, .int so, .int pl, .int bh, .int fa_])), (tO, .inr (3, [.ref sA, .int tl])), (sA, .inl (cC, 1600, .inl fs))]) [0, 1, 2] rfl
    have hD9 := hD.sub (ws' := [(h0, .inr (2, [.ref tO, .int so, .int pl, .int bh, .int fa_])), (tO, .inr (3, [.ref sA, .int tl])), (sA, .inl (cC, 1600, .inl fs))]) [0, 1, 2] (by decide) rfl
    exact W.iret (v := 1) hx hb hr (fun t ht hW => ⟨⟨1, (), rfl, trivial, by rw [ht]; exact hP9, hD9⟩, hS.F ht⟩) hS.2.2 dX2_goMarkHere_40
set_option maxHeartbeats 4000000 in
set_option maxRecDepth 100000 in
theorem k_endMarkHere (l : Launch) (dC : Nat → ClassId) (dI : Nat → Nat → Nat) (cI cZ cC cJ : ClassId) (sz : Nat) (adK adV : Nat → Nat) (h0 : Nat) (tO : Nat) (so : Int32) (pl : Int32) (bh : Int32) (fa_ : Int32) (sA : Nat) (tl : Int32) (fs : Nat → Int32)  : Met l yX2_endMarkHere wsX2_endMarkHere ({ frames := 5, cells := 0, slots := 0, locals := 107 }) (va_Pc [.ref h0] (fun U => sPre dC dI cI cZ cC cJ [(h0, .inr (2, [.ref tO, .int so, .int pl, .int bh, .int fa_])), (tO, .inr (3, [.ref sA, .int tl])), (sA, .inl (cC, 1600, .inl fs))] sz U ∧ tW adK adV (va_A [(h0, .inr (2, [.ref tO, .int so, .int pl, .int bh, .int fa_])), (tO, .inr (3, [.ref sA, .int tl])), (sA, .inl (cC, 1600, .inl fs))] sz) U)) (va_Qi (fun (r : Int32) (u : Unit) => True) (fun _ => sB dC dI (va_A [(h0, .inr (2, [.ref tO, .int so, .int pl, .int bh, .int fa_])), (tO, .inr (3, [.ref sA, .int tl])), (sA, .inl (cC, 1600, .inl fs))] sz) [(h0, .inr (2, [.ref tO, .int so, .int pl, .int bh, .int fa_])), (tO, .inr (3, [.ref sA, .int tl])), (sA, .inl (cC, 1600, .inl fs))]) (va_A [(h0, .inr (2, [.ref tO, .int so, .int pl, .int bh, .int fa_])), (tO, .inr (3, [.ref sA, .int tl])), (sA, .inl (cC, 1600, .inl fs))] sz)) 0 0 (va_A [(h0, .inr (2, [.ref tO, .int so, .int pl, .int bh, .int fa_])), (tO, .inr (3, [.ref sA, .int tl])), (sA, .inl (cC, 1600, .inl fs))] sz) := by
  refine Met.ofW (cc := cX2_endMarkHere) (maxL := 1) (ret := (some .int)) (by decide) rfl ?_
  intro p e s m args below meth c s₁ B hml hv
  obtain ⟨rfl, ⟨hsz, hP, hsk, hD0⟩, htw⟩ := hv
  have hx := B.exec
  have hb := B.bytes
  have hr := B.returns
  have hts := atoms_spec (ws := wsX2_endMarkHere) B.pre
  have hown : s.vm.findClass RX2 = some m.cls := findClass_of_methodNamed B.named
  have hlocks := B.notSynchronized
  have hK := hsk.1
  subst hsz
  have hD := hD0.self (sz := s.heap.size)
  generalize hAe : va_A [(h0, .inr (2, [.ref tO, .int so, .int pl, .int bh, .int fa_])), (tO, .inr (3, [.ref sA, .int tl])), (sA, .inl (cC, 1600, .inl fs))] s.heap.size = A at hD htw ⊢
  have hA : ∀ q : Nat, s.heap.size ≤ q → A q := fun q h => by rw [← hAe]; exact Or.inr h
  have hS : va_S A s.heap s.heap [] := va_S.rf
  have hl := lv_entry ([.ref h0]) (n := 1) (Nat.le_of_ble_eq_true rfl)
  rw [lg_entry_eq]
  generalize (lg_sl ([.ref h0]) ++ List.replicate (1 - (lg_sl ([.ref h0])).length) Slot.unset).toArray = ls at hl ⊢
  have hl : lv_has ls 1 [(0, .ref h0)] := hl
  refine lv_aload_n hx hb dX2_endMarkHere_0 rfl (lv_at hl 0 rfl) ?_
  refine va_ldcS (own := RX2) (index := 97) (tx := "stop") hx hb hown (htw.2.1 9 (by decide)) dX2_endMarkHere_1 ?_
  have hPc := hP.sub (ws' := [(h0, .inr (2, [.ref tO, .int so, .int pl, .int bh, .int fa_])), (tO, .inr (3, [.ref sA, .int tl])), (sA, .inl (cC, 1600, .inl fs))]) [0, 1, 2] rfl
  have hDc := hD.sub (ws' := [(h0, .inr (2, [.ref tO, .int so, .int pl, .int bh, .int fa_])), (tO, .inr (3, [.ref sA, .int tl])), (sA, .inl (cC, 1600, .inl fs))]) [0, 1, 2] (by decide) rfl
  have hFc := va_free (wc := [(h0, .inr (2, [.ref tO, .int so, .int pl, .int bh, .int fa_])), (tO, .inr (3, [.ref sA, .int tl])), (sA, .inl (cC, 1600, .inl fs))]) hD hS hA [0, 1, 2] rfl
  refine va_calli (va_runV (As := [.ref (adK 9)]) (rest := []) ⟨hx, hb, hml, hown, hts⟩ (k_isText l dC dI cI cZ cC cJ s.heap.size adK adV h0 tO so pl bh fa_ sA tl fs 9 (by first | assumption | decide | omega)) (cwV 1 hts gX2_endMarkHere_X2_isText rfl rfl rfl (by decide +kernel) ⟨Nat.le_of_ble_eq_true rfl, Nat.le_of_ble_eq_true rfl⟩) ⟨tW_blind, va_recv hK hPc (ci := 2) (q0 := 0) rfl rfl, fun U hU hW => ⟨rfl, sPre_ok hsk hPc hDc hU hW, tW_warm hW hU hS (fun q h => hFc q h) htw⟩⟩ rfl rfl hl.1 rfl (lv_room (Nat.le_of_ble_eq_true rfl)) dX2_endMarkHere_3 ⟨(show 0 + 0 ≤ 0 by omega), (show 0 + 0 ≤ 0 by omega)⟩) hS (fun q _ h => hFc q h) hFc (fun r_1 u t H1 locs ht hvm hw hB hz1 hk1 hS => ?_)
  try dsimp only at hw hB
  obtain ⟨hP1, hD1⟩ := hB
  rw [ht] at hP1
  obtain ⟨hP, hD⟩ := va_join (wr := []) (w1 := [(h0, .inr (2, [.ref tO, .int so, .int pl, .int bh, .int fa_])), (tO, .inr (3, [.ref sA, .int tl])), (sA, .inl (cC, 1600, .inl fs))]) hP hD [0, 1, 2] [] rfl rfl (by decide) (by decide) hk1 hFc hP1 hD1
  generalize H1 = H at hP hS ⊢
  have hP : va_P (dC, dI) vwCl [(h0, .inr (2, [.ref tO, .int so, .int pl, .int bh, .int fa_])), (tO, .inr (3, [.ref sA, .int tl])), (sA, .inl (cC, 1600, .inl fs))] H := hP
  have hD : va_D A [(h0, .inr (2, [.ref tO, .int so, .int pl, .int bh, .int fa_])), (tO, .inr (3, [.ref sA, .int tl])), (sA, .inl (cC, 1600, .inl fs))] := hD
  have hw_r_1 := hw
  refine lv_if_eq (tgt := 13) hx hb dX2_endMarkHere_6 (by decide) (fun c_6 => ?_) (fun c_6 => ?_)
  · skip
    refine lv_aload_n hx hb dX2_endMarkHere_13 rfl (lv_at hl 0 rfl) ?_
    refine va_ldcS (own := RX2) (index := 99) (tx := "question") hx hb hown (htw.2.1 10 (by decide)) dX2_endMarkHere_14 ?_
    have hPc := hP.sub (ws' := [(h0, .inr (2, [.ref tO, .int so, .int pl, .int bh, .int fa_])), (tO, .inr (3, [.ref sA, .int tl])), (sA, .inl (cC, 1600, .inl fs))]) [0, 1, 2] rfl
    have hDc := hD.sub (ws' := [(h0, .inr (2, [.ref tO, .int so, .int pl, .int bh, .int fa_])), (tO, .inr (3, [.ref sA, .int tl])), (sA, .inl (cC, 1600, .inl fs))]) [0, 1, 2] (by decide) rfl
    have hFc := va_free (wc := [(h0, .inr (2, [.ref tO, .int so, .int pl, .int bh, .int fa_])), (tO, .inr (3, [.ref sA, .int tl])), (sA, .inl (cC, 1600, .inl fs))]) hD hS hA [0, 1, 2] rfl
    refine va_calli (va_runV (As := [.ref (adK 10)]) (rest := []) ⟨hx, hb, hml, hown, hts⟩ (k_isText l dC dI cI cZ cC cJ H.size adK adV h0 tO so pl bh fa_ sA tl fs 10 (by first | assumption | decide | omega)) (cwV 1 hts gX2_endMarkHere_X2_isText rfl rfl rfl (by decide +kernel) ⟨Nat.le_of_ble_eq_true rfl, Nat.le_of_ble_eq_true rfl⟩) ⟨tW_blind, va_recv hK hPc (ci := 2) (q0 := 0) rfl rfl, fun U hU hW => ⟨rfl, sPre_ok hsk hPc hDc hU hW, tW_warm hW hU hS (fun q h => hFc q h) htw⟩⟩ rfl rfl hl.1 rfl (lv_room (Nat.le_of_ble_eq_true rfl)) dX2_endMarkHere_16 ⟨(show 0 + 0 ≤ 0 by omega), (show 0 + 0 ≤ 0 by omega)⟩) hS (fun q _ h => hFc q h) hFc (fun r_2 u t H1 locs ht hvm hw hB hz1 hk1 hS => ?_)
    try dsimp only at hw hB
    obtain ⟨hP1, hD1⟩ := hB
    rw [ht] at hP1
    obtain ⟨hP, hD⟩ := va_join (wr := []) (w1 := [(h0, .inr (2, [.ref tO, .int so, .int pl, .int bh, .int fa_])), (tO, .inr (3, [.ref sA, .int tl])), (sA, .inl (cC, 1600, .inl fs))]) hP hD [0, 1, 2] [] rfl rfl (by decide) (by decide) hk1 hFc hP1 hD1
    generalize H1 = H at hP hS ⊢
    have hP : va_P (dC, dI) vwCl [(h0, .inr (2, [.ref tO, .int so, .int pl, .int bh, .int fa_])), (tO, .inr (3, [.ref sA, .int tl])), (sA, .inl (cC, 1600, .inl fs))] H := hP
    have hD : va_D A [(h0, .inr (2, [.ref tO, .int so, .int pl, .int bh, .int fa_])), (tO, .inr (3, [.ref sA, .int tl])), (sA, .inl (cC, 1600, .inl fs))] := hD
    have hw_r_2 := hw
    refine lv_if_eq (tgt := 26) hx hb dX2_endMarkHere_19 (by decide) (fun c_19 => ?_) (fun c_19 => ?_)
    · skip
      refine lv_aload_n hx hb dX2_endMarkHere_26 rfl (lv_at hl 0 rfl) ?_
      refine va_ldcS (own := RX2) (index := 101) (tx := "colon") hx hb hown (htw.2.1 11 (by decide)) dX2_endMarkHere_27 ?_
      have hPc := hP.sub (ws' := [(h0, .inr (2, [.ref tO, .int so, .int pl, .int bh, .int fa_])), (tO, .inr (3, [.ref sA, .int tl])), (sA, .inl (cC, 1600, .inl fs))]) [0, 1, 2] rfl
      have hDc := hD.sub (ws' := [(h0, .inr (2, [.ref tO, .int so, .int pl, .int bh, .int fa_])), (tO, .inr (3, [.ref sA, .int tl])), (sA, .inl (cC, 1600, .inl fs))]) [0, 1, 2] (by decide) rfl
      have hFc := va_free (wc := [(h0, .inr (2, [.ref tO, .int so, .int pl, .int bh, .int fa_])), (tO, .inr (3, [.ref sA, .int tl])), (sA, .inl (cC, 1600, .inl fs))]) hD hS hA [0, 1, 2] rfl
      refine va_calli (va_runV (As := [.ref (adK 11)]) (rest := []) ⟨hx, hb, hml, hown, hts⟩ (k_isText l dC dI cI cZ cC cJ H.size adK adV h0 tO so pl bh fa_ sA tl fs 11 (by first | assumption | decide | omega)) (cwV 1 hts gX2_endMarkHere_X2_isText rfl rfl rfl (by decide +kernel) ⟨Nat.le_of_ble_eq_true rfl, Nat.le_of_ble_eq_true rfl⟩) ⟨tW_blind, va_recv hK hPc (ci := 2) (q0 := 0) rfl rfl, fun U hU hW => ⟨rfl, sPre_ok hsk hPc hDc hU hW, tW_warm hW hU hS (fun q h => hFc q h) htw⟩⟩ rfl rfl hl.1 rfl (lv_room (Nat.le_of_ble_eq_true rfl)) dX2_endMarkHere_29 ⟨(show 0 + 0 ≤ 0 by omega), (show 0 + 0 ≤ 0 by omega)⟩) hS (fun q _ h => hFc q h) hFc (fun r_3 u t H1 locs ht hvm hw hB hz1 hk1 hS => ?_)
      try dsimp only at hw hB
      obtain ⟨hP1, hD1⟩ := hB
      rw [ht] at hP1
      obtain ⟨hP, hD⟩ := va_join (wr := []) (w1 := [(h0, .inr (2, [.ref tO, .int so, .int pl, .int bh, .int fa_])), (tO, .inr (3, [.ref sA, .int tl])), (sA, .inl (cC, 1600, .inl fs))]) hP hD [0, 1, 2] [] rfl rfl (by decide) (by decide) hk1 hFc hP1 hD1
      generalize H1 = H at hP hS ⊢
      have hP : va_P (dC, dI) vwCl [(h0, .inr (2, [.ref tO, .int so, .int pl, .int bh, .int fa_])), (tO, .inr (3, [.ref sA, .int tl])), (sA, .inl (cC, 1600, .inl fs))] H := hP
      have hD : va_D A [(h0, .inr (2, [.ref tO, .int so, .int pl, .int bh, .int fa_])), (tO, .inr (3, [.ref sA, .int tl])), (sA, .inl (cC, 1600, .inl fs))] := hD
      have hw_r_3 := hw
      refine lv_if_eq (tgt := 40) hx hb dX2_endMarkHere_32 (by decide) (fun c_32 => ?_) (fun c_32 => ?_)
      · skip
        refine lv_iconst (v := 0) hx hb dX2_endMarkHere_40 (by decide) ?_
        have hP9 := hP.sub (ws' := [(h0, .inr (2, [.ref tO, .int so, .int pl, .int bh, .int fa_])), (tO, .inr (3, [.ref sA, .int tl])), (sA, .inl (cC, 1600, .inl fs))]) [0, 1, 2] rfl
        have hD9 := hD.sub (ws' := [(h0, .inr (2, [.ref tO, .int so, .int pl, .int bh, .int fa_])), (tO, .inr (3, [.ref sA, .int tl])), (sA, .inl (cC, 1600, .inl fs))]) [0, 1, 2] (by decide) rfl
        exact W.iret (v := 0) hx hb hr (fun t ht hW => ⟨⟨0, (), rfl, trivial, by rw [ht]; exact hP9, hD9⟩, hS.F ht⟩) hS.2.2 dX2_endMarkHere_41
      · skip
        refine lv_bipush (v := 6) hx hb dX2_endMarkHere_35 (by decide) ?_
        refine lv_goto (tgt := 41) hx hb dX2_endMarkHere_37 (by decide) ?_
        have hP9 := hP.sub (ws' := [(h0, .inr (2, [.ref tO, .int so, .int pl, .int bh, .int fa_])), (tO, .inr (3, [.ref sA, .int tl])), (sA, .inl (cC, 1600, .inl fs))]) [0, 1, 2] rfl
        have hD9 := hD.sub (ws' := [(h0, .inr (2, [.ref tO, .int so, .int pl, .int bh, .int fa_])), (tO, .inr (3, [.ref sA, .int tl])), (sA, .inl (cC, 1600, .inl fs))]) [0, 1, 2] (by decide) rfl
        exact W.iret (v := 6) hx hb hr (fun t ht hW => ⟨⟨6, (), rfl, trivial, by rw [ht]; exact hP9, hD9⟩, hS.F ht⟩) hS.2.2 dX2_endMarkHere_41
    · skip
      refine lv_iconst (v := 5) hx hb dX2_endMarkHere_22 (by decide) ?_
      refine lv_goto (tgt := 41) hx hb dX2_endMarkHere_23 (by decide) ?_
      have hP9 := hP.sub (ws' := [(h0, .inr (2, [.ref tO, .int so, .int pl, .int bh, .int fa_])), (tO, .inr (3, [.ref sA, .int tl])), (sA, .inl (cC, 1600, .inl fs))]) [0, 1, 2] rfl
      have hD9 := hD.sub (ws' := [(h0, .inr (2, [.ref tO, .int so, .int pl, .int bh, .int fa_])), (tO, .inr (3, [.ref sA, .int tl])), (sA, .inl (cC, 1600, .inl fs))]) [0, 1, 2] (by decide) rfl
      exact W.iret (v := 5) hx hb hr (fun t ht hW => ⟨⟨5, (), rfl, trivial, by rw [ht]; exact hP9, hD9⟩, hS.F ht⟩) hS.2.2 dX2_endMarkHere_41
  · skip
    refine lv_iconst (v := 4) hx hb dX2_endMarkHere_9 (by decide) ?_
    refine lv_goto (tgt := 41) hx hb dX2_endMarkHere_10 (by decide) ?_
    have hP9 := hP.sub (ws' := [(h0, .inr (2, [.ref tO, .int so, .int pl, .int bh, .int fa_])), (tO, .inr (3, [.ref sA, .int tl])), (sA, .inl (cC, 1600, .inl fs))]) [0, 1, 2] rfl
    have hD9 := hD.sub (ws' := [(h0, .inr (2, [.ref tO, .int so, .int pl, .int bh, .int fa_])), (tO, .inr (3, [.ref sA, .int tl])), (sA, .inl (cC, 1600, .inl fs))]) [0, 1, 2] (by decide) rfl
    exact W.iret (v := 4) hx hb hr (fun t ht hW => ⟨⟨4, (), rfl, trivial, by rw [ht]; exact hP9, hD9⟩, hS.F ht⟩) hS.2.2 dX2_endMarkHere_41
set_option maxHeartbeats 4000000 in
set_option maxRecDepth 100000 in
theorem k_readGo (l : Launch) (dC : Nat → ClassId) (dI : Nat → Nat → Nat) (cI cZ cC cJ : ClassId) (sz : Nat) (adK adV : Nat → Nat) (h0 : Nat) (tO : Nat) (so : Int32) (pl : Int32) (bh : Int32) (fa_ : Int32) (sA : Nat) (tl : Int32) (fs : Nat → Int32) (g0 : Nat) (gF : Nat) (gK : Nat) (gT : Nat) (gC : Nat) (gM : Nat) (gc : Int32) (eF : Nat) (eC : Nat) (eM : Nat) (ec : Int32) (hopA : Nat) (fgF : Nat → Int32) (fgK : Nat → Int32) (fgT : Nat → Int32) (fgC : Nat → Int32) (fgM : Nat → Int32)  : Met l yX2_readGo wsX2_readGo ({ frames := 6, cells := 0, slots := 0, locals := 127 }) (va_Pc [.ref h0, .ref g0] (fun U => sPre dC dI cI cZ cC cJ [(h0, .inr (2, [.ref tO, .int so, .int pl, .int bh, .int fa_])), (tO, .inr (3, [.ref sA, .int tl])), (sA, .inl (cC, 1600, .inl fs)), (g0, .inr (1, [.ref gF, .ref gK, .ref gT, .ref gC, .ref gM, .int gc, .ref eF, .ref eC, .ref eM, .int ec, .ref hopA])), (gF, .inl (cI, 40, .inl fgF)), (gK, .inl (cI, 40, .inl fgK)), (gT, .inl (cI, 40, .inl fgT)), (gC, .inl (cI, 40, .inl fgC)), (gM, .inl (cI, 40, .inl fgM))] sz U ∧ tW adK adV (va_A [(h0, .inr (2, [.ref tO, .int so, .int pl, .int bh, .int fa_])), (tO, .inr (3, [.ref sA, .int tl])), (sA, .inl (cC, 1600, .inl fs)), (g0, .inr (1, [.ref gF, .ref gK, .ref gT, .ref gC, .ref gM, .int gc, .ref eF, .ref eC, .ref eM, .int ec, .ref hopA])), (gF, .inl (cI, 40, .inl fgF)), (gK, .inl (cI, 40, .inl fgK)), (gT, .inl (cI, 40, .inl fgT)), (gC, .inl (cI, 40, .inl fgC)), (gM, .inl (cI, 40, .inl fgM))] sz) U)) (va_Qv (fun (u : (Int32) × (Int32) × (Int32) × (Int32) × (Int32) × (Nat → Int32) × (Nat → Int32) × (Nat → Int32) × (Nat → Int32) × (Nat → Int32)) => match u with | (so2, pl2, bh2, fa_2, gc2, fgF2, fgK2, fgT2, fgC2, fgM2) => True) (fun (u : (Int32) × (Int32) × (Int32) × (Int32) × (Int32) × (Nat → Int32) × (Nat → Int32) × (Nat → Int32) × (Nat → Int32) × (Nat → Int32)) t => match u with | (so2, pl2, bh2, fa_2, gc2, fgF2, fgK2, fgT2, fgC2, fgM2) => sB dC dI (va_A [(h0, .inr (2, [.ref tO, .int so, .int pl, .int bh, .int fa_])), (tO, .inr (3, [.ref sA, .int tl])), (sA, .inl (cC, 1600, .inl fs)), (g0, .inr (1, [.ref gF, .ref gK, .ref gT, .ref gC, .ref gM, .int gc, .ref eF, .ref eC, .ref eM, .int ec, .ref hopA])), (gF, .inl (cI, 40, .inl fgF)), (gK, .inl (cI, 40, .inl fgK)), (gT, .inl (cI, 40, .inl fgT)), (gC, .inl (cI, 40, .inl fgC)), (gM, .inl (cI, 40, .inl fgM))] sz) [(h0, .inr (2, [.ref tO, .int so2, .int pl2, .int bh2, .int fa_2])), (tO, .inr (3, [.ref sA, .int tl])), (sA, .inl (cC, 1600, .inl fs)), (g0, .inr (1, [.ref gF, .ref gK, .ref gT, .ref gC, .ref gM, .int gc2, .ref eF, .ref eC, .ref eM, .int ec, .ref hopA])), (gF, .inl (cI, 40, .inl fgF2)), (gK, .inl (cI, 40, .inl fgK2)), (gT, .inl (cI, 40, .inl fgT2)), (gC, .inl (cI, 40, .inl fgC2)), (gM, .inl (cI, 40, .inl fgM2))] t) (va_A [(h0, .inr (2, [.ref tO, .int so, .int pl, .int bh, .int fa_])), (tO, .inr (3, [.ref sA, .int tl])), (sA, .inl (cC, 1600, .inl fs)), (g0, .inr (1, [.ref gF, .ref gK, .ref gT, .ref gC, .ref gM, .int gc, .ref eF, .ref eC, .ref eM, .int ec, .ref hopA])), (gF, .inl (cI, 40, .inl fgF)), (gK, .inl (cI, 40, .inl fgK)), (gT, .inl (cI, 40, .inl fgT)), (gC, .inl (cI, 40, .inl fgC)), (gM, .inl (cI, 40, .inl fgM))] sz)) 0 0 (va_A [(h0, .inr (2, [.ref tO, .int so, .int pl, .int bh, .int fa_])), (tO, .inr (3, [.ref sA, .int tl])), (sA, .inl (cC, 1600, .inl fs)), (g0, .inr (1, [.ref gF, .ref gK, .ref gT, .ref gC, .ref gM, .int gc, .ref eF, .ref eC, .ref eM, .int ec, .ref hopA])), (gF, .inl (cI, 40, .inl fgF)), (gK, .inl (cI, 40, .inl fgK)), (gT, .inl (cI, 40, .inl fgT)), (gC, .inl (cI, 40, .inl fgC)), (gM, .inl (cI, 40, .inl fgM))] sz) := by
  refine Met.ofW (cc := cX2_readGo) (maxL := 7) (ret := none) (by decide) rfl ?_
  intro p e s m args below meth c s₁ B hml hv
  obtain ⟨rfl, ⟨hsz, hP, hsk, hD0⟩, htw⟩ := hv
  have hx := B.exec
  have hb := B.bytes
  have hr := B.returns
  have hts := atoms_spec (ws := wsX2_readGo) B.pre
  have hown : s.vm.findClass RX2 = some m.cls := findClass_of_methodNamed B.named
  have hlocks := B.notSynchronized
  have hK := hsk.1
  have i1 : ∀ w ∈ wsX10, w ∈ wsX2_readGo := by decide +kernel
  have i2 : ∀ w ∈ wsX20, w ∈ wsX2_readGo := by decide +kernel
  subst hsz
  have hD := hD0.self (sz := s.heap.size)
  generalize hAe : va_A [(h0, .inr (2, [.ref tO, .int so, .int pl, .int bh, .int fa_])), (tO, .inr (3, [.ref sA, .int tl])), (sA, .inl (cC, 1600, .inl fs)), (g0, .inr (1, [.ref gF, .ref gK, .ref gT, .ref gC, .ref gM, .int gc, .ref eF, .ref eC, .ref eM, .int ec, .ref hopA])), (gF, .inl (cI, 40, .inl fgF)), (gK, .inl (cI, 40, .inl fgK)), (gT, .inl (cI, 40, .inl fgT)), (gC, .inl (cI, 40, .inl fgC)), (gM, .inl (cI, 40, .inl fgM))] s.heap.size = A at hD htw ⊢
  have hA : ∀ q : Nat, s.heap.size ≤ q → A q := fun q h => by rw [← hAe]; exact Or.inr h
  have hS : va_S A s.heap s.heap [] := va_S.rf
  have hl := lv_entry ([.ref h0, .ref g0]) (n := 7) (Nat.le_of_ble_eq_true rfl)
  rw [lg_entry_eq]
  generalize (lg_sl ([.ref h0, .ref g0]) ++ List.replicate (7 - (lg_sl ([.ref h0, .ref g0])).length) Slot.unset).toArray = ls at hl ⊢
  have hl : lv_has ls 7 [(0, .ref h0), (1, .ref g0)] := hl
  refine lv_aload_n hx hb dX2_readGo_0 rfl (lv_at hl 1 rfl) ?_
  refine va_getN (D := (dC, dI)) (ci := 1) (v := .int gc) (C := RX1) (T := TX1) (N := 11) hx hb hts i1 hown hK hP 3 rfl rfl 5 (by decide) (va_Nw.use rfl (hsk.2.1 ("StopSetter$Reader", 54, "StopSetter$Grammar", "goCount", "I", "StopSetter") (by decide +kernel))) (fun _ h9 => h9) rfl dX2_readGo_1 ?_
  refine lv_bipush (v := 40) hx hb dX2_readGo_4 (by decide) ?_
  refine lv_icmp_lt (tgt := 15) hx hb dX2_readGo_6 (by decide) (fun c_6 => ?_) (fun c_6 => ?_)
  · skip
    refine lv_aload_n hx hb dX2_readGo_15 rfl (lv_at hl 0 rfl) ?_
    have hPc := hP.sub (ws' := [(h0, .inr (2, [.ref tO, .int so, .int pl, .int bh, .int fa_])), (tO, .inr (3, [.ref sA, .int tl])), (sA, .inl (cC, 1600, .inl fs))]) [0, 1, 2] rfl
    have hDc := hD.sub (ws' := [(h0, .inr (2, [.ref tO, .int so, .int pl, .int bh, .int fa_])), (tO, .inr (3, [.ref sA, .int tl])), (sA, .inl (cC, 1600, .inl fs))]) [0, 1, 2] (by decide) rfl
    have hFc := va_free (wc := [(h0, .inr (2, [.ref tO, .int so, .int pl, .int bh, .int fa_])), (tO, .inr (3, [.ref sA, .int tl])), (sA, .inl (cC, 1600, .inl fs))]) hD hS hA [0, 1, 2] rfl
    refine va_callv (va_runV (As := []) (rest := []) ⟨hx, hb, hml, hown, hts⟩ (k_advance l dC dI cI cZ cC cJ s.heap.size  h0 tO so pl bh fa_ sA tl fs ) (cwV 0 hts gX2_readGo_X2_advance rfl rfl rfl (by decide +kernel) ⟨Nat.le_of_ble_eq_true rfl, Nat.le_of_ble_eq_true rfl⟩) ⟨sPre_blind, va_recv hK hPc (ci := 2) (q0 := 0) rfl rfl, fun U hU hW => ⟨rfl, sPre_ok hsk hPc hDc hU hW⟩⟩ rfl rfl hl.1 rfl (lv_room (Nat.le_of_ble_eq_true rfl)) dX2_readGo_16 ⟨(show 0 + 0 ≤ 0 by omega), (show 0 + 0 ≤ 0 by omega)⟩) hS (fun q _ h => hFc q h) hFc (fun u t H1 locs ht hvm hw hB hz1 hk1 hS => ?_)
    obtain ⟨s_2, p_3, b_4⟩ := u
    try dsimp only at hw hB
    obtain ⟨hP1, hD1⟩ := hB
    rw [ht] at hP1
    obtain ⟨hP, hD⟩ := va_join (wr := [(g0, .inr (1, [.ref gF, .ref gK, .ref gT, .ref gC, .ref gM, .int gc, .ref eF, .ref eC, .ref eM, .int ec, .ref hopA])), (gF, .inl (cI, 40, .inl fgF)), (gK, .inl (cI, 40, .inl fgK)), (gT, .inl (cI, 40, .inl fgT)), (gC, .inl (cI, 40, .inl fgC)), (gM, .inl (cI, 40, .inl fgM))]) (w1 := [(h0, .inr (2, [.ref tO, .int s_2, .int p_3, .int b_4, .int fa_])), (tO, .inr (3, [.ref sA, .int tl])), (sA, .inl (cC, 1600, .inl fs))]) hP hD [0, 1, 2] [3, 4, 5, 6, 7, 8] rfl rfl (by decide) (by decide) hk1 hFc hP1 hD1
    generalize H1 = H at hP hS ⊢
    have hP : va_P (dC, dI) vwCl [(g0, .inr (1, [.ref gF, .ref gK, .ref gT, .ref gC, .ref gM, .int gc, .ref eF, .ref eC, .ref eM, .int ec, .ref hopA])), (gF, .inl (cI, 40, .inl fgF)), (gK, .inl (cI, 40, .inl fgK)), (gT, .inl (cI, 40, .inl fgT)), (gC, .inl (cI, 40, .inl fgC)), (gM, .inl (cI, 40, .inl fgM)), (h0, .inr (2, [.ref tO, .int s_2, .int p_3, .int b_4, .int fa_])), (tO, .inr (3, [.ref sA, .int tl])), (sA, .inl (cC, 1600, .inl fs))] H := hP
    have hD : va_D A [(g0, .inr (1, [.ref gF, .ref gK, .ref gT, .ref gC, .ref gM, .int gc, .ref eF, .ref eC, .ref eM, .int ec, .ref hopA])), (gF, .inl (cI, 40, .inl fgF)), (gK, .inl (cI, 40, .inl fgK)), (gT, .inl (cI, 40, .inl fgT)), (gC, .inl (cI, 40, .inl fgC)), (gM, .inl (cI, 40, .inl fgM)), (h0, .inr (2, [.ref tO, .int s_2, .int p_3, .int b_4, .int fa_])), (tO, .inr (3, [.ref sA, .int tl])), (sA, .inl (cC, 1600, .inl fs))] := hD
    refine lv_aload_n hx hb dX2_readGo_19 rfl (lv_at hl 0 rfl) ?_
    refine lv_bipush (v := 9) hx hb dX2_readGo_20 (by decide) ?_
    have hPc := hP.sub (ws' := [(h0, .inr (2, [.ref tO, .int s_2, .int p_3, .int b_4, .int fa_])), (tO, .inr (3, [.ref sA, .int tl])), (sA, .inl (cC, 1600, .inl fs))]) [6, 7, 8] rfl
    have hDc := hD.sub (ws' := [(h0, .inr (2, [.ref tO, .int s_2, .int p_3, .int b_4, .int fa_])), (tO, .inr (3, [.ref sA, .int tl])), (sA, .inl (cC, 1600, .inl fs))]) [6, 7, 8] (by decide) rfl
    have hFc := va_free (wc := [(h0, .inr (2, [.ref tO, .int s_2, .int p_3, .int b_4, .int fa_])), (tO, .inr (3, [.ref sA, .int tl])), (sA, .inl (cC, 1600, .inl fs))]) hD hS hA [6, 7, 8] rfl
    refine va_calli (va_runV (As := [.int 9]) (rest := []) ⟨hx, hb, hml, hown, hts⟩ (k_readNumber l dC dI cI cZ cC cJ H.size  h0 tO s_2 p_3 b_4 fa_ sA tl fs 9 ) (cwV 1 hts gX2_readGo_X2_readNumber rfl rfl rfl (by decide +kernel) ⟨Nat.le_of_ble_eq_true rfl, Nat.le_of_ble_eq_true rfl⟩) ⟨sPre_blind, va_recv hK hPc (ci := 2) (q0 := 0) rfl rfl, fun U hU hW => ⟨rfl, sPre_ok hsk hPc hDc hU hW⟩⟩ rfl rfl hl.1 rfl (lv_room (Nat.le_of_ble_eq_true rfl)) dX2_readGo_22 ⟨(show 0 + 0 ≤ 0 by omega), (show 0 + 0 ≤ 0 by omega)⟩) hS (fun q _ h => hFc q h) hFc (fun r_5 u t H1 locs ht hvm hw hB hz1 hk1 hS => ?_)
    obtain ⟨s_6, p_7, b_8, f_9⟩ := u
    try dsimp only at hw hB
    obtain ⟨hP1, hD1⟩ := hB
    rw [ht] at hP1
    obtain ⟨hP, hD⟩ := va_join (wr := [(g0, .inr (1, [.ref gF, .ref gK, .ref gT, .ref gC, .ref gM, .int gc, .ref eF, .ref eC, .ref eM, .int ec, .ref hopA])), (gF, .inl (cI, 40, .inl fgF)), (gK, .inl (cI, 40, .inl fgK)), (gT, .inl (cI, 40, .inl fgT)), (gC, .inl (cI, 40, .inl fgC)), (gM, .inl (cI, 40, .inl fgM))]) (w1 := [(h0, .inr (2, [.ref tO, .int s_6, .int p_7, .int b_8, .int f_9])), (tO, .inr (3, [.ref sA, .int tl])), (sA, .inl (cC, 1600, .inl fs))]) hP hD [6, 7, 8] [0, 1, 2, 3, 4, 5] rfl rfl (by decide) (by decide) hk1 hFc hP1 hD1
    generalize H1 = H at hP hS ⊢
    have hP : va_P (dC, dI) vwCl [(g0, .inr (1, [.ref gF, .ref gK, .ref gT, .ref gC, .ref gM, .int gc, .ref eF, .ref eC, .ref eM, .int ec, .ref hopA])), (gF, .inl (cI, 40, .inl fgF)), (gK, .inl (cI, 40, .inl fgK)), (gT, .inl (cI, 40, .inl fgT)), (gC, .inl (cI, 40, .inl fgC)), (gM, .inl (cI, 40, .inl fgM)), (h0, .inr (2, [.ref tO, .int s_6, .int p_7, .int b_8, .int f_9])), (tO, .inr (3, [.ref sA, .int tl])), (sA, .inl (cC, 1600, .inl fs))] H := hP
    have hD : va_D A [(g0, .inr (1, [.ref gF, .ref gK, .ref gT, .ref gC, .ref gM, .int gc, .ref eF, .ref eC, .ref eM, .int ec, .ref hopA])), (gF, .inl (cI, 40, .inl fgF)), (gK, .inl (cI, 40, .inl fgK)), (gT, .inl (cI, 40, .inl fgT)), (gC, .inl (cI, 40, .inl fgC)), (gM, .inl (cI, 40, .inl fgM)), (h0, .inr (2, [.ref tO, .int s_6, .int p_7, .int b_8, .int f_9])), (tO, .inr (3, [.ref sA, .int tl])), (sA, .inl (cC, 1600, .inl fs))] := hD
    have hw_r_5 := hw
    refine lv_istore_n (lv' := [(2, .int r_5), (0, .ref h0), (1, .ref g0)]) hx hb dX2_readGo_25 rfl hl (by decide) rfl (fun ls hl => ?_)
    refine lv_aload_n hx hb dX2_readGo_26 rfl (lv_at hl 1 rfl) ?_
    refine lv_aload_n hx hb dX2_readGo_27 rfl (lv_at hl 1 rfl) ?_
    refine va_ldcS (own := RX2) (index := 61) (tx := "kind") hx hb hown (htw.2.1 1 (by decide)) dX2_readGo_28 ?_
    have hPc := hP.sub (ws' := [(h0, .inr (2, [.ref tO, .int s_6, .int p_7, .int b_8, .int f_9])), (tO, .inr (3, [.ref sA, .int tl])), (sA, .inl (cC, 1600, .inl fs))]) [6, 7, 8] rfl
    have hDc := hD.sub (ws' := [(h0, .inr (2, [.ref tO, .int s_6, .int p_7, .int b_8, .int f_9])), (tO, .inr (3, [.ref sA, .int tl])), (sA, .inl (cC, 1600, .inl fs))]) [6, 7, 8] (by decide) rfl
    have hFc := va_free (wc := [(h0, .inr (2, [.ref tO, .int s_6, .int p_7, .int b_8, .int f_9])), (tO, .inr (3, [.ref sA, .int tl])), (sA, .inl (cC, 1600, .inl fs))]) hD hS hA [6, 7, 8] rfl
    refine va_calli (va_runV (As := [.ref (adK 1)]) (rest := [.ref h0]) ⟨hx, hb, hml, hown, hts⟩ (k_isText l dC dI cI cZ cC cJ H.size adK adV h0 tO s_6 p_7 b_8 f_9 sA tl fs 1 (by first | assumption | decide | omega)) (cwV 1 hts gX2_readGo_X2_isText rfl rfl rfl (by decide +kernel) ⟨Nat.le_of_ble_eq_true rfl, Nat.le_of_ble_eq_true rfl⟩) ⟨tW_blind, va_recv hK hPc (ci := 2) (q0 := 0) rfl rfl, fun U hU hW => ⟨rfl, sPre_ok hsk hPc hDc hU hW, tW_warm hW hU hS (fun q h => hFc q h) htw⟩⟩ rfl rfl hl.1 rfl (lv_room (Nat.le_of_ble_eq_true rfl)) dX2_readGo_30 ⟨(show 0 + 0 ≤ 0 by omega), (show 0 + 0 ≤ 0 by omega)⟩) hS (fun q _ h => hFc q h) hFc (fun r_10 u t H1 locs ht hvm hw hB hz1 hk1 hS => ?_)
    try dsimp only at hw hB
    obtain ⟨hP1, hD1⟩ := hB
    rw [ht] at hP1
    obtain ⟨hP, hD⟩ := va_join (wr := [(g0, .inr (1, [.ref gF, .ref gK, .ref gT, .ref gC, .ref gM, .int gc, .ref eF, .ref eC, .ref eM, .int ec, .ref hopA])), (gF, .inl (cI, 40, .inl fgF)), (gK, .inl (cI, 40, .inl fgK)), (gT, .inl (cI, 40, .inl fgT)), (gC, .inl (cI, 40, .inl fgC)), (gM, .inl (cI, 40, .inl fgM))]) (w1 := [(h0, .inr (2, [.ref tO, .int s_6, .int p_7, .int b_8, .int f_9])), (tO, .inr (3, [.ref sA, .int tl])), (sA, .inl (cC, 1600, .inl fs))]) hP hD [6, 7, 8] [0, 1, 2, 3, 4, 5] rfl rfl (by decide) (by decide) hk1 hFc hP1 hD1
    generalize H1 = H at hP hS ⊢
    have hP : va_P (dC, dI) vwCl [(g0, .inr (1, [.ref gF, .ref gK, .ref gT, .ref gC, .ref gM, .int gc, .ref eF, .ref eC, .ref eM, .int ec, .ref hopA])), (gF, .inl (cI, 40, .inl fgF)), (gK, .inl (cI, 40, .inl fgK)), (gT, .inl (cI, 40, .inl fgT)), (gC, .inl (cI, 40, .inl fgC)), (gM, .inl (cI, 40, .inl fgM)), (h0, .inr (2, [.ref tO, .int s_6, .int p_7, .int b_8, .int f_9])), (tO, .inr (3, [.ref sA, .int tl])), (sA, .inl (cC, 1600, .inl fs))] H := hP
    have hD : va_D A [(g0, .inr (1, [.ref gF, .ref gK, .ref gT, .ref gC, .ref gM, .int gc, .ref eF, .ref eC, .ref eM, .int ec, .ref hopA])), (gF, .inl (cI, 40, .inl fgF)), (gK, .inl (cI, 40, .inl fgK)), (gT, .inl (cI, 40, .inl fgT)), (gC, .inl (cI, 40, .inl fgC)), (gM, .inl (cI, 40, .inl fgM)), (h0, .inr (2, [.ref tO, .int s_6, .int p_7, .int b_8, .int f_9])), (tO, .inr (3, [.ref sA, .int tl])), (sA, .inl (cC, 1600, .inl fs))] := hD
    have hw_r_10 := hw
    have hPc := hP.sub (ws' := [(h0, .inr (2, [.ref tO, .int s_6, .int p_7, .int b_8, .int f_9])), (tO, .inr (3, [.ref sA, .int tl])), (sA, .inl (cC, 1600, .inl fs))]) [6, 7, 8] rfl
    have hDc := hD.sub (ws' := [(h0, .inr (2, [.ref tO, .int s_6, .int p_7, .int b_8, .int f_9])), (tO, .inr (3, [.ref sA, .int tl])), (sA, .inl (cC, 1600, .inl fs))]) [6, 7, 8] (by decide) rfl
    have hFc := va_free (wc := [(h0, .inr (2, [.ref tO, .int s_6, .int p_7, .int b_8, .int f_9])), (tO, .inr (3, [.ref sA, .int tl])), (sA, .inl (cC, 1600, .inl fs))]) hD hS hA [6, 7, 8] rfl
    refine va_callv (va_runV (As := [.int r_10]) (rest := []) ⟨hx, hb, hml, hown, hts⟩ (k_passIf l dC dI cI cZ cC cJ H.size  h0 tO s_6 p_7 b_8 f_9 sA tl fs r_10 ) (cwV 1 hts gX2_readGo_X2_passIf rfl rfl rfl (by decide +kernel) ⟨Nat.le_of_ble_eq_true rfl, Nat.le_of_ble_eq_true rfl⟩) ⟨sPre_blind, va_recv hK hPc (ci := 2) (q0 := 0) rfl rfl, fun U hU hW => ⟨rfl, sPre_ok hsk hPc hDc hU hW⟩⟩ rfl rfl hl.1 rfl (lv_room (Nat.le_of_ble_eq_true rfl)) dX2_readGo_33 ⟨(show 0 + 0 ≤ 0 by omega), (show 0 + 0 ≤ 0 by omega)⟩) hS (fun q _ h => hFc q h) hFc (fun u t H1 locs ht hvm hw hB hz1 hk1 hS => ?_)
    obtain ⟨s_12, p_13, b_14, f_15⟩ := u
    try dsimp only at hw hB
    obtain ⟨hP1, hD1⟩ := hB
    rw [ht] at hP1
    obtain ⟨hP, hD⟩ := va_join (wr := [(g0, .inr (1, [.ref gF, .ref gK, .ref gT, .ref gC, .ref gM, .int gc, .ref eF, .ref eC, .ref eM, .int ec, .ref hopA])), (gF, .inl (cI, 40, .inl fgF)), (gK, .inl (cI, 40, .inl fgK)), (gT, .inl (cI, 40, .inl fgT)), (gC, .inl (cI, 40, .inl fgC)), (gM, .inl (cI, 40, .inl fgM))]) (w1 := [(h0, .inr (2, [.ref tO, .int s_12, .int p_13, .int b_14, .int f_15])), (tO, .inr (3, [.ref sA, .int tl])), (sA, .inl (cC, 1600, .inl fs))]) hP hD [6, 7, 8] [0, 1, 2, 3, 4, 5] rfl rfl (by decide) (by decide) hk1 hFc hP1 hD1
    generalize H1 = H at hP hS ⊢
    have hP : va_P (dC, dI) vwCl [(g0, .inr (1, [.ref gF, .ref gK, .ref gT, .ref gC, .ref gM, .int gc, .ref eF, .ref eC, .ref eM, .int ec, .ref hopA])), (gF, .inl (cI, 40, .inl fgF)), (gK, .inl (cI, 40, .inl fgK)), (gT, .inl (cI, 40, .inl fgT)), (gC, .inl (cI, 40, .inl fgC)), (gM, .inl (cI, 40, .inl fgM)), (h0, .inr (2, [.ref tO, .int s_12, .int p_13, .int b_14, .int f_15])), (tO, .inr (3, [.ref sA, .int tl])), (sA, .inl (cC, 1600, .inl fs))] H := hP
    have hD : va_D A [(g0, .inr (1, [.ref gF, .ref gK, .ref gT, .ref gC, .ref gM, .int gc, .ref eF, .ref eC, .ref eM, .int ec, .ref hopA])), (gF, .inl (cI, 40, .inl fgF)), (gK, .inl (cI, 40, .inl fgK)), (gT, .inl (cI, 40, .inl fgT)), (gC, .inl (cI, 40, .inl fgC)), (gM, .inl (cI, 40, .inl fgM)), (h0, .inr (2, [.ref tO, .int s_12, .int p_13, .int b_14, .int f_15])), (tO, .inr (3, [.ref sA, .int tl])), (sA, .inl (cC, 1600, .inl fs))] := hD
    refine lv_aload_n hx hb dX2_readGo_36 rfl (lv_at hl 1 rfl) ?_
    refine lv_bipush (v := 7) hx hb dX2_readGo_37 (by decide) ?_
    have hPc := hP.sub (ws' := [(h0, .inr (2, [.ref tO, .int s_12, .int p_13, .int b_14, .int f_15])), (tO, .inr (3, [.ref sA, .int tl])), (sA, .inl (cC, 1600, .inl fs))]) [6, 7, 8] rfl
    have hDc := hD.sub (ws' := [(h0, .inr (2, [.ref tO, .int s_12, .int p_13, .int b_14, .int f_15])), (tO, .inr (3, [.ref sA, .int tl])), (sA, .inl (cC, 1600, .inl fs))]) [6, 7, 8] (by decide) rfl
    have hFc := va_free (wc := [(h0, .inr (2, [.ref tO, .int s_12, .int p_13, .int b_14, .int f_15])), (tO, .inr (3, [.ref sA, .int tl])), (sA, .inl (cC, 1600, .inl fs))]) hD hS hA [6, 7, 8] rfl
    refine va_calli (va_runV (As := [.int 7]) (rest := []) ⟨hx, hb, hml, hown, hts⟩ (k_readNumber l dC dI cI cZ cC cJ H.size  h0 tO s_12 p_13 b_14 f_15 sA tl fs 7 ) (cwV 1 hts gX2_readGo_X2_readNumber rfl rfl rfl (by decide +kernel) ⟨Nat.le_of_ble_eq_true rfl, Nat.le_of_ble_eq_true rfl⟩) ⟨sPre_blind, va_recv hK hPc (ci := 2) (q0 := 0) rfl rfl, fun U hU hW => ⟨rfl, sPre_ok hsk hPc hDc hU hW⟩⟩ rfl rfl hl.1 rfl (lv_room (Nat.le_of_ble_eq_true rfl)) dX2_readGo_39 ⟨(show 0 + 0 ≤ 0 by omega), (show 0 + 0 ≤ 0 by omega)⟩) hS (fun q _ h => hFc q h) hFc (fun r_16 u t H1 locs ht hvm hw hB hz1 hk1 hS => ?_)
    obtain ⟨s_17, p_18, b_19, f_20⟩ := u
    try dsimp only at hw hB
    obtain ⟨hP1, hD1⟩ := hB
    rw [ht] at hP1
    obtain ⟨hP, hD⟩ := va_join (wr := [(g0, .inr (1, [.ref gF, .ref gK, .ref gT, .ref gC, .ref gM, .int gc, .ref eF, .ref eC, .ref eM, .int ec, .ref hopA])), (gF, .inl (cI, 40, .inl fgF)), (gK, .inl (cI, 40, .inl fgK)), (gT, .inl (cI, 40, .inl fgT)), (gC, .inl (cI, 40, .inl fgC)), (gM, .inl (cI, 40, .inl fgM))]) (w1 := [(h0, .inr (2, [.ref tO, .int s_17, .int p_18, .int b_19, .int f_20])), (tO, .inr (3, [.ref sA, .int tl])), (sA, .inl (cC, 1600, .inl fs))]) hP hD [6, 7, 8] [0, 1, 2, 3, 4, 5] rfl rfl (by decide) (by decide) hk1 hFc hP1 hD1
    generalize H1 = H at hP hS ⊢
    have hP : va_P (dC, dI) vwCl [(g0, .inr (1, [.ref gF, .ref gK, .ref gT, .ref gC, .ref gM, .int gc, .ref eF, .ref eC, .ref eM, .int ec, .ref hopA])), (gF, .inl (cI, 40, .inl fgF)), (gK, .inl (cI, 40, .inl fgK)), (gT, .inl (cI, 40, .inl fgT)), (gC, .inl (cI, 40, .inl fgC)), (gM, .inl (cI, 40, .inl fgM)), (h0, .inr (2, [.ref tO, .int s_17, .int p_18, .int b_19, .int f_20])), (tO, .inr (3, [.ref sA, .int tl])), (sA, .inl (cC, 1600, .inl fs))] H := hP
    have hD : va_D A [(g0, .inr (1, [.ref gF, .ref gK, .ref gT, .ref gC, .ref gM, .int gc, .ref eF, .ref eC, .ref eM, .int ec, .ref hopA])), (gF, .inl (cI, 40, .inl fgF)), (gK, .inl (cI, 40, .inl fgK)), (gT, .inl (cI, 40, .inl fgT)), (gC, .inl (cI, 40, .inl fgC)), (gM, .inl (cI, 40, .inl fgM)), (h0, .inr (2, [.ref tO, .int s_17, .int p_18, .int b_19, .int f_20])), (tO, .inr (3, [.ref sA, .int tl])), (sA, .inl (cC, 1600, .inl fs))] := hD
    have hw_r_16 := hw
    refine lv_istore_n (lv' := [(3, .int r_16), (2, .int r_5), (0, .ref h0), (1, .ref g0)]) hx hb dX2_readGo_42 rfl hl (by decide) rfl (fun ls hl => ?_)
    refine lv_aload_n hx hb dX2_readGo_43 rfl (lv_at hl 2 rfl) ?_
    refine lv_aload_n hx hb dX2_readGo_44 rfl (lv_at hl 2 rfl) ?_
    refine va_ldcS (own := RX2) (index := 67) (tx := "to") hx hb hown (htw.2.1 2 (by decide)) dX2_readGo_45 ?_
    have hPc := hP.sub (ws' := [(h0, .inr (2, [.ref tO, .int s_17, .int p_18, .int b_19, .int f_20])), (tO, .inr (3, [.ref sA, .int tl])), (sA, .inl (cC, 1600, .inl fs))]) [6, 7, 8] rfl
    have hDc := hD.sub (ws' := [(h0, .inr (2, [.ref tO, .int s_17, .int p_18, .int b_19, .int f_20])), (tO, .inr (3, [.ref sA, .int tl])), (sA, .inl (cC, 1600, .inl fs))]) [6, 7, 8] (by decide) rfl
    have hFc := va_free (wc := [(h0, .inr (2, [.ref tO, .int s_17, .int p_18, .int b_19, .int f_20])), (tO, .inr (3, [.ref sA, .int tl])), (sA, .inl (cC, 1600, .inl fs))]) hD hS hA [6, 7, 8] rfl
    refine va_calli (va_runV (As := [.ref (adK 2)]) (rest := [.ref h0]) ⟨hx, hb, hml, hown, hts⟩ (k_isText l dC dI cI cZ cC cJ H.size adK adV h0 tO s_17 p_18 b_19 f_20 sA tl fs 2 (by first | assumption | decide | omega)) (cwV 1 hts gX2_readGo_X2_isText rfl rfl rfl (by decide +kernel) ⟨Nat.le_of_ble_eq_true rfl, Nat.le_of_ble_eq_true rfl⟩) ⟨tW_blind, va_recv hK hPc (ci := 2) (q0 := 0) rfl rfl, fun U hU hW => ⟨rfl, sPre_ok hsk hPc hDc hU hW, tW_warm hW hU hS (fun q h => hFc q h) htw⟩⟩ rfl rfl hl.1 rfl (lv_room (Nat.le_of_ble_eq_true rfl)) dX2_readGo_47 ⟨(show 0 + 0 ≤ 0 by omega), (show 0 + 0 ≤ 0 by omega)⟩) hS (fun q _ h => hFc q h) hFc (fun r_21 u t H1 locs ht hvm hw hB hz1 hk1 hS => ?_)
    try dsimp only at hw hB
    obtain ⟨hP1, hD1⟩ := hB
    rw [ht] at hP1
    obtain ⟨hP, hD⟩ := va_join (wr := [(g0, .inr (1, [.ref gF, .ref gK, .ref gT, .ref gC, .ref gM, .int gc, .ref eF, .ref eC, .ref eM, .int ec, .ref hopA])), (gF, .inl (cI, 40, .inl fgF)), (gK, .inl (cI, 40, .inl fgK)), (gT, .inl (cI, 40, .inl fgT)), (gC, .inl (cI, 40, .inl fgC)), (gM, .inl (cI, 40, .inl fgM))]) (w1 := [(h0, .inr (2, [.ref tO, .int s_17, .int p_18, .int b_19, .int f_20])), (tO, .inr (3, [.ref sA, .int tl])), (sA, .inl (cC, 1600, .inl fs))]) hP hD [6, 7, 8] [0, 1, 2, 3, 4, 5] rfl rfl (by decide) (by decide) hk1 hFc hP1 hD1
    generalize H1 = H at hP hS ⊢
    have hP : va_P (dC, dI) vwCl [(g0, .inr (1, [.ref gF, .ref gK, .ref gT, .ref gC, .ref gM, .int gc, .ref eF, .ref eC, .ref eM, .int ec, .ref hopA])), (gF, .inl (cI, 40, .inl fgF)), (gK, .inl (cI, 40, .inl fgK)), (gT, .inl (cI, 40, .inl fgT)), (gC, .inl (cI, 40, .inl fgC)), (gM, .inl (cI, 40, .inl fgM)), (h0, .inr (2, [.ref tO, .int s_17, .int p_18, .int b_19, .int f_20])), (tO, .inr (3, [.ref sA, .int tl])), (sA, .inl (cC, 1600, .inl fs))] H := hP
    have hD : va_D A [(g0, .inr (1, [.ref gF, .ref gK, .ref gT, .ref gC, .ref gM, .int gc, .ref eF, .ref eC, .ref eM, .int ec, .ref hopA])), (gF, .inl (cI, 40, .inl fgF)), (gK, .inl (cI, 40, .inl fgK)), (gT, .inl (cI, 40, .inl fgT)), (gC, .inl (cI, 40, .inl fgC)), (gM, .inl (cI, 40, .inl fgM)), (h0, .inr (2, [.ref tO, .int s_17, .int p_18, .int b_19, .int f_20])), (tO, .inr (3, [.ref sA, .int tl])), (sA, .inl (cC, 1600, .inl fs))] := hD
    have hw_r_21 := hw
    have hPc := hP.sub (ws' := [(h0, .inr (2, [.ref tO, .int s_17, .int p_18, .int b_19, .int f_20])), (tO, .inr (3, [.ref sA, .int tl])), (sA, .inl (cC, 1600, .inl fs))]) [6, 7, 8] rfl
    have hDc := hD.sub (ws' := [(h0, .inr (2, [.ref tO, .int s_17, .int p_18, .int b_19, .int f_20])), (tO, .inr (3, [.ref sA, .int tl])), (sA, .inl (cC, 1600, .inl fs))]) [6, 7, 8] (by decide) rfl
    have hFc := va_free (wc := [(h0, .inr (2, [.ref tO, .int s_17, .int p_18, .int b_19, .int f_20])), (tO, .inr (3, [.ref sA, .int tl])), (sA, .inl (cC, 1600, .inl fs))]) hD hS hA [6, 7, 8] rfl
    refine va_callv (va_runV (As := [.int r_21]) (rest := []) ⟨hx, hb, hml, hown, hts⟩ (k_passIf l dC dI cI cZ cC cJ H.size  h0 tO s_17 p_18 b_19 f_20 sA tl fs r_21 ) (cwV 1 hts gX2_readGo_X2_passIf rfl rfl rfl (by decide +kernel) ⟨Nat.le_of_ble_eq_true rfl, Nat.le_of_ble_eq_true rfl⟩) ⟨sPre_blind, va_recv hK hPc (ci := 2) (q0 := 0) rfl rfl, fun U hU hW => ⟨rfl, sPre_ok hsk hPc hDc hU hW⟩⟩ rfl rfl hl.1 rfl (lv_room (Nat.le_of_ble_eq_true rfl)) dX2_readGo_50 ⟨(show 0 + 0 ≤ 0 by omega), (show 0 + 0 ≤ 0 by omega)⟩) hS (fun q _ h => hFc q h) hFc (fun u t H1 locs ht hvm hw hB hz1 hk1 hS => ?_)
    obtain ⟨s_23, p_24, b_25, f_26⟩ := u
    try dsimp only at hw hB
    obtain ⟨hP1, hD1⟩ := hB
    rw [ht] at hP1
    obtain ⟨hP, hD⟩ := va_join (wr := [(g0, .inr (1, [.ref gF, .ref gK, .ref gT, .ref gC, .ref gM, .int gc, .ref eF, .ref eC, .ref eM, .int ec, .ref hopA])), (gF, .inl (cI, 40, .inl fgF)), (gK, .inl (cI, 40, .inl fgK)), (gT, .inl (cI, 40, .inl fgT)), (gC, .inl (cI, 40, .inl fgC)), (gM, .inl (cI, 40, .inl fgM))]) (w1 := [(h0, .inr (2, [.ref tO, .int s_23, .int p_24, .int b_25, .int f_26])), (tO, .inr (3, [.ref sA, .int tl])), (sA, .inl (cC, 1600, .inl fs))]) hP hD [6, 7, 8] [0, 1, 2, 3, 4, 5] rfl rfl (by decide) (by decide) hk1 hFc hP1 hD1
    generalize H1 = H at hP hS ⊢
    have hP : va_P (dC, dI) vwCl [(g0, .inr (1, [.ref gF, .ref gK, .ref gT, .ref gC, .ref gM, .int gc, .ref eF, .ref eC, .ref eM, .int ec, .ref hopA])), (gF, .inl (cI, 40, .inl fgF)), (gK, .inl (cI, 40, .inl fgK)), (gT, .inl (cI, 40, .inl fgT)), (gC, .inl (cI, 40, .inl fgC)), (gM, .inl (cI, 40, .inl fgM)), (h0, .inr (2, [.ref tO, .int s_23, .int p_24, .int b_25, .int f_26])), (tO, .inr (3, [.ref sA, .int tl])), (sA, .inl (cC, 1600, .inl fs))] H := hP
    have hD : va_D A [(g0, .inr (1, [.ref gF, .ref gK, .ref gT, .ref gC, .ref gM, .int gc, .ref eF, .ref eC, .ref eM, .int ec, .ref hopA])), (gF, .inl (cI, 40, .inl fgF)), (gK, .inl (cI, 40, .inl fgK)), (gT, .inl (cI, 40, .inl fgT)), (gC, .inl (cI, 40, .inl fgC)), (gM, .inl (cI, 40, .inl fgM)), (h0, .inr (2, [.ref tO, .int s_23, .int p_24, .int b_25, .int f_26])), (tO, .inr (3, [.ref sA, .int tl])), (sA, .inl (cC, 1600, .inl fs))] := hD
    refine lv_aload_n hx hb dX2_readGo_53 rfl (lv_at hl 2 rfl) ?_
    refine lv_bipush (v := 9) hx hb dX2_readGo_54 (by decide) ?_
    have hPc := hP.sub (ws' := [(h0, .inr (2, [.ref tO, .int s_23, .int p_24, .int b_25, .int f_26])), (tO, .inr (3, [.ref sA, .int tl])), (sA, .inl (cC, 1600, .inl fs))]) [6, 7, 8] rfl
    have hDc := hD.sub (ws' := [(h0, .inr (2, [.ref tO, .int s_23, .int p_24, .int b_25, .int f_26])), (tO, .inr (3, [.ref sA, .int tl])), (sA, .inl (cC, 1600, .inl fs))]) [6, 7, 8] (by decide) rfl
    have hFc := va_free (wc := [(h0, .inr (2, [.ref tO, .int s_23, .int p_24, .int b_25, .int f_26])), (tO, .inr (3, [.ref sA, .int tl])), (sA, .inl (cC, 1600, .inl fs))]) hD hS hA [6, 7, 8] rfl
    refine va_calli (va_runV (As := [.int 9]) (rest := []) ⟨hx, hb, hml, hown, hts⟩ (k_readNumber l dC dI cI cZ cC cJ H.size  h0 tO s_23 p_24 b_25 f_26 sA tl fs 9 ) (cwV 1 hts gX2_readGo_X2_readNumber rfl rfl rfl (by decide +kernel) ⟨Nat.le_of_ble_eq_true rfl, Nat.le_of_ble_eq_true rfl⟩) ⟨sPre_blind, va_recv hK hPc (ci := 2) (q0 := 0) rfl rfl, fun U hU hW => ⟨rfl, sPre_ok hsk hPc hDc hU hW⟩⟩ rfl rfl hl.1 rfl (lv_room (Nat.le_of_ble_eq_true rfl)) dX2_readGo_56 ⟨(show 0 + 0 ≤ 0 by omega), (show 0 + 0 ≤ 0 by omega)⟩) hS (fun q _ h => hFc q h) hFc (fun r_27 u t H1 locs ht hvm hw hB hz1 hk1 hS => ?_)
    obtain ⟨s_28, p_29, b_30, f_31⟩ := u
    try dsimp only at hw hB
    obtain ⟨hP1, hD1⟩ := hB
    rw [ht] at hP1
    obtain ⟨hP, hD⟩ := va_join (wr := [(g0, .inr (1, [.ref gF, .ref gK, .ref gT, .ref gC, .ref gM, .int gc, .ref eF, .ref eC, .ref eM, .int ec, .ref hopA])), (gF, .inl (cI, 40, .inl fgF)), (gK, .inl (cI, 40, .inl fgK)), (gT, .inl (cI, 40, .inl fgT)), (gC, .inl (cI, 40, .inl fgC)), (gM, .inl (cI, 40, .inl fgM))]) (w1 := [(h0, .inr (2, [.ref tO, .int s_28, .int p_29, .int b_30, .int f_31])), (tO, .inr (3, [.ref sA, .int tl])), (sA, .inl (cC, 1600, .inl fs))]) hP hD [6, 7, 8] [0, 1, 2, 3, 4, 5] rfl rfl (by decide) (by decide) hk1 hFc hP1 hD1
    generalize H1 = H at hP hS ⊢
    have hP : va_P (dC, dI) vwCl [(g0, .inr (1, [.ref gF, .ref gK, .ref gT, .ref gC, .ref gM, .int gc, .ref eF, .ref eC, .ref eM, .int ec, .ref hopA])), (gF, .inl (cI, 40, .inl fgF)), (gK, .inl (cI, 40, .inl fgK)), (gT, .inl (cI, 40, .inl fgT)), (gC, .inl (cI, 40, .inl fgC)), (gM, .inl (cI, 40, .inl fgM)), (h0, .inr (2, [.ref tO, .int s_28, .int p_29, .int b_30, .int f_31])), (tO, .inr (3, [.ref sA, .int tl])), (sA, .inl (cC, 1600, .inl fs))] H := hP
    have hD : va_D A [(g0, .inr (1, [.ref gF, .ref gK, .ref gT, .ref gC, .ref gM, .int gc, .ref eF, .ref eC, .ref eM, .int ec, .ref hopA])), (gF, .inl (cI, 40, .inl fgF)), (gK, .inl (cI, 40, .inl fgK)), (gT, .inl (cI, 40, .inl fgT)), (gC, .inl (cI, 40, .inl fgC)), (gM, .inl (cI, 40, .inl fgM)), (h0, .inr (2, [.ref tO, .int s_28, .int p_29, .int b_30, .int f_31])), (tO, .inr (3, [.ref sA, .int tl])), (sA, .inl (cC, 1600, .inl fs))] := hD
    have hw_r_27 := hw
    refine lv_istore (lv' := [(4, .int r_27), (3, .int r_16), (2, .int r_5), (0, .ref h0), (1, .ref g0)]) hx hb dX2_readGo_59 hl (by decide) rfl (fun ls hl => ?_)
    refine lv_aload_n hx hb dX2_readGo_61 rfl (lv_at hl 3 rfl) ?_
    refine lv_aload_n hx hb dX2_readGo_62 rfl (lv_at hl 3 rfl) ?_
    refine va_ldcS (own := RX2) (index := 69) (tx := "cost") hx hb hown (htw.2.1 3 (by decide)) dX2_readGo_63 ?_
    have hPc := hP.sub (ws' := [(h0, .inr (2, [.ref tO, .int s_28, .int p_29, .int b_30, .int f_31])), (tO, .inr (3, [.ref sA, .int tl])), (sA, .inl (cC, 1600, .inl fs))]) [6, 7, 8] rfl
    have hDc := hD.sub (ws' := [(h0, .inr (2, [.ref tO, .int s_28, .int p_29, .int b_30, .int f_31])), (tO, .inr (3, [.ref sA, .int tl])), (sA, .inl (cC, 1600, .inl fs))]) [6, 7, 8] (by decide) rfl
    have hFc := va_free (wc := [(h0, .inr (2, [.ref tO, .int s_28, .int p_29, .int b_30, .int f_31])), (tO, .inr (3, [.ref sA, .int tl])), (sA, .inl (cC, 1600, .inl fs))]) hD hS hA [6, 7, 8] rfl
    refine va_calli (va_runV (As := [.ref (adK 3)]) (rest := [.ref h0]) ⟨hx, hb, hml, hown, hts⟩ (k_isText l dC dI cI cZ cC cJ H.size adK adV h0 tO s_28 p_29 b_30 f_31 sA tl fs 3 (by first | assumption | decide | omega)) (cwV 1 hts gX2_readGo_X2_isText rfl rfl rfl (by decide +kernel) ⟨Nat.le_of_ble_eq_true rfl, Nat.le_of_ble_eq_true rfl⟩) ⟨tW_blind, va_recv hK hPc (ci := 2) (q0 := 0) rfl rfl, fun U hU hW => ⟨rfl, sPre_ok hsk hPc hDc hU hW, tW_warm hW hU hS (fun q h => hFc q h) htw⟩⟩ rfl rfl hl.1 rfl (lv_room (Nat.le_of_ble_eq_true rfl)) dX2_readGo_65 ⟨(show 0 + 0 ≤ 0 by omega), (show 0 + 0 ≤ 0 by omega)⟩) hS (fun q _ h => hFc q h) hFc (fun r_32 u t H1 locs ht hvm hw hB hz1 hk1 hS => ?_)
    try dsimp only at hw hB
    obtain ⟨hP1, hD1⟩ := hB
    rw [ht] at hP1
    obtain ⟨hP, hD⟩ := va_join (wr := [(g0, .inr (1, [.ref gF, .ref gK, .ref gT, .ref gC, .ref gM, .int gc, .ref eF, .ref eC, .ref eM, .int ec, .ref hopA])), (gF, .inl (cI, 40, .inl fgF)), (gK, .inl (cI, 40, .inl fgK)), (gT, .inl (cI, 40, .inl fgT)), (gC, .inl (cI, 40, .inl fgC)), (gM, .inl (cI, 40, .inl fgM))]) (w1 := [(h0, .inr (2, [.ref tO, .int s_28, .int p_29, .int b_30, .int f_31])), (tO, .inr (3, [.ref sA, .int tl])), (sA, .inl (cC, 1600, .inl fs))]) hP hD [6, 7, 8] [0, 1, 2, 3, 4, 5] rfl rfl (by decide) (by decide) hk1 hFc hP1 hD1
    generalize H1 = H at hP hS ⊢
    have hP : va_P (dC, dI) vwCl [(g0, .inr (1, [.ref gF, .ref gK, .ref gT, .ref gC, .ref gM, .int gc, .ref eF, .ref eC, .ref eM, .int ec, .ref hopA])), (gF, .inl (cI, 40, .inl fgF)), (gK, .inl (cI, 40, .inl fgK)), (gT, .inl (cI, 40, .inl fgT)), (gC, .inl (cI, 40, .inl fgC)), (gM, .inl (cI, 40, .inl fgM)), (h0, .inr (2, [.ref tO, .int s_28, .int p_29, .int b_30, .int f_31])), (tO, .inr (3, [.ref sA, .int tl])), (sA, .inl (cC, 1600, .inl fs))] H := hP
    have hD : va_D A [(g0, .inr (1, [.ref gF, .ref gK, .ref gT, .ref gC, .ref gM, .int gc, .ref eF, .ref eC, .ref eM, .int ec, .ref hopA])), (gF, .inl (cI, 40, .inl fgF)), (gK, .inl (cI, 40, .inl fgK)), (gT, .inl (cI, 40, .inl fgT)), (gC, .inl (cI, 40, .inl fgC)), (gM, .inl (cI, 40, .inl fgM)), (h0, .inr (2, [.ref tO, .int s_28, .int p_29, .int b_30, .int f_31])), (tO, .inr (3, [.ref sA, .int tl])), (sA, .inl (cC, 1600, .inl fs))] := hD
    have hw_r_32 := hw
    have hPc := hP.sub (ws' := [(h0, .inr (2, [.ref tO, .int s_28, .int p_29, .int b_30, .int f_31])), (tO, .inr (3, [.ref sA, .int tl])), (sA, .inl (cC, 1600, .inl fs))]) [6, 7, 8] rfl
    have hDc := hD.sub (ws' := [(h0, .inr (2, [.ref tO, .int s_28, .int p_29, .int b_30, .int f_31])), (tO, .inr (3, [.ref sA, .int tl])), (sA, .inl (cC, 1600, .inl fs))]) [6, 7, 8] (by decide) rfl
    have hFc := va_free (wc := [(h0, .inr (2, [.ref tO, .int s_28, .int p_29, .int b_30, .int f_31])), (tO, .inr (3, [.ref sA, .int tl])), (sA, .inl (cC, 1600, .inl fs))]) hD hS hA [6, 7, 8] rfl
    refine va_callv (va_runV (As := [.int r_32]) (rest := []) ⟨hx, hb, hml, hown, hts⟩ (k_passIf l dC dI cI cZ cC cJ H.size  h0 tO s_28 p_29 b_30 f_31 sA tl fs r_32 ) (cwV 1 hts gX2_readGo_X2_passIf rfl rfl rfl (by decide +kernel) ⟨Nat.le_of_ble_eq_true rfl, Nat.le_of_ble_eq_true rfl⟩) ⟨sPre_blind, va_recv hK hPc (ci := 2) (q0 := 0) rfl rfl, fun U hU hW => ⟨rfl, sPre_ok hsk hPc hDc hU hW⟩⟩ rfl rfl hl.1 rfl (lv_room (Nat.le_of_ble_eq_true rfl)) dX2_readGo_68 ⟨(show 0 + 0 ≤ 0 by omega), (show 0 + 0 ≤ 0 by omega)⟩) hS (fun q _ h => hFc q h) hFc (fun u t H1 locs ht hvm hw hB hz1 hk1 hS => ?_)
    obtain ⟨s_34, p_35, b_36, f_37⟩ := u
    try dsimp only at hw hB
    obtain ⟨hP1, hD1⟩ := hB
    rw [ht] at hP1
    obtain ⟨hP, hD⟩ := va_join (wr := [(g0, .inr (1, [.ref gF, .ref gK, .ref gT, .ref gC, .ref gM, .int gc, .ref eF, .ref eC, .ref eM, .int ec, .ref hopA])), (gF, .inl (cI, 40, .inl fgF)), (gK, .inl (cI, 40, .inl fgK)), (gT, .inl (cI, 40, .inl fgT)), (gC, .inl (cI, 40, .inl fgC)), (gM, .inl (cI, 40, .inl fgM))]) (w1 := [(h0, .inr (2, [.ref tO, .int s_34, .int p_35, .int b_36, .int f_37])), (tO, .inr (3, [.ref sA, .int tl])), (sA, .inl (cC, 1600, .inl fs))]) hP hD [6, 7, 8] [0, 1, 2, 3, 4, 5] rfl rfl (by decide) (by decide) hk1 hFc hP1 hD1
    generalize H1 = H at hP hS ⊢
    have hP : va_P (dC, dI) vwCl [(g0, .inr (1, [.ref gF, .ref gK, .ref gT, .ref gC, .ref gM, .int gc, .ref eF, .ref eC, .ref eM, .int ec, .ref hopA])), (gF, .inl (cI, 40, .inl fgF)), (gK, .inl (cI, 40, .inl fgK)), (gT, .inl (cI, 40, .inl fgT)), (gC, .inl (cI, 40, .inl fgC)), (gM, .inl (cI, 40, .inl fgM)), (h0, .inr (2, [.ref tO, .int s_34, .int p_35, .int b_36, .int f_37])), (tO, .inr (3, [.ref sA, .int tl])), (sA, .inl (cC, 1600, .inl fs))] H := hP
    have hD : va_D A [(g0, .inr (1, [.ref gF, .ref gK, .ref gT, .ref gC, .ref gM, .int gc, .ref eF, .ref eC, .ref eM, .int ec, .ref hopA])), (gF, .inl (cI, 40, .inl fgF)), (gK, .inl (cI, 40, .inl fgK)), (gT, .inl (cI, 40, .inl fgT)), (gC, .inl (cI, 40, .inl fgC)), (gM, .inl (cI, 40, .inl fgM)), (h0, .inr (2, [.ref tO, .int s_34, .int p_35, .int b_36, .int f_37])), (tO, .inr (3, [.ref sA, .int tl])), (sA, .inl (cC, 1600, .inl fs))] := hD
    refine lv_aload_n hx hb dX2_readGo_71 rfl (lv_at hl 3 rfl) ?_
    refine lv_sipush (v := 999) hx hb dX2_readGo_72 (by decide) ?_
    have hPc := hP.sub (ws' := [(h0, .inr (2, [.ref tO, .int s_34, .int p_35, .int b_36, .int f_37])), (tO, .inr (3, [.ref sA, .int tl])), (sA, .inl (cC, 1600, .inl fs))]) [6, 7, 8] rfl
    have hDc := hD.sub (ws' := [(h0, .inr (2, [.ref tO, .int s_34, .int p_35, .int b_36, .int f_37])), (tO, .inr (3, [.ref sA, .int tl])), (sA, .inl (cC, 1600, .inl fs))]) [6, 7, 8] (by decide) rfl
    have hFc := va_free (wc := [(h0, .inr (2, [.ref tO, .int s_34, .int p_35, .int b_36, .int f_37])), (tO, .inr (3, [.ref sA, .int tl])), (sA, .inl (cC, 1600, .inl fs))]) hD hS hA [6, 7, 8] rfl
    refine va_calli (va_runV (As := [.int 999]) (rest := []) ⟨hx, hb, hml, hown, hts⟩ (k_readNumber l dC dI cI cZ cC cJ H.size  h0 tO s_34 p_35 b_36 f_37 sA tl fs 999 ) (cwV 1 hts gX2_readGo_X2_readNumber rfl rfl rfl (by decide +kernel) ⟨Nat.le_of_ble_eq_true rfl, Nat.le_of_ble_eq_true rfl⟩) ⟨sPre_blind, va_recv hK hPc (ci := 2) (q0 := 0) rfl rfl, fun U hU hW => ⟨rfl, sPre_ok hsk hPc hDc hU hW⟩⟩ rfl rfl hl.1 rfl (lv_room (Nat.le_of_ble_eq_true rfl)) dX2_readGo_75 ⟨(show 0 + 0 ≤ 0 by omega), (show 0 + 0 ≤ 0 by omega)⟩) hS (fun q _ h => hFc q h) hFc (fun r_38 u t H1 locs ht hvm hw hB hz1 hk1 hS => ?_)
    obtain ⟨s_39, p_40, b_41, f_42⟩ := u
    try dsimp only at hw hB
    obtain ⟨hP1, hD1⟩ := hB
    rw [ht] at hP1
    obtain ⟨hP, hD⟩ := va_join (wr := [(g0, .inr (1, [.ref gF, .ref gK, .ref gT, .ref gC, .ref gM, .int gc, .ref eF, .ref eC, .ref eM, .int ec, .ref hopA])), (gF, .inl (cI, 40, .inl fgF)), (gK, .inl (cI, 40, .inl fgK)), (gT, .inl (cI, 40, .inl fgT)), (gC, .inl (cI, 40, .inl fgC)), (gM, .inl (cI, 40, .inl fgM))]) (w1 := [(h0, .inr (2, [.ref tO, .int s_39, .int p_40, .int b_41, .int f_42])), (tO, .inr (3, [.ref sA, .int tl])), (sA, .inl (cC, 1600, .inl fs))]) hP hD [6, 7, 8] [0, 1, 2, 3, 4, 5] rfl rfl (by decide) (by decide) hk1 hFc hP1 hD1
    generalize H1 = H at hP hS ⊢
    have hP : va_P (dC, dI) vwCl [(g0, .inr (1, [.ref gF, .ref gK, .ref gT, .ref gC, .ref gM, .int gc, .ref eF, .ref eC, .ref eM, .int ec, .ref hopA])), (gF, .inl (cI, 40, .inl fgF)), (gK, .inl (cI, 40, .inl fgK)), (gT, .inl (cI, 40, .inl fgT)), (gC, .inl (cI, 40, .inl fgC)), (gM, .inl (cI, 40, .inl fgM)), (h0, .inr (2, [.ref tO, .int s_39, .int p_40, .int b_41, .int f_42])), (tO, .inr (3, [.ref sA, .int tl])), (sA, .inl (cC, 1600, .inl fs))] H := hP
    have hD : va_D A [(g0, .inr (1, [.ref gF, .ref gK, .ref gT, .ref gC, .ref gM, .int gc, .ref eF, .ref eC, .ref eM, .int ec, .ref hopA])), (gF, .inl (cI, 40, .inl fgF)), (gK, .inl (cI, 40, .inl fgK)), (gT, .inl (cI, 40, .inl fgT)), (gC, .inl (cI, 40, .inl fgC)), (gM, .inl (cI, 40, .inl fgM)), (h0, .inr (2, [.ref tO, .int s_39, .int p_40, .int b_41, .int f_42])), (tO, .inr (3, [.ref sA, .int tl])), (sA, .inl (cC, 1600, .inl fs))] := hD
    have hw_r_38 := hw
    refine lv_istore (lv' := [(5, .int r_38), (4, .int r_27), (3, .int r_16), (2, .int r_5), (0, .ref h0), (1, .ref g0)]) hx hb dX2_readGo_78 hl (by decide) rfl (fun ls hl => ?_)
    refine lv_iconst (v := 0) hx hb dX2_readGo_80 (by decide) ?_
    refine lv_istore (lv' := [(6, .int 0), (5, .int r_38), (4, .int r_27), (3, .int r_16), (2, .int r_5), (0, .ref h0), (1, .ref g0)]) hx hb dX2_readGo_81 hl (by decide) rfl (fun ls hl => ?_)
    refine lv_aload_n hx hb dX2_readGo_83 rfl (lv_at hl 5 rfl) ?_
    refine va_ldcS (own := RX2) (index := 71) (tx := "with") hx hb hown (htw.2.1 4 (by decide)) dX2_readGo_84 ?_
    have hPc := hP.sub (ws' := [(h0, .inr (2, [.ref tO, .int s_39, .int p_40, .int b_41, .int f_42])), (tO, .inr (3, [.ref sA, .int tl])), (sA, .inl (cC, 1600, .inl fs))]) [6, 7, 8] rfl
    have hDc := hD.sub (ws' := [(h0, .inr (2, [.ref tO, .int s_39, .int p_40, .int b_41, .int f_42])), (tO, .inr (3, [.ref sA, .int tl])), (sA, .inl (cC, 1600, .inl fs))]) [6, 7, 8] (by decide) rfl
    have hFc := va_free (wc := [(h0, .inr (2, [.ref tO, .int s_39, .int p_40, .int b_41, .int f_42])), (tO, .inr (3, [.ref sA, .int tl])), (sA, .inl (cC, 1600, .inl fs))]) hD hS hA [6, 7, 8] rfl
    refine va_calli (va_runV (As := [.ref (adK 4)]) (rest := []) ⟨hx, hb, hml, hown, hts⟩ (k_isText l dC dI cI cZ cC cJ H.size adK adV h0 tO s_39 p_40 b_41 f_42 sA tl fs 4 (by first | assumption | decide | omega)) (cwV 1 hts gX2_readGo_X2_isText rfl rfl rfl (by decide +kernel) ⟨Nat.le_of_ble_eq_true rfl, Nat.le_of_ble_eq_true rfl⟩) ⟨tW_blind, va_recv hK hPc (ci := 2) (q0 := 0) rfl rfl, fun U hU hW => ⟨rfl, sPre_ok hsk hPc hDc hU hW, tW_warm hW hU hS (fun q h => hFc q h) htw⟩⟩ rfl rfl hl.1 rfl (lv_room (Nat.le_of_ble_eq_true rfl)) dX2_readGo_86 ⟨(show 0 + 0 ≤ 0 by omega), (show 0 + 0 ≤ 0 by omega)⟩) hS (fun q _ h => hFc q h) hFc (fun r_43 u t H1 locs ht hvm hw hB hz1 hk1 hS => ?_)
    try dsimp only at hw hB
    obtain ⟨hP1, hD1⟩ := hB
    rw [ht] at hP1
    obtain ⟨hP, hD⟩ := va_join (wr := [(g0, .inr (1, [.ref gF, .ref gK, .ref gT, .ref gC, .ref gM, .int gc, .ref eF, .ref eC, .ref eM, .int ec, .ref hopA])), (gF, .inl (cI, 40, .inl fgF)), (gK, .inl (cI, 40, .inl fgK)), (gT, .inl (cI, 40, .inl fgT)), (gC, .inl (cI, 40, .inl fgC)), (gM, .inl (cI, 40, .inl fgM))]) (w1 := [(h0, .inr (2, [.ref tO, .int s_39, .int p_40, .int b_41, .int f_42])), (tO, .inr (3, [.ref sA, .int tl])), (sA, .inl (cC, 1600, .inl fs))]) hP hD [6, 7, 8] [0, 1, 2, 3, 4, 5] rfl rfl (by decide) (by decide) hk1 hFc hP1 hD1
    generalize H1 = H at hP hS ⊢
    have hP : va_P (dC, dI) vwCl [(g0, .inr (1, [.ref gF, .ref gK, .ref gT, .ref gC, .ref gM, .int gc, .ref eF, .ref eC, .ref eM, .int ec, .ref hopA])), (gF, .inl (cI, 40, .inl fgF)), (gK, .inl (cI, 40, .inl fgK)), (gT, .inl (cI, 40, .inl fgT)), (gC, .inl (cI, 40, .inl fgC)), (gM, .inl (cI, 40, .inl fgM)), (h0, .inr (2, [.ref tO, .int s_39, .int p_40, .int b_41, .int f_42])), (tO, .inr (3, [.ref sA, .int tl])), (sA, .inl (cC, 1600, .inl fs))] H := hP
    have hD : va_D A [(g0, .inr (1, [.ref gF, .ref gK, .ref gT, .ref gC, .ref gM, .int gc, .ref eF, .ref eC, .ref eM, .int ec, .ref hopA])), (gF, .inl (cI, 40, .inl fgF)), (gK, .inl (cI, 40, .inl fgK)), (gT, .inl (cI, 40, .inl fgT)), (gC, .inl (cI, 40, .inl fgC)), (gM, .inl (cI, 40, .inl fgM)), (h0, .inr (2, [.ref tO, .int s_39, .int p_40, .int b_41, .int f_42])), (tO, .inr (3, [.ref sA, .int tl])), (sA, .inl (cC, 1600, .inl fs))] := hD
    have hw_r_43 := hw
    refine lv_if_eq (tgt := 117) hx hb dX2_readGo_89 (by decide) (fun c_89 => ?_) (fun c_89 => ?_)
    · skip
      refine lv_aload_n hx hb dX2_readGo_117 rfl (lv_at hl 5 rfl) ?_
      refine lv_aload_n hx hb dX2_readGo_118 rfl (lv_at hl 5 rfl) ?_
      refine va_get (D := (dC, dI)) (ci := 2) (v := .int s_39) (C := RX2) (T := TX2) (N := 5) hx hb hts i2 hown hK hP 6 rfl rfl 1 (by decide) (hts (.fieldLink RX2 32 "StopSetter$Reader" "sort" "I") (by decide +kernel)) (fun _ h9 => h9) rfl dX2_readGo_119 ?_
      refine lv_iconst (v := 4) hx hb dX2_readGo_122 (by decide) ?_
      refine lv_icmp_ne (tgt := 130) hx hb dX2_readGo_123 (by decide) (fun c_123 => ?_) (fun c_123 => ?_)
      · skip
        refine lv_iconst (v := 0) hx hb dX2_readGo_130 (by decide) ?_
        have hPc := hP.sub (ws' := [(h0, .inr (2, [.ref tO, .int s_39, .int p_40, .int b_41, .int f_42])), (tO, .inr (3, [.ref sA, .int tl])), (sA, .inl (cC, 1600, .inl fs))]) [6, 7, 8] rfl
        have hDc := hD.sub (ws' := [(h0, .inr (2, [.ref tO, .int s_39, .int p_40, .int b_41, .int f_42])), (tO, .inr (3, [.ref sA, .int tl])), (sA, .inl (cC, 1600, .inl fs))]) [6, 7, 8] (by decide) rfl
        have hFc := va_free (wc := [(h0, .inr (2, [.ref tO, .int s_39, .int p_40, .int b_41, .int f_42])), (tO, .inr (3, [.ref sA, .int tl])), (sA, .inl (cC, 1600, .inl fs))]) hD hS hA [6, 7, 8] rfl
        refine va_callv (va_runV (As := [.int 0]) (rest := []) ⟨hx, hb, hml, hown, hts⟩ (k_passIf l dC dI cI cZ cC cJ H.size  h0 tO s_39 p_40 b_41 f_42 sA tl fs 0 ) (cwV 1 hts gX2_readGo_X2_passIf rfl rfl rfl (by decide +kernel) ⟨Nat.le_of_ble_eq_true rfl, Nat.le_of_ble_eq_true rfl⟩) ⟨sPre_blind, va_recv hK hPc (ci := 2) (q0 := 0) rfl rfl, fun U hU hW => ⟨rfl, sPre_ok hsk hPc hDc hU hW⟩⟩ rfl rfl hl.1 rfl (lv_room (Nat.le_of_ble_eq_true rfl)) dX2_readGo_131 ⟨(show 0 + 0 ≤ 0 by omega), (show 0 + 0 ≤ 0 by omega)⟩) hS (fun q _ h => hFc q h) hFc (fun u t H1 locs ht hvm hw hB hz1 hk1 hS => ?_)
        obtain ⟨s_45, p_46, b_47, f_48⟩ := u
        try dsimp only at hw hB
        obtain ⟨hP1, hD1⟩ := hB
        rw [ht] at hP1
        obtain ⟨hP, hD⟩ := va_join (wr := [(g0, .inr (1, [.ref gF, .ref gK, .ref gT, .ref gC, .ref gM, .int gc, .ref eF, .ref eC, .ref eM, .int ec, .ref hopA])), (gF, .inl (cI, 40, .inl fgF)), (gK, .inl (cI, 40, .inl fgK)), (gT, .inl (cI, 40, .inl fgT)), (gC, .inl (cI, 40, .inl fgC)), (gM, .inl (cI, 40, .inl fgM))]) (w1 := [(h0, .inr (2, [.ref tO, .int s_45, .int p_46, .int b_47, .int f_48])), (tO, .inr (3, [.ref sA, .int tl])), (sA, .inl (cC, 1600, .inl fs))]) hP hD [6, 7, 8] [0, 1, 2, 3, 4, 5] rfl rfl (by decide) (by decide) hk1 hFc hP1 hD1
        generalize H1 = H at hP hS ⊢
        have hP : va_P (dC, dI) vwCl [(g0, .inr (1, [.ref gF, .ref gK, .ref gT, .ref gC, .ref gM, .int gc, .ref eF, .ref eC, .ref eM, .int ec, .ref hopA])), (gF, .inl (cI, 40, .inl fgF)), (gK, .inl (cI, 40, .inl fgK)), (gT, .inl (cI, 40, .inl fgT)), (gC, .inl (cI, 40, .inl fgC)), (gM, .inl (cI, 40, .inl fgM)), (h0, .inr (2, [.ref tO, .int s_45, .int p_46, .int b_47, .int f_48])), (tO, .inr (3, [.ref sA, .int tl])), (sA, .inl (cC, 1600, .inl fs))] H := hP
        have hD : va_D A [(g0, .inr (1, [.ref gF, .ref gK, .ref gT, .ref gC, .ref gM, .int gc, .ref eF, .ref eC, .ref eM, .int ec, .ref hopA])), (gF, .inl (cI, 40, .inl fgF)), (gK, .inl (cI, 40, .inl fgK)), (gT, .inl (cI, 40, .inl fgT)), (gC, .inl (cI, 40, .inl fgC)), (gM, .inl (cI, 40, .inl fgM)), (h0, .inr (2, [.ref tO, .int s_45, .int p_46, .int b_47, .int f_48])), (tO, .inr (3, [.ref sA, .int tl])), (sA, .inl (cC, 1600, .inl fs))] := hD
        refine lv_aload_n hx hb dX2_readGo_134 rfl (lv_at hl 5 rfl) ?_
        refine va_get (D := (dC, dI)) (ci := 2) (v := .int f_48) (C := RX2) (T := TX2) (N := 5) hx hb hts i2 hown hK hP 6 rfl rfl 4 (by decide) (hts (.fieldLink RX2 20 "StopSetter$Reader" "fault" "I") (by decide +kernel)) (fun _ h9 => h9) rfl dX2_readGo_135 ?_
        refine lv_if_ne (tgt := 153) hx hb dX2_readGo_138 (by decide) (fun c_138 => ?_) (fun c_138 => ?_)
        · skip
          have hP9 := hP.sub (ws' := [(h0, .inr (2, [.ref tO, .int s_45, .int p_46, .int b_47, .int f_48])), (tO, .inr (3, [.ref sA, .int tl])), (sA, .inl (cC, 1600, .inl fs)), (g0, .inr (1, [.ref gF, .ref gK, .ref gT, .ref gC, .ref gM, .int gc, .ref eF, .ref eC, .ref eM, .int ec, .ref hopA])), (gF, .inl (cI, 40, .inl fgF)), (gK, .inl (cI, 40, .inl fgK)), (gT, .inl (cI, 40, .inl fgT)), (gC, .inl (cI, 40, .inl fgC)), (gM, .inl (cI, 40, .inl fgM))]) [6, 7, 8, 0, 1, 2, 3, 4, 5] rfl
          have hD9 := hD.sub (ws' := [(h0, .inr (2, [.ref tO, .int s_45, .int p_46, .int b_47, .int f_48])), (tO, .inr (3, [.ref sA, .int tl])), (sA, .inl (cC, 1600, .inl fs)), (g0, .inr (1, [.ref gF, .ref gK, .ref gT, .ref gC, .ref gM, .int gc, .ref eF, .ref eC, .ref eM, .int ec, .ref hopA])), (gF, .inl (cI, 40, .inl fgF)), (gK, .inl (cI, 40, .inl fgK)), (gT, .inl (cI, 40, .inl fgT)), (gC, .inl (cI, 40, .inl fgC)), (gM, .inl (cI, 40, .inl fgM))]) [6, 7, 8, 0, 1, 2, 3, 4, 5] (by decide) rfl
          exact W.vret hx hb hr (fun t ht hW => ⟨⟨(s_45, p_46, b_47, f_48, gc, fgF, fgK, fgT, fgC, fgM), rfl, trivial, by rw [ht]; exact hP9, hD9⟩, hS.F ht⟩) hS.2.2 dX2_readGo_153
        · skip
          refine lv_aload_n hx hb dX2_readGo_141 rfl (lv_at hl 6 rfl) ?_
          refine lv_iload_n hx hb dX2_readGo_142 rfl (lv_at hl 4 rfl) ?_
          refine lv_iload_n hx hb dX2_readGo_143 rfl (lv_at hl 3 rfl) ?_
          refine lv_iload hx hb dX2_readGo_144 (lv_at hl 2 rfl) ?_
          refine lv_iload hx hb dX2_readGo_146 (lv_at hl 1 rfl) ?_
          refine lv_iload hx hb dX2_readGo_148 (lv_at hl 0 rfl) ?_
          have hPc := hP.sub (ws' := [(g0, .inr (1, [.ref gF, .ref gK, .ref gT, .ref gC, .ref gM, .int gc, .ref eF, .ref eC, .ref eM, .int ec, .ref hopA])), (gF, .inl (cI, 40, .inl fgF)), (gK, .inl (cI, 40, .inl fgK)), (gT, .inl (cI, 40, .inl fgT)), (gC, .inl (cI, 40, .inl fgC)), (gM, .inl (cI, 40, .inl fgM))]) [0, 1, 2, 3, 4, 5] rfl
          have hDc := hD.sub (ws' := [(g0, .inr (1, [.ref gF, .ref gK, .ref gT, .ref gC, .ref gM, .int gc, .ref eF, .ref eC, .ref eM, .int ec, .ref hopA])), (gF, .inl (cI, 40, .inl fgF)), (gK, .inl (cI, 40, .inl fgK)), (gT, .inl (cI, 40, .inl fgT)), (gC, .inl (cI, 40, .inl fgC)), (gM, .inl (cI, 40, .inl fgM))]) [0, 1, 2, 3, 4, 5] (by decide) rfl
          have hFc := va_free (wc := [(g0, .inr (1, [.ref gF, .ref gK, .ref gT, .ref gC, .ref gM, .int gc, .ref eF, .ref eC, .ref eM, .int ec, .ref hopA])), (gF, .inl (cI, 40, .inl fgF)), (gK, .inl (cI, 40, .inl fgK)), (gT, .inl (cI, 40, .inl fgT)), (gC, .inl (cI, 40, .inl fgC)), (gM, .inl (cI, 40, .inl fgM))]) hD hS hA [0, 1, 2, 3, 4, 5] rfl
          refine va_callv (va_runV (As := [.int r_5, .int r_16, .int r_27, .int r_38, .int 0]) (rest := []) ⟨hx, hb, hml, hown, hts⟩ (k_addGo l dC dI cI cZ cC cJ H.size  g0 gF gK gT gC gM gc eF eC eM ec hopA fgF fgK fgT fgC fgM r_5 r_16 r_27 r_38 0 ) (cwV 5 hts gX2_readGo_X1_addGo rfl rfl rfl (by decide +kernel) ⟨Nat.le_of_ble_eq_true rfl, Nat.le_of_ble_eq_true rfl⟩) ⟨sPre_blind, va_recv hK hPc (ci := 1) (q0 := 0) rfl rfl, fun U hU hW => ⟨rfl, sPre_ok hsk hPc hDc hU hW⟩⟩ rfl rfl hl.1 rfl (lv_room (Nat.le_of_ble_eq_true rfl)) dX2_readGo_150 ⟨(show 0 + 0 ≤ 0 by omega), (show 0 + 0 ≤ 0 by omega)⟩) hS (fun q _ h => hFc q h) hFc (fun u t H1 locs ht hvm hw hB hz1 hk1 hS => ?_)
          obtain ⟨g_50, f_51, f_52, f_53, f_54, f_55⟩ := u
          try dsimp only at hw hB
          obtain ⟨hP1, hD1⟩ := hB
          rw [ht] at hP1
          obtain ⟨hP, hD⟩ := va_join (wr := [(h0, .inr (2, [.ref tO, .int s_45, .int p_46, .int b_47, .int f_48])), (tO, .inr (3, [.ref sA, .int tl])), (sA, .inl (cC, 1600, .inl fs))]) (w1 := [(g0, .inr (1, [.ref gF, .ref gK, .ref gT, .ref gC, .ref gM, .int g_50, .ref eF, .ref eC, .ref eM, .int ec, .ref hopA])), (gF, .inl (cI, 40, .inl f_51)), (gK, .inl (cI, 40, .inl f_52)), (gT, .inl (cI, 40, .inl f_53)), (gC, .inl (cI, 40, .inl f_54)), (gM, .inl (cI, 40, .inl f_55))]) hP hD [0, 1, 2, 3, 4, 5] [6, 7, 8] rfl rfl (by decide) (by decide) hk1 hFc hP1 hD1
          generalize H1 = H at hP hS ⊢
          have hP : va_P (dC, dI) vwCl [(h0, .inr (2, [.ref tO, .int s_45, .int p_46, .int b_47, .int f_48])), (tO, .inr (3, [.ref sA, .int tl])), (sA, .inl (cC, 1600, .inl fs)), (g0, .inr (1, [.ref gF, .ref gK, .ref gT, .ref gC, .ref gM, .int g_50, .ref eF, .ref eC, .ref eM, .int ec, .ref hopA])), (gF, .inl (cI, 40, .inl f_51)), (gK, .inl (cI, 40, .inl f_52)), (gT, .inl (cI, 40, .inl f_53)), (gC, .inl (cI, 40, .inl f_54)), (gM, .inl (cI, 40, .inl f_55))] H := hP
          have hD : va_D A [(h0, .inr (2, [.ref tO, .int s_45, .int p_46, .int b_47, .int f_48])), (tO, .inr (3, [.ref sA, .int tl])), (sA, .inl (cC, 1600, .inl fs)), (g0, .inr (1, [.ref gF, .ref gK, .ref gT, .ref gC, .ref gM, .int g_50, .ref eF, .ref eC, .ref eM, .int ec, .ref hopA])), (gF, .inl (cI, 40, .inl f_51)), (gK, .inl (cI, 40, .inl f_52)), (gT, .inl (cI, 40, .inl f_53)), (gC, .inl (cI, 40, .inl f_54)), (gM, .inl (cI, 40, .inl f_55))] := hD
          have hP9 := hP.sub (ws' := [(h0, .inr (2, [.ref tO, .int s_45, .int p_46, .int b_47, .int f_48])), (tO, .inr (3, [.ref sA, .int tl])), (sA, .inl (cC, 1600, .inl fs)), (g0, .inr (1, [.ref gF, .ref gK, .ref gT, .ref gC, .ref gM, .int g_50, .ref eF, .ref eC, .ref eM, .int ec, .ref hopA])), (gF, .inl (cI, 40, .inl f_51)), (gK, .inl (cI, 40, .inl f_52)), (gT, .inl (cI, 40, .inl f_53)), (gC, .inl (cI, 40, .inl f_54)), (gM, .inl (cI, 40, .inl f_55))]) [0, 1, 2, 3, 4, 5, 6, 7, 8] rfl
          have hD9 := hD.sub (ws' := [(h0, .inr (2, [.ref tO, .int s_45, .int p_46, .int b_47, .int f_48])), (tO, .inr (3, [.ref sA, .int tl])), (sA, .inl (cC, 1600, .inl fs)), (g0, .inr (1, [.ref gF, .ref gK, .ref gT, .ref gC, .ref gM, .int g_50, .ref eF, .ref eC, .ref eM, .int ec, .ref hopA])), (gF, .inl (cI, 40, .inl f_51)), (gK, .inl (cI, 40, .inl f_52)), (gT, .inl (cI, 40, .inl f_53)), (gC, .inl (cI, 40, .inl f_54)), (gM, .inl (cI, 40, .inl f_55))]) [0, 1, 2, 3, 4, 5, 6, 7, 8] (by decide) rfl
          exact W.vret hx hb hr (fun t ht hW => ⟨⟨(s_45, p_46, b_47, f_48, g_50, f_51, f_52, f_53, f_54, f_55), rfl, trivial, by rw [ht]; exact hP9, hD9⟩, hS.F ht⟩) hS.2.2 dX2_readGo_153
      · skip
        refine lv_iconst (v := 1) hx hb dX2_readGo_126 (by decide) ?_
        refine lv_goto (tgt := 131) hx hb dX2_readGo_127 (by decide) ?_
        have hPc := hP.sub (ws' := [(h0, .inr (2, [.ref tO, .int s_39, .int p_40, .int b_41, .int f_42])), (tO, .inr (3, [.ref sA, .int tl])), (sA, .inl (cC, 1600, .inl fs))]) [6, 7, 8] rfl
        have hDc := hD.sub (ws' := [(h0, .inr (2, [.ref tO, .int s_39, .int p_40, .int b_41, .int f_42])), (tO, .inr (3, [.ref sA, .int tl])), (sA, .inl (cC, 1600, .inl fs))]) [6, 7, 8] (by decide) rfl
        have hFc := va_free (wc := [(h0, .inr (2, [.ref tO, .int s_39, .int p_40, .int b_41, .int f_42])), (tO, .inr (3, [.ref sA, .int tl])), (sA, .inl (cC, 1600, .inl fs))]) hD hS hA [6, 7, 8] rfl
        refine va_callv (va_runV (As := [.int 1]) (rest := []) ⟨hx, hb, hml, hown, hts⟩ (k_passIf l dC dI cI cZ cC cJ H.size  h0 tO s_39 p_40 b_41 f_42 sA tl fs 1 ) (cwV 1 hts gX2_readGo_X2_passIf rfl rfl rfl (by decide +kernel) ⟨Nat.le_of_ble_eq_true rfl, Nat.le_of_ble_eq_true rfl⟩) ⟨sPre_blind, va_recv hK hPc (ci := 2) (q0 := 0) rfl rfl, fun U hU hW => ⟨rfl, sPre_ok hsk hPc hDc hU hW⟩⟩ rfl rfl hl.1 rfl (lv_room (Nat.le_of_ble_eq_true rfl)) dX2_readGo_131 ⟨(show 0 + 0 ≤ 0 by omega), (show 0 + 0 ≤ 0 by omega)⟩) hS (fun q _ h => hFc q h) hFc (fun u t H1 locs ht hvm hw hB hz1 hk1 hS => ?_)
        obtain ⟨s_57, p_58, b_59, f_60⟩ := u
        try dsimp only at hw hB
        obtain ⟨hP1, hD1⟩ := hB
        rw [ht] at hP1
        obtain ⟨hP, hD⟩ := va_join (wr := [(g0, .inr (1, [.ref gF, .ref gK, .ref gT, .ref gC, .ref gM, .int gc, .ref eF, .ref eC, .ref eM, .int ec, .ref hopA])), (gF, .inl (cI, 40, .inl fgF)), (gK, .inl (cI, 40, .inl fgK)), (gT, .inl (cI, 40, .inl fgT)), (gC, .inl (cI, 40, .inl fgC)), (gM, .inl (cI, 40, .inl fgM))]) (w1 := [(h0, .inr (2, [.ref tO, .int s_57, .int p_58, .int b_59, .int f_60])), (tO, .inr (3, [.ref sA, .int tl])), (sA, .inl (cC, 1600, .inl fs))]) hP hD [6, 7, 8] [0, 1, 2, 3, 4, 5] rfl rfl (by decide) (by decide) hk1 hFc hP1 hD1
        generalize H1 = H at hP hS ⊢
        have hP : va_P (dC, dI) vwCl [(g0, .inr (1, [.ref gF, .ref gK, .ref gT, .ref gC, .ref gM, .int gc, .ref eF, .ref eC, .ref eM, .int ec, .ref hopA])), (gF, .inl (cI, 40, .inl fgF)), (gK, .inl (cI, 40, .inl fgK)), (gT, .inl (cI, 40, .inl fgT)), (gC, .inl (cI, 40, .inl fgC)), (gM, .inl (cI, 40, .inl fgM)), (h0, .inr (2, [.ref tO, .int s_57, .int p_58, .int b_59, .int f_60])), (tO, .inr (3, [.ref sA, .int tl])), (sA, .inl (cC, 1600, .inl fs))] H := hP
        have hD : va_D A [(g0, .inr (1, [.ref gF, .ref gK, .ref gT, .ref gC, .ref gM, .int gc, .ref eF, .ref eC, .ref eM, .int ec, .ref hopA])), (gF, .inl (cI, 40, .inl fgF)), (gK, .inl (cI, 40, .inl fgK)), (gT, .inl (cI, 40, .inl fgT)), (gC, .inl (cI, 40, .inl fgC)), (gM, .inl (cI, 40, .inl fgM)), (h0, .inr (2, [.ref tO, .int s_57, .int p_58, .int b_59, .int f_60])), (tO, .inr (3, [.ref sA, .int tl])), (sA, .inl (cC, 1600, .inl fs))] := hD
        refine lv_aload_n hx hb dX2_readGo_134 rfl (lv_at hl 5 rfl) ?_
        refine va_get (D := (dC, dI)) (ci := 2) (v := .int f_60) (C := RX2) (T := TX2) (N := 5) hx hb hts i2 hown hK hP 6 rfl rfl 4 (by decide) (hts (.fieldLink RX2 20 "StopSetter$Reader" "fault" "I") (by decide +kernel)) (fun _ h9 => h9) rfl dX2_readGo_135 ?_
        refine lv_if_ne (tgt := 153) hx hb dX2_readGo_138 (by decide) (fun c_138 => ?_) (fun c_138 => ?_)
        · skip
          have hP9 := hP.sub (ws' := [(h0, .inr (2, [.ref tO, .int s_57, .int p_58, .int b_59, .int f_60])), (tO, .inr (3, [.ref sA, .int tl])), (sA, .inl (cC, 1600, .inl fs)), (g0, .inr (1, [.ref gF, .ref gK, .ref gT, .ref gC, .ref gM, .int gc, .ref eF, .ref eC, .ref eM, .int ec, .ref hopA])), (gF, .inl (cI, 40, .inl fgF)), (gK, .inl (cI, 40, .inl fgK)), (gT, .inl (cI, 40, .inl fgT)), (gC, .inl (cI, 40, .inl fgC)), (gM, .inl (cI, 40, .inl fgM))]) [6, 7, 8, 0, 1, 2, 3, 4, 5] rfl
          have hD9 := hD.sub (ws' := [(h0, .inr (2, [.ref tO, .int s_57, .int p_58, .int b_59, .int f_60])), (tO, .inr (3, [.ref sA, .int tl])), (sA, .inl (cC, 1600, .inl fs)), (g0, .inr (1, [.ref gF, .ref gK, .ref gT, .ref gC, .ref gM, .int gc, .ref eF, .ref eC, .ref eM, .int ec, .ref hopA])), (gF, .inl (cI, 40, .inl fgF)), (gK, .inl (cI, 40, .inl fgK)), (gT, .inl (cI, 40, .inl fgT)), (gC, .inl (cI, 40, .inl fgC)), (gM, .inl (cI, 40, .inl fgM))]) [6, 7, 8, 0, 1, 2, 3, 4, 5] (by decide) rfl
          exact W.vret hx hb hr (fun t ht hW => ⟨⟨(s_57, p_58, b_59, f_60, gc, fgF, fgK, fgT, fgC, fgM), rfl, trivial, by rw [ht]; exact hP9, hD9⟩, hS.F ht⟩) hS.2.2 dX2_readGo_153
        · skip
          refine lv_aload_n hx hb dX2_readGo_141 rfl (lv_at hl 6 rfl) ?_
          refine lv_iload_n hx hb dX2_readGo_142 rfl (lv_at hl 4 rfl) ?_
          refine lv_iload_n hx hb dX2_readGo_143 rfl (lv_at hl 3 rfl) ?_
          refine lv_iload hx hb dX2_readGo_144 (lv_at hl 2 rfl) ?_
          refine lv_iload hx hb dX2_readGo_146 (lv_at hl 1 rfl) ?_
          refine lv_iload hx hb dX2_readGo_148 (lv_at hl 0 rfl) ?_
          have hPc := hP.sub (ws' := [(g0, .inr (1, [.ref gF, .ref gK, .ref gT, .ref gC, .ref gM, .int gc, .ref eF, .ref eC, .ref eM, .int ec, .ref hopA])), (gF, .inl (cI, 40, .inl fgF)), (gK, .inl (cI, 40, .inl fgK)), (gT, .inl (cI, 40, .inl fgT)), (gC, .inl (cI, 40, .inl fgC)), (gM, .inl (cI, 40, .inl fgM))]) [0, 1, 2, 3, 4, 5] rfl
          have hDc := hD.sub (ws' := [(g0, .inr (1, [.ref gF, .ref gK, .ref gT, .ref gC, .ref gM, .int gc, .ref eF, .ref eC, .ref eM, .int ec, .ref hopA])), (gF, .inl (cI, 40, .inl fgF)), (gK, .inl (cI, 40, .inl fgK)), (gT, .inl (cI, 40, .inl fgT)), (gC, .inl (cI, 40, .inl fgC)), (gM, .inl (cI, 40, .inl fgM))]) [0, 1, 2, 3, 4, 5] (by decide) rfl
          have hFc := va_free (wc := [(g0, .inr (1, [.ref gF, .ref gK, .ref gT, .ref gC, .ref gM, .int gc, .ref eF, .ref eC, .ref eM, .int ec, .ref hopA])), (gF, .inl (cI, 40, .inl fgF)), (gK, .inl (cI, 40, .inl fgK)), (gT, .inl (cI, 40, .inl fgT)), (gC, .inl (cI, 40, .inl fgC)), (gM, .inl (cI, 40, .inl fgM))]) hD hS hA [0, 1, 2, 3, 4, 5] rfl
          refine va_callv (va_runV (As := [.int r_5, .int r_16, .int r_27, .int r_38, .int 0]) (rest := []) ⟨hx, hb, hml, hown, hts⟩ (k_addGo l dC dI cI cZ cC cJ H.size  g0 gF gK gT gC gM gc eF eC eM ec hopA fgF fgK fgT fgC fgM r_5 r_16 r_27 r_38 0 ) (cwV 5 hts gX2_readGo_X1_addGo rfl rfl rfl (by decide +kernel) ⟨Nat.le_of_ble_eq_true rfl, Nat.le_of_ble_eq_true rfl⟩) ⟨sPre_blind, va_recv hK hPc (ci := 1) (q0 := 0) rfl rfl, fun U hU hW => ⟨rfl, sPre_ok hsk hPc hDc hU hW⟩⟩ rfl rfl hl.1 rfl (lv_room (Nat.le_of_ble_eq_true rfl)) dX2_readGo_150 ⟨(show 0 + 0 ≤ 0 by omega), (show 0 + 0 ≤ 0 by omega)⟩) hS (fun q _ h => hFc q h) hFc (fun u t H1 locs ht hvm hw hB hz1 hk1 hS => ?_)
          obtain ⟨g_62, f_63, f_64, f_65, f_66, f_67⟩ := u
          try dsimp only at hw hB
          obtain ⟨hP1, hD1⟩ := hB
          rw [ht] at hP1
          obtain ⟨hP, hD⟩ := va_join (wr := [(h0, .inr (2, [.ref tO, .int s_57, .int p_58, .int b_59, .int f_60])), (tO, .inr (3, [.ref sA, .int tl])), (sA, .inl (cC, 1600, .inl fs))]) (w1 := [(g0, .inr (1, [.ref gF, .ref gK, .ref gT, .ref gC, .ref gM, .int g_62, .ref eF, .ref eC, .ref eM, .int ec, .ref hopA])), (gF, .inl (cI, 40, .inl f_63)), (gK, .inl (cI, 40, .inl f_64)), (gT, .inl (cI, 40, .inl f_65)), (gC, .inl (cI, 40, .inl f_66)), (gM, .inl (cI, 40, .inl f_67))]) hP hD [0, 1, 2, 3, 4, 5] [6, 7, 8] rfl rfl (by decide) (by decide) hk1 hFc hP1 hD1
          generalize H1 = H at hP hS ⊢
          have hP : va_P (dC, dI) vwCl [(h0, .inr (2, [.ref tO, .int s_57, .int p_58, .int b_59, .int f_60])), (tO, .inr (3, [.ref sA, .int tl])), (sA, .inl (cC, 1600, .inl fs)), (g0, .inr (1, [.ref gF, .ref gK, .ref gT, .ref gC, .ref gM, .int g_62, .ref eF, .ref eC, .ref eM, .int ec, .ref hopA])), (gF, .inl (cI, 40, .inl f_63)), (gK, .inl (cI, 40, .inl f_64)), (gT, .inl (cI, 40, .inl f_65)), (gC, .inl (cI, 40, .inl f_66)), (gM, .inl (cI, 40, .inl f_67))] H := hP
          have hD : va_D A [(h0, .inr (2, [.ref tO, .int s_57, .int p_58, .int b_59, .int f_60])), (tO, .inr (3, [.ref sA, .int tl])), (sA, .inl (cC, 1600, .inl fs)), (g0, .inr (1, [.ref gF, .ref gK, .ref gT, .ref gC, .ref gM, .int g_62, .ref eF, .ref eC, .ref eM, .int ec, .ref hopA])), (gF, .inl (cI, 40, .inl f_63)), (gK, .inl (cI, 40, .inl f_64)), (gT, .inl (cI, 40, .inl f_65)), (gC, .inl (cI, 40, .inl f_66)), (gM, .inl (cI, 40, .inl f_67))] := hD
          have hP9 := hP.sub (ws' := [(h0, .inr (2, [.ref tO, .int s_57, .int p_58, .int b_59, .int f_60])), (tO, .inr (3, [.ref sA, .int tl])), (sA, .inl (cC, 1600, .inl fs)), (g0, .inr (1, [.ref gF, .ref gK, .ref gT, .ref gC, .ref gM, .int g_62, .ref eF, .ref eC, .ref eM, .int ec, .ref hopA])), (gF, .inl (cI, 40, .inl f_63)), (gK, .inl (cI, 40, .inl f_64)), (gT, .inl (cI, 40, .inl f_65)), (gC, .inl (cI, 40, .inl f_66)), (gM, .inl (cI, 40, .inl f_67))]) [0, 1, 2, 3, 4, 5, 6, 7, 8] rfl
          have hD9 := hD.sub (ws' := [(h0, .inr (2, [.ref tO, .int s_57, .int p_58, .int b_59, .int f_60])), (tO, .inr (3, [.ref sA, .int tl])), (sA, .inl (cC, 1600, .inl fs)), (g0, .inr (1, [.ref gF, .ref gK, .ref gT, .ref gC, .ref gM, .int g_62, .ref eF, .ref eC, .ref eM, .int ec, .ref hopA])), (gF, .inl (cI, 40, .inl f_63)), (gK, .inl (cI, 40, .inl f_64)), (gT, .inl (cI, 40, .inl f_65)), (gC, .inl (cI, 40, .inl f_66)), (gM, .inl (cI, 40, .inl f_67))]) [0, 1, 2, 3, 4, 5, 6, 7, 8] (by decide) rfl
          exact W.vret hx hb hr (fun t ht hW => ⟨⟨(s_57, p_58, b_59, f_60, g_62, f_63, f_64, f_65, f_66, f_67), rfl, trivial, by rw [ht]; exact hP9, hD9⟩, hS.F ht⟩) hS.2.2 dX2_readGo_153
    · skip
      refine lv_aload_n hx hb dX2_readGo_92 rfl (lv_at hl 5 rfl) ?_
      refine lv_iconst (v := 1) hx hb dX2_readGo_93 (by decide) ?_
      have hPc := hP.sub (ws' := [(h0, .inr (2, [.ref tO, .int s_39, .int p_40, .int b_41, .int f_42])), (tO, .inr (3, [.ref sA, .int tl])), (sA, .inl (cC, 1600, .inl fs))]) [6, 7, 8] rfl
      have hDc := hD.sub (ws' := [(h0, .inr (2, [.ref tO, .int s_39, .int p_40, .int b_41, .int f_42])), (tO, .inr (3, [.ref sA, .int tl])), (sA, .inl (cC, 1600, .inl fs))]) [6, 7, 8] (by decide) rfl
      have hFc := va_free (wc := [(h0, .inr (2, [.ref tO, .int s_39, .int p_40, .int b_41, .int f_42])), (tO, .inr (3, [.ref sA, .int tl])), (sA, .inl (cC, 1600, .inl fs))]) hD hS hA [6, 7, 8] rfl
      refine va_callv (va_runV (As := [.int 1]) (rest := []) ⟨hx, hb, hml, hown, hts⟩ (k_passIf l dC dI cI cZ cC cJ H.size  h0 tO s_39 p_40 b_41 f_42 sA tl fs 1 ) (cwV 1 hts gX2_readGo_X2_passIf rfl rfl rfl (by decide +kernel) ⟨Nat.le_of_ble_eq_true rfl, Nat.le_of_ble_eq_true rfl⟩) ⟨sPre_blind, va_recv hK hPc (ci := 2) (q0 := 0) rfl rfl, fun U hU hW => ⟨rfl, sPre_ok hsk hPc hDc hU hW⟩⟩ rfl rfl hl.1 rfl (lv_room (Nat.le_of_ble_eq_true rfl)) dX2_readGo_94 ⟨(show 0 + 0 ≤ 0 by omega), (show 0 + 0 ≤ 0 by omega)⟩) hS (fun q _ h => hFc q h) hFc (fun u t H1 locs ht hvm hw hB hz1 hk1 hS => ?_)
      obtain ⟨s_69, p_70, b_71, f_72⟩ := u
      try dsimp only at hw hB
      obtain ⟨hP1, hD1⟩ := hB
      rw [ht] at hP1
      obtain ⟨hP, hD⟩ := va_join (wr := [(g0, .inr (1, [.ref gF, .ref gK, .ref gT, .ref gC, .ref gM, .int gc, .ref eF, .ref eC, .ref eM, .int ec, .ref hopA])), (gF, .inl (cI, 40, .inl fgF)), (gK, .inl (cI, 40, .inl fgK)), (gT, .inl (cI, 40, .inl fgT)), (gC, .inl (cI, 40, .inl fgC)), (gM, .inl (cI, 40, .inl fgM))]) (w1 := [(h0, .inr (2, [.ref tO, .int s_69, .int p_70, .int b_71, .int f_72])), (tO, .inr (3, [.ref sA, .int tl])), (sA, .inl (cC, 1600, .inl fs))]) hP hD [6, 7, 8] [0, 1, 2, 3, 4, 5] rfl rfl (by decide) (by decide) hk1 hFc hP1 hD1
      generalize H1 = H at hP hS ⊢
      have hP : va_P (dC, dI) vwCl [(g0, .inr (1, [.ref gF, .ref gK, .ref gT, .ref gC, .ref gM, .int gc, .ref eF, .ref eC, .ref eM, .int ec, .ref hopA])), (gF, .inl (cI, 40, .inl fgF)), (gK, .inl (cI, 40, .inl fgK)), (gT, .inl (cI, 40, .inl fgT)), (gC, .inl (cI, 40, .inl fgC)), (gM, .inl (cI, 40, .inl fgM)), (h0, .inr (2, [.ref tO, .int s_69, .int p_70, .int b_71, .int f_72])), (tO, .inr (3, [.ref sA, .int tl])), (sA, .inl (cC, 1600, .inl fs))] H := hP
      have hD : va_D A [(g0, .inr (1, [.ref gF, .ref gK, .ref gT, .ref gC, .ref gM, .int gc, .ref eF, .ref eC, .ref eM, .int ec, .ref hopA])), (gF, .inl (cI, 40, .inl fgF)), (gK, .inl (cI, 40, .inl fgK)), (gT, .inl (cI, 40, .inl fgT)), (gC, .inl (cI, 40, .inl fgC)), (gM, .inl (cI, 40, .inl fgM)), (h0, .inr (2, [.ref tO, .int s_69, .int p_70, .int b_71, .int f_72])), (tO, .inr (3, [.ref sA, .int tl])), (sA, .inl (cC, 1600, .inl fs))] := hD
      refine lv_aload_n hx hb dX2_readGo_97 rfl (lv_at hl 5 rfl) ?_
      have hPc := hP.sub (ws' := [(h0, .inr (2, [.ref tO, .int s_69, .int p_70, .int b_71, .int f_72])), (tO, .inr (3, [.ref sA, .int tl])), (sA, .inl (cC, 1600, .inl fs))]) [6, 7, 8] rfl
      have hDc := hD.sub (ws' := [(h0, .inr (2, [.ref tO, .int s_69, .int p_70, .int b_71, .int f_72])), (tO, .inr (3, [.ref sA, .int tl])), (sA, .inl (cC, 1600, .inl fs))]) [6, 7, 8] (by decide) rfl
      have hFc := va_free (wc := [(h0, .inr (2, [.ref tO, .int s_69, .int p_70, .int b_71, .int f_72])), (tO, .inr (3, [.ref sA, .int tl])), (sA, .inl (cC, 1600, .inl fs))]) hD hS hA [6, 7, 8] rfl
      refine va_calli (va_runV (As := []) (rest := []) ⟨hx, hb, hml, hown, hts⟩ (k_goMarkHere l dC dI cI cZ cC cJ H.size adK adV h0 tO s_69 p_70 b_71 f_72 sA tl fs ) (cwV 0 hts gX2_readGo_X2_goMarkHere rfl rfl rfl (by decide +kernel) ⟨Nat.le_of_ble_eq_true rfl, Nat.le_of_ble_eq_true rfl⟩) ⟨tW_blind, va_recv hK hPc (ci := 2) (q0 := 0) rfl rfl, fun U hU hW => ⟨rfl, sPre_ok hsk hPc hDc hU hW, tW_warm hW hU hS (fun q h => hFc q h) htw⟩⟩ rfl rfl hl.1 rfl (lv_room (Nat.le_of_ble_eq_true rfl)) dX2_readGo_98 ⟨(show 0 + 0 ≤ 0 by omega), (show 0 + 0 ≤ 0 by omega)⟩) hS (fun q _ h => hFc q h) hFc (fun r_73 u t H1 locs ht hvm hw hB hz1 hk1 hS => ?_)
      try dsimp only at hw hB
      obtain ⟨hP1, hD1⟩ := hB
      rw [ht] at hP1
      obtain ⟨hP, hD⟩ := va_join (wr := [(g0, .inr (1, [.ref gF, .ref gK, .ref gT, .ref gC, .ref gM, .int gc, .ref eF, .ref eC, .ref eM, .int ec, .ref hopA])), (gF, .inl (cI, 40, .inl fgF)), (gK, .inl (cI, 40, .inl fgK)), (gT, .inl (cI, 40, .inl fgT)), (gC, .inl (cI, 40, .inl fgC)), (gM, .inl (cI, 40, .inl fgM))]) (w1 := [(h0, .inr (2, [.ref tO, .int s_69, .int p_70, .int b_71, .int f_72])), (tO, .inr (3, [.ref sA, .int tl])), (sA, .inl (cC, 1600, .inl fs))]) hP hD [6, 7, 8] [0, 1, 2, 3, 4, 5] rfl rfl (by decide) (by decide) hk1 hFc hP1 hD1
      generalize H1 = H at hP hS ⊢
      have hP : va_P (dC, dI) vwCl [(g0, .inr (1, [.ref gF, .ref gK, .ref gT, .ref gC, .ref gM, .int gc, .ref eF, .ref eC, .ref eM, .int ec, .ref hopA])), (gF, .inl (cI, 40, .inl fgF)), (gK, .inl (cI, 40, .inl fgK)), (gT, .inl (cI, 40, .inl fgT)), (gC, .inl (cI, 40, .inl fgC)), (gM, .inl (cI, 40, .inl fgM)), (h0, .inr (2, [.ref tO, .int s_69, .int p_70, .int b_71, .int f_72])), (tO, .inr (3, [.ref sA, .int tl])), (sA, .inl (cC, 1600, .inl fs))] H := hP
      have hD : va_D A [(g0, .inr (1, [.ref gF, .ref gK, .ref gT, .ref gC, .ref gM, .int gc, .ref eF, .ref eC, .ref eM, .int ec, .ref hopA])), (gF, .inl (cI, 40, .inl fgF)), (gK, .inl (cI, 40, .inl fgK)), (gT, .inl (cI, 40, .inl fgT)), (gC, .inl (cI, 40, .inl fgC)), (gM, .inl (cI, 40, .inl fgM)), (h0, .inr (2, [.ref tO, .int s_69, .int p_70, .int b_71, .int f_72])), (tO, .inr (3, [.ref sA, .int tl])), (sA, .inl (cC, 1600, .inl fs))] := hD
      have hw_r_73 := hw
      refine lv_istore (lv' := [(6, .int r_73), (5, .int r_38), (4, .int r_27), (3, .int r_16), (2, .int r_5), (0, .ref h0), (1, .ref g0)]) hx hb dX2_readGo_101 hl (by decide) rfl (fun ls hl => ?_)
      refine lv_aload_n hx hb dX2_readGo_103 rfl (lv_at hl 5 rfl) ?_
      refine lv_iload hx hb dX2_readGo_104 (lv_at hl 0 rfl) ?_
      refine lv_if_eq (tgt := 113) hx hb dX2_readGo_106 (by decide) (fun c_106 => ?_) (fun c_106 => ?_)
      · skip
        refine lv_iconst (v := 0) hx hb dX2_readGo_113 (by decide) ?_
        have hPc := hP.sub (ws' := [(h0, .inr (2, [.ref tO, .int s_69, .int p_70, .int b_71, .int f_72])), (tO, .inr (3, [.ref sA, .int tl])), (sA, .inl (cC, 1600, .inl fs))]) [6, 7, 8] rfl
        have hDc := hD.sub (ws' := [(h0, .inr (2, [.ref tO, .int s_69, .int p_70, .int b_71, .int f_72])), (tO, .inr (3, [.ref sA, .int tl])), (sA, .inl (cC, 1600, .inl fs))]) [6, 7, 8] (by decide) rfl
        have hFc := va_free (wc := [(h0, .inr (2, [.ref tO, .int s_69, .int p_70, .int b_71, .int f_72])), (tO, .inr (3, [.ref sA, .int tl])), (sA, .inl (cC, 1600, .inl fs))]) hD hS hA [6, 7, 8] rfl
        refine va_callv (va_runV (As := [.int 0]) (rest := []) ⟨hx, hb, hml, hown, hts⟩ (k_passIf l dC dI cI cZ cC cJ H.size  h0 tO s_69 p_70 b_71 f_72 sA tl fs 0 ) (cwV 1 hts gX2_readGo_X2_passIf rfl rfl rfl (by decide +kernel) ⟨Nat.le_of_ble_eq_true rfl, Nat.le_of_ble_eq_true rfl⟩) ⟨sPre_blind, va_recv hK hPc (ci := 2) (q0 := 0) rfl rfl, fun U hU hW => ⟨rfl, sPre_ok hsk hPc hDc hU hW⟩⟩ rfl rfl hl.1 rfl (lv_room (Nat.le_of_ble_eq_true rfl)) dX2_readGo_114 ⟨(show 0 + 0 ≤ 0 by omega), (show 0 + 0 ≤ 0 by omega)⟩) hS (fun q _ h => hFc q h) hFc (fun u t H1 locs ht hvm hw hB hz1 hk1 hS => ?_)
        obtain ⟨s_75, p_76, b_77, f_78⟩ := u
        try dsimp only at hw hB
        obtain ⟨hP1, hD1⟩ := hB
        rw [ht] at hP1
        obtain ⟨hP, hD⟩ := va_join (wr := [(g0, .inr (1, [.ref gF, .ref gK, .ref gT, .ref gC, .ref gM, .int gc, .ref eF, .ref eC, .ref eM, .int ec, .ref hopA])), (gF, .inl (cI, 40, .inl fgF)), (gK, .inl (cI, 40, .inl fgK)), (gT, .inl (cI, 40, .inl fgT)), (gC, .inl (cI, 40, .inl fgC)), (gM, .inl (cI, 40, .inl fgM))]) (w1 := [(h0, .inr (2, [.ref tO, .int s_75, .int p_76, .int b_77, .int f_78])), (tO, .inr (3, [.ref sA, .int tl])), (sA, .inl (cC, 1600, .inl fs))]) hP hD [6, 7, 8] [0, 1, 2, 3, 4, 5] rfl rfl (by decide) (by decide) hk1 hFc hP1 hD1
        generalize H1 = H at hP hS ⊢
        have hP : va_P (dC, dI) vwCl [(g0, .inr (1, [.ref gF, .ref gK, .ref gT, .ref gC, .ref gM, .int gc, .ref eF, .ref eC, .ref eM, .int ec, .ref hopA])), (gF, .inl (cI, 40, .inl fgF)), (gK, .inl (cI, 40, .inl fgK)), (gT, .inl (cI, 40, .inl fgT)), (gC, .inl (cI, 40, .inl fgC)), (gM, .inl (cI, 40, .inl fgM)), (h0, .inr (2, [.ref tO, .int s_75, .int p_76, .int b_77, .int f_78])), (tO, .inr (3, [.ref sA, .int tl])), (sA, .inl (cC, 1600, .inl fs))] H := hP
        have hD : va_D A [(g0, .inr (1, [.ref gF, .ref gK, .ref gT, .ref gC, .ref gM, .int gc, .ref eF, .ref eC, .ref eM, .int ec, .ref hopA])), (gF, .inl (cI, 40, .inl fgF)), (gK, .inl (cI, 40, .inl fgK)), (gT, .inl (cI, 40, .inl fgT)), (gC, .inl (cI, 40, .inl fgC)), (gM, .inl (cI, 40, .inl fgM)), (h0, .inr (2, [.ref tO, .int s_75, .int p_76, .int b_77, .int f_78])), (tO, .inr (3, [.ref sA, .int tl])), (sA, .inl (cC, 1600, .inl fs))] := hD
        refine lv_aload_n hx hb dX2_readGo_117 rfl (lv_at hl 5 rfl) ?_
        refine lv_aload_n hx hb dX2_readGo_118 rfl (lv_at hl 5 rfl) ?_
        refine va_get (D := (dC, dI)) (ci := 2) (v := .int s_75) (C := RX2) (T := TX2) (N := 5) hx hb hts i2 hown hK hP 6 rfl rfl 1 (by decide) (hts (.fieldLink RX2 32 "StopSetter$Reader" "sort" "I") (by decide +kernel)) (fun _ h9 => h9) rfl dX2_readGo_119 ?_
        refine lv_iconst (v := 4) hx hb dX2_readGo_122 (by decide) ?_
        refine lv_icmp_ne (tgt := 130) hx hb dX2_readGo_123 (by decide) (fun c_123 => ?_) (fun c_123 => ?_)
        · skip
          refine lv_iconst (v := 0) hx hb dX2_readGo_130 (by decide) ?_
          have hPc := hP.sub (ws' := [(h0, .inr (2, [.ref tO, .int s_75, .int p_76, .int b_77, .int f_78])), (tO, .inr (3, [.ref sA, .int tl])), (sA, .inl (cC, 1600, .inl fs))]) [6, 7, 8] rfl
          have hDc := hD.sub (ws' := [(h0, .inr (2, [.ref tO, .int s_75, .int p_76, .int b_77, .int f_78])), (tO, .inr (3, [.ref sA, .int tl])), (sA, .inl (cC, 1600, .inl fs))]) [6, 7, 8] (by decide) rfl
          have hFc := va_free (wc := [(h0, .inr (2, [.ref tO, .int s_75, .int p_76, .int b_77, .int f_78])), (tO, .inr (3, [.ref sA, .int tl])), (sA, .inl (cC, 1600, .inl fs))]) hD hS hA [6, 7, 8] rfl
          refine va_callv (va_runV (As := [.int 0]) (rest := []) ⟨hx, hb, hml, hown, hts⟩ (k_passIf l dC dI cI cZ cC cJ H.size  h0 tO s_75 p_76 b_77 f_78 sA tl fs 0 ) (cwV 1 hts gX2_readGo_X2_passIf rfl rfl rfl (by decide +kernel) ⟨Nat.le_of_ble_eq_true rfl, Nat.le_of_ble_eq_true rfl⟩) ⟨sPre_blind, va_recv hK hPc (ci := 2) (q0 := 0) rfl rfl, fun U hU hW => ⟨rfl, sPre_ok hsk hPc hDc hU hW⟩⟩ rfl rfl hl.1 rfl (lv_room (Nat.le_of_ble_eq_true rfl)) dX2_readGo_131 ⟨(show 0 + 0 ≤ 0 by omega), (show 0 + 0 ≤ 0 by omega)⟩) hS (fun q _ h => hFc q h) hFc (fun u t H1 locs ht hvm hw hB hz1 hk1 hS => ?_)
          obtain ⟨s_80, p_81, b_82, f_83⟩ := u
          try dsimp only at hw hB
          obtain ⟨hP1, hD1⟩ := hB
          rw [ht] at hP1
          obtain ⟨hP, hD⟩ := va_join (wr := [(g0, .inr (1, [.ref gF, .ref gK, .ref gT, .ref gC, .ref gM, .int gc, .ref eF, .ref eC, .ref eM, .int ec, .ref hopA])), (gF, .inl (cI, 40, .inl fgF)), (gK, .inl (cI, 40, .inl fgK)), (gT, .inl (cI, 40, .inl fgT)), (gC, .inl (cI, 40, .inl fgC)), (gM, .inl (cI, 40, .inl fgM))]) (w1 := [(h0, .inr (2, [.ref tO, .int s_80, .int p_81, .int b_82, .int f_83])), (tO, .inr (3, [.ref sA, .int tl])), (sA, .inl (cC, 1600, .inl fs))]) hP hD [6, 7, 8] [0, 1, 2, 3, 4, 5] rfl rfl (by decide) (by decide) hk1 hFc hP1 hD1
          generalize H1 = H at hP hS ⊢
          have hP : va_P (dC, dI) vwCl [(g0, .inr (1, [.ref gF, .ref gK, .ref gT, .ref gC, .ref gM, .int gc, .ref eF, .ref eC, .ref eM, .int ec, .ref hopA])), (gF, .inl (cI, 40, .inl fgF)), (gK, .inl (cI, 40, .inl fgK)), (gT, .inl (cI, 40, .inl fgT)), (gC, .inl (cI, 40, .inl fgC)), (gM, .inl (cI, 40, .inl fgM)), (h0, .inr (2, [.ref tO, .int s_80, .int p_81, .int b_82, .int f_83])), (tO, .inr (3, [.ref sA, .int tl])), (sA, .inl (cC, 1600, .inl fs))] H := hP
          have hD : va_D A [(g0, .inr (1, [.ref gF, .ref gK, .ref gT, .ref gC, .ref gM, .int gc, .ref eF, .ref eC, .ref eM, .int ec, .ref hopA])), (gF, .inl (cI, 40, .inl fgF)), (gK, .inl (cI, 40, .inl fgK)), (gT, .inl (cI, 40, .inl fgT)), (gC, .inl (cI, 40, .inl fgC)), (gM, .inl (cI, 40, .inl fgM)), (h0, .inr (2, [.ref tO, .int s_80, .int p_81, .int b_82, .int f_83])), (tO, .inr (3, [.ref sA, .int tl])), (sA, .inl (cC, 1600, .inl fs))] := hD
          refine lv_aload_n hx hb dX2_readGo_134 rfl (lv_at hl 5 rfl) ?_
          refine va_get (D := (dC, dI)) (ci := 2) (v := .int f_83) (C := RX2) (T := TX2) (N := 5) hx hb hts i2 hown hK hP 6 rfl rfl 4 (by decide) (hts (.fieldLink RX2 20 "StopSetter$Reader" "fault" "I") (by decide +kernel)) (fun _ h9 => h9) rfl dX2_readGo_135 ?_
          refine lv_if_ne (tgt := 153) hx hb dX2_readGo_138 (by decide) (fun c_138 => ?_) (fun c_138 => ?_)
          · skip
            have hP9 := hP.sub (ws' := [(h0, .inr (2, [.ref tO, .int s_80, .int p_81, .int b_82, .int f_83])), (tO, .inr (3, [.ref sA, .int tl])), (sA, .inl (cC, 1600, .inl fs)), (g0, .inr (1, [.ref gF, .ref gK, .ref gT, .ref gC, .ref gM, .int gc, .ref eF, .ref eC, .ref eM, .int ec, .ref hopA])), (gF, .inl (cI, 40, .inl fgF)), (gK, .inl (cI, 40, .inl fgK)), (gT, .inl (cI, 40, .inl fgT)), (gC, .inl (cI, 40, .inl fgC)), (gM, .inl (cI, 40, .inl fgM))]) [6, 7, 8, 0, 1, 2, 3, 4, 5] rfl
            have hD9 := hD.sub (ws' := [(h0, .inr (2, [.ref tO, .int s_80, .int p_81, .int b_82, .int f_83])), (tO, .inr (3, [.ref sA, .int tl])), (sA, .inl (cC, 1600, .inl fs)), (g0, .inr (1, [.ref gF, .ref gK, .ref gT, .ref gC, .ref gM, .int gc, .ref eF, .ref eC, .ref eM, .int ec, .ref hopA])), (gF, .inl (cI, 40, .inl fgF)), (gK, .inl (cI, 40, .inl fgK)), (gT, .inl (cI, 40, .inl fgT)), (gC, .inl (cI, 40, .inl fgC)), (gM, .inl (cI, 40, .inl fgM))]) [6, 7, 8, 0, 1, 2, 3, 4, 5] (by decide) rfl
            exact W.vret hx hb hr (fun t ht hW => ⟨⟨(s_80, p_81, b_82, f_83, gc, fgF, fgK, fgT, fgC, fgM), rfl, trivial, by rw [ht]; exact hP9, hD9⟩, hS.F ht⟩) hS.2.2 dX2_readGo_153
          · skip
            refine lv_aload_n hx hb dX2_readGo_141 rfl (lv_at hl 6 rfl) ?_
            refine lv_iload_n hx hb dX2_readGo_142 rfl (lv_at hl 4 rfl) ?_
            refine lv_iload_n hx hb dX2_readGo_143 rfl (lv_at hl 3 rfl) ?_
            refine lv_iload hx hb dX2_readGo_144 (lv_at hl 2 rfl) ?_
            refine lv_iload hx hb dX2_readGo_146 (lv_at hl 1 rfl) ?_
            refine lv_iload hx hb dX2_readGo_148 (lv_at hl 0 rfl) ?_
            have hPc := hP.sub (ws' := [(g0, .inr (1, [.ref gF, .ref gK, .ref gT, .ref gC, .ref gM, .int gc, .ref eF, .ref eC, .ref eM, .int ec, .ref hopA])), (gF, .inl (cI, 40, .inl fgF)), (gK, .inl (cI, 40, .inl fgK)), (gT, .inl (cI, 40, .inl fgT)), (gC, .inl (cI, 40, .inl fgC)), (gM, .inl (cI, 40, .inl fgM))]) [0, 1, 2, 3, 4, 5] rfl
            have hDc := hD.sub (ws' := [(g0, .inr (1, [.ref gF, .ref gK, .ref gT, .ref gC, .ref gM, .int gc, .ref eF, .ref eC, .ref eM, .int ec, .ref hopA])), (gF, .inl (cI, 40, .inl fgF)), (gK, .inl (cI, 40, .inl fgK)), (gT, .inl (cI, 40, .inl fgT)), (gC, .inl (cI, 40, .inl fgC)), (gM, .inl (cI, 40, .inl fgM))]) [0, 1, 2, 3, 4, 5] (by decide) rfl
            have hFc := va_free (wc := [(g0, .inr (1, [.ref gF, .ref gK, .ref gT, .ref gC, .ref gM, .int gc, .ref eF, .ref eC, .ref eM, .int ec, .ref hopA])), (gF, .inl (cI, 40, .inl fgF)), (gK, .inl (cI, 40, .inl fgK)), (gT, .inl (cI, 40, .inl fgT)), (gC, .inl (cI, 40, .inl fgC)), (gM, .inl (cI, 40, .inl fgM))]) hD hS hA [0, 1, 2, 3, 4, 5] rfl
            refine va_callv (va_runV (As := [.int r_5, .int r_16, .int r_27, .int r_38, .int r_73]) (rest := []) ⟨hx, hb, hml, hown, hts⟩ (k_addGo l dC dI cI cZ cC cJ H.size  g0 gF gK gT gC gM gc eF eC eM ec hopA fgF fgK fgT fgC fgM r_5 r_16 r_27 r_38 r_73 ) (cwV 5 hts gX2_readGo_X1_addGo rfl rfl rfl (by decide +kernel) ⟨Nat.le_of_ble_eq_true rfl, Nat.le_of_ble_eq_true rfl⟩) ⟨sPre_blind, va_recv hK hPc (ci := 1) (q0 := 0) rfl rfl, fun U hU hW => ⟨rfl, sPre_ok hsk hPc hDc hU hW⟩⟩ rfl rfl hl.1 rfl (lv_room (Nat.le_of_ble_eq_true rfl)) dX2_readGo_150 ⟨(show 0 + 0 ≤ 0 by omega), (show 0 + 0 ≤ 0 by omega)⟩) hS (fun q _ h => hFc q h) hFc (fun u t H1 locs ht hvm hw hB hz1 hk1 hS => ?_)
            obtain ⟨g_85, f_86, f_87, f_88, f_89, f_90⟩ := u
            try dsimp only at hw hB
            obtain ⟨hP1, hD1⟩ := hB
            rw [ht] at hP1
            obtain ⟨hP, hD⟩ := va_join (wr := [(h0, .inr (2, [.ref tO, .int s_80, .int p_81, .int b_82, .int f_83])), (tO, .inr (3, [.ref sA, .int tl])), (sA, .inl (cC, 1600, .inl fs))]) (w1 := [(g0, .inr (1, [.ref gF, .ref gK, .ref gT, .ref gC, .ref gM, .int g_85, .ref eF, .ref eC, .ref eM, .int ec, .ref hopA])), (gF, .inl (cI, 40, .inl f_86)), (gK, .inl (cI, 40, .inl f_87)), (gT, .inl (cI, 40, .inl f_88)), (gC, .inl (cI, 40, .inl f_89)), (gM, .inl (cI, 40, .inl f_90))]) hP hD [0, 1, 2, 3, 4, 5] [6, 7, 8] rfl rfl (by decide) (by decide) hk1 hFc hP1 hD1
            generalize H1 = H at hP hS ⊢
            have hP : va_P (dC, dI) vwCl [(h0, .inr (2, [.ref tO, .int s_80, .int p_81, .int b_82, .int f_83])), (tO, .inr (3, [.ref sA, .int tl])), (sA, .inl (cC, 1600, .inl fs)), (g0, .inr (1, [.ref gF, .ref gK, .ref gT, .ref gC, .ref gM, .int g_85, .ref eF, .ref eC, .ref eM, .int ec, .ref hopA])), (gF, .inl (cI, 40, .inl f_86)), (gK, .inl (cI, 40, .inl f_87)), (gT, .inl (cI, 40, .inl f_88)), (gC, .inl (cI, 40, .inl f_89)), (gM, .inl (cI, 40, .inl f_90))] H := hP
            have hD : va_D A [(h0, .inr (2, [.ref tO, .int s_80, .int p_81, .int b_82, .int f_83])), (tO, .inr (3, [.ref sA, .int tl])), (sA, .inl (cC, 1600, .inl fs)), (g0, .inr (1, [.ref gF, .ref gK, .ref gT, .ref gC, .ref gM, .int g_85, .ref eF, .ref eC, .ref eM, .int ec, .ref hopA])), (gF, .inl (cI, 40, .inl f_86)), (gK, .inl (cI, 40, .inl f_87)), (gT, .inl (cI, 40, .inl f_88)), (gC, .inl (cI, 40, .inl f_89)), (gM, .inl (cI, 40, .inl f_90))] := hD
            have hP9 := hP.sub (ws' := [(h0, .inr (2, [.ref tO, .int s_80, .int p_81, .int b_82, .int f_83])), (tO, .inr (3, [.ref sA, .int tl])), (sA, .inl (cC, 1600, .inl fs)), (g0, .inr (1, [.ref gF, .ref gK, .ref gT, .ref gC, .ref gM, .int g_85, .ref eF, .ref eC, .ref eM, .int ec, .ref hopA])), (gF, .inl (cI, 40, .inl f_86)), (gK, .inl (cI, 40, .inl f_87)), (gT, .inl (cI, 40, .inl f_88)), (gC, .inl (cI, 40, .inl f_89)), (gM, .inl (cI, 40, .inl f_90))]) [0, 1, 2, 3, 4, 5, 6, 7, 8] rfl
            have hD9 := hD.sub (ws' := [(h0, .inr (2, [.ref tO, .int s_80, .int p_81, .int b_82, .int f_83])), (tO, .inr (3, [.ref sA, .int tl])), (sA, .inl (cC, 1600, .inl fs)), (g0, .inr (1, [.ref gF, .ref gK, .ref gT, .ref gC, .ref gM, .int g_85, .ref eF, .ref eC, .ref eM, .int ec, .ref hopA])), (gF, .inl (cI, 40, .inl f_86)), (gK, .inl (cI, 40, .inl f_87)), (gT, .inl (cI, 40, .inl f_88)), (gC, .inl (cI, 40, .inl f_89)), (gM, .inl (cI, 40, .inl f_90))]) [0, 1, 2, 3, 4, 5, 6, 7, 8] (by decide) rfl
            exact W.vret hx hb hr (fun t ht hW => ⟨⟨(s_80, p_81, b_82, f_83, g_85, f_86, f_87, f_88, f_89, f_90), rfl, trivial, by rw [ht]; exact hP9, hD9⟩, hS.F ht⟩) hS.2.2 dX2_readGo_153
        · skip
          refine lv_iconst (v := 1) hx hb dX2_readGo_126 (by decide) ?_
          refine lv_goto (tgt := 131) hx hb dX2_readGo_127 (by decide) ?_
          have hPc := hP.sub (ws' := [(h0, .inr (2, [.ref tO, .int s_75, .int p_76, .int b_77, .int f_78])), (tO, .inr (3, [.ref sA, .int tl])), (sA, .inl (cC, 1600, .inl fs))]) [6, 7, 8] rfl
          have hDc := hD.sub (ws' := [(h0, .inr (2, [.ref tO, .int s_75, .int p_76, .int b_77, .int f_78])), (tO, .inr (3, [.ref sA, .int tl])), (sA, .inl (cC, 1600, .inl fs))]) [6, 7, 8] (by decide) rfl
          have hFc := va_free (wc := [(h0, .inr (2, [.ref tO, .int s_75, .int p_76, .int b_77, .int f_78])), (tO, .inr (3, [.ref sA, .int tl])), (sA, .inl (cC, 1600, .inl fs))]) hD hS hA [6, 7, 8] rfl
          refine va_callv (va_runV (As := [.int 1]) (rest := []) ⟨hx, hb, hml, hown, hts⟩ (k_passIf l dC dI cI cZ cC cJ H.size  h0 tO s_75 p_76 b_77 f_78 sA tl fs 1 ) (cwV 1 hts gX2_readGo_X2_passIf rfl rfl rfl (by decide +kernel) ⟨Nat.le_of_ble_eq_true rfl, Nat.le_of_ble_eq_true rfl⟩) ⟨sPre_blind, va_recv hK hPc (ci := 2) (q0 := 0) rfl rfl, fun U hU hW => ⟨rfl, sPre_ok hsk hPc hDc hU hW⟩⟩ rfl rfl hl.1 rfl (lv_room (Nat.le_of_ble_eq_true rfl)) dX2_readGo_131 ⟨(show 0 + 0 ≤ 0 by omega), (show 0 + 0 ≤ 0 by omega)⟩) hS (fun q _ h => hFc q h) hFc (fun u t H1 locs ht hvm hw hB hz1 hk1 hS => ?_)
          obtain ⟨s_92, p_93, b_94, f_95⟩ := u
          try dsimp only at hw hB
          obtain ⟨hP1, hD1⟩ := hB
          rw [ht] at hP1
          obtain ⟨hP, hD⟩ := va_join (wr := [(g0, .inr (1, [.ref gF, .ref gK, .ref gT, .ref gC, .ref gM, .int gc, .ref eF, .ref eC, .ref eM, .int ec, .ref hopA])), (gF, .inl (cI, 40, .inl fgF)), (gK, .inl (cI, 40, .inl fgK)), (gT, .inl (cI, 40, .inl fgT)), (gC, .inl (cI, 40, .inl fgC)), (gM, .inl (cI, 40, .inl fgM))]) (w1 := [(h0, .inr (2, [.ref tO, .int s_92, .int p_93, .int b_94, .int f_95])), (tO, .inr (3, [.ref sA, .int tl])), (sA, .inl (cC, 1600, .inl fs))]) hP hD [6, 7, 8] [0, 1, 2, 3, 4, 5] rfl rfl (by decide) (by decide) hk1 hFc hP1 hD1
          generalize H1 = H at hP hS ⊢
          have hP : va_P (dC, dI) vwCl [(g0, .inr (1, [.ref gF, .ref gK, .ref gT, .ref gC, .ref gM, .int gc, .ref eF, .ref eC, .ref eM, .int ec, .ref hopA])), (gF, .inl (cI, 40, .inl fgF)), (gK, .inl (cI, 40, .inl fgK)), (gT, .inl (cI, 40, .inl fgT)), (gC, .inl (cI, 40, .inl fgC)), (gM, .inl (cI, 40, .inl fgM)), (h0, .inr (2, [.ref tO, .int s_92, .int p_93, .int b_94, .int f_95])), (tO, .inr (3, [.ref sA, .int tl])), (sA, .inl (cC, 1600, .inl fs))] H := hP
          have hD : va_D A [(g0, .inr (1, [.ref gF, .ref gK, .ref gT, .ref gC, .ref gM, .int gc, .ref eF, .ref eC, .ref eM, .int ec, .ref hopA])), (gF, .inl (cI, 40, .inl fgF)), (gK, .inl (cI, 40, .inl fgK)), (gT, .inl (cI, 40, .inl fgT)), (gC, .inl (cI, 40, .inl fgC)), (gM, .inl (cI, 40, .inl fgM)), (h0, .inr (2, [.ref tO, .int s_92, .int p_93, .int b_94, .int f_95])), (tO, .inr (3, [.ref sA, .int tl])), (sA, .inl (cC, 1600, .inl fs))] := hD
          refine lv_aload_n hx hb dX2_readGo_134 rfl (lv_at hl 5 rfl) ?_
          refine va_get (D := (dC, dI)) (ci := 2) (v := .int f_95) (C := RX2) (T := TX2) (N := 5) hx hb hts i2 hown hK hP 6 rfl rfl 4 (by decide) (hts (.fieldLink RX2 20 "StopSetter$Reader" "fault" "I") (by decide +kernel)) (fun _ h9 => h9) rfl dX2_readGo_135 ?_
          refine lv_if_ne (tgt := 153) hx hb dX2_readGo_138 (by decide) (fun c_138 => ?_) (fun c_138 => ?_)
          · skip
            have hP9 := hP.sub (ws' := [(h0, .inr (2, [.ref tO, .int s_92, .int p_93, .int b_94, .int f_95])), (tO, .inr (3, [.ref sA, .int tl])), (sA, .inl (cC, 1600, .inl fs)), (g0, .inr (1, [.ref gF, .ref gK, .ref gT, .ref gC, .ref gM, .int gc, .ref eF, .ref eC, .ref eM, .int ec, .ref hopA])), (gF, .inl (cI, 40, .inl fgF)), (gK, .inl (cI, 40, .inl fgK)), (gT, .inl (cI, 40, .inl fgT)), (gC, .inl (cI, 40, .inl fgC)), (gM, .inl (cI, 40, .inl fgM))]) [6, 7, 8, 0, 1, 2, 3, 4, 5] rfl
            have hD9 := hD.sub (ws' := [(h0, .inr (2, [.ref tO, .int s_92, .int p_93, .int b_94, .int f_95])), (tO, .inr (3, [.ref sA, .int tl])), (sA, .inl (cC, 1600, .inl fs)), (g0, .inr (1, [.ref gF, .ref gK, .ref gT, .ref gC, .ref gM, .int gc, .ref eF, .ref eC, .ref eM, .int ec, .ref hopA])), (gF, .inl (cI, 40, .inl fgF)), (gK, .inl (cI, 40, .inl fgK)), (gT, .inl (cI, 40, .inl fgT)), (gC, .inl (cI, 40, .inl fgC)), (gM, .inl (cI, 40, .inl fgM))]) [6, 7, 8, 0, 1, 2, 3, 4, 5] (by decide) rfl
            exact W.vret hx hb hr (fun t ht hW => ⟨⟨(s_92, p_93, b_94, f_95, gc, fgF, fgK, fgT, fgC, fgM), rfl, trivial, by rw [ht]; exact hP9, hD9⟩, hS.F ht⟩) hS.2.2 dX2_readGo_153
          · skip
            refine lv_aload_n hx hb dX2_readGo_141 rfl (lv_at hl 6 rfl) ?_
            refine lv_iload_n hx hb dX2_readGo_142 rfl (lv_at hl 4 rfl) ?_
            refine lv_iload_n hx hb dX2_readGo_143 rfl (lv_at hl 3 rfl) ?_
            refine lv_iload hx hb dX2_readGo_144 (lv_at hl 2 rfl) ?_
            refine lv_iload hx hb dX2_readGo_146 (lv_at hl 1 rfl) ?_
            refine lv_iload hx hb dX2_readGo_148 (lv_at hl 0 rfl) ?_
            have hPc := hP.sub (ws' := [(g0, .inr (1, [.ref gF, .ref gK, .ref gT, .ref gC, .ref gM, .int gc, .ref eF, .ref eC, .ref eM, .int ec, .ref hopA])), (gF, .inl (cI, 40, .inl fgF)), (gK, .inl (cI, 40, .inl fgK)), (gT, .inl (cI, 40, .inl fgT)), (gC, .inl (cI, 40, .inl fgC)), (gM, .inl (cI, 40, .inl fgM))]) [0, 1, 2, 3, 4, 5] rfl
            have hDc := hD.sub (ws' := [(g0, .inr (1, [.ref gF, .ref gK, .ref gT, .ref gC, .ref gM, .int gc, .ref eF, .ref eC, .ref eM, .int ec, .ref hopA])), (gF, .inl (cI, 40, .inl fgF)), (gK, .inl (cI, 40, .inl fgK)), (gT, .inl (cI, 40, .inl fgT)), (gC, .inl (cI, 40, .inl fgC)), (gM, .inl (cI, 40, .inl fgM))]) [0, 1, 2, 3, 4, 5] (by decide) rfl
            have hFc := va_free (wc := [(g0, .inr (1, [.ref gF, .ref gK, .ref gT, .ref gC, .ref gM, .int gc, .ref eF, .ref eC, .ref eM, .int ec, .ref hopA])), (gF, .inl (cI, 40, .inl fgF)), (gK, .inl (cI, 40, .inl fgK)), (gT, .inl (cI, 40, .inl fgT)), (gC, .inl (cI, 40, .inl fgC)), (gM, .inl (cI, 40, .inl fgM))]) hD hS hA [0, 1, 2, 3, 4, 5] rfl
            refine va_callv (va_runV (As := [.int r_5, .int r_16, .int r_27, .int r_38, .int r_73]) (rest := []) ⟨hx, hb, hml, hown, hts⟩ (k_addGo l dC dI cI cZ cC cJ H.size  g0 gF gK gT gC gM gc eF eC eM ec hopA fgF fgK fgT fgC fgM r_5 r_16 r_27 r_38 r_73 ) (cwV 5 hts gX2_readGo_X1_addGo rfl rfl rfl (by decide +kernel) ⟨Nat.le_of_ble_eq_true rfl, Nat.le_of_ble_eq_true rfl⟩) ⟨sPre_blind, va_recv hK hPc (ci := 1) (q0 := 0) rfl rfl, fun U hU hW => ⟨rfl, sPre_ok hsk hPc hDc hU hW⟩⟩ rfl rfl hl.1 rfl (lv_room (Nat.le_of_ble_eq_true rfl)) dX2_readGo_150 ⟨(show 0 + 0 ≤ 0 by omega), (show 0 + 0 ≤ 0 by omega)⟩) hS (fun q _ h => hFc q h) hFc (fun u t H1 locs ht hvm hw hB hz1 hk1 hS => ?_)
            obtain ⟨g_97, f_98, f_99, f_100, f_101, f_102⟩ := u
            try dsimp only at hw hB
            obtain ⟨hP1, hD1⟩ := hB
            rw [ht] at hP1
            obtain ⟨hP, hD⟩ := va_join (wr := [(h0, .inr (2, [.ref tO, .int s_92, .int p_93, .int b_94, .int f_95])), (tO, .inr (3, [.ref sA, .int tl])), (sA, .inl (cC, 1600, .inl fs))]) (w1 := [(g0, .inr (1, [.ref gF, .ref gK, .ref gT, .ref gC, .ref gM, .int g_97, .ref eF, .ref eC, .ref eM, .int ec, .ref hopA])), (gF, .inl (cI, 40, .inl f_98)), (gK, .inl (cI, 40, .inl f_99)), (gT, .inl (cI, 40, .inl f_100)), (gC, .inl (cI, 40, .inl f_101)), (gM, .inl (cI, 40, .inl f_102))]) hP hD [0, 1, 2, 3, 4, 5] [6, 7, 8] rfl rfl (by decide) (by decide) hk1 hFc hP1 hD1
            generalize H1 = H at hP hS ⊢
            have hP : va_P (dC, dI) vwCl [(h0, .inr (2, [.ref tO, .int s_92, .int p_93, .int b_94, .int f_95])), (tO, .inr (3, [.ref sA, .int tl])), (sA, .inl (cC, 1600, .inl fs)), (g0, .inr (1, [.ref gF, .ref gK, .ref gT, .ref gC, .ref gM, .int g_97, .ref eF, .ref eC, .ref eM, .int ec, .ref hopA])), (gF, .inl (cI, 40, .inl f_98)), (gK, .inl (cI, 40, .inl f_99)), (gT, .inl (cI, 40, .inl f_100)), (gC, .inl (cI, 40, .inl f_101)), (gM, .inl (cI, 40, .inl f_102))] H := hP
            have hD : va_D A [(h0, .inr (2, [.ref tO, .int s_92, .int p_93, .int b_94, .int f_95])), (tO, .inr (3, [.ref sA, .int tl])), (sA, .inl (cC, 1600, .inl fs)), (g0, .inr (1, [.ref gF, .ref gK, .ref gT, .ref gC, .ref gM, .int g_97, .ref eF, .ref eC, .ref eM, .int ec, .ref hopA])), (gF, .inl (cI, 40, .inl f_98)), (gK, .inl (cI, 40, .inl f_99)), (gT, .inl (cI, 40, .inl f_100)), (gC, .inl (cI, 40, .inl f_101)), (gM, .inl (cI, 40, .inl f_102))] := hD
            have hP9 := hP.sub (ws' := [(h0, .inr (2, [.ref tO, .int s_92, .int p_93, .int b_94, .int f_95])), (tO, .inr (3, [.ref sA, .int tl])), (sA, .inl (cC, 1600, .inl fs)), (g0, .inr (1, [.ref gF, .ref gK, .ref gT, .ref gC, .ref gM, .int g_97, .ref eF, .ref eC, .ref eM, .int ec, .ref hopA])), (gF, .inl (cI, 40, .inl f_98)), (gK, .inl (cI, 40, .inl f_99)), (gT, .inl (cI, 40, .inl f_100)), (gC, .inl (cI, 40, .inl f_101)), (gM, .inl (cI, 40, .inl f_102))]) [0, 1, 2, 3, 4, 5, 6, 7, 8] rfl
            have hD9 := hD.sub (ws' := [(h0, .inr (2, [.ref tO, .int s_92, .int p_93, .int b_94, .int f_95])), (tO, .inr (3, [.ref sA, .int tl])), (sA, .inl (cC, 1600, .inl fs)), (g0, .inr (1, [.ref gF, .ref gK, .ref gT, .ref gC, .ref gM, .int g_97, .ref eF, .ref eC, .ref eM, .int ec, .ref hopA])), (gF, .inl (cI, 40, .inl f_98)), (gK, .inl (cI, 40, .inl f_99)), (gT, .inl (cI, 40, .inl f_100)), (gC, .inl (cI, 40, .inl f_101)), (gM, .inl (cI, 40, .inl f_102))]) [0, 1, 2, 3, 4, 5, 6, 7, 8] (by decide) rfl
            exact W.vret hx hb hr (fun t ht hW => ⟨⟨(s_92, p_93, b_94, f_95, g_97, f_98, f_99, f_100, f_101, f_102), rfl, trivial, by rw [ht]; exact hP9, hD9⟩, hS.F ht⟩) hS.2.2 dX2_readGo_153
      · skip
        refine lv_iconst (v := 1) hx hb dX2_readGo_109 (by decide) ?_
        refine lv_goto (tgt := 114) hx hb dX2_readGo_110 (by decide) ?_
        have hPc := hP.sub (ws' := [(h0, .inr (2, [.ref tO, .int s_69, .int p_70, .int b_71, .int f_72])), (tO, .inr (3, [.ref sA, .int tl])), (sA, .inl (cC, 1600, .inl fs))]) [6, 7, 8] rfl
        have hDc := hD.sub (ws' := [(h0, .inr (2, [.ref tO, .int s_69, .int p_70, .int b_71, .int f_72])), (tO, .inr (3, [.ref sA, .int tl])), (sA, .inl (cC, 1600, .inl fs))]) [6, 7, 8] (by decide) rfl
        have hFc := va_free (wc := [(h0, .inr (2, [.ref tO, .int s_69, .int p_70, .int b_71, .int f_72])), (tO, .inr (3, [.ref sA, .int tl])), (sA, .inl (cC, 1600, .inl fs))]) hD hS hA [6, 7, 8] rfl
        refine va_callv (va_runV (As := [.int 1]) (rest := []) ⟨hx, hb, hml, hown, hts⟩ (k_passIf l dC dI cI cZ cC cJ H.size  h0 tO s_69 p_70 b_71 f_72 sA tl fs 1 ) (cwV 1 hts gX2_readGo_X2_passIf rfl rfl rfl (by decide +kernel) ⟨Nat.le_of_ble_eq_true rfl, Nat.le_of_ble_eq_true rfl⟩) ⟨sPre_blind, va_recv hK hPc (ci := 2) (q0 := 0) rfl rfl, fun U hU hW => ⟨rfl, sPre_ok hsk hPc hDc hU hW⟩⟩ rfl rfl hl.1 rfl (lv_room (Nat.le_of_ble_eq_true rfl)) dX2_readGo_114 ⟨(show 0 + 0 ≤ 0 by omega), (show 0 + 0 ≤ 0 by omega)⟩) hS (fun q _ h => hFc q h) hFc (fun u t H1 locs ht hvm hw hB hz1 hk1 hS => ?_)
        obtain ⟨s_104, p_105, b_106, f_107⟩ := u
        try dsimp only at hw hB
        obtain ⟨hP1, hD1⟩ := hB
        rw [ht] at hP1
        obtain ⟨hP, hD⟩ := va_join (wr := [(g0, .inr (1, [.ref gF, .ref gK, .ref gT, .ref gC, .ref gM, .int gc, .ref eF, .ref eC, .ref eM, .int ec, .ref hopA])), (gF, .inl (cI, 40, .inl fgF)), (gK, .inl (cI, 40, .inl fgK)), (gT, .inl (cI, 40, .inl fgT)), (gC, .inl (cI, 40, .inl fgC)), (gM, .inl (cI, 40, .inl fgM))]) (w1 := [(h0, .inr (2, [.ref tO, .int s_104, .int p_105, .int b_106, .int f_107])), (tO, .inr (3, [.ref sA, .int tl])), (sA, .inl (cC, 1600, .inl fs))]) hP hD [6, 7, 8] [0, 1, 2, 3, 4, 5] rfl rfl (by decide) (by decide) hk1 hFc hP1 hD1
        generalize H1 = H at hP hS ⊢
        have hP : va_P (dC, dI) vwCl [(g0, .inr (1, [.ref gF, .ref gK, .ref gT, .ref gC, .ref gM, .int gc, .ref eF, .ref eC, .ref eM, .int ec, .ref hopA])), (gF, .inl (cI, 40, .inl fgF)), (gK, .inl (cI, 40, .inl fgK)), (gT, .inl (cI, 40, .inl fgT)), (gC, .inl (cI, 40, .inl fgC)), (gM, .inl (cI, 40, .inl fgM)), (h0, .inr (2, [.ref tO, .int s_104, .int p_105, .int b_106, .int f_107])), (tO, .inr (3, [.ref sA, .int tl])), (sA, .inl (cC, 1600, .inl fs))] H := hP
        have hD : va_D A [(g0, .inr (1, [.ref gF, .ref gK, .ref gT, .ref gC, .ref gM, .int gc, .ref eF, .ref eC, .ref eM, .int ec, .ref hopA])), (gF, .inl (cI, 40, .inl fgF)), (gK, .inl (cI, 40, .inl fgK)), (gT, .inl (cI, 40, .inl fgT)), (gC, .inl (cI, 40, .inl fgC)), (gM, .inl (cI, 40, .inl fgM)), (h0, .inr (2, [.ref tO, .int s_104, .int p_105, .int b_106, .int f_107])), (tO, .inr (3, [.ref sA, .int tl])), (sA, .inl (cC, 1600, .inl fs))] := hD
        refine lv_aload_n hx hb dX2_readGo_117 rfl (lv_at hl 5 rfl) ?_
        refine lv_aload_n hx hb dX2_readGo_118 rfl (lv_at hl 5 rfl) ?_
        refine va_get (D := (dC, dI)) (ci := 2) (v := .int s_104) (C := RX2) (T := TX2) (N := 5) hx hb hts i2 hown hK hP 6 rfl rfl 1 (by decide) (hts (.fieldLink RX2 32 "StopSetter$Reader" "sort" "I") (by decide +kernel)) (fun _ h9 => h9) rfl dX2_readGo_119 ?_
        refine lv_iconst (v := 4) hx hb dX2_readGo_122 (by decide) ?_
        refine lv_icmp_ne (tgt := 130) hx hb dX2_readGo_123 (by decide) (fun c_123 => ?_) (fun c_123 => ?_)
        · skip
          refine lv_iconst (v := 0) hx hb dX2_readGo_130 (by decide) ?_
          have hPc := hP.sub (ws' := [(h0, .inr (2, [.ref tO, .int s_104, .int p_105, .int b_106, .int f_107])), (tO, .inr (3, [.ref sA, .int tl])), (sA, .inl (cC, 1600, .inl fs))]) [6, 7, 8] rfl
          have hDc := hD.sub (ws' := [(h0, .inr (2, [.ref tO, .int s_104, .int p_105, .int b_106, .int f_107])), (tO, .inr (3, [.ref sA, .int tl])), (sA, .inl (cC, 1600, .inl fs))]) [6, 7, 8] (by decide) rfl
          have hFc := va_free (wc := [(h0, .inr (2, [.ref tO, .int s_104, .int p_105, .int b_106, .int f_107])), (tO, .inr (3, [.ref sA, .int tl])), (sA, .inl (cC, 1600, .inl fs))]) hD hS hA [6, 7, 8] rfl
          refine va_callv (va_runV (As := [.int 0]) (rest := []) ⟨hx, hb, hml, hown, hts⟩ (k_passIf l dC dI cI cZ cC cJ H.size  h0 tO s_104 p_105 b_106 f_107 sA tl fs 0 ) (cwV 1 hts gX2_readGo_X2_passIf rfl rfl rfl (by decide +kernel) ⟨Nat.le_of_ble_eq_true rfl, Nat.le_of_ble_eq_true rfl⟩) ⟨sPre_blind, va_recv hK hPc (ci := 2) (q0 := 0) rfl rfl, fun U hU hW => ⟨rfl, sPre_ok hsk hPc hDc hU hW⟩⟩ rfl rfl hl.1 rfl (lv_room (Nat.le_of_ble_eq_true rfl)) dX2_readGo_131 ⟨(show 0 + 0 ≤ 0 by omega), (show 0 + 0 ≤ 0 by omega)⟩) hS (fun q _ h => hFc q h) hFc (fun u t H1 locs ht hvm hw hB hz1 hk1 hS => ?_)
          obtain ⟨s_109, p_110, b_111, f_112⟩ := u
          try dsimp only at hw hB
          obtain ⟨hP1, hD1⟩ := hB
          rw [ht] at hP1
          obtain ⟨hP, hD⟩ := va_join (wr := [(g0, .inr (1, [.ref gF, .ref gK, .ref gT, .ref gC, .ref gM, .int gc, .ref eF, .ref eC, .ref eM, .int ec, .ref hopA])), (gF, .inl (cI, 40, .inl fgF)), (gK, .inl (cI, 40, .inl fgK)), (gT, .inl (cI, 40, .inl fgT)), (gC, .inl (cI, 40, .inl fgC)), (gM, .inl (cI, 40, .inl fgM))]) (w1 := [(h0, .inr (2, [.ref tO, .int s_109, .int p_110, .int b_111, .int f_112])), (tO, .inr (3, [.ref sA, .int tl])), (sA, .inl (cC, 1600, .inl fs))]) hP hD [6, 7, 8] [0, 1, 2, 3, 4, 5] rfl rfl (by decide) (by decide) hk1 hFc hP1 hD1
          generalize H1 = H at hP hS ⊢
          have hP : va_P (dC, dI) vwCl [(g0, .inr (1, [.ref gF, .ref gK, .ref gT, .ref gC, .ref gM, .int gc, .ref eF, .ref eC, .ref eM, .int ec, .ref hopA])), (gF, .inl (cI, 40, .inl fgF)), (gK, .inl (cI, 40, .inl fgK)), (gT, .inl (cI, 40, .inl fgT)), (gC, .inl (cI, 40, .inl fgC)), (gM, .inl (cI, 40, .inl fgM)), (h0, .inr (2, [.ref tO, .int s_109, .int p_110, .int b_111, .int f_112])), (tO, .inr (3, [.ref sA, .int tl])), (sA, .inl (cC, 1600, .inl fs))] H := hP
          have hD : va_D A [(g0, .inr (1, [.ref gF, .ref gK, .ref gT, .ref gC, .ref gM, .int gc, .ref eF, .ref eC, .ref eM, .int ec, .ref hopA])), (gF, .inl (cI, 40, .inl fgF)), (gK, .inl (cI, 40, .inl fgK)), (gT, .inl (cI, 40, .inl fgT)), (gC, .inl (cI, 40, .inl fgC)), (gM, .inl (cI, 40, .inl fgM)), (h0, .inr (2, [.ref tO, .int s_109, .int p_110, .int b_111, .int f_112])), (tO, .inr (3, [.ref sA, .int tl])), (sA, .inl (cC, 1600, .inl fs))] := hD
          refine lv_aload_n hx hb dX2_readGo_134 rfl (lv_at hl 5 rfl) ?_
          refine va_get (D := (dC, dI)) (ci := 2) (v := .int f_112) (C := RX2) (T := TX2) (N := 5) hx hb hts i2 hown hK hP 6 rfl rfl 4 (by decide) (hts (.fieldLink RX2 20 "StopSetter$Reader" "fault" "I") (by decide +kernel)) (fun _ h9 => h9) rfl dX2_readGo_135 ?_
          refine lv_if_ne (tgt := 153) hx hb dX2_readGo_138 (by decide) (fun c_138 => ?_) (fun c_138 => ?_)
          · skip
            have hP9 := hP.sub (ws' := [(h0, .inr (2, [.ref tO, .int s_109, .int p_110, .int b_111, .int f_112])), (tO, .inr (3, [.ref sA, .int tl])), (sA, .inl (cC, 1600, .inl fs)), (g0, .inr (1, [.ref gF, .ref gK, .ref gT, .ref gC, .ref gM, .int gc, .ref eF, .ref eC, .ref eM, .int ec, .ref hopA])), (gF, .inl (cI, 40, .inl fgF)), (gK, .inl (cI, 40, .inl fgK)), (gT, .inl (cI, 40, .inl fgT)), (gC, .inl (cI, 40, .inl fgC)), (gM, .inl (cI, 40, .inl fgM))]) [6, 7, 8, 0, 1, 2, 3, 4, 5] rfl
            have hD9 := hD.sub (ws' := [(h0, .inr (2, [.ref tO, .int s_109, .int p_110, .int b_111, .int f_112])), (tO, .inr (3, [.ref sA, .int tl])), (sA, .inl (cC, 1600, .inl fs)), (g0, .inr (1, [.ref gF, .ref gK, .ref gT, .ref gC, .ref gM, .int gc, .ref eF, .ref eC, .ref eM, .int ec, .ref hopA])), (gF, .inl (cI, 40, .inl fgF)), (gK, .inl (cI, 40, .inl fgK)), (gT, .inl (cI, 40, .inl fgT)), (gC, .inl (cI, 40, .inl fgC)), (gM, .inl (cI, 40, .inl fgM))]) [6, 7, 8, 0, 1, 2, 3, 4, 5] (by decide) rfl
            exact W.vret hx hb hr (fun t ht hW => ⟨⟨(s_109, p_110, b_111, f_112, gc, fgF, fgK, fgT, fgC, fgM), rfl, trivial, by rw [ht]; exact hP9, hD9⟩, hS.F ht⟩) hS.2.2 dX2_readGo_153
          · skip
            refine lv_aload_n hx hb dX2_readGo_141 rfl (lv_at hl 6 rfl) ?_
            refine lv_iload_n hx hb dX2_readGo_142 rfl (lv_at hl 4 rfl) ?_
            refine lv_iload_n hx hb dX2_readGo_143 rfl (lv_at hl 3 rfl) ?_
            refine lv_iload hx hb dX2_readGo_144 (lv_at hl 2 rfl) ?_
            refine lv_iload hx hb dX2_readGo_146 (lv_at hl 1 rfl) ?_
            refine lv_iload hx hb dX2_readGo_148 (lv_at hl 0 rfl) ?_
            have hPc := hP.sub (ws' := [(g0, .inr (1, [.ref gF, .ref gK, .ref gT, .ref gC, .ref gM, .int gc, .ref eF, .ref eC, .ref eM, .int ec, .ref hopA])), (gF, .inl (cI, 40, .inl fgF)), (gK, .inl (cI, 40, .inl fgK)), (gT, .inl (cI, 40, .inl fgT)), (gC, .inl (cI, 40, .inl fgC)), (gM, .inl (cI, 40, .inl fgM))]) [0, 1, 2, 3, 4, 5] rfl
            have hDc := hD.sub (ws' := [(g0, .inr (1, [.ref gF, .ref gK, .ref gT, .ref gC, .ref gM, .int gc, .ref eF, .ref eC, .ref eM, .int ec, .ref hopA])), (gF, .inl (cI, 40, .inl fgF)), (gK, .inl (cI, 40, .inl fgK)), (gT, .inl (cI, 40, .inl fgT)), (gC, .inl (cI, 40, .inl fgC)), (gM, .inl (cI, 40, .inl fgM))]) [0, 1, 2, 3, 4, 5] (by decide) rfl
            have hFc := va_free (wc := [(g0, .inr (1, [.ref gF, .ref gK, .ref gT, .ref gC, .ref gM, .int gc, .ref eF, .ref eC, .ref eM, .int ec, .ref hopA])), (gF, .inl (cI, 40, .inl fgF)), (gK, .inl (cI, 40, .inl fgK)), (gT, .inl (cI, 40, .inl fgT)), (gC, .inl (cI, 40, .inl fgC)), (gM, .inl (cI, 40, .inl fgM))]) hD hS hA [0, 1, 2, 3, 4, 5] rfl
            refine va_callv (va_runV (As := [.int r_5, .int r_16, .int r_27, .int r_38, .int r_73]) (rest := []) ⟨hx, hb, hml, hown, hts⟩ (k_addGo l dC dI cI cZ cC cJ H.size  g0 gF gK gT gC gM gc eF eC eM ec hopA fgF fgK fgT fgC fgM r_5 r_16 r_27 r_38 r_73 ) (cwV 5 hts gX2_readGo_X1_addGo rfl rfl rfl (by decide +kernel) ⟨Nat.le_of_ble_eq_true rfl, Nat.le_of_ble_eq_true rfl⟩) ⟨sPre_blind, va_recv hK hPc (ci := 1) (q0 := 0) rfl rfl, fun U hU hW => ⟨rfl, sPre_ok hsk hPc hDc hU hW⟩⟩ rfl rfl hl.1 rfl (lv_room (Nat.le_of_ble_eq_true rfl)) dX2_readGo_150 ⟨(show 0 + 0 ≤ 0 by omega), (show 0 + 0 ≤ 0 by omega)⟩) hS (fun q _ h => hFc q h) hFc (fun u t H1 locs ht hvm hw hB hz1 hk1 hS => ?_)
            obtain ⟨g_114, f_115, f_116, f_117, f_118, f_119⟩ := u
            try dsimp only at hw hB
            obtain ⟨hP1, hD1⟩ := hB
            rw [ht] at hP1
            obtain ⟨hP, hD⟩ := va_join (wr := [(h0, .inr (2, [.ref tO, .int s_109, .int p_110, .int b_111, .int f_112])), (tO, .inr (3, [.ref sA, .int tl])), (sA, .inl (cC, 1600, .inl fs))]) (w1 := [(g0, .inr (1, [.ref gF, .ref gK, .ref gT, .ref gC, .ref gM, .int g_114, .ref eF, .ref eC, .ref eM, .int ec, .ref hopA])), (gF, .inl (cI, 40, .inl f_115)), (gK, .inl (cI, 40, .inl f_116)), (gT, .inl (cI, 40, .inl f_117)), (gC, .inl (cI, 40, .inl f_118)), (gM, .inl (cI, 40, .inl f_119))]) hP hD [0, 1, 2, 3, 4, 5] [6, 7, 8] rfl rfl (by decide) (by decide) hk1 hFc hP1 hD1
            generalize H1 = H at hP hS ⊢
            have hP : va_P (dC, dI) vwCl [(h0, .inr (2, [.ref tO, .int s_109, .int p_110, .int b_111, .int f_112])), (tO, .inr (3, [.ref sA, .int tl])), (sA, .inl (cC, 1600, .inl fs)), (g0, .inr (1, [.ref gF, .ref gK, .ref gT, .ref gC, .ref gM, .int g_114, .ref eF, .ref eC, .ref eM, .int ec, .ref hopA])), (gF, .inl (cI, 40, .inl f_115)), (gK, .inl (cI, 40, .inl f_116)), (gT, .inl (cI, 40, .inl f_117)), (gC, .inl (cI, 40, .inl f_118)), (gM, .inl (cI, 40, .inl f_119))] H := hP
            have hD : va_D A [(h0, .inr (2, [.ref tO, .int s_109, .int p_110, .int b_111, .int f_112])), (tO, .inr (3, [.ref sA, .int tl])), (sA, .inl (cC, 1600, .inl fs)), (g0, .inr (1, [.ref gF, .ref gK, .ref gT, .ref gC, .ref gM, .int g_114, .ref eF, .ref eC, .ref eM, .int ec, .ref hopA])), (gF, .inl (cI, 40, .inl f_115)), (gK, .inl (cI, 40, .inl f_116)), (gT, .inl (cI, 40, .inl f_117)), (gC, .inl (cI, 40, .inl f_118)), (gM, .inl (cI, 40, .inl f_119))] := hD
            have hP9 := hP.sub (ws' := [(h0, .inr (2, [.ref tO, .int s_109, .int p_110, .int b_111, .int f_112])), (tO, .inr (3, [.ref sA, .int tl])), (sA, .inl (cC, 1600, .inl fs)), (g0, .inr (1, [.ref gF, .ref gK, .ref gT, .ref gC, .ref gM, .int g_114, .ref eF, .ref eC, .ref eM, .int ec, .ref hopA])), (gF, .inl (cI, 40, .inl f_115)), (gK, .inl (cI, 40, .inl f_116)), (gT, .inl (cI, 40, .inl f_117)), (gC, .inl (cI, 40, .inl f_118)), (gM, .inl (cI, 40, .inl f_119))]) [0, 1, 2, 3, 4, 5, 6, 7, 8] rfl
            have hD9 := hD.sub (ws' := [(h0, .inr (2, [.ref tO, .int s_109, .int p_110, .int b_111, .int f_112])), (tO, .inr (3, [.ref sA, .int tl])), (sA, .inl (cC, 1600, .inl fs)), (g0, .inr (1, [.ref gF, .ref gK, .ref gT, .ref gC, .ref gM, .int g_114, .ref eF, .ref eC, .ref eM, .int ec, .ref hopA])), (gF, .inl (cI, 40, .inl f_115)), (gK, .inl (cI, 40, .inl f_116)), (gT, .inl (cI, 40, .inl f_117)), (gC, .inl (cI, 40, .inl f_118)), (gM, .inl (cI, 40, .inl f_119))]) [0, 1, 2, 3, 4, 5, 6, 7, 8] (by decide) rfl
            exact W.vret hx hb hr (fun t ht hW => ⟨⟨(s_109, p_110, b_111, f_112, g_114, f_115, f_116, f_117, f_118, f_119), rfl, trivial, by rw [ht]; exact hP9, hD9⟩, hS.F ht⟩) hS.2.2 dX2_readGo_153
        · skip
          refine lv_iconst (v := 1) hx hb dX2_readGo_126 (by decide) ?_
          refine lv_goto (tgt := 131) hx hb dX2_readGo_127 (by decide) ?_
          have hPc := hP.sub (ws' := [(h0, .inr (2, [.ref tO, .int s_104, .int p_105, .int b_106, .int f_107])), (tO, .inr (3, [.ref sA, .int tl])), (sA, .inl (cC, 1600, .inl fs))]) [6, 7, 8] rfl
          have hDc := hD.sub (ws' := [(h0, .inr (2, [.ref tO, .int s_104, .int p_105, .int b_106, .int f_107])), (tO, .inr (3, [.ref sA, .int tl])), (sA, .inl (cC, 1600, .inl fs))]) [6, 7, 8] (by decide) rfl
          have hFc := va_free (wc := [(h0, .inr (2, [.ref tO, .int s_104, .int p_105, .int b_106, .int f_107])), (tO, .inr (3, [.ref sA, .int tl])), (sA, .inl (cC, 1600, .inl fs))]) hD hS hA [6, 7, 8] rfl
          refine va_callv (va_runV (As := [.int 1]) (rest := []) ⟨hx, hb, hml, hown, hts⟩ (k_passIf l dC dI cI cZ cC cJ H.size  h0 tO s_104 p_105 b_106 f_107 sA tl fs 1 ) (cwV 1 hts gX2_readGo_X2_passIf rfl rfl rfl (by decide +kernel) ⟨Nat.le_of_ble_eq_true rfl, Nat.le_of_ble_eq_true rfl⟩) ⟨sPre_blind, va_recv hK hPc (ci := 2) (q0 := 0) rfl rfl, fun U hU hW => ⟨rfl, sPre_ok hsk hPc hDc hU hW⟩⟩ rfl rfl hl.1 rfl (lv_room (Nat.le_of_ble_eq_true rfl)) dX2_readGo_131 ⟨(show 0 + 0 ≤ 0 by omega), (show 0 + 0 ≤ 0 by omega)⟩) hS (fun q _ h => hFc q h) hFc (fun u t H1 locs ht hvm hw hB hz1 hk1 hS => ?_)
          obtain ⟨s_121, p_122, b_123, f_124⟩ := u
          try dsimp only at hw hB
          obtain ⟨hP1, hD1⟩ := hB
          rw [ht] at hP1
          obtain ⟨hP, hD⟩ := va_join (wr := [(g0, .inr (1, [.ref gF, .ref gK, .ref gT, .ref gC, .ref gM, .int gc, .ref eF, .ref eC, .ref eM, .int ec, .ref hopA])), (gF, .inl (cI, 40, .inl fgF)), (gK, .inl (cI, 40, .inl fgK)), (gT, .inl (cI, 40, .inl fgT)), (gC, .inl (cI, 40, .inl fgC)), (gM, .inl (cI, 40, .inl fgM))]) (w1 := [(h0, .inr (2, [.ref tO, .int s_121, .int p_122, .int b_123, .int f_124])), (tO, .inr (3, [.ref sA, .int tl])), (sA, .inl (cC, 1600, .inl fs))]) hP hD [6, 7, 8] [0, 1, 2, 3, 4, 5] rfl rfl (by decide) (by decide) hk1 hFc hP1 hD1
          generalize H1 = H at hP hS ⊢
          have hP : va_P (dC, dI) vwCl [(g0, .inr (1, [.ref gF, .ref gK, .ref gT, .ref gC, .ref gM, .int gc, .ref eF, .ref eC, .ref eM, .int ec, .ref hopA])), (gF, .inl (cI, 40, .inl fgF)), (gK, .inl (cI, 40, .inl fgK)), (gT, .inl (cI, 40, .inl fgT)), (gC, .inl (cI, 40, .inl fgC)), (gM, .inl (cI, 40, .inl fgM)), (h0, .inr (2, [.ref tO, .int s_121, .int p_122, .int b_123, .int f_124])), (tO, .inr (3, [.ref sA, .int tl])), (sA, .inl (cC, 1600, .inl fs))] H := hP
          have hD : va_D A [(g0, .inr (1, [.ref gF, .ref gK, .ref gT, .ref gC, .ref gM, .int gc, .ref eF, .ref eC, .ref eM, .int ec, .ref hopA])), (gF, .inl (cI, 40, .inl fgF)), (gK, .inl (cI, 40, .inl fgK)), (gT, .inl (cI, 40, .inl fgT)), (gC, .inl (cI, 40, .inl fgC)), (gM, .inl (cI, 40, .inl fgM)), (h0, .inr (2, [.ref tO, .int s_121, .int p_122, .int b_123, .int f_124])), (tO, .inr (3, [.ref sA, .int tl])), (sA, .inl (cC, 1600, .inl fs))] := hD
          refine lv_aload_n hx hb dX2_readGo_134 rfl (lv_at hl 5 rfl) ?_
          refine va_get (D := (dC, dI)) (ci := 2) (v := .int f_124) (C := RX2) (T := TX2) (N := 5) hx hb hts i2 hown hK hP 6 rfl rfl 4 (by decide) (hts (.fieldLink RX2 20 "StopSetter$Reader" "fault" "I") (by decide +kernel)) (fun _ h9 => h9) rfl dX2_readGo_135 ?_
          refine lv_if_ne (tgt := 153) hx hb dX2_readGo_138 (by decide) (fun c_138 => ?_) (fun c_138 => ?_)
          · skip
            have hP9 := hP.sub (ws' := [(h0, .inr (2, [.ref tO, .int s_121, .int p_122, .int b_123, .int f_124])), (tO, .inr (3, [.ref sA, .int tl])), (sA, .inl (cC, 1600, .inl fs)), (g0, .inr (1, [.ref gF, .ref gK, .ref gT, .ref gC, .ref gM, .int gc, .ref eF, .ref eC, .ref eM, .int ec, .ref hopA])), (gF, .inl (cI, 40, .inl fgF)), (gK, .inl (cI, 40, .inl fgK)), (gT, .inl (cI, 40, .inl fgT)), (gC, .inl (cI, 40, .inl fgC)), (gM, .inl (cI, 40, .inl fgM))]) [6, 7, 8, 0, 1, 2, 3, 4, 5] rfl
            have hD9 := hD.sub (ws' := [(h0, .inr (2, [.ref tO, .int s_121, .int p_122, .int b_123, .int f_124])), (tO, .inr (3, [.ref sA, .int tl])), (sA, .inl (cC, 1600, .inl fs)), (g0, .inr (1, [.ref gF, .ref gK, .ref gT, .ref gC, .ref gM, .int gc, .ref eF, .ref eC, .ref eM, .int ec, .ref hopA])), (gF, .inl (cI, 40, .inl fgF)), (gK, .inl (cI, 40, .inl fgK)), (gT, .inl (cI, 40, .inl fgT)), (gC, .inl (cI, 40, .inl fgC)), (gM, .inl (cI, 40, .inl fgM))]) [6, 7, 8, 0, 1, 2, 3, 4, 5] (by decide) rfl
            exact W.vret hx hb hr (fun t ht hW => ⟨⟨(s_121, p_122, b_123, f_124, gc, fgF, fgK, fgT, fgC, fgM), rfl, trivial, by rw [ht]; exact hP9, hD9⟩, hS.F ht⟩) hS.2.2 dX2_readGo_153
          · skip
            refine lv_aload_n hx hb dX2_readGo_141 rfl (lv_at hl 6 rfl) ?_
            refine lv_iload_n hx hb dX2_readGo_142 rfl (lv_at hl 4 rfl) ?_
            refine lv_iload_n hx hb dX2_readGo_143 rfl (lv_at hl 3 rfl) ?_
            refine lv_iload hx hb dX2_readGo_144 (lv_at hl 2 rfl) ?_
            refine lv_iload hx hb dX2_readGo_146 (lv_at hl 1 rfl) ?_
            refine lv_iload hx hb dX2_readGo_148 (lv_at hl 0 rfl) ?_
            have hPc := hP.sub (ws' := [(g0, .inr (1, [.ref gF, .ref gK, .ref gT, .ref gC, .ref gM, .int gc, .ref eF, .ref eC, .ref eM, .int ec, .ref hopA])), (gF, .inl (cI, 40, .inl fgF)), (gK, .inl (cI, 40, .inl fgK)), (gT, .inl (cI, 40, .inl fgT)), (gC, .inl (cI, 40, .inl fgC)), (gM, .inl (cI, 40, .inl fgM))]) [0, 1, 2, 3, 4, 5] rfl
            have hDc := hD.sub (ws' := [(g0, .inr (1, [.ref gF, .ref gK, .ref gT, .ref gC, .ref gM, .int gc, .ref eF, .ref eC, .ref eM, .int ec, .ref hopA])), (gF, .inl (cI, 40, .inl fgF)), (gK, .inl (cI, 40, .inl fgK)), (gT, .inl (cI, 40, .inl fgT)), (gC, .inl (cI, 40, .inl fgC)), (gM, .inl (cI, 40, .inl fgM))]) [0, 1, 2, 3, 4, 5] (by decide) rfl
            have hFc := va_free (wc := [(g0, .inr (1, [.ref gF, .ref gK, .ref gT, .ref gC, .ref gM, .int gc, .ref eF, .ref eC, .ref eM, .int ec, .ref hopA])), (gF, .inl (cI, 40, .inl fgF)), (gK, .inl (cI, 40, .inl fgK)), (gT, .inl (cI, 40, .inl fgT)), (gC, .inl (cI, 40, .inl fgC)), (gM, .inl (cI, 40, .inl fgM))]) hD hS hA [0, 1, 2, 3, 4, 5] rfl
            refine va_callv (va_runV (As := [.int r_5, .int r_16, .int r_27, .int r_38, .int r_73]) (rest := []) ⟨hx, hb, hml, hown, hts⟩ (k_addGo l dC dI cI cZ cC cJ H.size  g0 gF gK gT gC gM gc eF eC eM ec hopA fgF fgK fgT fgC fgM r_5 r_16 r_27 r_38 r_73 ) (cwV 5 hts gX2_readGo_X1_addGo rfl rfl rfl (by decide +kernel) ⟨Nat.le_of_ble_eq_true rfl, Nat.le_of_ble_eq_true rfl⟩) ⟨sPre_blind, va_recv hK hPc (ci := 1) (q0 := 0) rfl rfl, fun U hU hW => ⟨rfl, sPre_ok hsk hPc hDc hU hW⟩⟩ rfl rfl hl.1 rfl (lv_room (Nat.le_of_ble_eq_true rfl)) dX2_readGo_150 ⟨(show 0 + 0 ≤ 0 by omega), (show 0 + 0 ≤ 0 by omega)⟩) hS (fun q _ h => hFc q h) hFc (fun u t H1 locs ht hvm hw hB hz1 hk1 hS => ?_)
            obtain ⟨g_126, f_127, f_128, f_129, f_130, f_131⟩ := u
            try dsimp only at hw hB
            obtain ⟨hP1, hD1⟩ := hB
            rw [ht] at hP1
            obtain ⟨hP, hD⟩ := va_join (wr := [(h0, .inr (2, [.ref tO, .int s_121, .int p_122, .int b_123, .int f_124])), (tO, .inr (3, [.ref sA, .int tl])), (sA, .inl (cC, 1600, .inl fs))]) (w1 := [(g0, .inr (1, [.ref gF, .ref gK, .ref gT, .ref gC, .ref gM, .int g_126, .ref eF, .ref eC, .ref eM, .int ec, .ref hopA])), (gF, .inl (cI, 40, .inl f_127)), (gK, .inl (cI, 40, .inl f_128)), (gT, .inl (cI, 40, .inl f_129)), (gC, .inl (cI, 40, .inl f_130)), (gM, .inl (cI, 40, .inl f_131))]) hP hD [0, 1, 2, 3, 4, 5] [6, 7, 8] rfl rfl (by decide) (by decide) hk1 hFc hP1 hD1
            generalize H1 = H at hP hS ⊢
            have hP : va_P (dC, dI) vwCl [(h0, .inr (2, [.ref tO, .int s_121, .int p_122, .int b_123, .int f_124])), (tO, .inr (3, [.ref sA, .int tl])), (sA, .inl (cC, 1600, .inl fs)), (g0, .inr (1, [.ref gF, .ref gK, .ref gT, .ref gC, .ref gM, .int g_126, .ref eF, .ref eC, .ref eM, .int ec, .ref hopA])), (gF, .inl (cI, 40, .inl f_127)), (gK, .inl (cI, 40, .inl f_128)), (gT, .inl (cI, 40, .inl f_129)), (gC, .inl (cI, 40, .inl f_130)), (gM, .inl (cI, 40, .inl f_131))] H := hP
            have hD : va_D A [(h0, .inr (2, [.ref tO, .int s_121, .int p_122, .int b_123, .int f_124])), (tO, .inr (3, [.ref sA, .int tl])), (sA, .inl (cC, 1600, .inl fs)), (g0, .inr (1, [.ref gF, .ref gK, .ref gT, .ref gC, .ref gM, .int g_126, .ref eF, .ref eC, .ref eM, .int ec, .ref hopA])), (gF, .inl (cI, 40, .inl f_127)), (gK, .inl (cI, 40, .inl f_128)), (gT, .inl (cI, 40, .inl f_129)), (gC, .inl (cI, 40, .inl f_130)), (gM, .inl (cI, 40, .inl f_131))] := hD
            have hP9 := hP.sub (ws' := [(h0, .inr (2, [.ref tO, .int s_121, .int p_122, .int b_123, .int f_124])), (tO, .inr (3, [.ref sA, .int tl])), (sA, .inl (cC, 1600, .inl fs)), (g0, .inr (1, [.ref gF, .ref gK, .ref gT, .ref gC, .ref gM, .int g_126, .ref eF, .ref eC, .ref eM, .int ec, .ref hopA])), (gF, .inl (cI, 40, .inl f_127)), (gK, .inl (cI, 40, .inl f_128)), (gT, .inl (cI, 40, .inl f_129)), (gC, .inl (cI, 40, .inl f_130)), (gM, .inl (cI, 40, .inl f_131))]) [0, 1, 2, 3, 4, 5, 6, 7, 8] rfl
            have hD9 := hD.sub (ws' := [(h0, .inr (2, [.ref tO, .int s_121, .int p_122, .int b_123, .int f_124])), (tO, .inr (3, [.ref sA, .int tl])), (sA, .inl (cC, 1600, .inl fs)), (g0, .inr (1, [.ref gF, .ref gK, .ref gT, .ref gC, .ref gM, .int g_126, .ref eF, .ref eC, .ref eM, .int ec, .ref hopA])), (gF, .inl (cI, 40, .inl f_127)), (gK, .inl (cI, 40, .inl f_128)), (gT, .inl (cI, 40, .inl f_129)), (gC, .inl (cI, 40, .inl f_130)), (gM, .inl (cI, 40, .inl f_131))]) [0, 1, 2, 3, 4, 5, 6, 7, 8] (by decide) rfl
            exact W.vret hx hb hr (fun t ht hW => ⟨⟨(s_121, p_122, b_123, f_124, g_126, f_127, f_128, f_129, f_130, f_131), rfl, trivial, by rw [ht]; exact hP9, hD9⟩, hS.F ht⟩) hS.2.2 dX2_readGo_153
  · skip
    refine lv_aload_n hx hb dX2_readGo_9 rfl (lv_at hl 0 rfl) ?_
    refine lv_iconst (v := 5) hx hb dX2_readGo_10 (by decide) ?_
    have hPc := hP.sub (ws' := [(h0, .inr (2, [.ref tO, .int so, .int pl, .int bh, .int fa_]))]) [0] rfl
    have hDc := hD.sub (ws' := [(h0, .inr (2, [.ref tO, .int so, .int pl, .int bh, .int fa_]))]) [0] (by decide) rfl
    have hFc := va_free (wc := [(h0, .inr (2, [.ref tO, .int so, .int pl, .int bh, .int fa_]))]) hD hS hA [0] rfl
    refine va_callv (va_runV (As := [.int 5]) (rest := []) ⟨hx, hb, hml, hown, hts⟩ (k_refuse l dC dI cI cZ cC cJ s.heap.size  h0 tO so pl bh fa_ 5 ) (cwV 1 hts gX2_readGo_X2_refuse rfl rfl rfl (by decide +kernel) ⟨Nat.le_of_ble_eq_true rfl, Nat.le_of_ble_eq_true rfl⟩) ⟨sPre_blind, va_recv hK hPc (ci := 2) (q0 := 0) rfl rfl, fun U hU hW => ⟨rfl, sPre_ok hsk hPc hDc hU hW⟩⟩ rfl rfl hl.1 rfl (lv_room (Nat.le_of_ble_eq_true rfl)) dX2_readGo_11 ⟨(show 0 + 0 ≤ 0 by omega), (show 0 + 0 ≤ 0 by omega)⟩) hS (fun q _ h => hFc q h) hFc (fun u t H1 locs ht hvm hw hB hz1 hk1 hS => ?_)
    obtain ⟨f_133, rfl⟩ : ∃ z, z = u := ⟨_, rfl⟩
    try dsimp only at hw hB
    obtain ⟨hP1, hD1⟩ := hB
    rw [ht] at hP1
    obtain ⟨hP, hD⟩ := va_join (wr := [(tO, .inr (3, [.ref sA, .int tl])), (sA, .inl (cC, 1600, .inl fs)), (g0, .inr (1, [.ref gF, .ref gK, .ref gT, .ref gC, .ref gM, .int gc, .ref eF, .ref eC, .ref eM, .int ec, .ref hopA])), (gF, .inl (cI, 40, .inl fgF)), (gK, .inl (cI, 40, .inl fgK)), (gT, .inl (cI, 40, .inl fgT)), (gC, .inl (cI, 40, .inl fgC)), (gM, .inl (cI, 40, .inl fgM))]) (w1 := [(h0, .inr (2, [.ref tO, .int so, .int pl, .int bh, .int f_133]))]) hP hD [0] [1, 2, 3, 4, 5, 6, 7, 8] rfl rfl (by decide) (by decide) hk1 hFc hP1 hD1
    generalize H1 = H at hP hS ⊢
    have hP : va_P (dC, dI) vwCl [(tO, .inr (3, [.ref sA, .int tl])), (sA, .inl (cC, 1600, .inl fs)), (g0, .inr (1, [.ref gF, .ref gK, .ref gT, .ref gC, .ref gM, .int gc, .ref eF, .ref eC, .ref eM, .int ec, .ref hopA])), (gF, .inl (cI, 40, .inl fgF)), (gK, .inl (cI, 40, .inl fgK)), (gT, .inl (cI, 40, .inl fgT)), (gC, .inl (cI, 40, .inl fgC)), (gM, .inl (cI, 40, .inl fgM)), (h0, .inr (2, [.ref tO, .int so, .int pl, .int bh, .int f_133]))] H := hP
    have hD : va_D A [(tO, .inr (3, [.ref sA, .int tl])), (sA, .inl (cC, 1600, .inl fs)), (g0, .inr (1, [.ref gF, .ref gK, .ref gT, .ref gC, .ref gM, .int gc, .ref eF, .ref eC, .ref eM, .int ec, .ref hopA])), (gF, .inl (cI, 40, .inl fgF)), (gK, .inl (cI, 40, .inl fgK)), (gT, .inl (cI, 40, .inl fgT)), (gC, .inl (cI, 40, .inl fgC)), (gM, .inl (cI, 40, .inl fgM)), (h0, .inr (2, [.ref tO, .int so, .int pl, .int bh, .int f_133]))] := hD
    have hP9 := hP.sub (ws' := [(h0, .inr (2, [.ref tO, .int so, .int pl, .int bh, .int f_133])), (tO, .inr (3, [.ref sA, .int tl])), (sA, .inl (cC, 1600, .inl fs)), (g0, .inr (1, [.ref gF, .ref gK, .ref gT, .ref gC, .ref gM, .int gc, .ref eF, .ref eC, .ref eM, .int ec, .ref hopA])), (gF, .inl (cI, 40, .inl fgF)), (gK, .inl (cI, 40, .inl fgK)), (gT, .inl (cI, 40, .inl fgT)), (gC, .inl (cI, 40, .inl fgC)), (gM, .inl (cI, 40, .inl fgM))]) [8, 0, 1, 2, 3, 4, 5, 6, 7] rfl
    have hD9 := hD.sub (ws' := [(h0, .inr (2, [.ref tO, .int so, .int pl, .int bh, .int f_133])), (tO, .inr (3, [.ref sA, .int tl])), (sA, .inl (cC, 1600, .inl fs)), (g0, .inr (1, [.ref gF, .ref gK, .ref gT, .ref gC, .ref gM, .int gc, .ref eF, .ref eC, .ref eM, .int ec, .ref hopA])), (gF, .inl (cI, 40, .inl fgF)), (gK, .inl (cI, 40, .inl fgK)), (gT, .inl (cI, 40, .inl fgT)), (gC, .inl (cI, 40, .inl fgC)), (gM, .inl (cI, 40, .inl fgM))]) [8, 0, 1, 2, 3, 4, 5, 6, 7] (by decide) rfl
    exact W.vret hx hb hr (fun t ht hW => ⟨⟨(so, pl, bh, f_133, gc, fgF, fgK, fgT, fgC, fgM), rfl, trivial, by rw [ht]; exact hP9, hD9⟩, hS.F ht⟩) hS.2.2 dX2_readGo_14
set_option maxHeartbeats 4000000 in
set_option maxRecDepth 100000 in
theorem k_readEnd (l : Launch) (dC : Nat → ClassId) (dI : Nat → Nat → Nat) (cI cZ cC cJ : ClassId) (sz : Nat) (adK adV : Nat → Nat) (h0 : Nat) (tO : Nat) (so : Int32) (pl : Int32) (bh : Int32) (fa_ : Int32) (sA : Nat) (tl : Int32) (fs : Nat → Int32) (g0 : Nat) (gF : Nat) (gK : Nat) (gT : Nat) (gC : Nat) (gM : Nat) (gc : Int32) (eF : Nat) (eC : Nat) (eM : Nat) (ec : Int32) (hopA : Nat) (feF : Nat → Int32) (feC : Nat → Int32) (feM : Nat → Int32)  : Met l yX2_readEnd wsX2_readEnd ({ frames := 6, cells := 0, slots := 0, locals := 127 }) (va_Pc [.ref h0, .ref g0] (fun U => sPre dC dI cI cZ cC cJ [(h0, .inr (2, [.ref tO, .int so, .int pl, .int bh, .int fa_])), (tO, .inr (3, [.ref sA, .int tl])), (sA, .inl (cC, 1600, .inl fs)), (g0, .inr (1, [.ref gF, .ref gK, .ref gT, .ref gC, .ref gM, .int gc, .ref eF, .ref eC, .ref eM, .int ec, .ref hopA])), (eF, .inl (cI, 10, .inl feF)), (eC, .inl (cI, 10, .inl feC)), (eM, .inl (cI, 10, .inl feM))] sz U ∧ tW adK adV (va_A [(h0, .inr (2, [.ref tO, .int so, .int pl, .int bh, .int fa_])), (tO, .inr (3, [.ref sA, .int tl])), (sA, .inl (cC, 1600, .inl fs)), (g0, .inr (1, [.ref gF, .ref gK, .ref gT, .ref gC, .ref gM, .int gc, .ref eF, .ref eC, .ref eM, .int ec, .ref hopA])), (eF, .inl (cI, 10, .inl feF)), (eC, .inl (cI, 10, .inl feC)), (eM, .inl (cI, 10, .inl feM))] sz) U)) (va_Qv (fun (u : (Int32) × (Int32) × (Int32) × (Int32) × (Int32) × (Nat → Int32) × (Nat → Int32) × (Nat → Int32)) => match u with | (so2, pl2, bh2, fa_2, ec2, feF2, feC2, feM2) => True) (fun (u : (Int32) × (Int32) × (Int32) × (Int32) × (Int32) × (Nat → Int32) × (Nat → Int32) × (Nat → Int32)) t => match u with | (so2, pl2, bh2, fa_2, ec2, feF2, feC2, feM2) => sB dC dI (va_A [(h0, .inr (2, [.ref tO, .int so, .int pl, .int bh, .int fa_])), (tO, .inr (3, [.ref sA, .int tl])), (sA, .inl (cC, 1600, .inl fs)), (g0, .inr (1, [.ref gF, .ref gK, .ref gT, .ref gC, .ref gM, .int gc, .ref eF, .ref eC, .ref eM, .int ec, .ref hopA])), (eF, .inl (cI, 10, .inl feF)), (eC, .inl (cI, 10, .inl feC)), (eM, .inl (cI, 10, .inl feM))] sz) [(h0, .inr (2, [.ref tO, .int so2, .int pl2, .int bh2, .int fa_2])), (tO, .inr (3, [.ref sA, .int tl])), (sA, .inl (cC, 1600, .inl fs)), (g0, .inr (1, [.ref gF, .ref gK, .ref gT, .ref gC, .ref gM, .int gc, .ref eF, .ref eC, .ref eM, .int ec2, .ref hopA])), (eF, .inl (cI, 10, .inl feF2)), (eC, .inl (cI, 10, .inl feC2)), (eM, .inl (cI, 10, .inl feM2))] t) (va_A [(h0, .inr (2, [.ref tO, .int so, .int pl, .int bh, .int fa_])), (tO, .inr (3, [.ref sA, .int tl])), (sA, .inl (cC, 1600, .inl fs)), (g0, .inr (1, [.ref gF, .ref gK, .ref gT, .ref gC, .ref gM, .int gc, .ref eF, .ref eC, .ref eM, .int ec, .ref hopA])), (eF, .inl (cI, 10, .inl feF)), (eC, .inl (cI, 10, .inl feC)), (eM, .inl (cI, 10, .inl feM))] sz)) 0 0 (va_A [(h0, .inr (2, [.ref tO, .int so, .int pl, .int bh, .int fa_])), (tO, .inr (3, [.ref sA, .int tl])), (sA, .inl (cC, 1600, .inl fs)), (g0, .inr (1, [.ref gF, .ref gK, .ref gT, .ref gC, .ref gM, .int gc, .ref eF, .ref eC, .ref eM, .int ec, .ref hopA])), (eF, .inl (cI, 10, .inl feF)), (eC, .inl (cI, 10, .inl feC)), (eM, .inl (cI, 10, .inl feM))] sz) := by
  refine Met.ofW (cc := cX2_readEnd) (maxL := 5) (ret := none) (by decide) rfl ?_
  intro p e s m args below meth c s₁ B hml hv
  obtain ⟨rfl, ⟨hsz, hP, hsk, hD0⟩, htw⟩ := hv
  have hx := B.exec
  have hb := B.bytes
  have hr := B.returns
  have hts := atoms_spec (ws := wsX2_readEnd) B.pre
  have hown : s.vm.findClass RX2 = some m.cls := findClass_of_methodNamed B.named
  have hlocks := B.notSynchronized
  have hK := hsk.1
  have i1 : ∀ w ∈ wsX10, w ∈ wsX2_readEnd := by decide +kernel
  have i2 : ∀ w ∈ wsX20, w ∈ wsX2_readEnd := by decide +kernel
  subst hsz
  have hD := hD0.self (sz := s.heap.size)
  generalize hAe : va_A [(h0, .inr (2, [.ref tO, .int so, .int pl, .int bh, .int fa_])), (tO, .inr (3, [.ref sA, .int tl])), (sA, .inl (cC, 1600, .inl fs)), (g0, .inr (1, [.ref gF, .ref gK, .ref gT, .ref gC, .ref gM, .int gc, .ref eF, .ref eC, .ref eM, .int ec, .ref hopA])), (eF, .inl (cI, 10, .inl feF)), (eC, .inl (cI, 10, .inl feC)), (eM, .inl (cI, 10, .inl feM))] s.heap.size = A at hD htw ⊢
  have hA : ∀ q : Nat, s.heap.size ≤ q → A q := fun q h => by rw [← hAe]; exact Or.inr h
  have hS : va_S A s.heap s.heap [] := va_S.rf
  have hl := lv_entry ([.ref h0, .ref g0]) (n := 5) (Nat.le_of_ble_eq_true rfl)
  rw [lg_entry_eq]
  generalize (lg_sl ([.ref h0, .ref g0]) ++ List.replicate (5 - (lg_sl ([.ref h0, .ref g0])).length) Slot.unset).toArray = ls at hl ⊢
  have hl : lv_has ls 5 [(0, .ref h0), (1, .ref g0)] := hl
  refine lv_aload_n hx hb dX2_readEnd_0 rfl (lv_at hl 1 rfl) ?_
  refine va_getN (D := (dC, dI)) (ci := 1) (v := .int ec) (C := RX1) (T := TX1) (N := 11) hx hb hts i1 hown hK hP 3 rfl rfl 9 (by decide) (va_Nw.use rfl (hsk.2.1 ("StopSetter$Reader", 81, "StopSetter$Grammar", "endCount", "I", "StopSetter") (by decide +kernel))) (fun _ h9 => h9) rfl dX2_readEnd_1 ?_
  refine lv_bipush (v := 10) hx hb dX2_readEnd_4 (by decide) ?_
  refine lv_icmp_lt (tgt := 15) hx hb dX2_readEnd_6 (by decide) (fun c_6 => ?_) (fun c_6 => ?_)
  · skip
    refine lv_aload_n hx hb dX2_readEnd_15 rfl (lv_at hl 0 rfl) ?_
    have hPc := hP.sub (ws' := [(h0, .inr (2, [.ref tO, .int so, .int pl, .int bh, .int fa_])), (tO, .inr (3, [.ref sA, .int tl])), (sA, .inl (cC, 1600, .inl fs))]) [0, 1, 2] rfl
    have hDc := hD.sub (ws' := [(h0, .inr (2, [.ref tO, .int so, .int pl, .int bh, .int fa_])), (tO, .inr (3, [.ref sA, .int tl])), (sA, .inl (cC, 1600, .inl fs))]) [0, 1, 2] (by decide) rfl
    have hFc := va_free (wc := [(h0, .inr (2, [.ref tO, .int so, .int pl, .int bh, .int fa_])), (tO, .inr (3, [.ref sA, .int tl])), (sA, .inl (cC, 1600, .inl fs))]) hD hS hA [0, 1, 2] rfl
    refine va_callv (va_runV (As := []) (rest := []) ⟨hx, hb, hml, hown, hts⟩ (k_advance l dC dI cI cZ cC cJ s.heap.size  h0 tO so pl bh fa_ sA tl fs ) (cwV 0 hts gX2_readEnd_X2_advance rfl rfl rfl (by decide +kernel) ⟨Nat.le_of_ble_eq_true rfl, Nat.le_of_ble_eq_true rfl⟩) ⟨sPre_blind, va_recv hK hPc (ci := 2) (q0 := 0) rfl rfl, fun U hU hW => ⟨rfl, sPre_ok hsk hPc hDc hU hW⟩⟩ rfl rfl hl.1 rfl (lv_room (Nat.le_of_ble_eq_true rfl)) dX2_readEnd_16 ⟨(show 0 + 0 ≤ 0 by omega), (show 0 + 0 ≤ 0 by omega)⟩) hS (fun q _ h => hFc q h) hFc (fun u t H1 locs ht hvm hw hB hz1 hk1 hS => ?_)
    obtain ⟨s_2, p_3, b_4⟩ := u
    try dsimp only at hw hB
    obtain ⟨hP1, hD1⟩ := hB
    rw [ht] at hP1
    obtain ⟨hP, hD⟩ := va_join (wr := [(g0, .inr (1, [.ref gF, .ref gK, .ref gT, .ref gC, .ref gM, .int gc, .ref eF, .ref eC, .ref eM, .int ec, .ref hopA])), (eF, .inl (cI, 10, .inl feF)), (eC, .inl (cI, 10, .inl feC)), (eM, .inl (cI, 10, .inl feM))]) (w1 := [(h0, .inr (2, [.ref tO, .int s_2, .int p_3, .int b_4, .int fa_])), (tO, .inr (3, [.ref sA, .int tl])), (sA, .inl (cC, 1600, .inl fs))]) hP hD [0, 1, 2] [3, 4, 5, 6] rfl rfl (by decide) (by decide) hk1 hFc hP1 hD1
    generalize H1 = H at hP hS ⊢
    have hP : va_P (dC, dI) vwCl [(g0, .inr (1, [.ref gF, .ref gK, .ref gT, .ref gC, .ref gM, .int gc, .ref eF, .ref eC, .ref eM, .int ec, .ref hopA])), (eF, .inl (cI, 10, .inl feF)), (eC, .inl (cI, 10, .inl feC)), (eM, .inl (cI, 10, .inl feM)), (h0, .inr (2, [.ref tO, .int s_2, .int p_3, .int b_4, .int fa_])), (tO, .inr (3, [.ref sA, .int tl])), (sA, .inl (cC, 1600, .inl fs))] H := hP
    have hD : va_D A [(g0, .inr (1, [.ref gF, .ref gK, .ref gT, .ref gC, .ref gM, .int gc, .ref eF, .ref eC, .ref eM, .int ec, .ref hopA])), (eF, .inl (cI, 10, .inl feF)), (eC, .inl (cI, 10, .inl feC)), (eM, .inl (cI, 10, .inl feM)), (h0, .inr (2, [.ref tO, .int s_2, .int p_3, .int b_4, .int fa_])), (tO, .inr (3, [.ref sA, .int tl])), (sA, .inl (cC, 1600, .inl fs))] := hD
    refine lv_aload_n hx hb dX2_readEnd_19 rfl (lv_at hl 0 rfl) ?_
    refine lv_bipush (v := 9) hx hb dX2_readEnd_20 (by decide) ?_
    have hPc := hP.sub (ws' := [(h0, .inr (2, [.ref tO, .int s_2, .int p_3, .int b_4, .int fa_])), (tO, .inr (3, [.ref sA, .int tl])), (sA, .inl (cC, 1600, .inl fs))]) [4, 5, 6] rfl
    have hDc := hD.sub (ws' := [(h0, .inr (2, [.ref tO, .int s_2, .int p_3, .int b_4, .int fa_])), (tO, .inr (3, [.ref sA, .int tl])), (sA, .inl (cC, 1600, .inl fs))]) [4, 5, 6] (by decide) rfl
    have hFc := va_free (wc := [(h0, .inr (2, [.ref tO, .int s_2, .int p_3, .int b_4, .int fa_])), (tO, .inr (3, [.ref sA, .int tl])), (sA, .inl (cC, 1600, .inl fs))]) hD hS hA [4, 5, 6] rfl
    refine va_calli (va_runV (As := [.int 9]) (rest := []) ⟨hx, hb, hml, hown, hts⟩ (k_readNumber l dC dI cI cZ cC cJ H.size  h0 tO s_2 p_3 b_4 fa_ sA tl fs 9 ) (cwV 1 hts gX2_readEnd_X2_readNumber rfl rfl rfl (by decide +kernel) ⟨Nat.le_of_ble_eq_true rfl, Nat.le_of_ble_eq_true rfl⟩) ⟨sPre_blind, va_recv hK hPc (ci := 2) (q0 := 0) rfl rfl, fun U hU hW => ⟨rfl, sPre_ok hsk hPc hDc hU hW⟩⟩ rfl rfl hl.1 rfl (lv_room (Nat.le_of_ble_eq_true rfl)) dX2_readEnd_22 ⟨(show 0 + 0 ≤ 0 by omega), (show 0 + 0 ≤ 0 by omega)⟩) hS (fun q _ h => hFc q h) hFc (fun r_5 u t H1 locs ht hvm hw hB hz1 hk1 hS => ?_)
    obtain ⟨s_6, p_7, b_8, f_9⟩ := u
    try dsimp only at hw hB
    obtain ⟨hP1, hD1⟩ := hB
    rw [ht] at hP1
    obtain ⟨hP, hD⟩ := va_join (wr := [(g0, .inr (1, [.ref gF, .ref gK, .ref gT, .ref gC, .ref gM, .int gc, .ref eF, .ref eC, .ref eM, .int ec, .ref hopA])), (eF, .inl (cI, 10, .inl feF)), (eC, .inl (cI, 10, .inl feC)), (eM, .inl (cI, 10, .inl feM))]) (w1 := [(h0, .inr (2, [.ref tO, .int s_6, .int p_7, .int b_8, .int f_9])), (tO, .inr (3, [.ref sA, .int tl])), (sA, .inl (cC, 1600, .inl fs))]) hP hD [4, 5, 6] [0, 1, 2, 3] rfl rfl (by decide) (by decide) hk1 hFc hP1 hD1
    generalize H1 = H at hP hS ⊢
    have hP : va_P (dC, dI) vwCl [(g0, .inr (1, [.ref gF, .ref gK, .ref gT, .ref gC, .ref gM, .int gc, .ref eF, .ref eC, .ref eM, .int ec, .ref hopA])), (eF, .inl (cI, 10, .inl feF)), (eC, .inl (cI, 10, .inl feC)), (eM, .inl (cI, 10, .inl feM)), (h0, .inr (2, [.ref tO, .int s_6, .int p_7, .int b_8, .int f_9])), (tO, .inr (3, [.ref sA, .int tl])), (sA, .inl (cC, 1600, .inl fs))] H := hP
    have hD : va_D A [(g0, .inr (1, [.ref gF, .ref gK, .ref gT, .ref gC, .ref gM, .int gc, .ref eF, .ref eC, .ref eM, .int ec, .ref hopA])), (eF, .inl (cI, 10, .inl feF)), (eC, .inl (cI, 10, .inl feC)), (eM, .inl (cI, 10, .inl feM)), (h0, .inr (2, [.ref tO, .int s_6, .int p_7, .int b_8, .int f_9])), (tO, .inr (3, [.ref sA, .int tl])), (sA, .inl (cC, 1600, .inl fs))] := hD
    have hw_r_5 := hw
    refine lv_istore_n (lv' := [(2, .int r_5), (0, .ref h0), (1, .ref g0)]) hx hb dX2_readEnd_25 rfl hl (by decide) rfl (fun ls hl => ?_)
    refine lv_aload_n hx hb dX2_readEnd_26 rfl (lv_at hl 1 rfl) ?_
    refine lv_aload_n hx hb dX2_readEnd_27 rfl (lv_at hl 1 rfl) ?_
    refine va_ldcS (own := RX2) (index := 69) (tx := "cost") hx hb hown (htw.2.1 3 (by decide)) dX2_readEnd_28 ?_
    have hPc := hP.sub (ws' := [(h0, .inr (2, [.ref tO, .int s_6, .int p_7, .int b_8, .int f_9])), (tO, .inr (3, [.ref sA, .int tl])), (sA, .inl (cC, 1600, .inl fs))]) [4, 5, 6] rfl
    have hDc := hD.sub (ws' := [(h0, .inr (2, [.ref tO, .int s_6, .int p_7, .int b_8, .int f_9])), (tO, .inr (3, [.ref sA, .int tl])), (sA, .inl (cC, 1600, .inl fs))]) [4, 5, 6] (by decide) rfl
    have hFc := va_free (wc := [(h0, .inr (2, [.ref tO, .int s_6, .int p_7, .int b_8, .int f_9])), (tO, .inr (3, [.ref sA, .int tl])), (sA, .inl (cC, 1600, .inl fs))]) hD hS hA [4, 5, 6] rfl
    refine va_calli (va_runV (As := [.ref (adK 3)]) (rest := [.ref h0]) ⟨hx, hb, hml, hown, hts⟩ (k_isText l dC dI cI cZ cC cJ H.size adK adV h0 tO s_6 p_7 b_8 f_9 sA tl fs 3 (by first | assumption | decide | omega)) (cwV 1 hts gX2_readEnd_X2_isText rfl rfl rfl (by decide +kernel) ⟨Nat.le_of_ble_eq_true rfl, Nat.le_of_ble_eq_true rfl⟩) ⟨tW_blind, va_recv hK hPc (ci := 2) (q0 := 0) rfl rfl, fun U hU hW => ⟨rfl, sPre_ok hsk hPc hDc hU hW, tW_warm hW hU hS (fun q h => hFc q h) htw⟩⟩ rfl rfl hl.1 rfl (lv_room (Nat.le_of_ble_eq_true rfl)) dX2_readEnd_30 ⟨(show 0 + 0 ≤ 0 by omega), (show 0 + 0 ≤ 0 by omega)⟩) hS (fun q _ h => hFc q h) hFc (fun r_10 u t H1 locs ht hvm hw hB hz1 hk1 hS => ?_)
    try dsimp only at hw hB
    obtain ⟨hP1, hD1⟩ := hB
    rw [ht] at hP1
    obtain ⟨hP, hD⟩ := va_join (wr := [(g0, .inr (1, [.ref gF, .ref gK, .ref gT, .ref gC, .ref gM, .int gc, .ref eF, .ref eC, .ref eM, .int ec, .ref hopA])), (eF, .inl (cI, 10, .inl feF)), (eC, .inl (cI, 10, .inl feC)), (eM, .inl (cI, 10, .inl feM))]) (w1 := [(h0, .inr (2, [.ref tO, .int s_6, .int p_7, .int b_8, .int f_9])), (tO, .inr (3, [.ref sA, .int tl])), (sA, .inl (cC, 1600, .inl fs))]) hP hD [4, 5, 6] [0, 1, 2, 3] rfl rfl (by decide) (by decide) hk1 hFc hP1 hD1
    generalize H1 = H at hP hS ⊢
    have hP : va_P (dC, dI) vwCl [(g0, .inr (1, [.ref gF, .ref gK, .ref gT, .ref gC, .ref gM, .int gc, .ref eF, .ref eC, .ref eM, .int ec, .ref hopA])), (eF, .inl (cI, 10, .inl feF)), (eC, .inl (cI, 10, .inl feC)), (eM, .inl (cI, 10, .inl feM)), (h0, .inr (2, [.ref tO, .int s_6, .int p_7, .int b_8, .int f_9])), (tO, .inr (3, [.ref sA, .int tl])), (sA, .inl (cC, 1600, .inl fs))] H := hP
    have hD : va_D A [(g0, .inr (1, [.ref gF, .ref gK, .ref gT, .ref gC, .ref gM, .int gc, .ref eF, .ref eC, .ref eM, .int ec, .ref hopA])), (eF, .inl (cI, 10, .inl feF)), (eC, .inl (cI, 10, .inl feC)), (eM, .inl (cI, 10, .inl feM)), (h0, .inr (2, [.ref tO, .int s_6, .int p_7, .int b_8, .int f_9])), (tO, .inr (3, [.ref sA, .int tl])), (sA, .inl (cC, 1600, .inl fs))] := hD
    have hw_r_10 := hw
    have hPc := hP.sub (ws' := [(h0, .inr (2, [.ref tO, .int s_6, .int p_7, .int b_8, .int f_9])), (tO, .inr (3, [.ref sA, .int tl])), (sA, .inl (cC, 1600, .inl fs))]) [4, 5, 6] rfl
    have hDc := hD.sub (ws' := [(h0, .inr (2, [.ref tO, .int s_6, .int p_7, .int b_8, .int f_9])), (tO, .inr (3, [.ref sA, .int tl])), (sA, .inl (cC, 1600, .inl fs))]) [4, 5, 6] (by decide) rfl
    have hFc := va_free (wc := [(h0, .inr (2, [.ref tO, .int s_6, .int p_7, .int b_8, .int f_9])), (tO, .inr (3, [.ref sA, .int tl])), (sA, .inl (cC, 1600, .inl fs))]) hD hS hA [4, 5, 6] rfl
    refine va_callv (va_runV (As := [.int r_10]) (rest := []) ⟨hx, hb, hml, hown, hts⟩ (k_passIf l dC dI cI cZ cC cJ H.size  h0 tO s_6 p_7 b_8 f_9 sA tl fs r_10 ) (cwV 1 hts gX2_readEnd_X2_passIf rfl rfl rfl (by decide +kernel) ⟨Nat.le_of_ble_eq_true rfl, Nat.le_of_ble_eq_true rfl⟩) ⟨sPre_blind, va_recv hK hPc (ci := 2) (q0 := 0) rfl rfl, fun U hU hW => ⟨rfl, sPre_ok hsk hPc hDc hU hW⟩⟩ rfl rfl hl.1 rfl (lv_room (Nat.le_of_ble_eq_true rfl)) dX2_readEnd_33 ⟨(show 0 + 0 ≤ 0 by omega), (show 0 + 0 ≤ 0 by omega)⟩) hS (fun q _ h => hFc q h) hFc (fun u t H1 locs ht hvm hw hB hz1 hk1 hS => ?_)
    obtain ⟨s_12, p_13, b_14, f_15⟩ := u
    try dsimp only at hw hB
    obtain ⟨hP1, hD1⟩ := hB
    rw [ht] at hP1
    obtain ⟨hP, hD⟩ := va_join (wr := [(g0, .inr (1, [.ref gF, .ref gK, .ref gT, .ref gC, .ref gM, .int gc, .ref eF, .ref eC, .ref eM, .int ec, .ref hopA])), (eF, .inl (cI, 10, .inl feF)), (eC, .inl (cI, 10, .inl feC)), (eM, .inl (cI, 10, .inl feM))]) (w1 := [(h0, .inr (2, [.ref tO, .int s_12, .int p_13, .int b_14, .int f_15])), (tO, .inr (3, [.ref sA, .int tl])), (sA, .inl (cC, 1600, .inl fs))]) hP hD [4, 5, 6] [0, 1, 2, 3] rfl rfl (by decide) (by decide) hk1 hFc hP1 hD1
    generalize H1 = H at hP hS ⊢
    have hP : va_P (dC, dI) vwCl [(g0, .inr (1, [.ref gF, .ref gK, .ref gT, .ref gC, .ref gM, .int gc, .ref eF, .ref eC, .ref eM, .int ec, .ref hopA])), (eF, .inl (cI, 10, .inl feF)), (eC, .inl (cI, 10, .inl feC)), (eM, .inl (cI, 10, .inl feM)), (h0, .inr (2, [.ref tO, .int s_12, .int p_13, .int b_14, .int f_15])), (tO, .inr (3, [.ref sA, .int tl])), (sA, .inl (cC, 1600, .inl fs))] H := hP
    have hD : va_D A [(g0, .inr (1, [.ref gF, .ref gK, .ref gT, .ref gC, .ref gM, .int gc, .ref eF, .ref eC, .ref eM, .int ec, .ref hopA])), (eF, .inl (cI, 10, .inl feF)), (eC, .inl (cI, 10, .inl feC)), (eM, .inl (cI, 10, .inl feM)), (h0, .inr (2, [.ref tO, .int s_12, .int p_13, .int b_14, .int f_15])), (tO, .inr (3, [.ref sA, .int tl])), (sA, .inl (cC, 1600, .inl fs))] := hD
    refine lv_aload_n hx hb dX2_readEnd_36 rfl (lv_at hl 1 rfl) ?_
    refine lv_sipush (v := 999) hx hb dX2_readEnd_37 (by decide) ?_
    have hPc := hP.sub (ws' := [(h0, .inr (2, [.ref tO, .int s_12, .int p_13, .int b_14, .int f_15])), (tO, .inr (3, [.ref sA, .int tl])), (sA, .inl (cC, 1600, .inl fs))]) [4, 5, 6] rfl
    have hDc := hD.sub (ws' := [(h0, .inr (2, [.ref tO, .int s_12, .int p_13, .int b_14, .int f_15])), (tO, .inr (3, [.ref sA, .int tl])), (sA, .inl (cC, 1600, .inl fs))]) [4, 5, 6] (by decide) rfl
    have hFc := va_free (wc := [(h0, .inr (2, [.ref tO, .int s_12, .int p_13, .int b_14, .int f_15])), (tO, .inr (3, [.ref sA, .int tl])), (sA, .inl (cC, 1600, .inl fs))]) hD hS hA [4, 5, 6] rfl
    refine va_calli (va_runV (As := [.int 999]) (rest := []) ⟨hx, hb, hml, hown, hts⟩ (k_readNumber l dC dI cI cZ cC cJ H.size  h0 tO s_12 p_13 b_14 f_15 sA tl fs 999 ) (cwV 1 hts gX2_readEnd_X2_readNumber rfl rfl rfl (by decide +kernel) ⟨Nat.le_of_ble_eq_true rfl, Nat.le_of_ble_eq_true rfl⟩) ⟨sPre_blind, va_recv hK hPc (ci := 2) (q0 := 0) rfl rfl, fun U hU hW => ⟨rfl, sPre_ok hsk hPc hDc hU hW⟩⟩ rfl rfl hl.1 rfl (lv_room (Nat.le_of_ble_eq_true rfl)) dX2_readEnd_40 ⟨(show 0 + 0 ≤ 0 by omega), (show 0 + 0 ≤ 0 by omega)⟩) hS (fun q _ h => hFc q h) hFc (fun r_16 u t H1 locs ht hvm hw hB hz1 hk1 hS => ?_)
    obtain ⟨s_17, p_18, b_19, f_20⟩ := u
    try dsimp only at hw hB
    obtain ⟨hP1, hD1⟩ := hB
    rw [ht] at hP1
    obtain ⟨hP, hD⟩ := va_join (wr := [(g0, .inr (1, [.ref gF, .ref gK, .ref gT, .ref gC, .ref gM, .int gc, .ref eF, .ref eC, .ref eM, .int ec, .ref hopA])), (eF, .inl (cI, 10, .inl feF)), (eC, .inl (cI, 10, .inl feC)), (eM, .inl (cI, 10, .inl feM))]) (w1 := [(h0, .inr (2, [.ref tO, .int s_17, .int p_18, .int b_19, .int f_20])), (tO, .inr (3, [.ref sA, .int tl])), (sA, .inl (cC, 1600, .inl fs))]) hP hD [4, 5, 6] [0, 1, 2, 3] rfl rfl (by decide) (by decide) hk1 hFc hP1 hD1
    generalize H1 = H at hP hS ⊢
    have hP : va_P (dC, dI) vwCl [(g0, .inr (1, [.ref gF, .ref gK, .ref gT, .ref gC, .ref gM, .int gc, .ref eF, .ref eC, .ref eM, .int ec, .ref hopA])), (eF, .inl (cI, 10, .inl feF)), (eC, .inl (cI, 10, .inl feC)), (eM, .inl (cI, 10, .inl feM)), (h0, .inr (2, [.ref tO, .int s_17, .int p_18, .int b_19, .int f_20])), (tO, .inr (3, [.ref sA, .int tl])), (sA, .inl (cC, 1600, .inl fs))] H := hP
    have hD : va_D A [(g0, .inr (1, [.ref gF, .ref gK, .ref gT, .ref gC, .ref gM, .int gc, .ref eF, .ref eC, .ref eM, .int ec, .ref hopA])), (eF, .inl (cI, 10, .inl feF)), (eC, .inl (cI, 10, .inl feC)), (eM, .inl (cI, 10, .inl feM)), (h0, .inr (2, [.ref tO, .int s_17, .int p_18, .int b_19, .int f_20])), (tO, .inr (3, [.ref sA, .int tl])), (sA, .inl (cC, 1600, .inl fs))] := hD
    have hw_r_16 := hw
    refine lv_istore_n (lv' := [(3, .int r_16), (2, .int r_5), (0, .ref h0), (1, .ref g0)]) hx hb dX2_readEnd_43 rfl hl (by decide) rfl (fun ls hl => ?_)
    refine lv_aload_n hx hb dX2_readEnd_44 rfl (lv_at hl 2 rfl) ?_
    refine lv_aload_n hx hb dX2_readEnd_45 rfl (lv_at hl 2 rfl) ?_
    refine va_ldcS (own := RX2) (index := 71) (tx := "with") hx hb hown (htw.2.1 4 (by decide)) dX2_readEnd_46 ?_
    have hPc := hP.sub (ws' := [(h0, .inr (2, [.ref tO, .int s_17, .int p_18, .int b_19, .int f_20])), (tO, .inr (3, [.ref sA, .int tl])), (sA, .inl (cC, 1600, .inl fs))]) [4, 5, 6] rfl
    have hDc := hD.sub (ws' := [(h0, .inr (2, [.ref tO, .int s_17, .int p_18, .int b_19, .int f_20])), (tO, .inr (3, [.ref sA, .int tl])), (sA, .inl (cC, 1600, .inl fs))]) [4, 5, 6] (by decide) rfl
    have hFc := va_free (wc := [(h0, .inr (2, [.ref tO, .int s_17, .int p_18, .int b_19, .int f_20])), (tO, .inr (3, [.ref sA, .int tl])), (sA, .inl (cC, 1600, .inl fs))]) hD hS hA [4, 5, 6] rfl
    refine va_calli (va_runV (As := [.ref (adK 4)]) (rest := [.ref h0]) ⟨hx, hb, hml, hown, hts⟩ (k_isText l dC dI cI cZ cC cJ H.size adK adV h0 tO s_17 p_18 b_19 f_20 sA tl fs 4 (by first | assumption | decide | omega)) (cwV 1 hts gX2_readEnd_X2_isText rfl rfl rfl (by decide +kernel) ⟨Nat.le_of_ble_eq_true rfl, Nat.le_of_ble_eq_true rfl⟩) ⟨tW_blind, va_recv hK hPc (ci := 2) (q0 := 0) rfl rfl, fun U hU hW => ⟨rfl, sPre_ok hsk hPc hDc hU hW, tW_warm hW hU hS (fun q h => hFc q h) htw⟩⟩ rfl rfl hl.1 rfl (lv_room (Nat.le_of_ble_eq_true rfl)) dX2_readEnd_48 ⟨(show 0 + 0 ≤ 0 by omega), (show 0 + 0 ≤ 0 by omega)⟩) hS (fun q _ h => hFc q h) hFc (fun r_21 u t H1 locs ht hvm hw hB hz1 hk1 hS => ?_)
    try dsimp only at hw hB
    obtain ⟨hP1, hD1⟩ := hB
    rw [ht] at hP1
    obtain ⟨hP, hD⟩ := va_join (wr := [(g0, .inr (1, [.ref gF, .ref gK, .ref gT, .ref gC, .ref gM, .int gc, .ref eF, .ref eC, .ref eM, .int ec, .ref hopA])), (eF, .inl (cI, 10, .inl feF)), (eC, .inl (cI, 10, .inl feC)), (eM, .inl (cI, 10, .inl feM))]) (w1 := [(h0, .inr (2, [.ref tO, .int s_17, .int p_18, .int b_19, .int f_20])), (tO, .inr (3, [.ref sA, .int tl])), (sA, .inl (cC, 1600, .inl fs))]) hP hD [4, 5, 6] [0, 1, 2, 3] rfl rfl (by decide) (by decide) hk1 hFc hP1 hD1
    generalize H1 = H at hP hS ⊢
    have hP : va_P (dC, dI) vwCl [(g0, .inr (1, [.ref gF, .ref gK, .ref gT, .ref gC, .ref gM, .int gc, .ref eF, .ref eC, .ref eM, .int ec, .ref hopA])), (eF, .inl (cI, 10, .inl feF)), (eC, .inl (cI, 10, .inl feC)), (eM, .inl (cI, 10, .inl feM)), (h0, .inr (2, [.ref tO, .int s_17, .int p_18, .int b_19, .int f_20])), (tO, .inr (3, [.ref sA, .int tl])), (sA, .inl (cC, 1600, .inl fs))] H := hP
    have hD : va_D A [(g0, .inr (1, [.ref gF, .ref gK, .ref gT, .ref gC, .ref gM, .int gc, .ref eF, .ref eC, .ref eM, .int ec, .ref hopA])), (eF, .inl (cI, 10, .inl feF)), (eC, .inl (cI, 10, .inl feC)), (eM, .inl (cI, 10, .inl feM)), (h0, .inr (2, [.ref tO, .int s_17, .int p_18, .int b_19, .int f_20])), (tO, .inr (3, [.ref sA, .int tl])), (sA, .inl (cC, 1600, .inl fs))] := hD
    have hw_r_21 := hw
    have hPc := hP.sub (ws' := [(h0, .inr (2, [.ref tO, .int s_17, .int p_18, .int b_19, .int f_20])), (tO, .inr (3, [.ref sA, .int tl])), (sA, .inl (cC, 1600, .inl fs))]) [4, 5, 6] rfl
    have hDc := hD.sub (ws' := [(h0, .inr (2, [.ref tO, .int s_17, .int p_18, .int b_19, .int f_20])), (tO, .inr (3, [.ref sA, .int tl])), (sA, .inl (cC, 1600, .inl fs))]) [4, 5, 6] (by decide) rfl
    have hFc := va_free (wc := [(h0, .inr (2, [.ref tO, .int s_17, .int p_18, .int b_19, .int f_20])), (tO, .inr (3, [.ref sA, .int tl])), (sA, .inl (cC, 1600, .inl fs))]) hD hS hA [4, 5, 6] rfl
    refine va_callv (va_runV (As := [.int r_21]) (rest := []) ⟨hx, hb, hml, hown, hts⟩ (k_passIf l dC dI cI cZ cC cJ H.size  h0 tO s_17 p_18 b_19 f_20 sA tl fs r_21 ) (cwV 1 hts gX2_readEnd_X2_passIf rfl rfl rfl (by decide +kernel) ⟨Nat.le_of_ble_eq_true rfl, Nat.le_of_ble_eq_true rfl⟩) ⟨sPre_blind, va_recv hK hPc (ci := 2) (q0 := 0) rfl rfl, fun U hU hW => ⟨rfl, sPre_ok hsk hPc hDc hU hW⟩⟩ rfl rfl hl.1 rfl (lv_room (Nat.le_of_ble_eq_true rfl)) dX2_readEnd_51 ⟨(show 0 + 0 ≤ 0 by omega), (show 0 + 0 ≤ 0 by omega)⟩) hS (fun q _ h => hFc q h) hFc (fun u t H1 locs ht hvm hw hB hz1 hk1 hS => ?_)
    obtain ⟨s_23, p_24, b_25, f_26⟩ := u
    try dsimp only at hw hB
    obtain ⟨hP1, hD1⟩ := hB
    rw [ht] at hP1
    obtain ⟨hP, hD⟩ := va_join (wr := [(g0, .inr (1, [.ref gF, .ref gK, .ref gT, .ref gC, .ref gM, .int gc, .ref eF, .ref eC, .ref eM, .int ec, .ref hopA])), (eF, .inl (cI, 10, .inl feF)), (eC, .inl (cI, 10, .inl feC)), (eM, .inl (cI, 10, .inl feM))]) (w1 := [(h0, .inr (2, [.ref tO, .int s_23, .int p_24, .int b_25, .int f_26])), (tO, .inr (3, [.ref sA, .int tl])), (sA, .inl (cC, 1600, .inl fs))]) hP hD [4, 5, 6] [0, 1, 2, 3] rfl rfl (by decide) (by decide) hk1 hFc hP1 hD1
    generalize H1 = H at hP hS ⊢
    have hP : va_P (dC, dI) vwCl [(g0, .inr (1, [.ref gF, .ref gK, .ref gT, .ref gC, .ref gM, .int gc, .ref eF, .ref eC, .ref eM, .int ec, .ref hopA])), (eF, .inl (cI, 10, .inl feF)), (eC, .inl (cI, 10, .inl feC)), (eM, .inl (cI, 10, .inl feM)), (h0, .inr (2, [.ref tO, .int s_23, .int p_24, .int b_25, .int f_26])), (tO, .inr (3, [.ref sA, .int tl])), (sA, .inl (cC, 1600, .inl fs))] H := hP
    have hD : va_D A [(g0, .inr (1, [.ref gF, .ref gK, .ref gT, .ref gC, .ref gM, .int gc, .ref eF, .ref eC, .ref eM, .int ec, .ref hopA])), (eF, .inl (cI, 10, .inl feF)), (eC, .inl (cI, 10, .inl feC)), (eM, .inl (cI, 10, .inl feM)), (h0, .inr (2, [.ref tO, .int s_23, .int p_24, .int b_25, .int f_26])), (tO, .inr (3, [.ref sA, .int tl])), (sA, .inl (cC, 1600, .inl fs))] := hD
    refine lv_aload_n hx hb dX2_readEnd_54 rfl (lv_at hl 2 rfl) ?_
    have hPc := hP.sub (ws' := [(h0, .inr (2, [.ref tO, .int s_23, .int p_24, .int b_25, .int f_26])), (tO, .inr (3, [.ref sA, .int tl])), (sA, .inl (cC, 1600, .inl fs))]) [4, 5, 6] rfl
    have hDc := hD.sub (ws' := [(h0, .inr (2, [.ref tO, .int s_23, .int p_24, .int b_25, .int f_26])), (tO, .inr (3, [.ref sA, .int tl])), (sA, .inl (cC, 1600, .inl fs))]) [4, 5, 6] (by decide) rfl
    have hFc := va_free (wc := [(h0, .inr (2, [.ref tO, .int s_23, .int p_24, .int b_25, .int f_26])), (tO, .inr (3, [.ref sA, .int tl])), (sA, .inl (cC, 1600, .inl fs))]) hD hS hA [4, 5, 6] rfl
    refine va_calli (va_runV (As := []) (rest := []) ⟨hx, hb, hml, hown, hts⟩ (k_endMarkHere l dC dI cI cZ cC cJ H.size adK adV h0 tO s_23 p_24 b_25 f_26 sA tl fs ) (cwV 0 hts gX2_readEnd_X2_endMarkHere rfl rfl rfl (by decide +kernel) ⟨Nat.le_of_ble_eq_true rfl, Nat.le_of_ble_eq_true rfl⟩) ⟨tW_blind, va_recv hK hPc (ci := 2) (q0 := 0) rfl rfl, fun U hU hW => ⟨rfl, sPre_ok hsk hPc hDc hU hW, tW_warm hW hU hS (fun q h => hFc q h) htw⟩⟩ rfl rfl hl.1 rfl (lv_room (Nat.le_of_ble_eq_true rfl)) dX2_readEnd_55 ⟨(show 0 + 0 ≤ 0 by omega), (show 0 + 0 ≤ 0 by omega)⟩) hS (fun q _ h => hFc q h) hFc (fun r_27 u t H1 locs ht hvm hw hB hz1 hk1 hS => ?_)
    try dsimp only at hw hB
    obtain ⟨hP1, hD1⟩ := hB
    rw [ht] at hP1
    obtain ⟨hP, hD⟩ := va_join (wr := [(g0, .inr (1, [.ref gF, .ref gK, .ref gT, .ref gC, .ref gM, .int gc, .ref eF, .ref eC, .ref eM, .int ec, .ref hopA])), (eF, .inl (cI, 10, .inl feF)), (eC, .inl (cI, 10, .inl feC)), (eM, .inl (cI, 10, .inl feM))]) (w1 := [(h0, .inr (2, [.ref tO, .int s_23, .int p_24, .int b_25, .int f_26])), (tO, .inr (3, [.ref sA, .int tl])), (sA, .inl (cC, 1600, .inl fs))]) hP hD [4, 5, 6] [0, 1, 2, 3] rfl rfl (by decide) (by decide) hk1 hFc hP1 hD1
    generalize H1 = H at hP hS ⊢
    have hP : va_P (dC, dI) vwCl [(g0, .inr (1, [.ref gF, .ref gK, .ref gT, .ref gC, .ref gM, .int gc, .ref eF, .ref eC, .ref eM, .int ec, .ref hopA])), (eF, .inl (cI, 10, .inl feF)), (eC, .inl (cI, 10, .inl feC)), (eM, .inl (cI, 10, .inl feM)), (h0, .inr (2, [.ref tO, .int s_23, .int p_24, .int b_25, .int f_26])), (tO, .inr (3, [.ref sA, .int tl])), (sA, .inl (cC, 1600, .inl fs))] H := hP
    have hD : va_D A [(g0, .inr (1, [.ref gF, .ref gK, .ref gT, .ref gC, .ref gM, .int gc, .ref eF, .ref eC, .ref eM, .int ec, .ref hopA])), (eF, .inl (cI, 10, .inl feF)), (eC, .inl (cI, 10, .inl feC)), (eM, .inl (cI, 10, .inl feM)), (h0, .inr (2, [.ref tO, .int s_23, .int p_24, .int b_25, .int f_26])), (tO, .inr (3, [.ref sA, .int tl])), (sA, .inl (cC, 1600, .inl fs))] := hD
    have hw_r_27 := hw
    refine lv_istore (lv' := [(4, .int r_27), (3, .int r_16), (2, .int r_5), (0, .ref h0), (1, .ref g0)]) hx hb dX2_readEnd_58 hl (by decide) rfl (fun ls hl => ?_)
    refine lv_aload_n hx hb dX2_readEnd_60 rfl (lv_at hl 3 rfl) ?_
    refine lv_iload hx hb dX2_readEnd_61 (lv_at hl 0 rfl) ?_
    refine lv_if_eq (tgt := 70) hx hb dX2_readEnd_63 (by decide) (fun c_63 => ?_) (fun c_63 => ?_)
    · skip
      refine lv_iconst (v := 0) hx hb dX2_readEnd_70 (by decide) ?_
      have hPc := hP.sub (ws' := [(h0, .inr (2, [.ref tO, .int s_23, .int p_24, .int b_25, .int f_26])), (tO, .inr (3, [.ref sA, .int tl])), (sA, .inl (cC, 1600, .inl fs))]) [4, 5, 6] rfl
      have hDc := hD.sub (ws' := [(h0, .inr (2, [.ref tO, .int s_23, .int p_24, .int b_25, .int f_26])), (tO, .inr (3, [.ref sA, .int tl])), (sA, .inl (cC, 1600, .inl fs))]) [4, 5, 6] (by decide) rfl
      have hFc := va_free (wc := [(h0, .inr (2, [.ref tO, .int s_23, .int p_24, .int b_25, .int f_26])), (tO, .inr (3, [.ref sA, .int tl])), (sA, .inl (cC, 1600, .inl fs))]) hD hS hA [4, 5, 6] rfl
      refine va_callv (va_runV (As := [.int 0]) (rest := []) ⟨hx, hb, hml, hown, hts⟩ (k_passIf l dC dI cI cZ cC cJ H.size  h0 tO s_23 p_24 b_25 f_26 sA tl fs 0 ) (cwV 1 hts gX2_readEnd_X2_passIf rfl rfl rfl (by decide +kernel) ⟨Nat.le_of_ble_eq_true rfl, Nat.le_of_ble_eq_true rfl⟩) ⟨sPre_blind, va_recv hK hPc (ci := 2) (q0 := 0) rfl rfl, fun U hU hW => ⟨rfl, sPre_ok hsk hPc hDc hU hW⟩⟩ rfl rfl hl.1 rfl (lv_room (Nat.le_of_ble_eq_true rfl)) dX2_readEnd_71 ⟨(show 0 + 0 ≤ 0 by omega), (show 0 + 0 ≤ 0 by omega)⟩) hS (fun q _ h => hFc q h) hFc (fun u t H1 locs ht hvm hw hB hz1 hk1 hS => ?_)
      obtain ⟨s_29, p_30, b_31, f_32⟩ := u
      try dsimp only at hw hB
      obtain ⟨hP1, hD1⟩ := hB
      rw [ht] at hP1
      obtain ⟨hP, hD⟩ := va_join (wr := [(g0, .inr (1, [.ref gF, .ref gK, .ref gT, .ref gC, .ref gM, .int gc, .ref eF, .ref eC, .ref eM, .int ec, .ref hopA])), (eF, .inl (cI, 10, .inl feF)), (eC, .inl (cI, 10, .inl feC)), (eM, .inl (cI, 10, .inl feM))]) (w1 := [(h0, .inr (2, [.ref tO, .int s_29, .int p_30, .int b_31, .int f_32])), (tO, .inr (3, [.ref sA, .int tl])), (sA, .inl (cC, 1600, .inl fs))]) hP hD [4, 5, 6] [0, 1, 2, 3] rfl rfl (by decide) (by decide) hk1 hFc hP1 hD1
      generalize H1 = H at hP hS ⊢
      have hP : va_P (dC, dI) vwCl [(g0, .inr (1, [.ref gF, .ref gK, .ref gT, .ref gC, .ref gM, .int gc, .ref eF, .ref eC, .ref eM, .int ec, .ref hopA])), (eF, .inl (cI, 10, .inl feF)), (eC, .inl (cI, 10, .inl feC)), (eM, .inl (cI, 10, .inl feM)), (h0, .inr (2, [.ref tO, .int s_29, .int p_30, .int b_31, .int f_32])), (tO, .inr (3, [.ref sA, .int tl])), (sA, .inl (cC, 1600, .inl fs))] H := hP
      have hD : va_D A [(g0, .inr (1, [.ref gF, .ref gK, .ref gT, .ref gC, .ref gM, .int gc, .ref eF, .ref eC, .ref eM, .int ec, .ref hopA])), (eF, .inl (cI, 10, .inl feF)), (eC, .inl (cI, 10, .inl feC)), (eM, .inl (cI, 10, .inl feM)), (h0, .inr (2, [.ref tO, .int s_29, .int p_30, .int b_31, .int f_32])), (tO, .inr (3, [.ref sA, .int tl])), (sA, .inl (cC, 1600, .inl fs))] := hD
      refine lv_aload_n hx hb dX2_readEnd_74 rfl (lv_at hl 3 rfl) ?_
      refine lv_aload_n hx hb dX2_readEnd_75 rfl (lv_at hl 3 rfl) ?_
      refine va_get (D := (dC, dI)) (ci := 2) (v := .int s_29) (C := RX2) (T := TX2) (N := 5) hx hb hts i2 hown hK hP 4 rfl rfl 1 (by decide) (hts (.fieldLink RX2 32 "StopSetter$Reader" "sort" "I") (by decide +kernel)) (fun _ h9 => h9) rfl dX2_readEnd_76 ?_
      refine lv_iconst (v := 4) hx hb dX2_readEnd_79 (by decide) ?_
      refine lv_icmp_ne (tgt := 87) hx hb dX2_readEnd_80 (by decide) (fun c_80 => ?_) (fun c_80 => ?_)
      · skip
        refine lv_iconst (v := 0) hx hb dX2_readEnd_87 (by decide) ?_
        have hPc := hP.sub (ws' := [(h0, .inr (2, [.ref tO, .int s_29, .int p_30, .int b_31, .int f_32])), (tO, .inr (3, [.ref sA, .int tl])), (sA, .inl (cC, 1600, .inl fs))]) [4, 5, 6] rfl
        have hDc := hD.sub (ws' := [(h0, .inr (2, [.ref tO, .int s_29, .int p_30, .int b_31, .int f_32])), (tO, .inr (3, [.ref sA, .int tl])), (sA, .inl (cC, 1600, .inl fs))]) [4, 5, 6] (by decide) rfl
        have hFc := va_free (wc := [(h0, .inr (2, [.ref tO, .int s_29, .int p_30, .int b_31, .int f_32])), (tO, .inr (3, [.ref sA, .int tl])), (sA, .inl (cC, 1600, .inl fs))]) hD hS hA [4, 5, 6] rfl
        refine va_callv (va_runV (As := [.int 0]) (rest := []) ⟨hx, hb, hml, hown, hts⟩ (k_passIf l dC dI cI cZ cC cJ H.size  h0 tO s_29 p_30 b_31 f_32 sA tl fs 0 ) (cwV 1 hts gX2_readEnd_X2_passIf rfl rfl rfl (by decide +kernel) ⟨Nat.le_of_ble_eq_true rfl, Nat.le_of_ble_eq_true rfl⟩) ⟨sPre_blind, va_recv hK hPc (ci := 2) (q0 := 0) rfl rfl, fun U hU hW => ⟨rfl, sPre_ok hsk hPc hDc hU hW⟩⟩ rfl rfl hl.1 rfl (lv_room (Nat.le_of_ble_eq_true rfl)) dX2_readEnd_88 ⟨(show 0 + 0 ≤ 0 by omega), (show 0 + 0 ≤ 0 by omega)⟩) hS (fun q _ h => hFc q h) hFc (fun u t H1 locs ht hvm hw hB hz1 hk1 hS => ?_)
        obtain ⟨s_34, p_35, b_36, f_37⟩ := u
        try dsimp only at hw hB
        obtain ⟨hP1, hD1⟩ := hB
        rw [ht] at hP1
        obtain ⟨hP, hD⟩ := va_join (wr := [(g0, .inr (1, [.ref gF, .ref gK, .ref gT, .ref gC, .ref gM, .int gc, .ref eF, .ref eC, .ref eM, .int ec, .ref hopA])), (eF, .inl (cI, 10, .inl feF)), (eC, .inl (cI, 10, .inl feC)), (eM, .inl (cI, 10, .inl feM))]) (w1 := [(h0, .inr (2, [.ref tO, .int s_34, .int p_35, .int b_36, .int f_37])), (tO, .inr (3, [.ref sA, .int tl])), (sA, .inl (cC, 1600, .inl fs))]) hP hD [4, 5, 6] [0, 1, 2, 3] rfl rfl (by decide) (by decide) hk1 hFc hP1 hD1
        generalize H1 = H at hP hS ⊢
        have hP : va_P (dC, dI) vwCl [(g0, .inr (1, [.ref gF, .ref gK, .ref gT, .ref gC, .ref gM, .int gc, .ref eF, .ref eC, .ref eM, .int ec, .ref hopA])), (eF, .inl (cI, 10, .inl feF)), (eC, .inl (cI, 10, .inl feC)), (eM, .inl (cI, 10, .inl feM)), (h0, .inr (2, [.ref tO, .int s_34, .int p_35, .int b_36, .int f_37])), (tO, .inr (3, [.ref sA, .int tl])), (sA, .inl (cC, 1600, .inl fs))] H := hP
        have hD : va_D A [(g0, .inr (1, [.ref gF, .ref gK, .ref gT, .ref gC, .ref gM, .int gc, .ref eF, .ref eC, .ref eM, .int ec, .ref hopA])), (eF, .inl (cI, 10, .inl feF)), (eC, .inl (cI, 10, .inl feC)), (eM, .inl (cI, 10, .inl feM)), (h0, .inr (2, [.ref tO, .int s_34, .int p_35, .int b_36, .int f_37])), (tO, .inr (3, [.ref sA, .int tl])), (sA, .inl (cC, 1600, .inl fs))] := hD
        refine lv_aload_n hx hb dX2_readEnd_91 rfl (lv_at hl 3 rfl) ?_
        refine va_get (D := (dC, dI)) (ci := 2) (v := .int f_37) (C := RX2) (T := TX2) (N := 5) hx hb hts i2 hown hK hP 4 rfl rfl 4 (by decide) (hts (.fieldLink RX2 20 "StopSetter$Reader" "fault" "I") (by decide +kernel)) (fun _ h9 => h9) rfl dX2_readEnd_92 ?_
        refine lv_if_ne (tgt := 106) hx hb dX2_readEnd_95 (by decide) (fun c_95 => ?_) (fun c_95 => ?_)
        · skip
          have hP9 := hP.sub (ws' := [(h0, .inr (2, [.ref tO, .int s_34, .int p_35, .int b_36, .int f_37])), (tO, .inr (3, [.ref sA, .int tl])), (sA, .inl (cC, 1600, .inl fs)), (g0, .inr (1, [.ref gF, .ref gK, .ref gT, .ref gC, .ref gM, .int gc, .ref eF, .ref eC, .ref eM, .int ec, .ref hopA])), (eF, .inl (cI, 10, .inl feF)), (eC, .inl (cI, 10, .inl feC)), (eM, .inl (cI, 10, .inl feM))]) [4, 5, 6, 0, 1, 2, 3] rfl
          have hD9 := hD.sub (ws' := [(h0, .inr (2, [.ref tO, .int s_34, .int p_35, .int b_36, .int f_37])), (tO, .inr (3, [.ref sA, .int tl])), (sA, .inl (cC, 1600, .inl fs)), (g0, .inr (1, [.ref gF, .ref gK, .ref gT, .ref gC, .ref gM, .int gc, .ref eF, .ref eC, .ref eM, .int ec, .ref hopA])), (eF, .inl (cI, 10, .inl feF)), (eC, .inl (cI, 10, .inl feC)), (eM, .inl (cI, 10, .inl feM))]) [4, 5, 6, 0, 1, 2, 3] (by decide) rfl
          exact W.vret hx hb hr (fun t ht hW => ⟨⟨(s_34, p_35, b_36, f_37, ec, feF, feC, feM), rfl, trivial, by rw [ht]; exact hP9, hD9⟩, hS.F ht⟩) hS.2.2 dX2_readEnd_106
        · skip
          refine lv_aload_n hx hb dX2_readEnd_98 rfl (lv_at hl 4 rfl) ?_
          refine lv_iload_n hx hb dX2_readEnd_99 rfl (lv_at hl 2 rfl) ?_
          refine lv_iload_n hx hb dX2_readEnd_100 rfl (lv_at hl 1 rfl) ?_
          refine lv_iload hx hb dX2_readEnd_101 (lv_at hl 0 rfl) ?_
          have hPc := hP.sub (ws' := [(g0, .inr (1, [.ref gF, .ref gK, .ref gT, .ref gC, .ref gM, .int gc, .ref eF, .ref eC, .ref eM, .int ec, .ref hopA])), (eF, .inl (cI, 10, .inl feF)), (eC, .inl (cI, 10, .inl feC)), (eM, .inl (cI, 10, .inl feM))]) [0, 1, 2, 3] rfl
          have hDc := hD.sub (ws' := [(g0, .inr (1, [.ref gF, .ref gK, .ref gT, .ref gC, .ref gM, .int gc, .ref eF, .ref eC, .ref eM, .int ec, .ref hopA])), (eF, .inl (cI, 10, .inl feF)), (eC, .inl (cI, 10, .inl feC)), (eM, .inl (cI, 10, .inl feM))]) [0, 1, 2, 3] (by decide) rfl
          have hFc := va_free (wc := [(g0, .inr (1, [.ref gF, .ref gK, .ref gT, .ref gC, .ref gM, .int gc, .ref eF, .ref eC, .ref eM, .int ec, .ref hopA])), (eF, .inl (cI, 10, .inl feF)), (eC, .inl (cI, 10, .inl feC)), (eM, .inl (cI, 10, .inl feM))]) hD hS hA [0, 1, 2, 3] rfl
          refine va_callv (va_runV (As := [.int r_5, .int r_16, .int r_27]) (rest := []) ⟨hx, hb, hml, hown, hts⟩ (k_addEnd l dC dI cI cZ cC cJ H.size  g0 gF gK gT gC gM gc eF eC eM ec hopA feF feC feM r_5 r_16 r_27 ) (cwV 3 hts gX2_readEnd_X1_addEnd rfl rfl rfl (by decide +kernel) ⟨Nat.le_of_ble_eq_true rfl, Nat.le_of_ble_eq_true rfl⟩) ⟨sPre_blind, va_recv hK hPc (ci := 1) (q0 := 0) rfl rfl, fun U hU hW => ⟨rfl, sPre_ok hsk hPc hDc hU hW⟩⟩ rfl rfl hl.1 rfl (lv_room (Nat.le_of_ble_eq_true rfl)) dX2_readEnd_103 ⟨(show 0 + 0 ≤ 0 by omega), (show 0 + 0 ≤ 0 by omega)⟩) hS (fun q _ h => hFc q h) hFc (fun u t H1 locs ht hvm hw hB hz1 hk1 hS => ?_)
          obtain ⟨e_39, f_40, f_41, f_42⟩ := u
          try dsimp only at hw hB
          obtain ⟨hP1, hD1⟩ := hB
          rw [ht] at hP1
          obtain ⟨hP, hD⟩ := va_join (wr := [(h0, .inr (2, [.ref tO, .int s_34, .int p_35, .int b_36, .int f_37])), (tO, .inr (3, [.ref sA, .int tl])), (sA, .inl (cC, 1600, .inl fs))]) (w1 := [(g0, .inr (1, [.ref gF, .ref gK, .ref gT, .ref gC, .ref gM, .int gc, .ref eF, .ref eC, .ref eM, .int e_39, .ref hopA])), (eF, .inl (cI, 10, .inl f_40)), (eC, .inl (cI, 10, .inl f_41)), (eM, .inl (cI, 10, .inl f_42))]) hP hD [0, 1, 2, 3] [4, 5, 6] rfl rfl (by decide) (by decide) hk1 hFc hP1 hD1
          generalize H1 = H at hP hS ⊢
          have hP : va_P (dC, dI) vwCl [(h0, .inr (2, [.ref tO, .int s_34, .int p_35, .int b_36, .int f_37])), (tO, .inr (3, [.ref sA, .int tl])), (sA, .inl (cC, 1600, .inl fs)), (g0, .inr (1, [.ref gF, .ref gK, .ref gT, .ref gC, .ref gM, .int gc, .ref eF, .ref eC, .ref eM, .int e_39, .ref hopA])), (eF, .inl (cI, 10, .inl f_40)), (eC, .inl (cI, 10, .inl f_41)), (eM, .inl (cI, 10, .inl f_42))] H := hP
          have hD : va_D A [(h0, .inr (2, [.ref tO, .int s_34, .int p_35, .int b_36, .int f_37])), (tO, .inr (3, [.ref sA, .int tl])), (sA, .inl (cC, 1600, .inl fs)), (g0, .inr (1, [.ref gF, .ref gK, .ref gT, .ref gC, .ref gM, .int gc, .ref eF, .ref eC, .ref eM, .int e_39, .ref hopA])), (eF, .inl (cI, 10, .inl f_40)), (eC, .inl (cI, 10, .inl f_41)), (eM, .inl (cI, 10, .inl f_42))] := hD
          have hP9 := hP.sub (ws' := [(h0, .inr (2, [.ref tO, .int s_34, .int p_35, .int b_36, .int f_37])), (tO, .inr (3, [.ref sA, .int tl])), (sA, .inl (cC, 1600, .inl fs)), (g0, .inr (1, [.ref gF, .ref gK, .ref gT, .ref gC, .ref gM, .int gc, .ref eF, .ref eC, .ref eM, .int e_39, .ref hopA])), (eF, .inl (cI, 10, .inl f_40)), (eC, .inl (cI, 10, .inl f_41)), (eM, .inl (cI, 10, .inl f_42))]) [0, 1, 2, 3, 4, 5, 6] rfl
          have hD9 := hD.sub (ws' := [(h0, .inr (2, [.ref tO, .int s_34, .int p_35, .int b_36, .int f_37])), (tO, .inr (3, [.ref sA, .int tl])), (sA, .inl (cC, 1600, .inl fs)), (g0, .inr (1, [.ref gF, .ref gK, .ref gT, .ref gC, .ref gM, .int gc, .ref eF, .ref eC, .ref eM, .int e_39, .ref hopA])), (eF, .inl (cI, 10, .inl f_40)), (eC, .inl (cI, 10, .inl f_41)), (eM, .inl (cI, 10, .inl f_42))]) [0, 1, 2, 3, 4, 5, 6] (by decide) rfl
          exact W.vret hx hb hr (fun t ht hW => ⟨⟨(s_34, p_35, b_36, f_37, e_39, f_40, f_41, f_42), rfl, trivial, by rw [ht]; exact hP9, hD9⟩, hS.F ht⟩) hS.2.2 dX2_readEnd_106
      · skip
        refine lv_iconst (v := 1) hx hb dX2_readEnd_83 (by decide) ?_
        refine lv_goto (tgt := 88) hx hb dX2_readEnd_84 (by decide) ?_
        have hPc := hP.sub (ws' := [(h0, .inr (2, [.ref tO, .int s_29, .int p_30, .int b_31, .int f_32])), (tO, .inr (3, [.ref sA, .int tl])), (sA, .inl (cC, 1600, .inl fs))]) [4, 5, 6] rfl
        have hDc := hD.sub (ws' := [(h0, .inr (2, [.ref tO, .int s_29, .int p_30, .int b_31, .int f_32])), (tO, .inr (3, [.ref sA, .int tl])), (sA, .inl (cC, 1600, .inl fs))]) [4, 5, 6] (by decide) rfl
        have hFc := va_free (wc := [(h0, .inr (2, [.ref tO, .int s_29, .int p_30, .int b_31, .int f_32])), (tO, .inr (3, [.ref sA, .int tl])), (sA, .inl (cC, 1600, .inl fs))]) hD hS hA [4, 5, 6] rfl
        refine va_callv (va_runV (As := [.int 1]) (rest := []) ⟨hx, hb, hml, hown, hts⟩ (k_passIf l dC dI cI cZ cC cJ H.size  h0 tO s_29 p_30 b_31 f_32 sA tl fs 1 ) (cwV 1 hts gX2_readEnd_X2_passIf rfl rfl rfl (by decide +kernel) ⟨Nat.le_of_ble_eq_true rfl, Nat.le_of_ble_eq_true rfl⟩) ⟨sPre_blind, va_recv hK hPc (ci := 2) (q0 := 0) rfl rfl, fun U hU hW => ⟨rfl, sPre_ok hsk hPc hDc hU hW⟩⟩ rfl rfl hl.1 rfl (lv_room (Nat.le_of_ble_eq_true rfl)) dX2_readEnd_88 ⟨(show 0 + 0 ≤ 0 by omega), (show 0 + 0 ≤ 0 by omega)⟩) hS (fun q _ h => hFc q h) hFc (fun u t H1 locs ht hvm hw hB hz1 hk1 hS => ?_)
        obtain ⟨s_44, p_45, b_46, f_47⟩ := u
        try dsimp only at hw hB
        obtain ⟨hP1, hD1⟩ := hB
        rw [ht] at hP1
        obtain ⟨hP, hD⟩ := va_join (wr := [(g0, .inr (1, [.ref gF, .ref gK, .ref gT, .ref gC, .ref gM, .int gc, .ref eF, .ref eC, .ref eM, .int ec, .ref hopA])), (eF, .inl (cI, 10, .inl feF)), (eC, .inl (cI, 10, .inl feC)), (eM, .inl (cI, 10, .inl feM))]) (w1 := [(h0, .inr (2, [.ref tO, .int s_44, .int p_45, .int b_46, .int f_47])), (tO, .inr (3, [.ref sA, .int tl])), (sA, .inl (cC, 1600, .inl fs))]) hP hD [4, 5, 6] [0, 1, 2, 3] rfl rfl (by decide) (by decide) hk1 hFc hP1 hD1
        generalize H1 = H at hP hS ⊢
        have hP : va_P (dC, dI) vwCl [(g0, .inr (1, [.ref gF, .ref gK, .ref gT, .ref gC, .ref gM, .int gc, .ref eF, .ref eC, .ref eM, .int ec, .ref hopA])), (eF, .inl (cI, 10, .inl feF)), (eC, .inl (cI, 10, .inl feC)), (eM, .inl (cI, 10, .inl feM)), (h0, .inr (2, [.ref tO, .int s_44, .int p_45, .int b_46, .int f_47])), (tO, .inr (3, [.ref sA, .int tl])), (sA, .inl (cC, 1600, .inl fs))] H := hP
        have hD : va_D A [(g0, .inr (1, [.ref gF, .ref gK, .ref gT, .ref gC, .ref gM, .int gc, .ref eF, .ref eC, .ref eM, .int ec, .ref hopA])), (eF, .inl (cI, 10, .inl feF)), (eC, .inl (cI, 10, .inl feC)), (eM, .inl (cI, 10, .inl feM)), (h0, .inr (2, [.ref tO, .int s_44, .int p_45, .int b_46, .int f_47])), (tO, .inr (3, [.ref sA, .int tl])), (sA, .inl (cC, 1600, .inl fs))] := hD
        refine lv_aload_n hx hb dX2_readEnd_91 rfl (lv_at hl 3 rfl) ?_
        refine va_get (D := (dC, dI)) (ci := 2) (v := .int f_47) (C := RX2) (T := TX2) (N := 5) hx hb hts i2 hown hK hP 4 rfl rfl 4 (by decide) (hts (.fieldLink RX2 20 "StopSetter$Reader" "fault" "I") (by decide +kernel)) (fun _ h9 => h9) rfl dX2_readEnd_92 ?_
        refine lv_if_ne (tgt := 106) hx hb dX2_readEnd_95 (by decide) (fun c_95 => ?_) (fun c_95 => ?_)
        · skip
          have hP9 := hP.sub (ws' := [(h0, .inr (2, [.ref tO, .int s_44, .int p_45, .int b_46, .int f_47])), (tO, .inr (3, [.ref sA, .int tl])), (sA, .inl (cC, 1600, .inl fs)), (g0, .inr (1, [.ref gF, .ref gK, .ref gT, .ref gC, .ref gM, .int gc, .ref eF, .ref eC, .ref eM, .int ec, .ref hopA])), (eF, .inl (cI, 10, .inl feF)), (eC, .inl (cI, 10, .inl feC)), (eM, .inl (cI, 10, .inl feM))]) [4, 5, 6, 0, 1, 2, 3] rfl
          have hD9 := hD.sub (ws' := [(h0, .inr (2, [.ref tO, .int s_44, .int p_45, .int b_46, .int f_47])), (tO, .inr (3, [.ref sA, .int tl])), (sA, .inl (cC, 1600, .inl fs)), (g0, .inr (1, [.ref gF, .ref gK, .ref gT, .ref gC, .ref gM, .int gc, .ref eF, .ref eC, .ref eM, .int ec, .ref hopA])), (eF, .inl (cI, 10, .inl feF)), (eC, .inl (cI, 10, .inl feC)), (eM, .inl (cI, 10, .inl feM))]) [4, 5, 6, 0, 1, 2, 3] (by decide) rfl
          exact W.vret hx hb hr (fun t ht hW => ⟨⟨(s_44, p_45, b_46, f_47, ec, feF, feC, feM), rfl, trivial, by rw [ht]; exact hP9, hD9⟩, hS.F ht⟩) hS.2.2 dX2_readEnd_106
        · skip
          refine lv_aload_n hx hb dX2_readEnd_98 rfl (lv_at hl 4 rfl) ?_
          refine lv_iload_n hx hb dX2_readEnd_99 rfl (lv_at hl 2 rfl) ?_
          refine lv_iload_n hx hb dX2_readEnd_100 rfl (lv_at hl 1 rfl) ?_
          refine lv_iload hx hb dX2_readEnd_101 (lv_at hl 0 rfl) ?_
          have hPc := hP.sub (ws' := [(g0, .inr (1, [.ref gF, .ref gK, .ref gT, .ref gC, .ref gM, .int gc, .ref eF, .ref eC, .ref eM, .int ec, .ref hopA])), (eF, .inl (cI, 10, .inl feF)), (eC, .inl (cI, 10, .inl feC)), (eM, .inl (cI, 10, .inl feM))]) [0, 1, 2, 3] rfl
          have hDc := hD.sub (ws' := [(g0, .inr (1, [.ref gF, .ref gK, .ref gT, .ref gC, .ref gM, .int gc, .ref eF, .ref eC, .ref eM, .int ec, .ref hopA])), (eF, .inl (cI, 10, .inl feF)), (eC, .inl (cI, 10, .inl feC)), (eM, .inl (cI, 10, .inl feM))]) [0, 1, 2, 3] (by decide) rfl
          have hFc := va_free (wc := [(g0, .inr (1, [.ref gF, .ref gK, .ref gT, .ref gC, .ref gM, .int gc, .ref eF, .ref eC, .ref eM, .int ec, .ref hopA])), (eF, .inl (cI, 10, .inl feF)), (eC, .inl (cI, 10, .inl feC)), (eM, .inl (cI, 10, .inl feM))]) hD hS hA [0, 1, 2, 3] rfl
          refine va_callv (va_runV (As := [.int r_5, .int r_16, .int r_27]) (rest := []) ⟨hx, hb, hml, hown, hts⟩ (k_addEnd l dC dI cI cZ cC cJ H.size  g0 gF gK gT gC gM gc eF eC eM ec hopA feF feC feM r_5 r_16 r_27 ) (cwV 3 hts gX2_readEnd_X1_addEnd rfl rfl rfl (by decide +kernel) ⟨Nat.le_of_ble_eq_true rfl, Nat.le_of_ble_eq_true rfl⟩) ⟨sPre_blind, va_recv hK hPc (ci := 1) (q0 := 0) rfl rfl, fun U hU hW => ⟨rfl, sPre_ok hsk hPc hDc hU hW⟩⟩ rfl rfl hl.1 rfl (lv_room (Nat.le_of_ble_eq_true rfl)) dX2_readEnd_103 ⟨(show 0 + 0 ≤ 0 by omega), (show 0 + 0 ≤ 0 by omega)⟩) hS (fun q _ h => hFc q h) hFc (fun u t H1 locs ht hvm hw hB hz1 hk1 hS => ?_)
          obtain ⟨e_49, f_50, f_51, f_52⟩ := u
          try dsimp only at hw hB
          obtain ⟨hP1, hD1⟩ := hB
          rw [ht] at hP1
          obtain ⟨hP, hD⟩ := va_join (wr := [(h0, .inr (2, [.ref tO, .int s_44, .int p_45, .int b_46, .int f_47])), (tO, .inr (3, [.ref sA, .int tl])), (sA, .inl (cC, 1600, .inl fs))]) (w1 := [(g0, .inr (1, [.ref gF, .ref gK, .ref gT, .ref gC, .ref gM, .int gc, .ref eF, .ref eC, .ref eM, .int e_49, .ref hopA])), (eF, .inl (cI, 10, .inl f_50)), (eC, .inl (cI, 10, .inl f_51)), (eM, .inl (cI, 10, .inl f_52))]) hP hD [0, 1, 2, 3] [4, 5, 6] rfl rfl (by decide) (by decide) hk1 hFc hP1 hD1
          generalize H1 = H at hP hS ⊢
          have hP : va_P (dC, dI) vwCl [(h0, .inr (2, [.ref tO, .int s_44, .int p_45, .int b_46, .int f_47])), (tO, .inr (3, [.ref sA, .int tl])), (sA, .inl (cC, 1600, .inl fs)), (g0, .inr (1, [.ref gF, .ref gK, .ref gT, .ref gC, .ref gM, .int gc, .ref eF, .ref eC, .ref eM, .int e_49, .ref hopA])), (eF, .inl (cI, 10, .inl f_50)), (eC, .inl (cI, 10, .inl f_51)), (eM, .inl (cI, 10, .inl f_52))] H := hP
          have hD : va_D A [(h0, .inr (2, [.ref tO, .int s_44, .int p_45, .int b_46, .int f_47])), (tO, .inr (3, [.ref sA, .int tl])), (sA, .inl (cC, 1600, .inl fs)), (g0, .inr (1, [.ref gF, .ref gK, .ref gT, .ref gC, .ref gM, .int gc, .ref eF, .ref eC, .ref eM, .int e_49, .ref hopA])), (eF, .inl (cI, 10, .inl f_50)), (eC, .inl (cI, 10, .inl f_51)), (eM, .inl (cI, 10, .inl f_52))] := hD
          have hP9 := hP.sub (ws' := [(h0, .inr (2, [.ref tO, .int s_44, .int p_45, .int b_46, .int f_47])), (tO, .inr (3, [.ref sA, .int tl])), (sA, .inl (cC, 1600, .inl fs)), (g0, .inr (1, [.ref gF, .ref gK, .ref gT, .ref gC, .ref gM, .int gc, .ref eF, .ref eC, .ref eM, .int e_49, .ref hopA])), (eF, .inl (cI, 10, .inl f_50)), (eC, .inl (cI, 10, .inl f_51)), (eM, .inl (cI, 10, .inl f_52))]) [0, 1, 2, 3, 4, 5, 6] rfl
          have hD9 := hD.sub (ws' := [(h0, .inr (2, [.ref tO, .int s_44, .int p_45, .int b_46, .int f_47])), (tO, .inr (3, [.ref sA, .int tl])), (sA, .inl (cC, 1600, .inl fs)), (g0, .inr (1, [.ref gF, .ref gK, .ref gT, .ref gC, .ref gM, .int gc, .ref eF, .ref eC, .ref eM, .int e_49, .ref hopA])), (eF, .inl (cI, 10, .inl f_50)), (eC, .inl (cI, 10, .inl f_51)), (eM, .inl (cI, 10, .inl f_52))]) [0, 1, 2, 3, 4, 5, 6] (by decide) rfl
          exact W.vret hx hb hr (fun t ht hW => ⟨⟨(s_44, p_45, b_46, f_47, e_49, f_50, f_51, f_52), rfl, trivial, by rw [ht]; exact hP9, hD9⟩, hS.F ht⟩) hS.2.2 dX2_readEnd_106
    · skip
      refine lv_iconst (v := 1) hx hb dX2_readEnd_66 (by decide) ?_
      refine lv_goto (tgt := 71) hx hb dX2_readEnd_67 (by decide) ?_
      have hPc := hP.sub (ws' := [(h0, .inr (2, [.ref tO, .int s_23, .int p_24, .int b_25, .int f_26])), (tO, .inr (3, [.ref sA, .int tl])), (sA, .inl (cC, 1600, .inl fs))]) [4, 5, 6] rfl
      have hDc := hD.sub (ws' := [(h0, .inr (2, [.ref tO, .int s_23, .int p_24, .int b_25, .int f_26])), (tO, .inr (3, [.ref sA, .int tl])), (sA, .inl (cC, 1600, .inl fs))]) [4, 5, 6] (by decide) rfl
      have hFc := va_free (wc := [(h0, .inr (2, [.ref tO, .int s_23, .int p_24, .int b_25, .int f_26])), (tO, .inr (3, [.ref sA, .int tl])), (sA, .inl (cC, 1600, .inl fs))]) hD hS hA [4, 5, 6] rfl
      refine va_callv (va_runV (As := [.int 1]) (rest := []) ⟨hx, hb, hml, hown, hts⟩ (k_passIf l dC dI cI cZ cC cJ H.size  h0 tO s_23 p_24 b_25 f_26 sA tl fs 1 ) (cwV 1 hts gX2_readEnd_X2_passIf rfl rfl rfl (by decide +kernel) ⟨Nat.le_of_ble_eq_true rfl, Nat.le_of_ble_eq_true rfl⟩) ⟨sPre_blind, va_recv hK hPc (ci := 2) (q0 := 0) rfl rfl, fun U hU hW => ⟨rfl, sPre_ok hsk hPc hDc hU hW⟩⟩ rfl rfl hl.1 rfl (lv_room (Nat.le_of_ble_eq_true rfl)) dX2_readEnd_71 ⟨(show 0 + 0 ≤ 0 by omega), (show 0 + 0 ≤ 0 by omega)⟩) hS (fun q _ h => hFc q h) hFc (fun u t H1 locs ht hvm hw hB hz1 hk1 hS => ?_)
      obtain ⟨s_54, p_55, b_56, f_57⟩ := u
      try dsimp only at hw hB
      obtain ⟨hP1, hD1⟩ := hB
      rw [ht] at hP1
      obtain ⟨hP, hD⟩ := va_join (wr := [(g0, .inr (1, [.ref gF, .ref gK, .ref gT, .ref gC, .ref gM, .int gc, .ref eF, .ref eC, .ref eM, .int ec, .ref hopA])), (eF, .inl (cI, 10, .inl feF)), (eC, .inl (cI, 10, .inl feC)), (eM, .inl (cI, 10, .inl feM))]) (w1 := [(h0, .inr (2, [.ref tO, .int s_54, .int p_55, .int b_56, .int f_57])), (tO, .inr (3, [.ref sA, .int tl])), (sA, .inl (cC, 1600, .inl fs))]) hP hD [4, 5, 6] [0, 1, 2, 3] rfl rfl (by decide) (by decide) hk1 hFc hP1 hD1
      generalize H1 = H at hP hS ⊢
      have hP : va_P (dC, dI) vwCl [(g0, .inr (1, [.ref gF, .ref gK, .ref gT, .ref gC, .ref gM, .int gc, .ref eF, .ref eC, .ref eM, .int ec, .ref hopA])), (eF, .inl (cI, 10, .inl feF)), (eC, .inl (cI, 10, .inl feC)), (eM, .inl (cI, 10, .inl feM)), (h0, .inr (2, [.ref tO, .int s_54, .int p_55, .int b_56, .int f_57])), (tO, .inr (3, [.ref sA, .int tl])), (sA, .inl (cC, 1600, .inl fs))] H := hP
      have hD : va_D A [(g0, .inr (1, [.ref gF, .ref gK, .ref gT, .ref gC, .ref gM, .int gc, .ref eF, .ref eC, .ref eM, .int ec, .ref hopA])), (eF, .inl (cI, 10, .inl feF)), (eC, .inl (cI, 10, .inl feC)), (eM, .inl (cI, 10, .inl feM)), (h0, .inr (2, [.ref tO, .int s_54, .int p_55, .int b_56, .int f_57])), (tO, .inr (3, [.ref sA, .int tl])), (sA, .inl (cC, 1600, .inl fs))] := hD
      refine lv_aload_n hx hb dX2_readEnd_74 rfl (lv_at hl 3 rfl) ?_
      refine lv_aload_n hx hb dX2_readEnd_75 rfl (lv_at hl 3 rfl) ?_
      refine va_get (D := (dC, dI)) (ci := 2) (v := .int s_54) (C := RX2) (T := TX2) (N := 5) hx hb hts i2 hown hK hP 4 rfl rfl 1 (by decide) (hts (.fieldLink RX2 32 "StopSetter$Reader" "sort" "I") (by decide +kernel)) (fun _ h9 => h9) rfl dX2_readEnd_76 ?_
      refine lv_iconst (v := 4) hx hb dX2_readEnd_79 (by decide) ?_
      refine lv_icmp_ne (tgt := 87) hx hb dX2_readEnd_80 (by decide) (fun c_80 => ?_) (fun c_80 => ?_)
      · skip
        refine lv_iconst (v := 0) hx hb dX2_readEnd_87 (by decide) ?_
        have hPc := hP.sub (ws' := [(h0, .inr (2, [.ref tO, .int s_54, .int p_55, .int b_56, .int f_57])), (tO, .inr (3, [.ref sA, .int tl])), (sA, .inl (cC, 1600, .inl fs))]) [4, 5, 6] rfl
        have hDc := hD.sub (ws' := [(h0, .inr (2, [.ref tO, .int s_54, .int p_55, .int b_56, .int f_57])), (tO, .inr (3, [.ref sA, .int tl])), (sA, .inl (cC, 1600, .inl fs))]) [4, 5, 6] (by decide) rfl
        have hFc := va_free (wc := [(h0, .inr (2, [.ref tO, .int s_54, .int p_55, .int b_56, .int f_57])), (tO, .inr (3, [.ref sA, .int tl])), (sA, .inl (cC, 1600, .inl fs))]) hD hS hA [4, 5, 6] rfl
        refine va_callv (va_runV (As := [.int 0]) (rest := []) ⟨hx, hb, hml, hown, hts⟩ (k_passIf l dC dI cI cZ cC cJ H.size  h0 tO s_54 p_55 b_56 f_57 sA tl fs 0 ) (cwV 1 hts gX2_readEnd_X2_passIf rfl rfl rfl (by decide +kernel) ⟨Nat.le_of_ble_eq_true rfl, Nat.le_of_ble_eq_true rfl⟩) ⟨sPre_blind, va_recv hK hPc (ci := 2) (q0 := 0) rfl rfl, fun U hU hW => ⟨rfl, sPre_ok hsk hPc hDc hU hW⟩⟩ rfl rfl hl.1 rfl (lv_room (Nat.le_of_ble_eq_true rfl)) dX2_readEnd_88 ⟨(show 0 + 0 ≤ 0 by omega), (show 0 + 0 ≤ 0 by omega)⟩) hS (fun q _ h => hFc q h) hFc (fun u t H1 locs ht hvm hw hB hz1 hk1 hS => ?_)
        obtain ⟨s_59, p_60, b_61, f_62⟩ := u
        try dsimp only at hw hB
        obtain ⟨hP1, hD1⟩ := hB
        rw [ht] at hP1
        obtain ⟨hP, hD⟩ := va_join (wr := [(g0, .inr (1, [.ref gF, .ref gK, .ref gT, .ref gC, .ref gM, .int gc, .ref eF, .ref eC, .ref eM, .int ec, .ref hopA])), (eF, .inl (cI, 10, .inl feF)), (eC, .inl (cI, 10, .inl feC)), (eM, .inl (cI, 10, .inl feM))]) (w1 := [(h0, .inr (2, [.ref tO, .int s_59, .int p_60, .int b_61, .int f_62])), (tO, .inr (3, [.ref sA, .int tl])), (sA, .inl (cC, 1600, .inl fs))]) hP hD [4, 5, 6] [0, 1, 2, 3] rfl rfl (by decide) (by decide) hk1 hFc hP1 hD1
        generalize H1 = H at hP hS ⊢
        have hP : va_P (dC, dI) vwCl [(g0, .inr (1, [.ref gF, .ref gK, .ref gT, .ref gC, .ref gM, .int gc, .ref eF, .ref eC, .ref eM, .int ec, .ref hopA])), (eF, .inl (cI, 10, .inl feF)), (eC, .inl (cI, 10, .inl feC)), (eM, .inl (cI, 10, .inl feM)), (h0, .inr (2, [.ref tO, .int s_59, .int p_60, .int b_61, .int f_62])), (tO, .inr (3, [.ref sA, .int tl])), (sA, .inl (cC, 1600, .inl fs))] H := hP
        have hD : va_D A [(g0, .inr (1, [.ref gF, .ref gK, .ref gT, .ref gC, .ref gM, .int gc, .ref eF, .ref eC, .ref eM, .int ec, .ref hopA])), (eF, .inl (cI, 10, .inl feF)), (eC, .inl (cI, 10, .inl feC)), (eM, .inl (cI, 10, .inl feM)), (h0, .inr (2, [.ref tO, .int s_59, .int p_60, .int b_61, .int f_62])), (tO, .inr (3, [.ref sA, .int tl])), (sA, .inl (cC, 1600, .inl fs))] := hD
        refine lv_aload_n hx hb dX2_readEnd_91 rfl (lv_at hl 3 rfl) ?_
        refine va_get (D := (dC, dI)) (ci := 2) (v := .int f_62) (C := RX2) (T := TX2) (N := 5) hx hb hts i2 hown hK hP 4 rfl rfl 4 (by decide) (hts (.fieldLink RX2 20 "StopSetter$Reader" "fault" "I") (by decide +kernel)) (fun _ h9 => h9) rfl dX2_readEnd_92 ?_
        refine lv_if_ne (tgt := 106) hx hb dX2_readEnd_95 (by decide) (fun c_95 => ?_) (fun c_95 => ?_)
        · skip
          have hP9 := hP.sub (ws' := [(h0, .inr (2, [.ref tO, .int s_59, .int p_60, .int b_61, .int f_62])), (tO, .inr (3, [.ref sA, .int tl])), (sA, .inl (cC, 1600, .inl fs)), (g0, .inr (1, [.ref gF, .ref gK, .ref gT, .ref gC, .ref gM, .int gc, .ref eF, .ref eC, .ref eM, .int ec, .ref hopA])), (eF, .inl (cI, 10, .inl feF)), (eC, .inl (cI, 10, .inl feC)), (eM, .inl (cI, 10, .inl feM))]) [4, 5, 6, 0, 1, 2, 3] rfl
          have hD9 := hD.sub (ws' := [(h0, .inr (2, [.ref tO, .int s_59, .int p_60, .int b_61, .int f_62])), (tO, .inr (3, [.ref sA, .int tl])), (sA, .inl (cC, 1600, .inl fs)), (g0, .inr (1, [.ref gF, .ref gK, .ref gT, .ref gC, .ref gM, .int gc, .ref eF, .ref eC, .ref eM, .int ec, .ref hopA])), (eF, .inl (cI, 10, .inl feF)), (eC, .inl (cI, 10, .inl feC)), (eM, .inl (cI, 10, .inl feM))]) [4, 5, 6, 0, 1, 2, 3] (by decide) rfl
          exact W.vret hx hb hr (fun t ht hW => ⟨⟨(s_59, p_60, b_61, f_62, ec, feF, feC, feM), rfl, trivial, by rw [ht]; exact hP9, hD9⟩, hS.F ht⟩) hS.2.2 dX2_readEnd_106
        · skip
          refine lv_aload_n hx hb dX2_readEnd_98 rfl (lv_at hl 4 rfl) ?_
          refine lv_iload_n hx hb dX2_readEnd_99 rfl (lv_at hl 2 rfl) ?_
          refine lv_iload_n hx hb dX2_readEnd_100 rfl (lv_at hl 1 rfl) ?_
          refine lv_iload hx hb dX2_readEnd_101 (lv_at hl 0 rfl) ?_
          have hPc := hP.sub (ws' := [(g0, .inr (1, [.ref gF, .ref gK, .ref gT, .ref gC, .ref gM, .int gc, .ref eF, .ref eC, .ref eM, .int ec, .ref hopA])), (eF, .inl (cI, 10, .inl feF)), (eC, .inl (cI, 10, .inl feC)), (eM, .inl (cI, 10, .inl feM))]) [0, 1, 2, 3] rfl
          have hDc := hD.sub (ws' := [(g0, .inr (1, [.ref gF, .ref gK, .ref gT, .ref gC, .ref gM, .int gc, .ref eF, .ref eC, .ref eM, .int ec, .ref hopA])), (eF, .inl (cI, 10, .inl feF)), (eC, .inl (cI, 10, .inl feC)), (eM, .inl (cI, 10, .inl feM))]) [0, 1, 2, 3] (by decide) rfl
          have hFc := va_free (wc := [(g0, .inr (1, [.ref gF, .ref gK, .ref gT, .ref gC, .ref gM, .int gc, .ref eF, .ref eC, .ref eM, .int ec, .ref hopA])), (eF, .inl (cI, 10, .inl feF)), (eC, .inl (cI, 10, .inl feC)), (eM, .inl (cI, 10, .inl feM))]) hD hS hA [0, 1, 2, 3] rfl
          refine va_callv (va_runV (As := [.int r_5, .int r_16, .int r_27]) (rest := []) ⟨hx, hb, hml, hown, hts⟩ (k_addEnd l dC dI cI cZ cC cJ H.size  g0 gF gK gT gC gM gc eF eC eM ec hopA feF feC feM r_5 r_16 r_27 ) (cwV 3 hts gX2_readEnd_X1_addEnd rfl rfl rfl (by decide +kernel) ⟨Nat.le_of_ble_eq_true rfl, Nat.le_of_ble_eq_true rfl⟩) ⟨sPre_blind, va_recv hK hPc (ci := 1) (q0 := 0) rfl rfl, fun U hU hW => ⟨rfl, sPre_ok hsk hPc hDc hU hW⟩⟩ rfl rfl hl.1 rfl (lv_room (Nat.le_of_ble_eq_true rfl)) dX2_readEnd_103 ⟨(show 0 + 0 ≤ 0 by omega), (show 0 + 0 ≤ 0 by omega)⟩) hS (fun q _ h => hFc q h) hFc (fun u t H1 locs ht hvm hw hB hz1 hk1 hS => ?_)
          obtain ⟨e_64, f_65, f_66, f_67⟩ := u
          try dsimp only at hw hB
          obtain ⟨hP1, hD1⟩ := hB
          rw [ht] at hP1
          obtain ⟨hP, hD⟩ := va_join (wr := [(h0, .inr (2, [.ref tO, .int s_59, .int p_60, .int b_61, .int f_62])), (tO, .inr (3, [.ref sA, .int tl])), (sA, .inl (cC, 1600, .inl fs))]) (w1 := [(g0, .inr (1, [.ref gF, .ref gK, .ref gT, .ref gC, .ref gM, .int gc, .ref eF, .ref eC, .ref eM, .int e_64, .ref hopA])), (eF, .inl (cI, 10, .inl f_65)), (eC, .inl (cI, 10, .inl f_66)), (eM, .inl (cI, 10, .inl f_67))]) hP hD [0, 1, 2, 3] [4, 5, 6] rfl rfl (by decide) (by decide) hk1 hFc hP1 hD1
          generalize H1 = H at hP hS ⊢
          have hP : va_P (dC, dI) vwCl [(h0, .inr (2, [.ref tO, .int s_59, .int p_60, .int b_61, .int f_62])), (tO, .inr (3, [.ref sA, .int tl])), (sA, .inl (cC, 1600, .inl fs)), (g0, .inr (1, [.ref gF, .ref gK, .ref gT, .ref gC, .ref gM, .int gc, .ref eF, .ref eC, .ref eM, .int e_64, .ref hopA])), (eF, .inl (cI, 10, .inl f_65)), (eC, .inl (cI, 10, .inl f_66)), (eM, .inl (cI, 10, .inl f_67))] H := hP
          have hD : va_D A [(h0, .inr (2, [.ref tO, .int s_59, .int p_60, .int b_61, .int f_62])), (tO, .inr (3, [.ref sA, .int tl])), (sA, .inl (cC, 1600, .inl fs)), (g0, .inr (1, [.ref gF, .ref gK, .ref gT, .ref gC, .ref gM, .int gc, .ref eF, .ref eC, .ref eM, .int e_64, .ref hopA])), (eF, .inl (cI, 10, .inl f_65)), (eC, .inl (cI, 10, .inl f_66)), (eM, .inl (cI, 10, .inl f_67))] := hD
          have hP9 := hP.sub (ws' := [(h0, .inr (2, [.ref tO, .int s_59, .int p_60, .int b_61, .int f_62])), (tO, .inr (3, [.ref sA, .int tl])), (sA, .inl (cC, 1600, .inl fs)), (g0, .inr (1, [.ref gF, .ref gK, .ref gT, .ref gC, .ref gM, .int gc, .ref eF, .ref eC, .ref eM, .int e_64, .ref hopA])), (eF, .inl (cI, 10, .inl f_65)), (eC, .inl (cI, 10, .inl f_66)), (eM, .inl (cI, 10, .inl f_67))]) [0, 1, 2, 3, 4, 5, 6] rfl
          have hD9 := hD.sub (ws' := [(h0, .inr (2, [.ref tO, .int s_59, .int p_60, .int b_61, .int f_62])), (tO, .inr (3, [.ref sA, .int tl])), (sA, .inl (cC, 1600, .inl fs)), (g0, .inr (1, [.ref gF, .ref gK, .ref gT, .ref gC, .ref gM, .int gc, .ref eF, .ref eC, .ref eM, .int e_64, .ref hopA])), (eF, .inl (cI, 10, .inl f_65)), (eC, .inl (cI, 10, .inl f_66)), (eM, .inl (cI, 10, .inl f_67))]) [0, 1, 2, 3, 4, 5, 6] (by decide) rfl
          exact W.vret hx hb hr (fun t ht hW => ⟨⟨(s_59, p_60, b_61, f_62, e_64, f_65, f_66, f_67), rfl, trivial, by rw [ht]; exact hP9, hD9⟩, hS.F ht⟩) hS.2.2 dX2_readEnd_106
      · skip
        refine lv_iconst (v := 1) hx hb dX2_readEnd_83 (by decide) ?_
        refine lv_goto (tgt := 88) hx hb dX2_readEnd_84 (by decide) ?_
        have hPc := hP.sub (ws' := [(h0, .inr (2, [.ref tO, .int s_54, .int p_55, .int b_56, .int f_57])), (tO, .inr (3, [.ref sA, .int tl])), (sA, .inl (cC, 1600, .inl fs))]) [4, 5, 6] rfl
        have hDc := hD.sub (ws' := [(h0, .inr (2, [.ref tO, .int s_54, .int p_55, .int b_56, .int f_57])), (tO, .inr (3, [.ref sA, .int tl])), (sA, .inl (cC, 1600, .inl fs))]) [4, 5, 6] (by decide) rfl
        have hFc := va_free (wc := [(h0, .inr (2, [.ref tO, .int s_54, .int p_55, .int b_56, .int f_57])), (tO, .inr (3, [.ref sA, .int tl])), (sA, .inl (cC, 1600, .inl fs))]) hD hS hA [4, 5, 6] rfl
        refine va_callv (va_runV (As := [.int 1]) (rest := []) ⟨hx, hb, hml, hown, hts⟩ (k_passIf l dC dI cI cZ cC cJ H.size  h0 tO s_54 p_55 b_56 f_57 sA tl fs 1 ) (cwV 1 hts gX2_readEnd_X2_passIf rfl rfl rfl (by decide +kernel) ⟨Nat.le_of_ble_eq_true rfl, Nat.le_of_ble_eq_true rfl⟩) ⟨sPre_blind, va_recv hK hPc (ci := 2) (q0 := 0) rfl rfl, fun U hU hW => ⟨rfl, sPre_ok hsk hPc hDc hU hW⟩⟩ rfl rfl hl.1 rfl (lv_room (Nat.le_of_ble_eq_true rfl)) dX2_readEnd_88 ⟨(show 0 + 0 ≤ 0 by omega), (show 0 + 0 ≤ 0 by omega)⟩) hS (fun q _ h => hFc q h) hFc (fun u t H1 locs ht hvm hw hB hz1 hk1 hS => ?_)
        obtain ⟨s_69, p_70, b_71, f_72⟩ := u
        try dsimp only at hw hB
        obtain ⟨hP1, hD1⟩ := hB
        rw [ht] at hP1
        obtain ⟨hP, hD⟩ := va_join (wr := [(g0, .inr (1, [.ref gF, .ref gK, .ref gT, .ref gC, .ref gM, .int gc, .ref eF, .ref eC, .ref eM, .int ec, .ref hopA])), (eF, .inl (cI, 10, .inl feF)), (eC, .inl (cI, 10, .inl feC)), (eM, .inl (cI, 10, .inl feM))]) (w1 := [(h0, .inr (2, [.ref tO, .int s_69, .int p_70, .int b_71, .int f_72])), (tO, .inr (3, [.ref sA, .int tl])), (sA, .inl (cC, 1600, .inl fs))]) hP hD [4, 5, 6] [0, 1, 2, 3] rfl rfl (by decide) (by decide) hk1 hFc hP1 hD1
        generalize H1 = H at hP hS ⊢
        have hP : va_P (dC, dI) vwCl [(g0, .inr (1, [.ref gF, .ref gK, .ref gT, .ref gC, .ref gM, .int gc, .ref eF, .ref eC, .ref eM, .int ec, .ref hopA])), (eF, .inl (cI, 10, .inl feF)), (eC, .inl (cI, 10, .inl feC)), (eM, .inl (cI, 10, .inl feM)), (h0, .inr (2, [.ref tO, .int s_69, .int p_70, .int b_71, .int f_72])), (tO, .inr (3, [.ref sA, .int tl])), (sA, .inl (cC, 1600, .inl fs))] H := hP
        have hD : va_D A [(g0, .inr (1, [.ref gF, .ref gK, .ref gT, .ref gC, .ref gM, .int gc, .ref eF, .ref eC, .ref eM, .int ec, .ref hopA])), (eF, .inl (cI, 10, .inl feF)), (eC, .inl (cI, 10, .inl feC)), (eM, .inl (cI, 10, .inl feM)), (h0, .inr (2, [.ref tO, .int s_69, .int p_70, .int b_71, .int f_72])), (tO, .inr (3, [.ref sA, .int tl])), (sA, .inl (cC, 1600, .inl fs))] := hD
        refine lv_aload_n hx hb dX2_readEnd_91 rfl (lv_at hl 3 rfl) ?_
        refine va_get (D := (dC, dI)) (ci := 2) (v := .int f_72) (C := RX2) (T := TX2) (N := 5) hx hb hts i2 hown hK hP 4 rfl rfl 4 (by decide) (hts (.fieldLink RX2 20 "StopSetter$Reader" "fault" "I") (by decide +kernel)) (fun _ h9 => h9) rfl dX2_readEnd_92 ?_
        refine lv_if_ne (tgt := 106) hx hb dX2_readEnd_95 (by decide) (fun c_95 => ?_) (fun c_95 => ?_)
        · skip
          have hP9 := hP.sub (ws' := [(h0, .inr (2, [.ref tO, .int s_69, .int p_70, .int b_71, .int f_72])), (tO, .inr (3, [.ref sA, .int tl])), (sA, .inl (cC, 1600, .inl fs)), (g0, .inr (1, [.ref gF, .ref gK, .ref gT, .ref gC, .ref gM, .int gc, .ref eF, .ref eC, .ref eM, .int ec, .ref hopA])), (eF, .inl (cI, 10, .inl feF)), (eC, .inl (cI, 10, .inl feC)), (eM, .inl (cI, 10, .inl feM))]) [4, 5, 6, 0, 1, 2, 3] rfl
          have hD9 := hD.sub (ws' := [(h0, .inr (2, [.ref tO, .int s_69, .int p_70, .int b_71, .int f_72])), (tO, .inr (3, [.ref sA, .int tl])), (sA, .inl (cC, 1600, .inl fs)), (g0, .inr (1, [.ref gF, .ref gK, .ref gT, .ref gC, .ref gM, .int gc, .ref eF, .ref eC, .ref eM, .int ec, .ref hopA])), (eF, .inl (cI, 10, .inl feF)), (eC, .inl (cI, 10, .inl feC)), (eM, .inl (cI, 10, .inl feM))]) [4, 5, 6, 0, 1, 2, 3] (by decide) rfl
          exact W.vret hx hb hr (fun t ht hW => ⟨⟨(s_69, p_70, b_71, f_72, ec, feF, feC, feM), rfl, trivial, by rw [ht]; exact hP9, hD9⟩, hS.F ht⟩) hS.2.2 dX2_readEnd_106
        · skip
          refine lv_aload_n hx hb dX2_readEnd_98 rfl (lv_at hl 4 rfl) ?_
          refine lv_iload_n hx hb dX2_readEnd_99 rfl (lv_at hl 2 rfl) ?_
          refine lv_iload_n hx hb dX2_readEnd_100 rfl (lv_at hl 1 rfl) ?_
          refine lv_iload hx hb dX2_readEnd_101 (lv_at hl 0 rfl) ?_
          have hPc := hP.sub (ws' := [(g0, .inr (1, [.ref gF, .ref gK, .ref gT, .ref gC, .ref gM, .int gc, .ref eF, .ref eC, .ref eM, .int ec, .ref hopA])), (eF, .inl (cI, 10, .inl feF)), (eC, .inl (cI, 10, .inl feC)), (eM, .inl (cI, 10, .inl feM))]) [0, 1, 2, 3] rfl
          have hDc := hD.sub (ws' := [(g0, .inr (1, [.ref gF, .ref gK, .ref gT, .ref gC, .ref gM, .int gc, .ref eF, .ref eC, .ref eM, .int ec, .ref hopA])), (eF, .inl (cI, 10, .inl feF)), (eC, .inl (cI, 10, .inl feC)), (eM, .inl (cI, 10, .inl feM))]) [0, 1, 2, 3] (by decide) rfl
          have hFc := va_free (wc := [(g0, .inr (1, [.ref gF, .ref gK, .ref gT, .ref gC, .ref gM, .int gc, .ref eF, .ref eC, .ref eM, .int ec, .ref hopA])), (eF, .inl (cI, 10, .inl feF)), (eC, .inl (cI, 10, .inl feC)), (eM, .inl (cI, 10, .inl feM))]) hD hS hA [0, 1, 2, 3] rfl
          refine va_callv (va_runV (As := [.int r_5, .int r_16, .int r_27]) (rest := []) ⟨hx, hb, hml, hown, hts⟩ (k_addEnd l dC dI cI cZ cC cJ H.size  g0 gF gK gT gC gM gc eF eC eM ec hopA feF feC feM r_5 r_16 r_27 ) (cwV 3 hts gX2_readEnd_X1_addEnd rfl rfl rfl (by decide +kernel) ⟨Nat.le_of_ble_eq_true rfl, Nat.le_of_ble_eq_true rfl⟩) ⟨sPre_blind, va_recv hK hPc (ci := 1) (q0 := 0) rfl rfl, fun U hU hW => ⟨rfl, sPre_ok hsk hPc hDc hU hW⟩⟩ rfl rfl hl.1 rfl (lv_room (Nat.le_of_ble_eq_true rfl)) dX2_readEnd_103 ⟨(show 0 + 0 ≤ 0 by omega), (show 0 + 0 ≤ 0 by omega)⟩) hS (fun q _ h => hFc q h) hFc (fun u t H1 locs ht hvm hw hB hz1 hk1 hS => ?_)
          obtain ⟨e_74, f_75, f_76, f_77⟩ := u
          try dsimp only at hw hB
          obtain ⟨hP1, hD1⟩ := hB
          rw [ht] at hP1
          obtain ⟨hP, hD⟩ := va_join (wr := [(h0, .inr (2, [.ref tO, .int s_69, .int p_70, .int b_71, .int f_72])), (tO, .inr (3, [.ref sA, .int tl])), (sA, .inl (cC, 1600, .inl fs))]) (w1 := [(g0, .inr (1, [.ref gF, .ref gK, .ref gT, .ref gC, .ref gM, .int gc, .ref eF, .ref eC, .ref eM, .int e_74, .ref hopA])), (eF, .inl (cI, 10, .inl f_75)), (eC, .inl (cI, 10, .inl f_76)), (eM, .inl (cI, 10, .inl f_77))]) hP hD [0, 1, 2, 3] [4, 5, 6] rfl rfl (by decide) (by decide) hk1 hFc hP1 hD1
          generalize H1 = H at hP hS ⊢
          have hP : va_P (dC, dI) vwCl [(h0, .inr (2, [.ref tO, .int s_69, .int p_70, .int b_71, .int f_72])), (tO, .inr (3, [.ref sA, .int tl])), (sA, .inl (cC, 1600, .inl fs)), (g0, .inr (1, [.ref gF, .ref gK, .ref gT, .ref gC, .ref gM, .int gc, .ref eF, .ref eC, .ref eM, .int e_74, .ref hopA])), (eF, .inl (cI, 10, .inl f_75)), (eC, .inl (cI, 10, .inl f_76)), (eM, .inl (cI, 10, .inl f_77))] H := hP
          have hD : va_D A [(h0, .inr (2, [.ref tO, .int s_69, .int p_70, .int b_71, .int f_72])), (tO, .inr (3, [.ref sA, .int tl])), (sA, .inl (cC, 1600, .inl fs)), (g0, .inr (1, [.ref gF, .ref gK, .ref gT, .ref gC, .ref gM, .int gc, .ref eF, .ref eC, .ref eM, .int e_74, .ref hopA])), (eF, .inl (cI, 10, .inl f_75)), (eC, .inl (cI, 10, .inl f_76)), (eM, .inl (cI, 10, .inl f_77))] := hD
          have hP9 := hP.sub (ws' := [(h0, .inr (2, [.ref tO, .int s_69, .int p_70, .int b_71, .int f_72])), (tO, .inr (3, [.ref sA, .int tl])), (sA, .inl (cC, 1600, .inl fs)), (g0, .inr (1, [.ref gF, .ref gK, .ref gT, .ref gC, .ref gM, .int gc, .ref eF, .ref eC, .ref eM, .int e_74, .ref hopA])), (eF, .inl (cI, 10, .inl f_75)), (eC, .inl (cI, 10, .inl f_76)), (eM, .inl (cI, 10, .inl f_77))]) [0, 1, 2, 3, 4, 5, 6] rfl
          have hD9 := hD.sub (ws' := [(h0, .inr (2, [.ref tO, .int s_69, .int p_70, .int b_71, .int f_72])), (tO, .inr (3, [.ref sA, .int tl])), (sA, .inl (cC, 1600, .inl fs)), (g0, .inr (1, [.ref gF, .ref gK, .ref gT, .ref gC, .ref gM, .int gc, .ref eF, .ref eC, .ref eM, .int e_74, .ref hopA])), (eF, .inl (cI, 10, .inl f_75)), (eC, .inl (cI, 10, .inl f_76)), (eM, .inl (cI, 10, .inl f_77))]) [0, 1, 2, 3, 4, 5, 6] (by decide) rfl
          exact W.vret hx hb hr (fun t ht hW => ⟨⟨(s_69, p_70, b_71, f_72, e_74, f_75, f_76, f_77), rfl, trivial, by rw [ht]; exact hP9, hD9⟩, hS.F ht⟩) hS.2.2 dX2_readEnd_106
  · skip
    refine lv_aload_n hx hb dX2_readEnd_9 rfl (lv_at hl 0 rfl) ?_
    refine lv_iconst (v := 5) hx hb dX2_readEnd_10 (by decide) ?_
    have hPc := hP.sub (ws' := [(h0, .inr (2, [.ref tO, .int so, .int pl, .int bh, .int fa_]))]) [0] rfl
    have hDc := hD.sub (ws' := [(h0, .inr (2, [.ref tO, .int so, .int pl, .int bh, .int fa_]))]) [0] (by decide) rfl
    have hFc := va_free (wc := [(h0, .inr (2, [.ref tO, .int so, .int pl, .int bh, .int fa_]))]) hD hS hA [0] rfl
    refine va_callv (va_runV (As := [.int 5]) (rest := []) ⟨hx, hb, hml, hown, hts⟩ (k_refuse l dC dI cI cZ cC cJ s.heap.size  h0 tO so pl bh fa_ 5 ) (cwV 1 hts gX2_readEnd_X2_refuse rfl rfl rfl (by decide +kernel) ⟨Nat.le_of_ble_eq_true rfl, Nat.le_of_ble_eq_true rfl⟩) ⟨sPre_blind, va_recv hK hPc (ci := 2) (q0 := 0) rfl rfl, fun U hU hW => ⟨rfl, sPre_ok hsk hPc hDc hU hW⟩⟩ rfl rfl hl.1 rfl (lv_room (Nat.le_of_ble_eq_true rfl)) dX2_readEnd_11 ⟨(show 0 + 0 ≤ 0 by omega), (show 0 + 0 ≤ 0 by omega)⟩) hS (fun q _ h => hFc q h) hFc (fun u t H1 locs ht hvm hw hB hz1 hk1 hS => ?_)
    obtain ⟨f_79, rfl⟩ : ∃ z, z = u := ⟨_, rfl⟩
    try dsimp only at hw hB
    obtain ⟨hP1, hD1⟩ := hB
    rw [ht] at hP1
    obtain ⟨hP, hD⟩ := va_join (wr := [(tO, .inr (3, [.ref sA, .int tl])), (sA, .inl (cC, 1600, .inl fs)), (g0, .inr (1, [.ref gF, .ref gK, .ref gT, .ref gC, .ref gM, .int gc, .ref eF, .ref eC, .ref eM, .int ec, .ref hopA])), (eF, .inl (cI, 10, .inl feF)), (eC, .inl (cI, 10, .inl feC)), (eM, .inl (cI, 10, .inl feM))]) (w1 := [(h0, .inr (2, [.ref tO, .int so, .int pl, .int bh, .int f_79]))]) hP hD [0] [1, 2, 3, 4, 5, 6] rfl rfl (by decide) (by decide) hk1 hFc hP1 hD1
    generalize H1 = H at hP hS ⊢
    have hP : va_P (dC, dI) vwCl [(tO, .inr (3, [.ref sA, .int tl])), (sA, .inl (cC, 1600, .inl fs)), (g0, .inr (1, [.ref gF, .ref gK, .ref gT, .ref gC, .ref gM, .int gc, .ref eF, .ref eC, .ref eM, .int ec, .ref hopA])), (eF, .inl (cI, 10, .inl feF)), (eC, .inl (cI, 10, .inl feC)), (eM, .inl (cI, 10, .inl feM)), (h0, .inr (2, [.ref tO, .int so, .int pl, .int bh, .int f_79]))] H := hP
    have hD : va_D A [(tO, .inr (3, [.ref sA, .int tl])), (sA, .inl (cC, 1600, .inl fs)), (g0, .inr (1, [.ref gF, .ref gK, .ref gT, .ref gC, .ref gM, .int gc, .ref eF, .ref eC, .ref eM, .int ec, .ref hopA])), (eF, .inl (cI, 10, .inl feF)), (eC, .inl (cI, 10, .inl feC)), (eM, .inl (cI, 10, .inl feM)), (h0, .inr (2, [.ref tO, .int so, .int pl, .int bh, .int f_79]))] := hD
    have hP9 := hP.sub (ws' := [(h0, .inr (2, [.ref tO, .int so, .int pl, .int bh, .int f_79])), (tO, .inr (3, [.ref sA, .int tl])), (sA, .inl (cC, 1600, .inl fs)), (g0, .inr (1, [.ref gF, .ref gK, .ref gT, .ref gC, .ref gM, .int gc, .ref eF, .ref eC, .ref eM, .int ec, .ref hopA])), (eF, .inl (cI, 10, .inl feF)), (eC, .inl (cI, 10, .inl feC)), (eM, .inl (cI, 10, .inl feM))]) [6, 0, 1, 2, 3, 4, 5] rfl
    have hD9 := hD.sub (ws' := [(h0, .inr (2, [.ref tO, .int so, .int pl, .int bh, .int f_79])), (tO, .inr (3, [.ref sA, .int tl])), (sA, .inl (cC, 1600, .inl fs)), (g0, .inr (1, [.ref gF, .ref gK, .ref gT, .ref gC, .ref gM, .int gc, .ref eF, .ref eC, .ref eM, .int ec, .ref hopA])), (eF, .inl (cI, 10, .inl feF)), (eC, .inl (cI, 10, .inl feC)), (eM, .inl (cI, 10, .inl feM))]) [6, 0, 1, 2, 3, 4, 5] (by decide) rfl
    exact W.vret hx hb hr (fun t ht hW => ⟨⟨(so, pl, bh, f_79, ec, feF, feC, feM), rfl, trivial, by rw [ht]; exact hP9, hD9⟩, hS.F ht⟩) hS.2.2 dX2_readEnd_14
set_option maxHeartbeats 4000000 in
set_option maxRecDepth 100000 in
theorem k_read (l : Launch) (dC : Nat → ClassId) (dI : Nat → Nat → Nat) (cI cZ cC cJ : ClassId) (sz : Nat) (adK adV : Nat → Nat) (h0 : Nat) (tO : Nat) (so : Int32) (pl : Int32) (bh : Int32) (fa_ : Int32) (sA : Nat) (tl : Int32) (fs : Nat → Int32) (g0 : Nat) (gF : Nat) (gK : Nat) (gT : Nat) (gC : Nat) (gM : Nat) (gc : Int32) (eF : Nat) (eC : Nat) (eM : Nat) (ec : Int32) (hopA : Nat) (fgF : Nat → Int32) (fgK : Nat → Int32) (fgT : Nat → Int32) (fgC : Nat → Int32) (fgM : Nat → Int32) (feF : Nat → Int32) (feC : Nat → Int32) (feM : Nat → Int32)  : Met l yX2_read wsX2_read ({ frames := 7, cells := 0, slots := 0, locals := 153 }) (va_Pc [.ref h0, .ref g0] (fun U => sPre dC dI cI cZ cC cJ [(h0, .inr (2, [.ref tO, .int so, .int pl, .int bh, .int fa_])), (tO, .inr (3, [.ref sA, .int tl])), (sA, .inl (cC, 1600, .inl fs)), (g0, .inr (1, [.ref gF, .ref gK, .ref gT, .ref gC, .ref gM, .int gc, .ref eF, .ref eC, .ref eM, .int ec, .ref hopA])), (gF, .inl (cI, 40, .inl fgF)), (gK, .inl (cI, 40, .inl fgK)), (gT, .inl (cI, 40, .inl fgT)), (gC, .inl (cI, 40, .inl fgC)), (gM, .inl (cI, 40, .inl fgM)), (eF, .inl (cI, 10, .inl feF)), (eC, .inl (cI, 10, .inl feC)), (eM, .inl (cI, 10, .inl feM))] sz U ∧ tW adK adV (va_A [(h0, .inr (2, [.ref tO, .int so, .int pl, .int bh, .int fa_])), (tO, .inr (3, [.ref sA, .int tl])), (sA, .inl (cC, 1600, .inl fs)), (g0, .inr (1, [.ref gF, .ref gK, .ref gT, .ref gC, .ref gM, .int gc, .ref eF, .ref eC, .ref eM, .int ec, .ref hopA])), (gF, .inl (cI, 40, .inl fgF)), (gK, .inl (cI, 40, .inl fgK)), (gT, .inl (cI, 40, .inl fgT)), (gC, .inl (cI, 40, .inl fgC)), (gM, .inl (cI, 40, .inl fgM)), (eF, .inl (cI, 10, .inl feF)), (eC, .inl (cI, 10, .inl feC)), (eM, .inl (cI, 10, .inl feM))] sz) U)) (va_Qi (fun (r : Int32) (u : (Int32) × (Int32) × (Int32) × (Int32) × (Int32) × (Nat → Int32) × (Nat → Int32) × (Nat → Int32) × (Nat → Int32) × (Nat → Int32) × (Int32) × (Nat → Int32) × (Nat → Int32) × (Nat → Int32)) => match u with | (so2, pl2, bh2, fa_2, gc2, fgF2, fgK2, fgT2, fgC2, fgM2, ec2, feF2, feC2, feM2) => True) (fun (u : (Int32) × (Int32) × (Int32) × (Int32) × (Int32) × (Nat → Int32) × (Nat → Int32) × (Nat → Int32) × (Nat → Int32) × (Nat → Int32) × (Int32) × (Nat → Int32) × (Nat → Int32) × (Nat → Int32)) t => match u with | (so2, pl2, bh2, fa_2, gc2, fgF2, fgK2, fgT2, fgC2, fgM2, ec2, feF2, feC2, feM2) => sB dC dI (va_A [(h0, .inr (2, [.ref tO, .int so, .int pl, .int bh, .int fa_])), (tO, .inr (3, [.ref sA, .int tl])), (sA, .inl (cC, 1600, .inl fs)), (g0, .inr (1, [.ref gF, .ref gK, .ref gT, .ref gC, .ref gM, .int gc, .ref eF, .ref eC, .ref eM, .int ec, .ref hopA])), (gF, .inl (cI, 40, .inl fgF)), (gK, .inl (cI, 40, .inl fgK)), (gT, .inl (cI, 40, .inl fgT)), (gC, .inl (cI, 40, .inl fgC)), (gM, .inl (cI, 40, .inl fgM)), (eF, .inl (cI, 10, .inl feF)), (eC, .inl (cI, 10, .inl feC)), (eM, .inl (cI, 10, .inl feM))] sz) [(h0, .inr (2, [.ref tO, .int so2, .int pl2, .int bh2, .int fa_2])), (tO, .inr (3, [.ref sA, .int tl])), (sA, .inl (cC, 1600, .inl fs)), (g0, .inr (1, [.ref gF, .ref gK, .ref gT, .ref gC, .ref gM, .int gc2, .ref eF, .ref eC, .ref eM, .int ec2, .ref hopA])), (gF, .inl (cI, 40, .inl fgF2)), (gK, .inl (cI, 40, .inl fgK2)), (gT, .inl (cI, 40, .inl fgT2)), (gC, .inl (cI, 40, .inl fgC2)), (gM, .inl (cI, 40, .inl fgM2)), (eF, .inl (cI, 10, .inl feF2)), (eC, .inl (cI, 10, .inl feC2)), (eM, .inl (cI, 10, .inl feM2))] t) (va_A [(h0, .inr (2, [.ref tO, .int so, .int pl, .int bh, .int fa_])), (tO, .inr (3, [.ref sA, .int tl])), (sA, .inl (cC, 1600, .inl fs)), (g0, .inr (1, [.ref gF, .ref gK, .ref gT, .ref gC, .ref gM, .int gc, .ref eF, .ref eC, .ref eM, .int ec, .ref hopA])), (gF, .inl (cI, 40, .inl fgF)), (gK, .inl (cI, 40, .inl fgK)), (gT, .inl (cI, 40, .inl fgT)), (gC, .inl (cI, 40, .inl fgC)), (gM, .inl (cI, 40, .inl fgM)), (eF, .inl (cI, 10, .inl feF)), (eC, .inl (cI, 10, .inl feC)), (eM, .inl (cI, 10, .inl feM))] sz)) 0 0 (va_A [(h0, .inr (2, [.ref tO, .int so, .int pl, .int bh, .int fa_])), (tO, .inr (3, [.ref sA, .int tl])), (sA, .inl (cC, 1600, .inl fs)), (g0, .inr (1, [.ref gF, .ref gK, .ref gT, .ref gC, .ref gM, .int gc, .ref eF, .ref eC, .ref eM, .int ec, .ref hopA])), (gF, .inl (cI, 40, .inl fgF)), (gK, .inl (cI, 40, .inl fgK)), (gT, .inl (cI, 40, .inl fgT)), (gC, .inl (cI, 40, .inl fgC)), (gM, .inl (cI, 40, .inl fgM)), (eF, .inl (cI, 10, .inl feF)), (eC, .inl (cI, 10, .inl feC)), (eM, .inl (cI, 10, .inl feM))] sz) := by
  refine Met.ofW (cc := cX2_read) (maxL := 3) (ret := (some .int)) (by decide) rfl ?_
  intro p e s m args below meth c s₁ B hml hv
  obtain ⟨rfl, ⟨hsz, hP, hsk, hD0⟩, htw⟩ := hv
  have hx := B.exec
  have hb := B.bytes
  have hr := B.returns
  have hts := atoms_spec (ws := wsX2_read) B.pre
  have hown : s.vm.findClass RX2 = some m.cls := findClass_of_methodNamed B.named
  have hlocks := B.notSynchronized
  have hK := hsk.1
  have i2 : ∀ w ∈ wsX20, w ∈ wsX2_read := by decide +kernel
  subst hsz
  have hD := hD0.self (sz := s.heap.size)
  generalize hAe : va_A [(h0, .inr (2, [.ref tO, .int so, .int pl, .int bh, .int fa_])), (tO, .inr (3, [.ref sA, .int tl])), (sA, .inl (cC, 1600, .inl fs)), (g0, .inr (1, [.ref gF, .ref gK, .ref gT, .ref gC, .ref gM, .int gc, .ref eF, .ref eC, .ref eM, .int ec, .ref hopA])), (gF, .inl (cI, 40, .inl fgF)), (gK, .inl (cI, 40, .inl fgK)), (gT, .inl (cI, 40, .inl fgT)), (gC, .inl (cI, 40, .inl fgC)), (gM, .inl (cI, 40, .inl fgM)), (eF, .inl (cI, 10, .inl feF)), (eC, .inl (cI, 10, .inl feC)), (eM, .inl (cI, 10, .inl feM))] s.heap.size = A at hD htw ⊢
  have hA : ∀ q : Nat, s.heap.size ≤ q → A q := fun q h => by rw [← hAe]; exact Or.inr h
  have hS : va_S A s.heap s.heap [] := va_S.rf
  have hl := lv_entry ([.ref h0, .ref g0]) (n := 3) (Nat.le_of_ble_eq_true rfl)
  rw [lg_entry_eq]
  generalize (lg_sl ([.ref h0, .ref g0]) ++ List.replicate (3 - (lg_sl ([.ref h0, .ref g0])).length) Slot.unset).toArray = ls at hl ⊢
  have hl : lv_has ls 3 [(0, .ref h0), (1, .ref g0)] := hl
  refine lv_aload_n hx hb dX2_read_0 rfl (lv_at hl 1 rfl) ?_
  have hPc := hP.sub (ws' := [(g0, .inr (1, [.ref gF, .ref gK, .ref gT, .ref gC, .ref gM, .int gc, .ref eF, .ref eC, .ref eM, .int ec, .ref hopA]))]) [3] rfl
  have hDc := hD.sub (ws' := [(g0, .inr (1, [.ref gF, .ref gK, .ref gT, .ref gC, .ref gM, .int gc, .ref eF, .ref eC, .ref eM, .int ec, .ref hopA]))]) [3] (by decide) rfl
  have hFc := va_free (wc := [(g0, .inr (1, [.ref gF, .ref gK, .ref gT, .ref gC, .ref gM, .int gc, .ref eF, .ref eC, .ref eM, .int ec, .ref hopA]))]) hD hS hA [3] rfl
  refine va_callv (va_runV (As := []) (rest := []) ⟨hx, hb, hml, hown, hts⟩ (k_gempty l dC dI cI cZ cC cJ s.heap.size  g0 gF gK gT gC gM gc eF eC eM ec hopA ) (cwV 0 hts gX2_read_X1_empty rfl rfl rfl (by decide +kernel) ⟨Nat.le_of_ble_eq_true rfl, Nat.le_of_ble_eq_true rfl⟩) ⟨sPre_blind, va_recv hK hPc (ci := 1) (q0 := 0) rfl rfl, fun U hU hW => ⟨rfl, sPre_ok hsk hPc hDc hU hW⟩⟩ rfl rfl hl.1 rfl (lv_room (Nat.le_of_ble_eq_true rfl)) dX2_read_1 ⟨(show 0 + 0 ≤ 0 by omega), (show 0 + 0 ≤ 0 by omega)⟩) hS (fun q _ h => hFc q h) hFc (fun u t H1 locs ht hvm hw hB hz1 hk1 hS => ?_)
  obtain ⟨g_2, e_3⟩ := u
  try dsimp only at hw hB
  obtain ⟨hP1, hD1⟩ := hB
  rw [ht] at hP1
  obtain ⟨hP, hD⟩ := va_join (wr := [(h0, .inr (2, [.ref tO, .int so, .int pl, .int bh, .int fa_])), (tO, .inr (3, [.ref sA, .int tl])), (sA, .inl (cC, 1600, .inl fs)), (gF, .inl (cI, 40, .inl fgF)), (gK, .inl (cI, 40, .inl fgK)), (gT, .inl (cI, 40, .inl fgT)), (gC, .inl (cI, 40, .inl fgC)), (gM, .inl (cI, 40, .inl fgM)), (eF, .inl (cI, 10, .inl feF)), (eC, .inl (cI, 10, .inl feC)), (eM, .inl (cI, 10, .inl feM))]) (w1 := [(g0, .inr (1, [.ref gF, .ref gK, .ref gT, .ref gC, .ref gM, .int g_2, .ref eF, .ref eC, .ref eM, .int e_3, .ref hopA]))]) hP hD [3] [0, 1, 2, 4, 5, 6, 7, 8, 9, 10, 11] rfl rfl (by decide) (by decide) hk1 hFc hP1 hD1
  generalize H1 = H at hP hS ⊢
  have hP : va_P (dC, dI) vwCl [(h0, .inr (2, [.ref tO, .int so, .int pl, .int bh, .int fa_])), (tO, .inr (3, [.ref sA, .int tl])), (sA, .inl (cC, 1600, .inl fs)), (gF, .inl (cI, 40, .inl fgF)), (gK, .inl (cI, 40, .inl fgK)), (gT, .inl (cI, 40, .inl fgT)), (gC, .inl (cI, 40, .inl fgC)), (gM, .inl (cI, 40, .inl fgM)), (eF, .inl (cI, 10, .inl feF)), (eC, .inl (cI, 10, .inl feC)), (eM, .inl (cI, 10, .inl feM)), (g0, .inr (1, [.ref gF, .ref gK, .ref gT, .ref gC, .ref gM, .int g_2, .ref eF, .ref eC, .ref eM, .int e_3, .ref hopA]))] H := hP
  have hD : va_D A [(h0, .inr (2, [.ref tO, .int so, .int pl, .int bh, .int fa_])), (tO, .inr (3, [.ref sA, .int tl])), (sA, .inl (cC, 1600, .inl fs)), (gF, .inl (cI, 40, .inl fgF)), (gK, .inl (cI, 40, .inl fgK)), (gT, .inl (cI, 40, .inl fgT)), (gC, .inl (cI, 40, .inl fgC)), (gM, .inl (cI, 40, .inl fgM)), (eF, .inl (cI, 10, .inl feF)), (eC, .inl (cI, 10, .inl feC)), (eM, .inl (cI, 10, .inl feM)), (g0, .inr (1, [.ref gF, .ref gK, .ref gT, .ref gC, .ref gM, .int g_2, .ref eF, .ref eC, .ref eM, .int e_3, .ref hopA]))] := hD
  refine lv_aload_n hx hb dX2_read_4 rfl (lv_at hl 0 rfl) ?_
  refine lv_iconst (v := 0) hx hb dX2_read_5 (by decide) ?_
  refine va_put (D := (dC, dI)) (ci := 2) (v := .int 0) (ty := tyX2 4) (C := RX2) (T := TX2) (N := 5) hx hb hts i2 tyX2 tyX2_ok nmX2 hown hK hP hD hS 0 rfl rfl 4 (by decide) (hts (.fieldLink RX2 20 "StopSetter$Reader" "fault" "I") (by decide +kernel)) (fun _ h9 => h9) rfl (by decide +kernel) rfl rfl (Nat.le_of_ble_eq_true rfl) dX2_read_6 (fun H locs hP hD hS => ?_)
  have hP : va_P (dC, dI) vwCl [(h0, .inr (2, [.ref tO, .int so, .int pl, .int bh, .int 0])), (tO, .inr (3, [.ref sA, .int tl])), (sA, .inl (cC, 1600, .inl fs)), (gF, .inl (cI, 40, .inl fgF)), (gK, .inl (cI, 40, .inl fgK)), (gT, .inl (cI, 40, .inl fgT)), (gC, .inl (cI, 40, .inl fgC)), (gM, .inl (cI, 40, .inl fgM)), (eF, .inl (cI, 10, .inl feF)), (eC, .inl (cI, 10, .inl feC)), (eM, .inl (cI, 10, .inl feM)), (g0, .inr (1, [.ref gF, .ref gK, .ref gT, .ref gC, .ref gM, .int g_2, .ref eF, .ref eC, .ref eM, .int e_3, .ref hopA]))] H := hP
  have hD : va_D A [(h0, .inr (2, [.ref tO, .int so, .int pl, .int bh, .int 0])), (tO, .inr (3, [.ref sA, .int tl])), (sA, .inl (cC, 1600, .inl fs)), (gF, .inl (cI, 40, .inl fgF)), (gK, .inl (cI, 40, .inl fgK)), (gT, .inl (cI, 40, .inl fgT)), (gC, .inl (cI, 40, .inl fgC)), (gM, .inl (cI, 40, .inl fgM)), (eF, .inl (cI, 10, .inl feF)), (eC, .inl (cI, 10, .inl feC)), (eM, .inl (cI, 10, .inl feM)), (g0, .inr (1, [.ref gF, .ref gK, .ref gT, .ref gC, .ref gM, .int g_2, .ref eF, .ref eC, .ref eM, .int e_3, .ref hopA]))] := hD
  refine lv_aload_n hx hb dX2_read_9 rfl (lv_at hl 0 rfl) ?_
  refine lv_iconst (v := 0) hx hb dX2_read_10 (by decide) ?_
  refine va_put (D := (dC, dI)) (ci := 2) (v := .int 0) (ty := tyX2 3) (C := RX2) (T := TX2) (N := 5) hx hb hts i2 tyX2 tyX2_ok nmX2 hown hK hP hD hS 0 rfl rfl 3 (by decide) (hts (.fieldLink RX2 24 "StopSetter$Reader" "behind" "I") (by decide +kernel)) (fun _ h9 => h9) rfl (by decide +kernel) rfl rfl (Nat.le_of_ble_eq_true rfl) dX2_read_11 (fun H locs hP hD hS => ?_)
  have hP : va_P (dC, dI) vwCl [(h0, .inr (2, [.ref tO, .int so, .int pl, .int 0, .int 0])), (tO, .inr (3, [.ref sA, .int tl])), (sA, .inl (cC, 1600, .inl fs)), (gF, .inl (cI, 40, .inl fgF)), (gK, .inl (cI, 40, .inl fgK)), (gT, .inl (cI, 40, .inl fgT)), (gC, .inl (cI, 40, .inl fgC)), (gM, .inl (cI, 40, .inl fgM)), (eF, .inl (cI, 10, .inl feF)), (eC, .inl (cI, 10, .inl feC)), (eM, .inl (cI, 10, .inl feM)), (g0, .inr (1, [.ref gF, .ref gK, .ref gT, .ref gC, .ref gM, .int g_2, .ref eF, .ref eC, .ref eM, .int e_3, .ref hopA]))] H := hP
  have hD : va_D A [(h0, .inr (2, [.ref tO, .int so, .int pl, .int 0, .int 0])), (tO, .inr (3, [.ref sA, .int tl])), (sA, .inl (cC, 1600, .inl fs)), (gF, .inl (cI, 40, .inl fgF)), (gK, .inl (cI, 40, .inl fgK)), (gT, .inl (cI, 40, .inl fgT)), (gC, .inl (cI, 40, .inl fgC)), (gM, .inl (cI, 40, .inl fgM)), (eF, .inl (cI, 10, .inl feF)), (eC, .inl (cI, 10, .inl feC)), (eM, .inl (cI, 10, .inl feM)), (g0, .inr (1, [.ref gF, .ref gK, .ref gT, .ref gC, .ref gM, .int g_2, .ref eF, .ref eC, .ref eM, .int e_3, .ref hopA]))] := hD
  refine lv_aload_n hx hb dX2_read_14 rfl (lv_at hl 0 rfl) ?_
  have hPc := hP.sub (ws' := [(h0, .inr (2, [.ref tO, .int so, .int pl, .int 0, .int 0])), (tO, .inr (3, [.ref sA, .int tl])), (sA, .inl (cC, 1600, .inl fs))]) [0, 1, 2] rfl
  have hDc := hD.sub (ws' := [(h0, .inr (2, [.ref tO, .int so, .int pl, .int 0, .int 0])), (tO, .inr (3, [.ref sA, .int tl])), (sA, .inl (cC, 1600, .inl fs))]) [0, 1, 2] (by decide) rfl
  have hFc := va_free (wc := [(h0, .inr (2, [.ref tO, .int so, .int pl, .int 0, .int 0])), (tO, .inr (3, [.ref sA, .int tl])), (sA, .inl (cC, 1600, .inl fs))]) hD hS hA [0, 1, 2] rfl
  refine va_callv (va_runV (As := []) (rest := []) ⟨hx, hb, hml, hown, hts⟩ (k_advance l dC dI cI cZ cC cJ H.size  h0 tO so pl 0 0 sA tl fs ) (cwV 0 hts gX2_read_X2_advance rfl rfl rfl (by decide +kernel) ⟨Nat.le_of_ble_eq_true rfl, Nat.le_of_ble_eq_true rfl⟩) ⟨sPre_blind, va_recv hK hPc (ci := 2) (q0 := 0) rfl rfl, fun U hU hW => ⟨rfl, sPre_ok hsk hPc hDc hU hW⟩⟩ rfl rfl hl.1 rfl (lv_room (Nat.le_of_ble_eq_true rfl)) dX2_read_15 ⟨(show 0 + 0 ≤ 0 by omega), (show 0 + 0 ≤ 0 by omega)⟩) hS (fun q _ h => hFc q h) hFc (fun u t H1 locs ht hvm hw hB hz1 hk1 hS => ?_)
  obtain ⟨s_5, p_6, b_7⟩ := u
  try dsimp only at hw hB
  obtain ⟨hP1, hD1⟩ := hB
  rw [ht] at hP1
  obtain ⟨hP, hD⟩ := va_join (wr := [(gF, .inl (cI, 40, .inl fgF)), (gK, .inl (cI, 40, .inl fgK)), (gT, .inl (cI, 40, .inl fgT)), (gC, .inl (cI, 40, .inl fgC)), (gM, .inl (cI, 40, .inl fgM)), (eF, .inl (cI, 10, .inl feF)), (eC, .inl (cI, 10, .inl feC)), (eM, .inl (cI, 10, .inl feM)), (g0, .inr (1, [.ref gF, .ref gK, .ref gT, .ref gC, .ref gM, .int g_2, .ref eF, .ref eC, .ref eM, .int e_3, .ref hopA]))]) (w1 := [(h0, .inr (2, [.ref tO, .int s_5, .int p_6, .int b_7, .int 0])), (tO, .inr (3, [.ref sA, .int tl])), (sA, .inl (cC, 1600, .inl fs))]) hP hD [0, 1, 2] [3, 4, 5, 6, 7, 8, 9, 10, 11] rfl rfl (by decide) (by decide) hk1 hFc hP1 hD1
  generalize H1 = H at hP hS ⊢
  have hP : va_P (dC, dI) vwCl [(gF, .inl (cI, 40, .inl fgF)), (gK, .inl (cI, 40, .inl fgK)), (gT, .inl (cI, 40, .inl fgT)), (gC, .inl (cI, 40, .inl fgC)), (gM, .inl (cI, 40, .inl fgM)), (eF, .inl (cI, 10, .inl feF)), (eC, .inl (cI, 10, .inl feC)), (eM, .inl (cI, 10, .inl feM)), (g0, .inr (1, [.ref gF, .ref gK, .ref gT, .ref gC, .ref gM, .int g_2, .ref eF, .ref eC, .ref eM, .int e_3, .ref hopA])), (h0, .inr (2, [.ref tO, .int s_5, .int p_6, .int b_7, .int 0])), (tO, .inr (3, [.ref sA, .int tl])), (sA, .inl (cC, 1600, .inl fs))] H := hP
  have hD : va_D A [(gF, .inl (cI, 40, .inl fgF)), (gK, .inl (cI, 40, .inl fgK)), (gT, .inl (cI, 40, .inl fgT)), (gC, .inl (cI, 40, .inl fgC)), (gM, .inl (cI, 40, .inl fgM)), (eF, .inl (cI, 10, .inl feF)), (eC, .inl (cI, 10, .inl feC)), (eM, .inl (cI, 10, .inl feM)), (g0, .inr (1, [.ref gF, .ref gK, .ref gT, .ref gC, .ref gM, .int g_2, .ref eF, .ref eC, .ref eM, .int e_3, .ref hopA])), (h0, .inr (2, [.ref tO, .int s_5, .int p_6, .int b_7, .int 0])), (tO, .inr (3, [.ref sA, .int tl])), (sA, .inl (cC, 1600, .inl fs))] := hD
  refine lv_iconst (v := 0) hx hb dX2_read_18 (by decide) ?_
  refine lv_istore_n (lv' := [(2, .int 0), (0, .ref h0), (1, .ref g0)]) hx hb dX2_read_19 rfl hl (by decide) rfl (fun ls hl => ?_)
  have lp_20 : ∀ (n_20 : Nat) (k : Nat) (so : Int32) (pl : Int32) (bh : Int32) (fa_ : Int32) (gc : Int32) (ec : Int32) (fgF : Nat → Int32) (fgK : Nat → Int32) (fgT : Nat → Int32) (fgC : Nat → Int32) (fgM : Nat → Int32) (feF : Nat → Int32) (feC : Nat → Int32) (feM : Nat → Int32), 1600 + 1 ≤ k + n_20 → k ≤ 1600 → ∀ (H : Heap) (locs : List Loc) (ls : Array Slot), va_P (dC, dI) vwCl [(gF, .inl (cI, 40, .inl fgF)), (gK, .inl (cI, 40, .inl fgK)), (gT, .inl (cI, 40, .inl fgT)), (gC, .inl (cI, 40, .inl fgC)), (gM, .inl (cI, 40, .inl fgM)), (eF, .inl (cI, 10, .inl feF)), (eC, .inl (cI, 10, .inl feC)), (eM, .inl (cI, 10, .inl feM)), (g0, .inr (1, [.ref gF, .ref gK, .ref gT, .ref gC, .ref gM, .int gc, .ref eF, .ref eC, .ref eM, .int ec, .ref hopA])), (h0, .inr (2, [.ref tO, .int so, .int pl, .int bh, .int fa_])), (tO, .inr (3, [.ref sA, .int tl])), (sA, .inl (cC, 1600, .inl fs))] H → va_D A [(gF, .inl (cI, 40, .inl fgF)), (gK, .inl (cI, 40, .inl fgK)), (gT, .inl (cI, 40, .inl fgT)), (gC, .inl (cI, 40, .inl fgC)), (gM, .inl (cI, 40, .inl fgM)), (eF, .inl (cI, 10, .inl feF)), (eC, .inl (cI, 10, .inl feC)), (eM, .inl (cI, 10, .inl feM)), (g0, .inr (1, [.ref gF, .ref gK, .ref gT, .ref gC, .ref gM, .int gc, .ref eF, .ref eC, .ref eM, .int ec, .ref hopA])), (h0, .inr (2, [.ref tO, .int so, .int pl, .int bh, .int fa_])), (tO, .inr (3, [.ref sA, .int tl])), (sA, .inl (cC, 1600, .inl fs))] → va_S A s.heap H locs → lv_has ls 3 [(2, .int (nI k)), (0, .ref h0), (1, .ref g0)] → W p l e (headSpec wsX2_read ({ frames := 7, cells := 0, slots := 0, locals := 153 })).room s m ([.ref h0, .ref g0]).toArray below meth c H locs 0 0 (MQ below (va_Qi (fun (r : Int32) (u : (Int32) × (Int32) × (Int32) × (Int32) × (Int32) × (Nat → Int32) × (Nat → Int32) × (Nat → Int32) × (Nat → Int32) × (Nat → Int32) × (Int32) × (Nat → Int32) × (Nat → Int32) × (Nat → Int32)) => match u with | (so2, pl2, bh2, fa_2, gc2, fgF2, fgK2, fgT2, fgC2, fgM2, ec2, feF2, feC2, feM2) => True) (fun (u : (Int32) × (Int32) × (Int32) × (Int32) × (Int32) × (Nat → Int32) × (Nat → Int32) × (Nat → Int32) × (Nat → Int32) × (Nat → Int32) × (Int32) × (Nat → Int32) × (Nat → Int32) × (Nat → Int32)) t => match u with | (so2, pl2, bh2, fa_2, gc2, fgF2, fgK2, fgT2, fgC2, fgM2, ec2, feF2, feC2, feM2) => sB dC dI A [(h0, .inr (2, [.ref tO, .int so2, .int pl2, .int bh2, .int fa_2])), (tO, .inr (3, [.ref sA, .int tl])), (sA, .inl (cC, 1600, .inl fs)), (g0, .inr (1, [.ref gF, .ref gK, .ref gT, .ref gC, .ref gM, .int gc2, .ref eF, .ref eC, .ref eM, .int ec2, .ref hopA])), (gF, .inl (cI, 40, .inl fgF2)), (gK, .inl (cI, 40, .inl fgK2)), (gT, .inl (cI, 40, .inl fgT2)), (gC, .inl (cI, 40, .inl fgC2)), (gM, .inl (cI, 40, .inl fgM2)), (eF, .inl (cI, 10, .inl feF2)), (eC, .inl (cI, 10, .inl feC2)), (eM, .inl (cI, 10, .inl feM2))] t) A) ([.ref h0, .ref g0]).toArray s 0 0 A) (F0 m 20 ls []) := by
    intro n_20
    induction n_20 with
    | zero =>
      intro k so pl bh fa_ gc ec fgF fgK fgT fgC fgM feF feC feM fuel_20 hk_20
      exact absurd fuel_20 (by omega)
    | succ n_20 ih_20 =>
      intro k so pl bh fa_ gc ec fgF fgK fgT fgC fgM feF feC feM fuel_20 hk_20 H locs ls hP hD hS hl
      refine lv_iload_n hx hb dX2_read_20 rfl (lv_at hl 0 rfl) ?_
      refine lv_sipush (v := 1600) hx hb dX2_read_21 (by decide) ?_
      refine lv_icmp_ge (tgt := 86) hx hb dX2_read_24 (by decide) (fun c_24 => ?_) (fun c_24 => ?_)
      · skip
        refine lv_aload_n hx hb dX2_read_86 rfl (lv_at hl 1 rfl) ?_
        refine va_get (D := (dC, dI)) (ci := 2) (v := .int fa_) (C := RX2) (T := TX2) (N := 5) hx hb hts i2 hown hK hP 9 rfl rfl 4 (by decide) (hts (.fieldLink RX2 20 "StopSetter$Reader" "fault" "I") (by decide +kernel)) (fun _ h9 => h9) rfl dX2_read_87 ?_
        have hP9 := hP.sub (ws' := [(h0, .inr (2, [.ref tO, .int so, .int pl, .int bh, .int fa_])), (tO, .inr (3, [.ref sA, .int tl])), (sA, .inl (cC, 1600, .inl fs)), (g0, .inr (1, [.ref gF, .ref gK, .ref gT, .ref gC, .ref gM, .int gc, .ref eF, .ref eC, .ref eM, .int ec, .ref hopA])), (gF, .inl (cI, 40, .inl fgF)), (gK, .inl (cI, 40, .inl fgK)), (gT, .inl (cI, 40, .inl fgT)), (gC, .inl (cI, 40, .inl fgC)), (gM, .inl (cI, 40, .inl fgM)), (eF, .inl (cI, 10, .inl feF)), (eC, .inl (cI, 10, .inl feC)), (eM, .inl (cI, 10, .inl feM))]) [9, 10, 11, 8, 0, 1, 2, 3, 4, 5, 6, 7] rfl
        have hD9 := hD.sub (ws' := [(h0, .inr (2, [.ref tO, .int so, .int pl, .int bh, .int fa_])), (tO, .inr (3, [.ref sA, .int tl])), (sA, .inl (cC, 1600, .inl fs)), (g0, .inr (1, [.ref gF, .ref gK, .ref gT, .ref gC, .ref gM, .int gc, .ref eF, .ref eC, .ref eM, .int ec, .ref hopA])), (gF, .inl (cI, 40, .inl fgF)), (gK, .inl (cI, 40, .inl fgK)), (gT, .inl (cI, 40, .inl fgT)), (gC, .inl (cI, 40, .inl fgC)), (gM, .inl (cI, 40, .inl fgM)), (eF, .inl (cI, 10, .inl feF)), (eC, .inl (cI, 10, .inl feC)), (eM, .inl (cI, 10, .inl feM))]) [9, 10, 11, 8, 0, 1, 2, 3, 4, 5, 6, 7] (by decide) rfl
        exact W.iret (v := fa_) hx hb hr (fun t ht hW => ⟨⟨fa_, (so, pl, bh, fa_, gc, fgF, fgK, fgT, fgC, fgM, ec, feF, feC, feM), rfl, trivial, by rw [ht]; exact hP9, hD9⟩, hS.F ht⟩) hS.2.2 dX2_read_90
      · skip
        have hk3_20 : k < 1600 := nk_lt (N := 1600) rfl c_24 (by omega)
        refine lv_aload_n hx hb dX2_read_27 rfl (lv_at hl 1 rfl) ?_
        refine va_get (D := (dC, dI)) (ci := 2) (v := .int fa_) (C := RX2) (T := TX2) (N := 5) hx hb hts i2 hown hK hP 9 rfl rfl 4 (by decide) (hts (.fieldLink RX2 20 "StopSetter$Reader" "fault" "I") (by decide +kernel)) (fun _ h9 => h9) rfl dX2_read_28 ?_
        refine lv_if_ne (tgt := 86) hx hb dX2_read_31 (by decide) (fun c_31 => ?_) (fun c_31 => ?_)
        · skip
          refine lv_aload_n hx hb dX2_read_86 rfl (lv_at hl 1 rfl) ?_
          refine va_get (D := (dC, dI)) (ci := 2) (v := .int fa_) (C := RX2) (T := TX2) (N := 5) hx hb hts i2 hown hK hP 9 rfl rfl 4 (by decide) (hts (.fieldLink RX2 20 "StopSetter$Reader" "fault" "I") (by decide +kernel)) (fun _ h9 => h9) rfl dX2_read_87 ?_
          have hP9 := hP.sub (ws' := [(h0, .inr (2, [.ref tO, .int so, .int pl, .int bh, .int fa_])), (tO, .inr (3, [.ref sA, .int tl])), (sA, .inl (cC, 1600, .inl fs)), (g0, .inr (1, [.ref gF, .ref gK, .ref gT, .ref gC, .ref gM, .int gc, .ref eF, .ref eC, .ref eM, .int ec, .ref hopA])), (gF, .inl (cI, 40, .inl fgF)), (gK, .inl (cI, 40, .inl fgK)), (gT, .inl (cI, 40, .inl fgT)), (gC, .inl (cI, 40, .inl fgC)), (gM, .inl (cI, 40, .inl fgM)), (eF, .inl (cI, 10, .inl feF)), (eC, .inl (cI, 10, .inl feC)), (eM, .inl (cI, 10, .inl feM))]) [9, 10, 11, 8, 0, 1, 2, 3, 4, 5, 6, 7] rfl
          have hD9 := hD.sub (ws' := [(h0, .inr (2, [.ref tO, .int so, .int pl, .int bh, .int fa_])), (tO, .inr (3, [.ref sA, .int tl])), (sA, .inl (cC, 1600, .inl fs)), (g0, .inr (1, [.ref gF, .ref gK, .ref gT, .ref gC, .ref gM, .int gc, .ref eF, .ref eC, .ref eM, .int ec, .ref hopA])), (gF, .inl (cI, 40, .inl fgF)), (gK, .inl (cI, 40, .inl fgK)), (gT, .inl (cI, 40, .inl fgT)), (gC, .inl (cI, 40, .inl fgC)), (gM, .inl (cI, 40, .inl fgM)), (eF, .inl (cI, 10, .inl feF)), (eC, .inl (cI, 10, .inl feC)), (eM, .inl (cI, 10, .inl feM))]) [9, 10, 11, 8, 0, 1, 2, 3, 4, 5, 6, 7] (by decide) rfl
          exact W.iret (v := fa_) hx hb hr (fun t ht hW => ⟨⟨fa_, (so, pl, bh, fa_, gc, fgF, fgK, fgT, fgC, fgM, ec, feF, feC, feM), rfl, trivial, by rw [ht]; exact hP9, hD9⟩, hS.F ht⟩) hS.2.2 dX2_read_90
        · skip
          refine lv_aload_n hx hb dX2_read_34 rfl (lv_at hl 1 rfl) ?_
          refine va_get (D := (dC, dI)) (ci := 2) (v := .int so) (C := RX2) (T := TX2) (N := 5) hx hb hts i2 hown hK hP 9 rfl rfl 1 (by decide) (hts (.fieldLink RX2 32 "StopSetter$Reader" "sort" "I") (by decide +kernel)) (fun _ h9 => h9) rfl dX2_read_35 ?_
          refine lv_if_eq (tgt := 86) hx hb dX2_read_38 (by decide) (fun c_38 => ?_) (fun c_38 => ?_)
          · skip
            refine lv_aload_n hx hb dX2_read_86 rfl (lv_at hl 1 rfl) ?_
            refine va_get (D := (dC, dI)) (ci := 2) (v := .int fa_) (C := RX2) (T := TX2) (N := 5) hx hb hts i2 hown hK hP 9 rfl rfl 4 (by decide) (hts (.fieldLink RX2 20 "StopSetter$Reader" "fault" "I") (by decide +kernel)) (fun _ h9 => h9) rfl dX2_read_87 ?_
            have hP9 := hP.sub (ws' := [(h0, .inr (2, [.ref tO, .int so, .int pl, .int bh, .int fa_])), (tO, .inr (3, [.ref sA, .int tl])), (sA, .inl (cC, 1600, .inl fs)), (g0, .inr (1, [.ref gF, .ref gK, .ref gT, .ref gC, .ref gM, .int gc, .ref eF, .ref eC, .ref eM, .int ec, .ref hopA])), (gF, .inl (cI, 40, .inl fgF)), (gK, .inl (cI, 40, .inl fgK)), (gT, .inl (cI, 40, .inl fgT)), (gC, .inl (cI, 40, .inl fgC)), (gM, .inl (cI, 40, .inl fgM)), (eF, .inl (cI, 10, .inl feF)), (eC, .inl (cI, 10, .inl feC)), (eM, .inl (cI, 10, .inl feM))]) [9, 10, 11, 8, 0, 1, 2, 3, 4, 5, 6, 7] rfl
            have hD9 := hD.sub (ws' := [(h0, .inr (2, [.ref tO, .int so, .int pl, .int bh, .int fa_])), (tO, .inr (3, [.ref sA, .int tl])), (sA, .inl (cC, 1600, .inl fs)), (g0, .inr (1, [.ref gF, .ref gK, .ref gT, .ref gC, .ref gM, .int gc, .ref eF, .ref eC, .ref eM, .int ec, .ref hopA])), (gF, .inl (cI, 40, .inl fgF)), (gK, .inl (cI, 40, .inl fgK)), (gT, .inl (cI, 40, .inl fgT)), (gC, .inl (cI, 40, .inl fgC)), (gM, .inl (cI, 40, .inl fgM)), (eF, .inl (cI, 10, .inl feF)), (eC, .inl (cI, 10, .inl feC)), (eM, .inl (cI, 10, .inl feM))]) [9, 10, 11, 8, 0, 1, 2, 3, 4, 5, 6, 7] (by decide) rfl
            exact W.iret (v := fa_) hx hb hr (fun t ht hW => ⟨⟨fa_, (so, pl, bh, fa_, gc, fgF, fgK, fgT, fgC, fgM, ec, feF, feC, feM), rfl, trivial, by rw [ht]; exact hP9, hD9⟩, hS.F ht⟩) hS.2.2 dX2_read_90
          · skip
            refine lv_aload_n hx hb dX2_read_41 rfl (lv_at hl 1 rfl) ?_
            refine va_ldcS (own := RX2) (index := 35) (tx := "go") hx hb hown (htw.2.1 0 (by decide)) dX2_read_42 ?_
            have hPc := hP.sub (ws' := [(h0, .inr (2, [.ref tO, .int so, .int pl, .int bh, .int fa_])), (tO, .inr (3, [.ref sA, .int tl])), (sA, .inl (cC, 1600, .inl fs))]) [9, 10, 11] rfl
            have hDc := hD.sub (ws' := [(h0, .inr (2, [.ref tO, .int so, .int pl, .int bh, .int fa_])), (tO, .inr (3, [.ref sA, .int tl])), (sA, .inl (cC, 1600, .inl fs))]) [9, 10, 11] (by decide) rfl
            have hFc := va_free (wc := [(h0, .inr (2, [.ref tO, .int so, .int pl, .int bh, .int fa_])), (tO, .inr (3, [.ref sA, .int tl])), (sA, .inl (cC, 1600, .inl fs))]) hD hS hA [9, 10, 11] rfl
            refine va_calli (va_runV (As := [.ref (adK 0)]) (rest := []) ⟨hx, hb, hml, hown, hts⟩ (k_isText l dC dI cI cZ cC cJ H.size adK adV h0 tO so pl bh fa_ sA tl fs 0 (by first | assumption | decide | omega)) (cwV 1 hts gX2_read_X2_isText rfl rfl rfl (by decide +kernel) ⟨Nat.le_of_ble_eq_true rfl, Nat.le_of_ble_eq_true rfl⟩) ⟨tW_blind, va_recv hK hPc (ci := 2) (q0 := 0) rfl rfl, fun U hU hW => ⟨rfl, sPre_ok hsk hPc hDc hU hW, tW_warm hW hU hS (fun q h => hFc q h) htw⟩⟩ rfl rfl hl.1 rfl (lv_room (Nat.le_of_ble_eq_true rfl)) dX2_read_44 ⟨(show 0 + 0 ≤ 0 by omega), (show 0 + 0 ≤ 0 by omega)⟩) hS (fun q _ h => hFc q h) hFc (fun r_8 u t H1 locs ht hvm hw hB hz1 hk1 hS => ?_)
            try dsimp only at hw hB
            obtain ⟨hP1, hD1⟩ := hB
            rw [ht] at hP1
            obtain ⟨hP, hD⟩ := va_join (wr := [(gF, .inl (cI, 40, .inl fgF)), (gK, .inl (cI, 40, .inl fgK)), (gT, .inl (cI, 40, .inl fgT)), (gC, .inl (cI, 40, .inl fgC)), (gM, .inl (cI, 40, .inl fgM)), (eF, .inl (cI, 10, .inl feF)), (eC, .inl (cI, 10, .inl feC)), (eM, .inl (cI, 10, .inl feM)), (g0, .inr (1, [.ref gF, .ref gK, .ref gT, .ref gC, .ref gM, .int gc, .ref eF, .ref eC, .ref eM, .int ec, .ref hopA]))]) (w1 := [(h0, .inr (2, [.ref tO, .int so, .int pl, .int bh, .int fa_])), (tO, .inr (3, [.ref sA, .int tl])), (sA, .inl (cC, 1600, .inl fs))]) hP hD [9, 10, 11] [0, 1, 2, 3, 4, 5, 6, 7, 8] rfl rfl (by decide) (by decide) hk1 hFc hP1 hD1
            generalize H1 = H at hP hS ⊢
            have hP : va_P (dC, dI) vwCl [(gF, .inl (cI, 40, .inl fgF)), (gK, .inl (cI, 40, .inl fgK)), (gT, .inl (cI, 40, .inl fgT)), (gC, .inl (cI, 40, .inl fgC)), (gM, .inl (cI, 40, .inl fgM)), (eF, .inl (cI, 10, .inl feF)), (eC, .inl (cI, 10, .inl feC)), (eM, .inl (cI, 10, .inl feM)), (g0, .inr (1, [.ref gF, .ref gK, .ref gT, .ref gC, .ref gM, .int gc, .ref eF, .ref eC, .ref eM, .int ec, .ref hopA])), (h0, .inr (2, [.ref tO, .int so, .int pl, .int bh, .int fa_])), (tO, .inr (3, [.ref sA, .int tl])), (sA, .inl (cC, 1600, .inl fs))] H := hP
            have hD : va_D A [(gF, .inl (cI, 40, .inl fgF)), (gK, .inl (cI, 40, .inl fgK)), (gT, .inl (cI, 40, .inl fgT)), (gC, .inl (cI, 40, .inl fgC)), (gM, .inl (cI, 40, .inl fgM)), (eF, .inl (cI, 10, .inl feF)), (eC, .inl (cI, 10, .inl feC)), (eM, .inl (cI, 10, .inl feM)), (g0, .inr (1, [.ref gF, .ref gK, .ref gT, .ref gC, .ref gM, .int gc, .ref eF, .ref eC, .ref eM, .int ec, .ref hopA])), (h0, .inr (2, [.ref tO, .int so, .int pl, .int bh, .int fa_])), (tO, .inr (3, [.ref sA, .int tl])), (sA, .inl (cC, 1600, .inl fs))] := hD
            have hw_r_8 := hw
            refine lv_if_eq (tgt := 58) hx hb dX2_read_47 (by decide) (fun c_47 => ?_) (fun c_47 => ?_)
            · skip
              refine lv_aload_n hx hb dX2_read_58 rfl (lv_at hl 1 rfl) ?_
              refine va_ldcS (own := RX2) (index := 45) (tx := "end") hx hb hown (htw.2.1 8 (by decide)) dX2_read_59 ?_
              have hPc := hP.sub (ws' := [(h0, .inr (2, [.ref tO, .int so, .int pl, .int bh, .int fa_])), (tO, .inr (3, [.ref sA, .int tl])), (sA, .inl (cC, 1600, .inl fs))]) [9, 10, 11] rfl
              have hDc := hD.sub (ws' := [(h0, .inr (2, [.ref tO, .int so, .int pl, .int bh, .int fa_])), (tO, .inr (3, [.ref sA, .int tl])), (sA, .inl (cC, 1600, .inl fs))]) [9, 10, 11] (by decide) rfl
              have hFc := va_free (wc := [(h0, .inr (2, [.ref tO, .int so, .int pl, .int bh, .int fa_])), (tO, .inr (3, [.ref sA, .int tl])), (sA, .inl (cC, 1600, .inl fs))]) hD hS hA [9, 10, 11] rfl
              refine va_calli (va_runV (As := [.ref (adK 8)]) (rest := []) ⟨hx, hb, hml, hown, hts⟩ (k_isText l dC dI cI cZ cC cJ H.size adK adV h0 tO so pl bh fa_ sA tl fs 8 (by first | assumption | decide | omega)) (cwV 1 hts gX2_read_X2_isText rfl rfl rfl (by decide +kernel) ⟨Nat.le_of_ble_eq_true rfl, Nat.le_of_ble_eq_true rfl⟩) ⟨tW_blind, va_recv hK hPc (ci := 2) (q0 := 0) rfl rfl, fun U hU hW => ⟨rfl, sPre_ok hsk hPc hDc hU hW, tW_warm hW hU hS (fun q h => hFc q h) htw⟩⟩ rfl rfl hl.1 rfl (lv_room (Nat.le_of_ble_eq_true rfl)) dX2_read_61 ⟨(show 0 + 0 ≤ 0 by omega), (show 0 + 0 ≤ 0 by omega)⟩) hS (fun q _ h => hFc q h) hFc (fun r_9 u t H1 locs ht hvm hw hB hz1 hk1 hS => ?_)
              try dsimp only at hw hB
              obtain ⟨hP1, hD1⟩ := hB
              rw [ht] at hP1
              obtain ⟨hP, hD⟩ := va_join (wr := [(gF, .inl (cI, 40, .inl fgF)), (gK, .inl (cI, 40, .inl fgK)), (gT, .inl (cI, 40, .inl fgT)), (gC, .inl (cI, 40, .inl fgC)), (gM, .inl (cI, 40, .inl fgM)), (eF, .inl (cI, 10, .inl feF)), (eC, .inl (cI, 10, .inl feC)), (eM, .inl (cI, 10, .inl feM)), (g0, .inr (1, [.ref gF, .ref gK, .ref gT, .ref gC, .ref gM, .int gc, .ref eF, .ref eC, .ref eM, .int ec, .ref hopA]))]) (w1 := [(h0, .inr (2, [.ref tO, .int so, .int pl, .int bh, .int fa_])), (tO, .inr (3, [.ref sA, .int tl])), (sA, .inl (cC, 1600, .inl fs))]) hP hD [9, 10, 11] [0, 1, 2, 3, 4, 5, 6, 7, 8] rfl rfl (by decide) (by decide) hk1 hFc hP1 hD1
              generalize H1 = H at hP hS ⊢
              have hP : va_P (dC, dI) vwCl [(gF, .inl (cI, 40, .inl fgF)), (gK, .inl (cI, 40, .inl fgK)), (gT, .inl (cI, 40, .inl fgT)), (gC, .inl (cI, 40, .inl fgC)), (gM, .inl (cI, 40, .inl fgM)), (eF, .inl (cI, 10, .inl feF)), (eC, .inl (cI, 10, .inl feC)), (eM, .inl (cI, 10, .inl feM)), (g0, .inr (1, [.ref gF, .ref gK, .ref gT, .ref gC, .ref gM, .int gc, .ref eF, .ref eC, .ref eM, .int ec, .ref hopA])), (h0, .inr (2, [.ref tO, .int so, .int pl, .int bh, .int fa_])), (tO, .inr (3, [.ref sA, .int tl])), (sA, .inl (cC, 1600, .inl fs))] H := hP
              have hD : va_D A [(gF, .inl (cI, 40, .inl fgF)), (gK, .inl (cI, 40, .inl fgK)), (gT, .inl (cI, 40, .inl fgT)), (gC, .inl (cI, 40, .inl fgC)), (gM, .inl (cI, 40, .inl fgM)), (eF, .inl (cI, 10, .inl feF)), (eC, .inl (cI, 10, .inl feC)), (eM, .inl (cI, 10, .inl feM)), (g0, .inr (1, [.ref gF, .ref gK, .ref gT, .ref gC, .ref gM, .int gc, .ref eF, .ref eC, .ref eM, .int ec, .ref hopA])), (h0, .inr (2, [.ref tO, .int so, .int pl, .int bh, .int fa_])), (tO, .inr (3, [.ref sA, .int tl])), (sA, .inl (cC, 1600, .inl fs))] := hD
              have hw_r_9 := hw
              refine lv_if_eq (tgt := 75) hx hb dX2_read_64 (by decide) (fun c_64 => ?_) (fun c_64 => ?_)
              · skip
                refine lv_aload_n hx hb dX2_read_75 rfl (lv_at hl 1 rfl) ?_
                refine lv_iconst (v := 1) hx hb dX2_read_76 (by decide) ?_
                have hPc := hP.sub (ws' := [(h0, .inr (2, [.ref tO, .int so, .int pl, .int bh, .int fa_]))]) [9] rfl
                have hDc := hD.sub (ws' := [(h0, .inr (2, [.ref tO, .int so, .int pl, .int bh, .int fa_]))]) [9] (by decide) rfl
                have hFc := va_free (wc := [(h0, .inr (2, [.ref tO, .int so, .int pl, .int bh, .int fa_]))]) hD hS hA [9] rfl
                refine va_callv (va_runV (As := [.int 1]) (rest := []) ⟨hx, hb, hml, hown, hts⟩ (k_refuse l dC dI cI cZ cC cJ H.size  h0 tO so pl bh fa_ 1 ) (cwV 1 hts gX2_read_X2_refuse rfl rfl rfl (by decide +kernel) ⟨Nat.le_of_ble_eq_true rfl, Nat.le_of_ble_eq_true rfl⟩) ⟨sPre_blind, va_recv hK hPc (ci := 2) (q0 := 0) rfl rfl, fun U hU hW => ⟨rfl, sPre_ok hsk hPc hDc hU hW⟩⟩ rfl rfl hl.1 rfl (lv_room (Nat.le_of_ble_eq_true rfl)) dX2_read_77 ⟨(show 0 + 0 ≤ 0 by omega), (show 0 + 0 ≤ 0 by omega)⟩) hS (fun q _ h => hFc q h) hFc (fun u t H1 locs ht hvm hw hB hz1 hk1 hS => ?_)
                obtain ⟨f_11, rfl⟩ : ∃ z, z = u := ⟨_, rfl⟩
                try dsimp only at hw hB
                obtain ⟨hP1, hD1⟩ := hB
                rw [ht] at hP1
                obtain ⟨hP, hD⟩ := va_join (wr := [(gF, .inl (cI, 40, .inl fgF)), (gK, .inl (cI, 40, .inl fgK)), (gT, .inl (cI, 40, .inl fgT)), (gC, .inl (cI, 40, .inl fgC)), (gM, .inl (cI, 40, .inl fgM)), (eF, .inl (cI, 10, .inl feF)), (eC, .inl (cI, 10, .inl feC)), (eM, .inl (cI, 10, .inl feM)), (g0, .inr (1, [.ref gF, .ref gK, .ref gT, .ref gC, .ref gM, .int gc, .ref eF, .ref eC, .ref eM, .int ec, .ref hopA])), (tO, .inr (3, [.ref sA, .int tl])), (sA, .inl (cC, 1600, .inl fs))]) (w1 := [(h0, .inr (2, [.ref tO, .int so, .int pl, .int bh, .int f_11]))]) hP hD [9] [0, 1, 2, 3, 4, 5, 6, 7, 8, 10, 11] rfl rfl (by decide) (by decide) hk1 hFc hP1 hD1
                generalize H1 = H at hP hS ⊢
                have hP : va_P (dC, dI) vwCl [(gF, .inl (cI, 40, .inl fgF)), (gK, .inl (cI, 40, .inl fgK)), (gT, .inl (cI, 40, .inl fgT)), (gC, .inl (cI, 40, .inl fgC)), (gM, .inl (cI, 40, .inl fgM)), (eF, .inl (cI, 10, .inl feF)), (eC, .inl (cI, 10, .inl feC)), (eM, .inl (cI, 10, .inl feM)), (g0, .inr (1, [.ref gF, .ref gK, .ref gT, .ref gC, .ref gM, .int gc, .ref eF, .ref eC, .ref eM, .int ec, .ref hopA])), (tO, .inr (3, [.ref sA, .int tl])), (sA, .inl (cC, 1600, .inl fs)), (h0, .inr (2, [.ref tO, .int so, .int pl, .int bh, .int f_11]))] H := hP
                have hD : va_D A [(gF, .inl (cI, 40, .inl fgF)), (gK, .inl (cI, 40, .inl fgK)), (gT, .inl (cI, 40, .inl fgT)), (gC, .inl (cI, 40, .inl fgC)), (gM, .inl (cI, 40, .inl fgM)), (eF, .inl (cI, 10, .inl feF)), (eC, .inl (cI, 10, .inl feC)), (eM, .inl (cI, 10, .inl feM)), (g0, .inr (1, [.ref gF, .ref gK, .ref gT, .ref gC, .ref gM, .int gc, .ref eF, .ref eC, .ref eM, .int ec, .ref hopA])), (tO, .inr (3, [.ref sA, .int tl])), (sA, .inl (cC, 1600, .inl fs)), (h0, .inr (2, [.ref tO, .int so, .int pl, .int bh, .int f_11]))] := hD
                refine lv_iinc (v := (nI (k + 1))) (lv' := [(2, .int (nI (k + 1))), (0, .ref h0), (1, .ref g0)]) hx hb dX2_read_80 hl (k := 0) rfl (nI_1 k) (by decide) rfl (fun ls hl => ?_)
                refine lv_goto (tgt := 20) hx hb dX2_read_83 (by decide) ?_
                exact ih_20  (k + 1) so pl bh f_11 gc ec fgF fgK fgT fgC fgM feF feC feM (by omega) (by omega) _ _ _ (hP.sub [0, 1, 2, 3, 4, 5, 6, 7, 8, 11, 9, 10] rfl) (hD.sub [0, 1, 2, 3, 4, 5, 6, 7, 8, 11, 9, 10] (by decide) rfl) hS (lv_sub hl [0, 1, 2] rfl)
              · skip
                refine lv_aload_n hx hb dX2_read_67 rfl (lv_at hl 1 rfl) ?_
                refine lv_aload_n hx hb dX2_read_68 rfl (lv_at hl 2 rfl) ?_
                have hPc := hP.sub (ws' := [(h0, .inr (2, [.ref tO, .int so, .int pl, .int bh, .int fa_])), (tO, .inr (3, [.ref sA, .int tl])), (sA, .inl (cC, 1600, .inl fs)), (g0, .inr (1, [.ref gF, .ref gK, .ref gT, .ref gC, .ref gM, .int gc, .ref eF, .ref eC, .ref eM, .int ec, .ref hopA])), (eF, .inl (cI, 10, .inl feF)), (eC, .inl (cI, 10, .inl feC)), (eM, .inl (cI, 10, .inl feM))]) [9, 10, 11, 8, 5, 6, 7] rfl
                have hDc := hD.sub (ws' := [(h0, .inr (2, [.ref tO, .int so, .int pl, .int bh, .int fa_])), (tO, .inr (3, [.ref sA, .int tl])), (sA, .inl (cC, 1600, .inl fs)), (g0, .inr (1, [.ref gF, .ref gK, .ref gT, .ref gC, .ref gM, .int gc, .ref eF, .ref eC, .ref eM, .int ec, .ref hopA])), (eF, .inl (cI, 10, .inl feF)), (eC, .inl (cI, 10, .inl feC)), (eM, .inl (cI, 10, .inl feM))]) [9, 10, 11, 8, 5, 6, 7] (by decide) rfl
                have hFc := va_free (wc := [(h0, .inr (2, [.ref tO, .int so, .int pl, .int bh, .int fa_])), (tO, .inr (3, [.ref sA, .int tl])), (sA, .inl (cC, 1600, .inl fs)), (g0, .inr (1, [.ref gF, .ref gK, .ref gT, .ref gC, .ref gM, .int gc, .ref eF, .ref eC, .ref eM, .int ec, .ref hopA])), (eF, .inl (cI, 10, .inl feF)), (eC, .inl (cI, 10, .inl feC)), (eM, .inl (cI, 10, .inl feM))]) hD hS hA [9, 10, 11, 8, 5, 6, 7] rfl
                refine va_callv (va_runV (As := [.ref g0]) (rest := []) ⟨hx, hb, hml, hown, hts⟩ (k_readEnd l dC dI cI cZ cC cJ H.size adK adV h0 tO so pl bh fa_ sA tl fs g0 gF gK gT gC gM gc eF eC eM ec hopA feF feC feM ) (cwV 1 hts gX2_read_X2_readEnd rfl rfl rfl (by decide +kernel) ⟨Nat.le_of_ble_eq_true rfl, Nat.le_of_ble_eq_true rfl⟩) ⟨tW_blind, va_recv hK hPc (ci := 2) (q0 := 0) rfl rfl, fun U hU hW => ⟨rfl, sPre_ok hsk hPc hDc hU hW, tW_warm hW hU hS (fun q h => hFc q h) htw⟩⟩ rfl rfl hl.1 rfl (lv_room (Nat.le_of_ble_eq_true rfl)) dX2_read_69 ⟨(show 0 + 0 ≤ 0 by omega), (show 0 + 0 ≤ 0 by omega)⟩) hS (fun q _ h => hFc q h) hFc (fun u t H1 locs ht hvm hw hB hz1 hk1 hS => ?_)
                obtain ⟨s_13, p_14, b_15, f_16, e_17, f_18, f_19, f_20⟩ := u
                try dsimp only at hw hB
                obtain ⟨hP1, hD1⟩ := hB
                rw [ht] at hP1
                obtain ⟨hP, hD⟩ := va_join (wr := [(gF, .inl (cI, 40, .inl fgF)), (gK, .inl (cI, 40, .inl fgK)), (gT, .inl (cI, 40, .inl fgT)), (gC, .inl (cI, 40, .inl fgC)), (gM, .inl (cI, 40, .inl fgM))]) (w1 := [(h0, .inr (2, [.ref tO, .int s_13, .int p_14, .int b_15, .int f_16])), (tO, .inr (3, [.ref sA, .int tl])), (sA, .inl (cC, 1600, .inl fs)), (g0, .inr (1, [.ref gF, .ref gK, .ref gT, .ref gC, .ref gM, .int gc, .ref eF, .ref eC, .ref eM, .int e_17, .ref hopA])), (eF, .inl (cI, 10, .inl f_18)), (eC, .inl (cI, 10, .inl f_19)), (eM, .inl (cI, 10, .inl f_20))]) hP hD [9, 10, 11, 8, 5, 6, 7] [0, 1, 2, 3, 4] rfl rfl (by decide) (by decide) hk1 hFc hP1 hD1
                generalize H1 = H at hP hS ⊢
                have hP : va_P (dC, dI) vwCl [(gF, .inl (cI, 40, .inl fgF)), (gK, .inl (cI, 40, .inl fgK)), (gT, .inl (cI, 40, .inl fgT)), (gC, .inl (cI, 40, .inl fgC)), (gM, .inl (cI, 40, .inl fgM)), (h0, .inr (2, [.ref tO, .int s_13, .int p_14, .int b_15, .int f_16])), (tO, .inr (3, [.ref sA, .int tl])), (sA, .inl (cC, 1600, .inl fs)), (g0, .inr (1, [.ref gF, .ref gK, .ref gT, .ref gC, .ref gM, .int gc, .ref eF, .ref eC, .ref eM, .int e_17, .ref hopA])), (eF, .inl (cI, 10, .inl f_18)), (eC, .inl (cI, 10, .inl f_19)), (eM, .inl (cI, 10, .inl f_20))] H := hP
                have hD : va_D A [(gF, .inl (cI, 40, .inl fgF)), (gK, .inl (cI, 40, .inl fgK)), (gT, .inl (cI, 40, .inl fgT)), (gC, .inl (cI, 40, .inl fgC)), (gM, .inl (cI, 40, .inl fgM)), (h0, .inr (2, [.ref tO, .int s_13, .int p_14, .int b_15, .int f_16])), (tO, .inr (3, [.ref sA, .int tl])), (sA, .inl (cC, 1600, .inl fs)), (g0, .inr (1, [.ref gF, .ref gK, .ref gT, .ref gC, .ref gM, .int gc, .ref eF, .ref eC, .ref eM, .int e_17, .ref hopA])), (eF, .inl (cI, 10, .inl f_18)), (eC, .inl (cI, 10, .inl f_19)), (eM, .inl (cI, 10, .inl f_20))] := hD
                refine lv_goto (tgt := 80) hx hb dX2_read_72 (by decide) ?_
                refine lv_iinc (v := (nI (k + 1))) (lv' := [(2, .int (nI (k + 1))), (0, .ref h0), (1, .ref g0)]) hx hb dX2_read_80 hl (k := 0) rfl (nI_1 k) (by decide) rfl (fun ls hl => ?_)
                refine lv_goto (tgt := 20) hx hb dX2_read_83 (by decide) ?_
                exact ih_20  (k + 1) s_13 p_14 b_15 f_16 gc e_17 fgF fgK fgT fgC fgM f_18 f_19 f_20 (by omega) (by omega) _ _ _ (hP.sub [0, 1, 2, 3, 4, 9, 10, 11, 8, 5, 6, 7] rfl) (hD.sub [0, 1, 2, 3, 4, 9, 10, 11, 8, 5, 6, 7] (by decide) rfl) hS (lv_sub hl [0, 1, 2] rfl)
            · skip
              refine lv_aload_n hx hb dX2_read_50 rfl (lv_at hl 1 rfl) ?_
              refine lv_aload_n hx hb dX2_read_51 rfl (lv_at hl 2 rfl) ?_
              have hPc := hP.sub (ws' := [(h0, .inr (2, [.ref tO, .int so, .int pl, .int bh, .int fa_])), (tO, .inr (3, [.ref sA, .int tl])), (sA, .inl (cC, 1600, .inl fs)), (g0, .inr (1, [.ref gF, .ref gK, .ref gT, .ref gC, .ref gM, .int gc, .ref eF, .ref eC, .ref eM, .int ec, .ref hopA])), (gF, .inl (cI, 40, .inl fgF)), (gK, .inl (cI, 40, .inl fgK)), (gT, .inl (cI, 40, .inl fgT)), (gC, .inl (cI, 40, .inl fgC)), (gM, .inl (cI, 40, .inl fgM))]) [9, 10, 11, 8, 0, 1, 2, 3, 4] rfl
              have hDc := hD.sub (ws' := [(h0, .inr (2, [.ref tO, .int so, .int pl, .int bh, .int fa_])), (tO, .inr (3, [.ref sA, .int tl])), (sA, .inl (cC, 1600, .inl fs)), (g0, .inr (1, [.ref gF, .ref gK, .ref gT, .ref gC, .ref gM, .int gc, .ref eF, .ref eC, .ref eM, .int ec, .ref hopA])), (gF, .inl (cI, 40, .inl fgF)), (gK, .inl (cI, 40, .inl fgK)), (gT, .inl (cI, 40, .inl fgT)), (gC, .inl (cI, 40, .inl fgC)), (gM, .inl (cI, 40, .inl fgM))]) [9, 10, 11, 8, 0, 1, 2, 3, 4] (by decide) rfl
              have hFc := va_free (wc := [(h0, .inr (2, [.ref tO, .int so, .int pl, .int bh, .int fa_])), (tO, .inr (3, [.ref sA, .int tl])), (sA, .inl (cC, 1600, .inl fs)), (g0, .inr (1, [.ref gF, .ref gK, .ref gT, .ref gC, .ref gM, .int gc, .ref eF, .ref eC, .ref eM, .int ec, .ref hopA])), (gF, .inl (cI, 40, .inl fgF)), (gK, .inl (cI, 40, .inl fgK)), (gT, .inl (cI, 40, .inl fgT)), (gC, .inl (cI, 40, .inl fgC)), (gM, .inl (cI, 40, .inl fgM))]) hD hS hA [9, 10, 11, 8, 0, 1, 2, 3, 4] rfl
              refine va_callv (va_runV (As := [.ref g0]) (rest := []) ⟨hx, hb, hml, hown, hts⟩ (k_readGo l dC dI cI cZ cC cJ H.size adK adV h0 tO so pl bh fa_ sA tl fs g0 gF gK gT gC gM gc eF eC eM ec hopA fgF fgK fgT fgC fgM ) (cwV 1 hts gX2_read_X2_readGo rfl rfl rfl (by decide +kernel) ⟨Nat.le_of_ble_eq_true rfl, Nat.le_of_ble_eq_true rfl⟩) ⟨tW_blind, va_recv hK hPc (ci := 2) (q0 := 0) rfl rfl, fun U hU hW => ⟨rfl, sPre_ok hsk hPc hDc hU hW, tW_warm hW hU hS (fun q h => hFc q h) htw⟩⟩ rfl rfl hl.1 rfl (lv_room (Nat.le_of_ble_eq_true rfl)) dX2_read_52 ⟨(show 0 + 0 ≤ 0 by omega), (show 0 + 0 ≤ 0 by omega)⟩) hS (fun q _ h => hFc q h) hFc (fun u t H1 locs ht hvm hw hB hz1 hk1 hS => ?_)
              obtain ⟨s_22, p_23, b_24, f_25, g_26, f_27, f_28, f_29, f_30, f_31⟩ := u
              try dsimp only at hw hB
              obtain ⟨hP1, hD1⟩ := hB
              rw [ht] at hP1
              obtain ⟨hP, hD⟩ := va_join (wr := [(eF, .inl (cI, 10, .inl feF)), (eC, .inl (cI, 10, .inl feC)), (eM, .inl (cI, 10, .inl feM))]) (w1 := [(h0, .inr (2, [.ref tO, .int s_22, .int p_23, .int b_24, .int f_25])), (tO, .inr (3, [.ref sA, .int tl])), (sA, .inl (cC, 1600, .inl fs)), (g0, .inr (1, [.ref gF, .ref gK, .ref gT, .ref gC, .ref gM, .int g_26, .ref eF, .ref eC, .ref eM, .int ec, .ref hopA])), (gF, .inl (cI, 40, .inl f_27)), (gK, .inl (cI, 40, .inl f_28)), (gT, .inl (cI, 40, .inl f_29)), (gC, .inl (cI, 40, .inl f_30)), (gM, .inl (cI, 40, .inl f_31))]) hP hD [9, 10, 11, 8, 0, 1, 2, 3, 4] [5, 6, 7] rfl rfl (by decide) (by decide) hk1 hFc hP1 hD1
              generalize H1 = H at hP hS ⊢
              have hP : va_P (dC, dI) vwCl [(eF, .inl (cI, 10, .inl feF)), (eC, .inl (cI, 10, .inl feC)), (eM, .inl (cI, 10, .inl feM)), (h0, .inr (2, [.ref tO, .int s_22, .int p_23, .int b_24, .int f_25])), (tO, .inr (3, [.ref sA, .int tl])), (sA, .inl (cC, 1600, .inl fs)), (g0, .inr (1, [.ref gF, .ref gK, .ref gT, .ref gC, .ref gM, .int g_26, .ref eF, .ref eC, .ref eM, .int ec, .ref hopA])), (gF, .inl (cI, 40, .inl f_27)), (gK, .inl (cI, 40, .inl f_28)), (gT, .inl (cI, 40, .inl f_29)), (gC, .inl (cI, 40, .inl f_30)), (gM, .inl (cI, 40, .inl f_31))] H := hP
              have hD : va_D A [(eF, .inl (cI, 10, .inl feF)), (eC, .inl (cI, 10, .inl feC)), (eM, .inl (cI, 10, .inl feM)), (h0, .inr (2, [.ref tO, .int s_22, .int p_23, .int b_24, .int f_25])), (tO, .inr (3, [.ref sA, .int tl])), (sA, .inl (cC, 1600, .inl fs)), (g0, .inr (1, [.ref gF, .ref gK, .ref gT, .ref gC, .ref gM, .int g_26, .ref eF, .ref eC, .ref eM, .int ec, .ref hopA])), (gF, .inl (cI, 40, .inl f_27)), (gK, .inl (cI, 40, .inl f_28)), (gT, .inl (cI, 40, .inl f_29)), (gC, .inl (cI, 40, .inl f_30)), (gM, .inl (cI, 40, .inl f_31))] := hD
              refine lv_goto (tgt := 80) hx hb dX2_read_55 (by decide) ?_
              refine lv_iinc (v := (nI (k + 1))) (lv' := [(2, .int (nI (k + 1))), (0, .ref h0), (1, .ref g0)]) hx hb dX2_read_80 hl (k := 0) rfl (nI_1 k) (by decide) rfl (fun ls hl => ?_)
              refine lv_goto (tgt := 20) hx hb dX2_read_83 (by decide) ?_
              exact ih_20  (k + 1) s_22 p_23 b_24 f_25 g_26 ec f_27 f_28 f_29 f_30 f_31 feF feC feM (by omega) (by omega) _ _ _ (hP.sub [7, 8, 9, 10, 11, 0, 1, 2, 6, 3, 4, 5] rfl) (hD.sub [7, 8, 9, 10, 11, 0, 1, 2, 6, 3, 4, 5] (by decide) rfl) hS (lv_sub hl [0, 1, 2] rfl)
  exact lp_20 1601 0 s_5 p_6 b_7 0 g_2 e_3 fgF fgK fgT fgC fgM feF feC feM (by omega) (by omega) _ _ _ hP hD hS (lv_sub hl [0, 1, 2] rfl)

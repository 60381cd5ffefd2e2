set_option maxHeartbeats 4000000 in
set_option maxRecDepth 100000 in
theorem k_extend (l : Launch) (dC : Nat → ClassId) (dI : Nat → Nat → Nat) (cI cZ cC cJ : ClassId) (sz : Nat) (h0 : Nat) (bA : Nat) (xA : Nat) (kA : Nat) (aA : Nat) (eA : Nat) (gA : Nat) (oA : Nat) (rd : Int32) (lc : Int32) (sc : Int32) (ln : Int32) (le : Int32) (fb : Nat → Int32) (fx : Nat → Int32) (fq : Nat → Int32) (fa : Nat → Int32) (fe : Nat → Int32) (fg : Nat → Int32) (fo : Nat → Int32) (g0 : Nat) (gF : Nat) (gK : Nat) (gT : Nat) (gC : Nat) (gM : Nat) (gc : Int32) (eF : Nat) (eC : Nat) (eM : Nat) (ec : Int32) (hopA : Nat) (fgF : Nat → Int32) (fgK : Nat → Int32) (fgT : Nat → Int32) (fgC : Nat → Int32) (fgM : Nat → Int32) (feF : Nat → Int32) (feC : Nat → Int32) (feM : Nat → Int32) (p0 : Int32) (p1 : Int32) (hrd : ¬ rd < 0) : Met l yX0_extend wsX0_extend ({ frames := 4, cells := 0, slots := 0, locals := 106 }) (va_Pc [.ref h0, .ref g0, .int p0, .int p1] (sPre dC dI cI cZ cC cJ [(h0, .inr (0, [.ref bA, .ref xA, .ref kA, .ref aA, .ref eA, .ref gA, .ref oA, .int rd, .int lc, .int sc, .int ln, .int le])), (bA, .inl (cI, 1220, .inl fb)), (xA, .inl (cI, 1220, .inl fx)), (kA, .inl (cI, 1220, .inl fq)), (aA, .inl (cI, 1220, .inl fa)), (eA, .inl (cI, 1220, .inl fe)), (gA, .inl (cI, 1220, .inl fg)), (oA, .inl (cI, 20, .inl fo)), (g0, .inr (1, [.ref gF, .ref gK, .ref gT, .ref gC, .ref gM, .int gc, .ref eF, .ref eC, .ref eM, .int ec, .ref hopA])), (gF, .inl (cI, 40, .inl fgF)), (gK, .inl (cI, 40, .inl fgK)), (gT, .inl (cI, 40, .inl fgT)), (gC, .inl (cI, 40, .inl fgC)), (gM, .inl (cI, 40, .inl fgM)), (eF, .inl (cI, 10, .inl feF)), (eC, .inl (cI, 10, .inl feC)), (eM, .inl (cI, 10, .inl feM))] sz)) (va_Qv (fun (u : (Nat → Int32) × (Nat → Int32) × (Nat → Int32) × (Nat → Int32) × (Nat → Int32) × (Nat → Int32) × (Nat → Int32) × (Int32)) => match u with | (fb2, fx2, fa2, fe2, fg2, fo2, fq2, rd2) => (¬ rd2 < 0)) (fun (u : (Nat → Int32) × (Nat → Int32) × (Nat → Int32) × (Nat → Int32) × (Nat → Int32) × (Nat → Int32) × (Nat → Int32) × (Int32)) t => match u with | (fb2, fx2, fa2, fe2, fg2, fo2, fq2, rd2) => sB dC dI (va_A [(h0, .inr (0, [.ref bA, .ref xA, .ref kA, .ref aA, .ref eA, .ref gA, .ref oA, .int rd, .int lc, .int sc, .int ln, .int le])), (bA, .inl (cI, 1220, .inl fb)), (xA, .inl (cI, 1220, .inl fx)), (kA, .inl (cI, 1220, .inl fq)), (aA, .inl (cI, 1220, .inl fa)), (eA, .inl (cI, 1220, .inl fe)), (gA, .inl (cI, 1220, .inl fg)), (oA, .inl (cI, 20, .inl fo)), (g0, .inr (1, [.ref gF, .ref gK, .ref gT, .ref gC, .ref gM, .int gc, .ref eF, .ref eC, .ref eM, .int ec, .ref hopA])), (gF, .inl (cI, 40, .inl fgF)), (gK, .inl (cI, 40, .inl fgK)), (gT, .inl (cI, 40, .inl fgT)), (gC, .inl (cI, 40, .inl fgC)), (gM, .inl (cI, 40, .inl fgM)), (eF, .inl (cI, 10, .inl feF)), (eC, .inl (cI, 10, .inl feC)), (eM, .inl (cI, 10, .inl feM))] sz) [(h0, .inr (0, [.ref bA, .ref xA, .ref kA, .ref aA, .ref eA, .ref gA, .ref oA, .int rd2, .int lc, .int sc, .int ln, .int le])), (bA, .inl (cI, 1220, .inl fb2)), (xA, .inl (cI, 1220, .inl fx2)), (kA, .inl (cI, 1220, .inl fq2)), (aA, .inl (cI, 1220, .inl fa2)), (eA, .inl (cI, 1220, .inl fe2)), (gA, .inl (cI, 1220, .inl fg2)), (oA, .inl (cI, 20, .inl fo2)), (g0, .inr (1, [.ref gF, .ref gK, .ref gT, .ref gC, .ref gM, .int gc, .ref eF, .ref eC, .ref eM, .int ec, .ref hopA])), (gF, .inl (cI, 40, .inl fgF)), (gK, .inl (cI, 40, .inl fgK)), (gT, .inl (cI, 40, .inl fgT)), (gC, .inl (cI, 40, .inl fgC)), (gM, .inl (cI, 40, .inl fgM)), (eF, .inl (cI, 10, .inl feF)), (eC, .inl (cI, 10, .inl feC)), (eM, .inl (cI, 10, .inl feM))] t) (va_A [(h0, .inr (0, [.ref bA, .ref xA, .ref kA, .ref aA, .ref eA, .ref gA, .ref oA, .int rd, .int lc, .int sc, .int ln, .int le])), (bA, .inl (cI, 1220, .inl fb)), (xA, .inl (cI, 1220, .inl fx)), (kA, .inl (cI, 1220, .inl fq)), (aA, .inl (cI, 1220, .inl fa)), (eA, .inl (cI, 1220, .inl fe)), (gA, .inl (cI, 1220, .inl fg)), (oA, .inl (cI, 20, .inl fo)), (g0, .inr (1, [.ref gF, .ref gK, .ref gT, .ref gC, .ref gM, .int gc, .ref eF, .ref eC, .ref eM, .int ec, .ref hopA])), (gF, .inl (cI, 40, .inl fgF)), (gK, .inl (cI, 40, .inl fgK)), (gT, .inl (cI, 40, .inl fgT)), (gC, .inl (cI, 40, .inl fgC)), (gM, .inl (cI, 40, .inl fgM)), (eF, .inl (cI, 10, .inl feF)), (eC, .inl (cI, 10, .inl feC)), (eM, .inl (cI, 10, .inl feM))] sz)) 0 0 (va_A [(h0, .inr (0, [.ref bA, .ref xA, .ref kA, .ref aA, .ref eA, .ref gA, .ref oA, .int rd, .int lc, .int sc, .int ln, .int le])), (bA, .inl (cI, 1220, .inl fb)), (xA, .inl (cI, 1220, .inl fx)), (kA, .inl (cI, 1220, .inl fq)), (aA, .inl (cI, 1220, .inl fa)), (eA, .inl (cI, 1220, .inl fe)), (gA, .inl (cI, 1220, .inl fg)), (oA, .inl (cI, 20, .inl fo)), (g0, .inr (1, [.ref gF, .ref gK, .ref gT, .ref gC, .ref gM, .int gc, .ref eF, .ref eC, .ref eM, .int ec, .ref hopA])), (gF, .inl (cI, 40, .inl fgF)), (gK, .inl (cI, 40, .inl fgK)), (gT, .inl (cI, 40, .inl fgT)), (gC, .inl (cI, 40, .inl fgC)), (gM, .inl (cI, 40, .inl fgM)), (eF, .inl (cI, 10, .inl feF)), (eC, .inl (cI, 10, .inl feC)), (eM, .inl (cI, 10, .inl feM))] sz) := by
  refine Met.ofW (cc := cX0_extend) (maxL := 5) (ret := none) (by decide) rfl ?_
  intro p e s m args below meth c s₁ B hml hv
  obtain ⟨rfl, hsz, hP, hsk, hD0⟩ := hv
  have hx := B.exec
  have hb := B.bytes
  have hr := B.returns
  have hts := atoms_spec (ws := wsX0_extend) B.pre
  have hown : s.vm.findClass RX0 = some m.cls := findClass_of_methodNamed B.named
  have hlocks := B.notSynchronized
  have hK := hsk.1
  have i0 : ∀ w ∈ wsX00, w ∈ wsX0_extend := by decide +kernel
  subst hsz
  have hD := hD0.self (sz := s.heap.size)
  generalize hAe : va_A [(h0, .inr (0, [.ref bA, .ref xA, .ref kA, .ref aA, .ref eA, .ref gA, .ref oA, .int rd, .int lc, .int sc, .int ln, .int le])), (bA, .inl (cI, 1220, .inl fb)), (xA, .inl (cI, 1220, .inl fx)), (kA, .inl (cI, 1220, .inl fq)), (aA, .inl (cI, 1220, .inl fa)), (eA, .inl (cI, 1220, .inl fe)), (gA, .inl (cI, 1220, .inl fg)), (oA, .inl (cI, 20, .inl fo)), (g0, .inr (1, [.ref gF, .ref gK, .ref gT, .ref gC, .ref gM, .int gc, .ref eF, .ref eC, .ref eM, .int ec, .ref hopA])), (gF, .inl (cI, 40, .inl fgF)), (gK, .inl (cI, 40, .inl fgK)), (gT, .inl (cI, 40, .inl fgT)), (gC, .inl (cI, 40, .inl fgC)), (gM, .inl (cI, 40, .inl fgM)), (eF, .inl (cI, 10, .inl feF)), (eC, .inl (cI, 10, .inl feC)), (eM, .inl (cI, 10, .inl feM))] s.heap.size = A at hD ⊢
  have hA : ∀ q : Nat, s.heap.size ≤ q → A q := fun q h => by rw [← hAe]; exact Or.inr h
  have hS : va_S A s.heap s.heap [] := va_S.rf
  have hl := lv_entry ([.ref h0, .ref g0, .int p0, .int p1]) (n := 5) (Nat.le_of_ble_eq_true rfl)
  rw [lg_entry_eq]
  generalize (lg_sl ([.ref h0, .ref g0, .int p0, .int p1]) ++ List.replicate (5 - (lg_sl ([.ref h0, .ref g0, .int p0, .int p1])).length) Slot.unset).toArray = ls at hl ⊢
  have hl : lv_has ls 5 [(0, .ref h0), (1, .ref g0), (2, .int p0), (3, .int p1)] := hl
  refine lv_aload_n hx hb dX0_extend_0 rfl (lv_at hl 0 rfl) ?_
  refine va_get (D := (dC, dI)) (ci := 0) (v := .int rd) (C := RX0) (T := TX0) (N := 12) hx hb hts i0 hown hK hP 0 rfl rfl 7 (by decide) (hts (.fieldLink RX0 47 "StopSetter$Chart" "ready" "I") (by decide +kernel)) (fun _ h9 => h9) rfl dX0_extend_1 ?_
  refine lv_if_lt (tgt := 16) hx hb dX0_extend_4 (by decide) (fun c_4 => ?_) (fun c_4 => ?_)
  · skip
    have hP9 := hP.sub (ws' := [(h0, .inr (0, [.ref bA, .ref xA, .ref kA, .ref aA, .ref eA, .ref gA, .ref oA, .int rd, .int lc, .int sc, .int ln, .int le])), (bA, .inl (cI, 1220, .inl fb)), (xA, .inl (cI, 1220, .inl fx)), (kA, .inl (cI, 1220, .inl fq)), (aA, .inl (cI, 1220, .inl fa)), (eA, .inl (cI, 1220, .inl fe)), (gA, .inl (cI, 1220, .inl fg)), (oA, .inl (cI, 20, .inl fo)), (g0, .inr (1, [.ref gF, .ref gK, .ref gT, .ref gC, .ref gM, .int gc, .ref eF, .ref eC, .ref eM, .int ec, .ref hopA])), (gF, .inl (cI, 40, .inl fgF)), (gK, .inl (cI, 40, .inl fgK)), (gT, .inl (cI, 40, .inl fgT)), (gC, .inl (cI, 40, .inl fgC)), (gM, .inl (cI, 40, .inl fgM)), (eF, .inl (cI, 10, .inl feF)), (eC, .inl (cI, 10, .inl feC)), (eM, .inl (cI, 10, .inl feM))]) [0, 1, 2, 3, 4, 5, 6, 7, 8, 9, 10, 11, 12, 13, 14, 15, 16] rfl
    have hD9 := hD.sub (ws' := [(h0, .inr (0, [.ref bA, .ref xA, .ref kA, .ref aA, .ref eA, .ref gA, .ref oA, .int rd, .int lc, .int sc, .int ln, .int le])), (bA, .inl (cI, 1220, .inl fb)), (xA, .inl (cI, 1220, .inl fx)), (kA, .inl (cI, 1220, .inl fq)), (aA, .inl (cI, 1220, .inl fa)), (eA, .inl (cI, 1220, .inl fe)), (gA, .inl (cI, 1220, .inl fg)), (oA, .inl (cI, 20, .inl fo)), (g0, .inr (1, [.ref gF, .ref gK, .ref gT, .ref gC, .ref gM, .int gc, .ref eF, .ref eC, .ref eM, .int ec, .ref hopA])), (gF, .inl (cI, 40, .inl fgF)), (gK, .inl (cI, 40, .inl fgK)), (gT, .inl (cI, 40, .inl fgT)), (gC, .inl (cI, 40, .inl fgC)), (gM, .inl (cI, 40, .inl fgM)), (eF, .inl (cI, 10, .inl feF)), (eC, .inl (cI, 10, .inl feC)), (eM, .inl (cI, 10, .inl feM))]) [0, 1, 2, 3, 4, 5, 6, 7, 8, 9, 10, 11, 12, 13, 14, 15, 16] (by decide) rfl
    have hens0 : ¬ rd < 0 := (by first | exact hrd | (rw [hrd1]; exact lt_ge0 hrd c_13))
    exact W.vret hx hb hr (fun t ht hW => ⟨⟨(fb, fx, fa, fe, fg, fo, fq, rd), rfl, hens0, by rw [ht]; exact hP9, hD9⟩, hS.F ht⟩) hS.2.2 dX0_extend_16
  · skip
    refine lv_aload_n hx hb dX0_extend_7 rfl (lv_at hl 0 rfl) ?_
    refine va_get (D := (dC, dI)) (ci := 0) (v := .int rd) (C := RX0) (T := TX0) (N := 12) hx hb hts i0 hown hK hP 0 rfl rfl 7 (by decide) (hts (.fieldLink RX0 47 "StopSetter$Chart" "ready" "I") (by decide +kernel)) (fun _ h9 => h9) rfl dX0_extend_8 ?_
    refine lv_bipush (v := 60) hx hb dX0_extend_11 (by decide) ?_
    refine lv_icmp_lt (tgt := 17) hx hb dX0_extend_13 (by decide) (fun c_13 => ?_) (fun c_13 => ?_)
    · skip
      refine lv_iconst (v := 0) hx hb dX0_extend_17 (by decide) ?_
      refine lv_istore (lv' := [(4, .int 0), (0, .ref h0), (1, .ref g0), (2, .int p0), (3, .int p1)]) hx hb dX0_extend_18 hl (by decide) rfl (fun ls hl => ?_)
      have lp_20 : ∀ (n_20 : Nat) (k : Nat) (fb : Nat → Int32) (fx : Nat → Int32), 20 + 1 ≤ k + n_20 → k ≤ 20 → ∀ (H : Heap) (locs : List Loc) (ls : Array Slot), va_P (dC, dI) vwCl [(h0, .inr (0, [.ref bA, .ref xA, .ref kA, .ref aA, .ref eA, .ref gA, .ref oA, .int rd, .int lc, .int sc, .int ln, .int le])), (bA, .inl (cI, 1220, .inl fb)), (xA, .inl (cI, 1220, .inl fx)), (kA, .inl (cI, 1220, .inl fq)), (aA, .inl (cI, 1220, .inl fa)), (eA, .inl (cI, 1220, .inl fe)), (gA, .inl (cI, 1220, .inl fg)), (oA, .inl (cI, 20, .inl fo)), (g0, .inr (1, [.ref gF, .ref gK, .ref gT, .ref gC, .ref gM, .int gc, .ref eF, .ref eC, .ref eM, .int ec, .ref hopA])), (gF, .inl (cI, 40, .inl fgF)), (gK, .inl (cI, 40, .inl fgK)), (gT, .inl (cI, 40, .inl fgT)), (gC, .inl (cI, 40, .inl fgC)), (gM, .inl (cI, 40, .inl fgM)), (eF, .inl (cI, 10, .inl feF)), (eC, .inl (cI, 10, .inl feC)), (eM, .inl (cI, 10, .inl feM))] H → va_D A [(h0, .inr (0, [.ref bA, .ref xA, .ref kA, .ref aA, .ref eA, .ref gA, .ref oA, .int rd, .int lc, .int sc, .int ln, .int le])), (bA, .inl (cI, 1220, .inl fb)), (xA, .inl (cI, 1220, .inl fx)), (kA, .inl (cI, 1220, .inl fq)), (aA, .inl (cI, 1220, .inl fa)), (eA, .inl (cI, 1220, .inl fe)), (gA, .inl (cI, 1220, .inl fg)), (oA, .inl (cI, 20, .inl fo)), (g0, .inr (1, [.ref gF, .ref gK, .ref gT, .ref gC, .ref gM, .int gc, .ref eF, .ref eC, .ref eM, .int ec, .ref hopA])), (gF, .inl (cI, 40, .inl fgF)), (gK, .inl (cI, 40, .inl fgK)), (gT, .inl (cI, 40, .inl fgT)), (gC, .inl (cI, 40, .inl fgC)), (gM, .inl (cI, 40, .inl fgM)), (eF, .inl (cI, 10, .inl feF)), (eC, .inl (cI, 10, .inl feC)), (eM, .inl (cI, 10, .inl feM))] → va_S A s.heap H locs → lv_has ls 5 [(4, .int (nI k)), (0, .ref h0), (1, .ref g0), (2, .int p0), (3, .int p1)] → W p l e (headSpec wsX0_extend ({ frames := 4, cells := 0, slots := 0, locals := 106 })).room s m ([.ref h0, .ref g0, .int p0, .int p1]).toArray below meth c H locs 0 0 (MQ below (va_Qv (fun (u : (Nat → Int32) × (Nat → Int32) × (Nat → Int32) × (Nat → Int32) × (Nat → Int32) × (Nat → Int32) × (Nat → Int32) × (Int32)) => match u with | (fb2, fx2, fa2, fe2, fg2, fo2, fq2, rd2) => (¬ rd2 < 0)) (fun (u : (Nat → Int32) × (Nat → Int32) × (Nat → Int32) × (Nat → Int32) × (Nat → Int32) × (Nat → Int32) × (Nat → Int32) × (Int32)) t => match u with | (fb2, fx2, fa2, fe2, fg2, fo2, fq2, rd2) => sB dC dI A [(h0, .inr (0, [.ref bA, .ref xA, .ref kA, .ref aA, .ref eA, .ref gA, .ref oA, .int rd2, .int lc, .int sc, .int ln, .int le])), (bA, .inl (cI, 1220, .inl fb2)), (xA, .inl (cI, 1220, .inl fx2)), (kA, .inl (cI, 1220, .inl fq2)), (aA, .inl (cI, 1220, .inl fa2)), (eA, .inl (cI, 1220, .inl fe2)), (gA, .inl (cI, 1220, .inl fg2)), (oA, .inl (cI, 20, .inl fo2)), (g0, .inr (1, [.ref gF, .ref gK, .ref gT, .ref gC, .ref gM, .int gc, .ref eF, .ref eC, .ref eM, .int ec, .ref hopA])), (gF, .inl (cI, 40, .inl fgF)), (gK, .inl (cI, 40, .inl fgK)), (gT, .inl (cI, 40, .inl fgT)), (gC, .inl (cI, 40, .inl fgC)), (gM, .inl (cI, 40, .inl fgM)), (eF, .inl (cI, 10, .inl feF)), (eC, .inl (cI, 10, .inl feC)), (eM, .inl (cI, 10, .inl feM))] t) A) ([.ref h0, .ref g0, .int p0, .int p1]).toArray s 0 0 A) (F0 m 20 ls []) := by
        intro n_20
        induction n_20 with
        | zero =>
          intro k fb fx fuel_20 hk_20
          exact absurd fuel_20 (by omega)
        | succ n_20 ih_20 =>
          intro k fb fx fuel_20 hk_20 H locs ls hP hD hS hl
          refine lv_iload hx hb dX0_extend_20 (lv_at hl 0 rfl) ?_
          refine lv_bipush (v := 20) hx hb dX0_extend_22 (by decide) ?_
          refine lv_icmp_ge (tgt := 69) hx hb dX0_extend_24 (by decide) (fun c_24 => ?_) (fun c_24 => ?_)
          · skip
            refine lv_iconst (v := 0) hx hb dX0_extend_69 (by decide) ?_
            refine lv_istore (lv' := [(4, .int 0), (0, .ref h0), (1, .ref g0), (2, .int p0), (3, .int p1)]) hx hb dX0_extend_70 hl (by decide) rfl (fun ls hl => ?_)
            have lp_72 : ∀ (n_72 : Nat) (k : Nat) (fb : Nat → Int32) (fx : Nat → Int32) (fa : Nat → Int32) (fe : Nat → Int32) (fg : Nat → Int32) (fo : Nat → Int32), 20 + 1 ≤ k + n_72 → k ≤ 20 → ∀ (H : Heap) (locs : List Loc) (ls : Array Slot), va_P (dC, dI) vwCl [(h0, .inr (0, [.ref bA, .ref xA, .ref kA, .ref aA, .ref eA, .ref gA, .ref oA, .int rd, .int lc, .int sc, .int ln, .int le])), (bA, .inl (cI, 1220, .inl fb)), (xA, .inl (cI, 1220, .inl fx)), (kA, .inl (cI, 1220, .inl fq)), (aA, .inl (cI, 1220, .inl fa)), (eA, .inl (cI, 1220, .inl fe)), (gA, .inl (cI, 1220, .inl fg)), (oA, .inl (cI, 20, .inl fo)), (g0, .inr (1, [.ref gF, .ref gK, .ref gT, .ref gC, .ref gM, .int gc, .ref eF, .ref eC, .ref eM, .int ec, .ref hopA])), (gF, .inl (cI, 40, .inl fgF)), (gK, .inl (cI, 40, .inl fgK)), (gT, .inl (cI, 40, .inl fgT)), (gC, .inl (cI, 40, .inl fgC)), (gM, .inl (cI, 40, .inl fgM)), (eF, .inl (cI, 10, .inl feF)), (eC, .inl (cI, 10, .inl feC)), (eM, .inl (cI, 10, .inl feM))] H → va_D A [(h0, .inr (0, [.ref bA, .ref xA, .ref kA, .ref aA, .ref eA, .ref gA, .ref oA, .int rd, .int lc, .int sc, .int ln, .int le])), (bA, .inl (cI, 1220, .inl fb)), (xA, .inl (cI, 1220, .inl fx)), (kA, .inl (cI, 1220, .inl fq)), (aA, .inl (cI, 1220, .inl fa)), (eA, .inl (cI, 1220, .inl fe)), (gA, .inl (cI, 1220, .inl fg)), (oA, .inl (cI, 20, .inl fo)), (g0, .inr (1, [.ref gF, .ref gK, .ref gT, .ref gC, .ref gM, .int gc, .ref eF, .ref eC, .ref eM, .int ec, .ref hopA])), (gF, .inl (cI, 40, .inl fgF)), (gK, .inl (cI, 40, .inl fgK)), (gT, .inl (cI, 40, .inl fgT)), (gC, .inl (cI, 40, .inl fgC)), (gM, .inl (cI, 40, .inl fgM)), (eF, .inl (cI, 10, .inl feF)), (eC, .inl (cI, 10, .inl feC)), (eM, .inl (cI, 10, .inl feM))] → va_S A s.heap H locs → lv_has ls 5 [(4, .int (nI k)), (0, .ref h0), (1, .ref g0), (2, .int p0), (3, .int p1)] → W p l e (headSpec wsX0_extend ({ frames := 4, cells := 0, slots := 0, locals := 106 })).room s m ([.ref h0, .ref g0, .int p0, .int p1]).toArray below meth c H locs 0 0 (MQ below (va_Qv (fun (u : (Nat → Int32) × (Nat → Int32) × (Nat → Int32) × (Nat → Int32) × (Nat → Int32) × (Nat → Int32) × (Nat → Int32) × (Int32)) => match u with | (fb2, fx2, fa2, fe2, fg2, fo2, fq2, rd2) => (¬ rd2 < 0)) (fun (u : (Nat → Int32) × (Nat → Int32) × (Nat → Int32) × (Nat → Int32) × (Nat → Int32) × (Nat → Int32) × (Nat → Int32) × (Int32)) t => match u with | (fb2, fx2, fa2, fe2, fg2, fo2, fq2, rd2) => sB dC dI A [(h0, .inr (0, [.ref bA, .ref xA, .ref kA, .ref aA, .ref eA, .ref gA, .ref oA, .int rd2, .int lc, .int sc, .int ln, .int le])), (bA, .inl (cI, 1220, .inl fb2)), (xA, .inl (cI, 1220, .inl fx2)), (kA, .inl (cI, 1220, .inl fq2)), (aA, .inl (cI, 1220, .inl fa2)), (eA, .inl (cI, 1220, .inl fe2)), (gA, .inl (cI, 1220, .inl fg2)), (oA, .inl (cI, 20, .inl fo2)), (g0, .inr (1, [.ref gF, .ref gK, .ref gT, .ref gC, .ref gM, .int gc, .ref eF, .ref eC, .ref eM, .int ec, .ref hopA])), (gF, .inl (cI, 40, .inl fgF)), (gK, .inl (cI, 40, .inl fgK)), (gT, .inl (cI, 40, .inl fgT)), (gC, .inl (cI, 40, .inl fgC)), (gM, .inl (cI, 40, .inl fgM)), (eF, .inl (cI, 10, .inl feF)), (eC, .inl (cI, 10, .inl feC)), (eM, .inl (cI, 10, .inl feM))] t) A) ([.ref h0, .ref g0, .int p0, .int p1]).toArray s 0 0 A) (F0 m 72 ls []) := by
              intro n_72
              induction n_72 with
              | zero =>
                intro k fb fx fa fe fg fo fuel_72 hk_72
                exact absurd fuel_72 (by omega)
              | succ n_72 ih_72 =>
                intro k fb fx fa fe fg fo fuel_72 hk_72 H locs ls hP hD hS hl
                refine lv_iload hx hb dX0_extend_72 (lv_at hl 0 rfl) ?_
                refine lv_bipush (v := 20) hx hb dX0_extend_74 (by decide) ?_
                refine lv_icmp_ge (tgt := 103) hx hb dX0_extend_76 (by decide) (fun c_76 => ?_) (fun c_76 => ?_)
                · skip
                  refine lv_aload_n hx hb dX0_extend_103 rfl (lv_at hl 1 rfl) ?_
                  refine lv_dup hx hb dX0_extend_104 rfl ?_
                  refine va_get (D := (dC, dI)) (ci := 0) (v := .int rd) (C := RX0) (T := TX0) (N := 12) hx hb hts i0 hown hK hP 0 rfl rfl 7 (by decide) (hts (.fieldLink RX0 47 "StopSetter$Chart" "ready" "I") (by decide +kernel)) (fun _ h9 => h9) rfl dX0_extend_105 ?_
                  refine lv_iconst (v := 1) hx hb dX0_extend_108 (by decide) ?_
                  refine lv_iadd hx hb dX0_extend_109 ?_
                  refine lv_topi (fun rd1 hrd1 => ?_)
                  refine va_put (D := (dC, dI)) (ci := 0) (v := .int rd1) (ty := tyX0 7) (C := RX0) (T := TX0) (N := 12) hx hb hts i0 tyX0 tyX0_ok nmX0 hown hK hP hD hS 0 rfl rfl 7 (by decide) (hts (.fieldLink RX0 47 "StopSetter$Chart" "ready" "I") (by decide +kernel)) (fun _ h9 => h9) rfl (by decide +kernel) rfl rfl (Nat.le_of_ble_eq_true rfl) dX0_extend_110 (fun H locs hP hD hS => ?_)
                  have hP : va_P (dC, dI) vwCl [(h0, .inr (0, [.ref bA, .ref xA, .ref kA, .ref aA, .ref eA, .ref gA, .ref oA, .int rd1, .int lc, .int sc, .int ln, .int le])), (bA, .inl (cI, 1220, .inl fb)), (xA, .inl (cI, 1220, .inl fx)), (kA, .inl (cI, 1220, .inl fq)), (aA, .inl (cI, 1220, .inl fa)), (eA, .inl (cI, 1220, .inl fe)), (gA, .inl (cI, 1220, .inl fg)), (oA, .inl (cI, 20, .inl fo)), (g0, .inr (1, [.ref gF, .ref gK, .ref gT, .ref gC, .ref gM, .int gc, .ref eF, .ref eC, .ref eM, .int ec, .ref hopA])), (gF, .inl (cI, 40, .inl fgF)), (gK, .inl (cI, 40, .inl fgK)), (gT, .inl (cI, 40, .inl fgT)), (gC, .inl (cI, 40, .inl fgC)), (gM, .inl (cI, 40, .inl fgM)), (eF, .inl (cI, 10, .inl feF)), (eC, .inl (cI, 10, .inl feC)), (eM, .inl (cI, 10, .inl feM))] H := hP
                  have hD : va_D A [(h0, .inr (0, [.ref bA, .ref xA, .ref kA, .ref aA, .ref eA, .ref gA, .ref oA, .int rd1, .int lc, .int sc, .int ln, .int le])), (bA, .inl (cI, 1220, .inl fb)), (xA, .inl (cI, 1220, .inl fx)), (kA, .inl (cI, 1220, .inl fq)), (aA, .inl (cI, 1220, .inl fa)), (eA, .inl (cI, 1220, .inl fe)), (gA, .inl (cI, 1220, .inl fg)), (oA, .inl (cI, 20, .inl fo)), (g0, .inr (1, [.ref gF, .ref gK, .ref gT, .ref gC, .ref gM, .int gc, .ref eF, .ref eC, .ref eM, .int ec, .ref hopA])), (gF, .inl (cI, 40, .inl fgF)), (gK, .inl (cI, 40, .inl fgK)), (gT, .inl (cI, 40, .inl fgT)), (gC, .inl (cI, 40, .inl fgC)), (gM, .inl (cI, 40, .inl fgM)), (eF, .inl (cI, 10, .inl feF)), (eC, .inl (cI, 10, .inl feC)), (eM, .inl (cI, 10, .inl feM))] := hD
                  refine lv_aload_n hx hb dX0_extend_113 rfl (lv_at hl 1 rfl) ?_
                  have hPc := hP.sub (ws' := [(h0, .inr (0, [.ref bA, .ref xA, .ref kA, .ref aA, .ref eA, .ref gA, .ref oA, .int rd1, .int lc, .int sc, .int ln, .int le])), (bA, .inl (cI, 1220, .inl fb)), (kA, .inl (cI, 1220, .inl fq)), (oA, .inl (cI, 20, .inl fo))]) [0, 1, 3, 7] rfl
                  have hDc := hD.sub (ws' := [(h0, .inr (0, [.ref bA, .ref xA, .ref kA, .ref aA, .ref eA, .ref gA, .ref oA, .int rd1, .int lc, .int sc, .int ln, .int le])), (bA, .inl (cI, 1220, .inl fb)), (kA, .inl (cI, 1220, .inl fq)), (oA, .inl (cI, 20, .inl fo))]) [0, 1, 3, 7] (by decide) rfl
                  have hFc := va_free (wc := [(h0, .inr (0, [.ref bA, .ref xA, .ref kA, .ref aA, .ref eA, .ref gA, .ref oA, .int rd1, .int lc, .int sc, .int ln, .int le])), (bA, .inl (cI, 1220, .inl fb)), (kA, .inl (cI, 1220, .inl fq)), (oA, .inl (cI, 20, .inl fo))]) hD hS hA [0, 1, 3, 7] rfl
                  refine va_callv (va_runV (As := []) (rest := []) ⟨hx, hb, hml, hown, hts⟩ (k_rankLevel l dC dI cI cZ cC cJ H.size  h0 bA xA kA aA eA gA oA rd1 lc sc ln le fb fq fo ) (cwV 0 hts gX0_extend_X0_rankLevel rfl rfl rfl (by decide +kernel) ⟨Nat.le_of_ble_eq_true rfl, Nat.le_of_ble_eq_true rfl⟩) ⟨sPre_blind, va_recv hK hPc (ci := 0) (q0 := 0) rfl rfl, fun U hU hW => ⟨rfl, sPre_ok hsk hPc hDc hU hW⟩⟩ rfl rfl hl.1 rfl (lv_room (Nat.le_of_ble_eq_true rfl)) dX0_extend_114 ⟨(show 0 + 0 ≤ 0 by omega), (show 0 + 0 ≤ 0 by omega)⟩) hS (fun q _ h => hFc q h) hFc (fun u t H1 locs ht hvm hw hB hz1 hk1 hS => ?_)
                  obtain ⟨f_2, rfl⟩ : ∃ z, z = u := ⟨_, rfl⟩
                  try dsimp only at hw hB
                  obtain ⟨hP1, hD1⟩ := hB
                  rw [ht] at hP1
                  obtain ⟨hP, hD⟩ := va_join (wr := [(xA, .inl (cI, 1220, .inl fx)), (aA, .inl (cI, 1220, .inl fa)), (eA, .inl (cI, 1220, .inl fe)), (gA, .inl (cI, 1220, .inl fg)), (g0, .inr (1, [.ref gF, .ref gK, .ref gT, .ref gC, .ref gM, .int gc, .ref eF, .ref eC, .ref eM, .int ec, .ref hopA])), (gF, .inl (cI, 40, .inl fgF)), (gK, .inl (cI, 40, .inl fgK)), (gT, .inl (cI, 40, .inl fgT)), (gC, .inl (cI, 40, .inl fgC)), (gM, .inl (cI, 40, .inl fgM)), (eF, .inl (cI, 10, .inl feF)), (eC, .inl (cI, 10, .inl feC)), (eM, .inl (cI, 10, .inl feM))]) (w1 := [(h0, .inr (0, [.ref bA, .ref xA, .ref kA, .ref aA, .ref eA, .ref gA, .ref oA, .int rd1, .int lc, .int sc, .int ln, .int le])), (bA, .inl (cI, 1220, .inl fb)), (kA, .inl (cI, 1220, .inl f_2)), (oA, .inl (cI, 20, .inl fo))]) hP hD [0, 1, 3, 7] [2, 4, 5, 6, 8, 9, 10, 11, 12, 13, 14, 15, 16] rfl rfl (by decide) (by decide) hk1 hFc hP1 hD1
                  generalize H1 = H at hP hS ⊢
                  have hP : va_P (dC, dI) vwCl [(xA, .inl (cI, 1220, .inl fx)), (aA, .inl (cI, 1220, .inl fa)), (eA, .inl (cI, 1220, .inl fe)), (gA, .inl (cI, 1220, .inl fg)), (g0, .inr (1, [.ref gF, .ref gK, .ref gT, .ref gC, .ref gM, .int gc, .ref eF, .ref eC, .ref eM, .int ec, .ref hopA])), (gF, .inl (cI, 40, .inl fgF)), (gK, .inl (cI, 40, .inl fgK)), (gT, .inl (cI, 40, .inl fgT)), (gC, .inl (cI, 40, .inl fgC)), (gM, .inl (cI, 40, .inl fgM)), (eF, .inl (cI, 10, .inl feF)), (eC, .inl (cI, 10, .inl feC)), (eM, .inl (cI, 10, .inl feM)), (h0, .inr (0, [.ref bA, .ref xA, .ref kA, .ref aA, .ref eA, .ref gA, .ref oA, .int rd1, .int lc, .int sc, .int ln, .int le])), (bA, .inl (cI, 1220, .inl fb)), (kA, .inl (cI, 1220, .inl f_2)), (oA, .inl (cI, 20, .inl fo))] H := hP
                  have hD : va_D A [(xA, .inl (cI, 1220, .inl fx)), (aA, .inl (cI, 1220, .inl fa)), (eA, .inl (cI, 1220, .inl fe)), (gA, .inl (cI, 1220, .inl fg)), (g0, .inr (1, [.ref gF, .ref gK, .ref gT, .ref gC, .ref gM, .int gc, .ref eF, .ref eC, .ref eM, .int ec, .ref hopA])), (gF, .inl (cI, 40, .inl fgF)), (gK, .inl (cI, 40, .inl fgK)), (gT, .inl (cI, 40, .inl fgT)), (gC, .inl (cI, 40, .inl fgC)), (gM, .inl (cI, 40, .inl fgM)), (eF, .inl (cI, 10, .inl feF)), (eC, .inl (cI, 10, .inl feC)), (eM, .inl (cI, 10, .inl feM)), (h0, .inr (0, [.ref bA, .ref xA, .ref kA, .ref aA, .ref eA, .ref gA, .ref oA, .int rd1, .int lc, .int sc, .int ln, .int le])), (bA, .inl (cI, 1220, .inl fb)), (kA, .inl (cI, 1220, .inl f_2)), (oA, .inl (cI, 20, .inl fo))] := hD
                  have hP9 := hP.sub (ws' := [(h0, .inr (0, [.ref bA, .ref xA, .ref kA, .ref aA, .ref eA, .ref gA, .ref oA, .int rd1, .int lc, .int sc, .int ln, .int le])), (bA, .inl (cI, 1220, .inl fb)), (xA, .inl (cI, 1220, .inl fx)), (kA, .inl (cI, 1220, .inl f_2)), (aA, .inl (cI, 1220, .inl fa)), (eA, .inl (cI, 1220, .inl fe)), (gA, .inl (cI, 1220, .inl fg)), (oA, .inl (cI, 20, .inl fo)), (g0, .inr (1, [.ref gF, .ref gK, .ref gT, .ref gC, .ref gM, .int gc, .ref eF, .ref eC, .ref eM, .int ec, .ref hopA])), (gF, .inl (cI, 40, .inl fgF)), (gK, .inl (cI, 40, .inl fgK)), (gT, .inl (cI, 40, .inl fgT)), (gC, .inl (cI, 40, .inl fgC)), (gM, .inl (cI, 40, .inl fgM)), (eF, .inl (cI, 10, .inl feF)), (eC, .inl (cI, 10, .inl feC)), (eM, .inl (cI, 10, .inl feM))]) [13, 14, 0, 15, 1, 2, 3, 16, 4, 5, 6, 7, 8, 9, 10, 11, 12] rfl
                  have hD9 := hD.sub (ws' := [(h0, .inr (0, [.ref bA, .ref xA, .ref kA, .ref aA, .ref eA, .ref gA, .ref oA, .int rd1, .int lc, .int sc, .int ln, .int le])), (bA, .inl (cI, 1220, .inl fb)), (xA, .inl (cI, 1220, .inl fx)), (kA, .inl (cI, 1220, .inl f_2)), (aA, .inl (cI, 1220, .inl fa)), (eA, .inl (cI, 1220, .inl fe)), (gA, .inl (cI, 1220, .inl fg)), (oA, .inl (cI, 20, .inl fo)), (g0, .inr (1, [.ref gF, .ref gK, .ref gT, .ref gC, .ref gM, .int gc, .ref eF, .ref eC, .ref eM, .int ec, .ref hopA])), (gF, .inl (cI, 40, .inl fgF)), (gK, .inl (cI, 40, .inl fgK)), (gT, .inl (cI, 40, .inl fgT)), (gC, .inl (cI, 40, .inl fgC)), (gM, .inl (cI, 40, .inl fgM)), (eF, .inl (cI, 10, .inl feF)), (eC, .inl (cI, 10, .inl feC)), (eM, .inl (cI, 10, .inl feM))]) [13, 14, 0, 15, 1, 2, 3, 16, 4, 5, 6, 7, 8, 9, 10, 11, 12] (by decide) rfl
                  have hens0 : ¬ rd1 < 0 := (by first | exact hrd | (rw [hrd1]; exact lt_ge0 hrd c_13))
                  exact W.vret hx hb hr (fun t ht hW => ⟨⟨(fb, fx, fa, fe, fg, fo, f_2, rd1), rfl, hens0, by rw [ht]; exact hP9, hD9⟩, hS.F ht⟩) hS.2.2 dX0_extend_117
                · skip
                  have hk3_72 : k < 20 := nk_lt (N := 20) rfl c_76 (by omega)
                  refine lv_aload_n hx hb dX0_extend_79 rfl (lv_at hl 1 rfl) ?_
                  refine lv_iload hx hb dX0_extend_80 (lv_at hl 0 rfl) ?_
                  have hPc := hP.sub (ws' := [(h0, .inr (0, [.ref bA, .ref xA, .ref kA, .ref aA, .ref eA, .ref gA, .ref oA, .int rd, .int lc, .int sc, .int ln, .int le])), (bA, .inl (cI, 1220, .inl fb))]) [0, 1] rfl
                  have hDc := hD.sub (ws' := [(h0, .inr (0, [.ref bA, .ref xA, .ref kA, .ref aA, .ref eA, .ref gA, .ref oA, .int rd, .int lc, .int sc, .int ln, .int le])), (bA, .inl (cI, 1220, .inl fb))]) [0, 1] (by decide) rfl
                  have hFc := va_free (wc := [(h0, .inr (0, [.ref bA, .ref xA, .ref kA, .ref aA, .ref eA, .ref gA, .ref oA, .int rd, .int lc, .int sc, .int ln, .int le])), (bA, .inl (cI, 1220, .inl fb))]) hD hS hA [0, 1] rfl
                  refine va_calli (va_runV (As := [.int (nI k)]) (rest := []) ⟨hx, hb, hml, hown, hts⟩ (k_isReached l dC dI cI cZ cC cJ H.size  h0 bA xA kA aA eA gA oA rd lc sc ln le fb (nI k) ) (cwV 1 hts gX0_extend_X0_isReached rfl rfl rfl (by decide +kernel) ⟨Nat.le_of_ble_eq_true rfl, Nat.le_of_ble_eq_true rfl⟩) ⟨sPre_blind, va_recv hK hPc (ci := 0) (q0 := 0) rfl rfl, fun U hU hW => ⟨rfl, sPre_ok hsk hPc hDc hU hW⟩⟩ rfl rfl hl.1 rfl (lv_room (Nat.le_of_ble_eq_true rfl)) dX0_extend_82 ⟨(show 0 + 0 ≤ 0 by omega), (show 0 + 0 ≤ 0 by omega)⟩) hS (fun q _ h => hFc q h) hFc (fun r_3 u t H1 locs ht hvm hw hB hz1 hk1 hS => ?_)
                  try dsimp only at hw hB
                  obtain ⟨hP1, hD1⟩ := hB
                  rw [ht] at hP1
                  obtain ⟨hP, hD⟩ := va_join (wr := [(xA, .inl (cI, 1220, .inl fx)), (kA, .inl (cI, 1220, .inl fq)), (aA, .inl (cI, 1220, .inl fa)), (eA, .inl (cI, 1220, .inl fe)), (gA, .inl (cI, 1220, .inl fg)), (oA, .inl (cI, 20, .inl fo)), (g0, .inr (1, [.ref gF, .ref gK, .ref gT, .ref gC, .ref gM, .int gc, .ref eF, .ref eC, .ref eM, .int ec, .ref hopA])), (gF, .inl (cI, 40, .inl fgF)), (gK, .inl (cI, 40, .inl fgK)), (gT, .inl (cI, 40, .inl fgT)), (gC, .inl (cI, 40, .inl fgC)), (gM, .inl (cI, 40, .inl fgM)), (eF, .inl (cI, 10, .inl feF)), (eC, .inl (cI, 10, .inl feC)), (eM, .inl (cI, 10, .inl feM))]) (w1 := [(h0, .inr (0, [.ref bA, .ref xA, .ref kA, .ref aA, .ref eA, .ref gA, .ref oA, .int rd, .int lc, .int sc, .int ln, .int le])), (bA, .inl (cI, 1220, .inl fb))]) hP hD [0, 1] [2, 3, 4, 5, 6, 7, 8, 9, 10, 11, 12, 13, 14, 15, 16] rfl rfl (by decide) (by decide) hk1 hFc hP1 hD1
                  generalize H1 = H at hP hS ⊢
                  have hP : va_P (dC, dI) vwCl [(xA, .inl (cI, 1220, .inl fx)), (kA, .inl (cI, 1220, .inl fq)), (aA, .inl (cI, 1220, .inl fa)), (eA, .inl (cI, 1220, .inl fe)), (gA, .inl (cI, 1220, .inl fg)), (oA, .inl (cI, 20, .inl fo)), (g0, .inr (1, [.ref gF, .ref gK, .ref gT, .ref gC, .ref gM, .int gc, .ref eF, .ref eC, .ref eM, .int ec, .ref hopA])), (gF, .inl (cI, 40, .inl fgF)), (gK, .inl (cI, 40, .inl fgK)), (gT, .inl (cI, 40, .inl fgT)), (gC, .inl (cI, 40, .inl fgC)), (gM, .inl (cI, 40, .inl fgM)), (eF, .inl (cI, 10, .inl feF)), (eC, .inl (cI, 10, .inl feC)), (eM, .inl (cI, 10, .inl feM)), (h0, .inr (0, [.ref bA, .ref xA, .ref kA, .ref aA, .ref eA, .ref gA, .ref oA, .int rd, .int lc, .int sc, .int ln, .int le])), (bA, .inl (cI, 1220, .inl fb))] H := hP
                  have hD : va_D A [(xA, .inl (cI, 1220, .inl fx)), (kA, .inl (cI, 1220, .inl fq)), (aA, .inl (cI, 1220, .inl fa)), (eA, .inl (cI, 1220, .inl fe)), (gA, .inl (cI, 1220, .inl fg)), (oA, .inl (cI, 20, .inl fo)), (g0, .inr (1, [.ref gF, .ref gK, .ref gT, .ref gC, .ref gM, .int gc, .ref eF, .ref eC, .ref eM, .int ec, .ref hopA])), (gF, .inl (cI, 40, .inl fgF)), (gK, .inl (cI, 40, .inl fgK)), (gT, .inl (cI, 40, .inl fgT)), (gC, .inl (cI, 40, .inl fgC)), (gM, .inl (cI, 40, .inl fgM)), (eF, .inl (cI, 10, .inl feF)), (eC, .inl (cI, 10, .inl feC)), (eM, .inl (cI, 10, .inl feM)), (h0, .inr (0, [.ref bA, .ref xA, .ref kA, .ref aA, .ref eA, .ref gA, .ref oA, .int rd, .int lc, .int sc, .int ln, .int le])), (bA, .inl (cI, 1220, .inl fb))] := hD
                  have hw_r_3 := hw
                  refine lv_if_eq (tgt := 97) hx hb dX0_extend_85 (by decide) (fun c_85 => ?_) (fun c_85 => ?_)
                  · skip
                    refine lv_iinc (v := (nI (k + 1))) (lv' := [(4, .int (nI (k + 1))), (0, .ref h0), (1, .ref g0), (2, .int p0), (3, .int p1)]) hx hb dX0_extend_97 hl (k := 0) rfl (nI_1 k) (by decide) rfl (fun ls hl => ?_)
                    refine lv_goto (tgt := 72) hx hb dX0_extend_100 (by decide) ?_
                    exact ih_72  (k + 1) fb fx fa fe fg fo (by omega) (by omega) _ _ _ (hP.sub [15, 16, 0, 1, 2, 3, 4, 5, 6, 7, 8, 9, 10, 11, 12, 13, 14] rfl) (hD.sub [15, 16, 0, 1, 2, 3, 4, 5, 6, 7, 8, 9, 10, 11, 12, 13, 14] (by decide) rfl) hS (lv_sub hl [0, 1, 2, 3, 4] rfl)
                  · skip
                    refine lv_aload_n hx hb dX0_extend_88 rfl (lv_at hl 1 rfl) ?_
                    refine lv_iload hx hb dX0_extend_89 (lv_at hl 0 rfl) ?_
                    refine lv_aload_n hx hb dX0_extend_91 rfl (lv_at hl 2 rfl) ?_
                    refine lv_iload_n hx hb dX0_extend_92 rfl (lv_at hl 3 rfl) ?_
                    refine lv_iload_n hx hb dX0_extend_93 rfl (lv_at hl 4 rfl) ?_
                    have hPc := hP.sub (ws' := [(h0, .inr (0, [.ref bA, .ref xA, .ref kA, .ref aA, .ref eA, .ref gA, .ref oA, .int rd, .int lc, .int sc, .int ln, .int le])), (bA, .inl (cI, 1220, .inl fb)), (xA, .inl (cI, 1220, .inl fx)), (kA, .inl (cI, 1220, .inl fq)), (aA, .inl (cI, 1220, .inl fa)), (eA, .inl (cI, 1220, .inl fe)), (gA, .inl (cI, 1220, .inl fg)), (oA, .inl (cI, 20, .inl fo)), (g0, .inr (1, [.ref gF, .ref gK, .ref gT, .ref gC, .ref gM, .int gc, .ref eF, .ref eC, .ref eM, .int ec, .ref hopA])), (gF, .inl (cI, 40, .inl fgF)), (gK, .inl (cI, 40, .inl fgK)), (gT, .inl (cI, 40, .inl fgT)), (gC, .inl (cI, 40, .inl fgC)), (gM, .inl (cI, 40, .inl fgM)), (eF, .inl (cI, 10, .inl feF)), (eC, .inl (cI, 10, .inl feC)), (eM, .inl (cI, 10, .inl feM))]) [15, 16, 0, 1, 2, 3, 4, 5, 6, 7, 8, 9, 10, 11, 12, 13, 14] rfl
                    have hDc := hD.sub (ws' := [(h0, .inr (0, [.ref bA, .ref xA, .ref kA, .ref aA, .ref eA, .ref gA, .ref oA, .int rd, .int lc, .int sc, .int ln, .int le])), (bA, .inl (cI, 1220, .inl fb)), (xA, .inl (cI, 1220, .inl fx)), (kA, .inl (cI, 1220, .inl fq)), (aA, .inl (cI, 1220, .inl fa)), (eA, .inl (cI, 1220, .inl fe)), (gA, .inl (cI, 1220, .inl fg)), (oA, .inl (cI, 20, .inl fo)), (g0, .inr (1, [.ref gF, .ref gK, .ref gT, .ref gC, .ref gM, .int gc, .ref eF, .ref eC, .ref eM, .int ec, .ref hopA])), (gF, .inl (cI, 40, .inl fgF)), (gK, .inl (cI, 40, .inl fgK)), (gT, .inl (cI, 40, .inl fgT)), (gC, .inl (cI, 40, .inl fgC)), (gM, .inl (cI, 40, .inl fgM)), (eF, .inl (cI, 10, .inl feF)), (eC, .inl (cI, 10, .inl feC)), (eM, .inl (cI, 10, .inl feM))]) [15, 16, 0, 1, 2, 3, 4, 5, 6, 7, 8, 9, 10, 11, 12, 13, 14] (by decide) rfl
                    have hFc := va_free (wc := [(h0, .inr (0, [.ref bA, .ref xA, .ref kA, .ref aA, .ref eA, .ref gA, .ref oA, .int rd, .int lc, .int sc, .int ln, .int le])), (bA, .inl (cI, 1220, .inl fb)), (xA, .inl (cI, 1220, .inl fx)), (kA, .inl (cI, 1220, .inl fq)), (aA, .inl (cI, 1220, .inl fa)), (eA, .inl (cI, 1220, .inl fe)), (gA, .inl (cI, 1220, .inl fg)), (oA, .inl (cI, 20, .inl fo)), (g0, .inr (1, [.ref gF, .ref gK, .ref gT, .ref gC, .ref gM, .int gc, .ref eF, .ref eC, .ref eM, .int ec, .ref hopA])), (gF, .inl (cI, 40, .inl fgF)), (gK, .inl (cI, 40, .inl fgK)), (gT, .inl (cI, 40, .inl fgT)), (gC, .inl (cI, 40, .inl fgC)), (gM, .inl (cI, 40, .inl fgM)), (eF, .inl (cI, 10, .inl feF)), (eC, .inl (cI, 10, .inl feC)), (eM, .inl (cI, 10, .inl feM))]) hD hS hA [15, 16, 0, 1, 2, 3, 4, 5, 6, 7, 8, 9, 10, 11, 12, 13, 14] rfl
                    refine va_callv (va_runV (As := [.int (nI k), .ref g0, .int p0, .int p1]) (rest := []) ⟨hx, hb, hml, hown, hts⟩ (k_stepFrom l dC dI cI cZ cC cJ H.size  h0 bA xA kA aA eA gA oA rd lc sc ln le fb fx fq fa fe fg fo g0 gF gK gT gC gM gc eF eC eM ec hopA fgF fgK fgT fgC fgM feF feC feM (nI k) p0 p1 ) (cwV 4 hts gX0_extend_X0_stepFrom rfl rfl rfl (by decide +kernel) ⟨Nat.le_of_ble_eq_true rfl, Nat.le_of_ble_eq_true rfl⟩) ⟨sPre_blind, va_recv hK hPc (ci := 0) (q0 := 0) rfl rfl, fun U hU hW => ⟨rfl, sPre_ok hsk hPc hDc hU hW⟩⟩ rfl rfl hl.1 rfl (lv_room (Nat.le_of_ble_eq_true rfl)) dX0_extend_94 ⟨(show 0 + 0 ≤ 0 by omega), (show 0 + 0 ≤ 0 by omega)⟩) hS (fun q _ h => hFc q h) hFc (fun u t H1 locs ht hvm hw hB hz1 hk1 hS => ?_)
                    obtain ⟨f_5, f_6, f_7, f_8, f_9, f_10⟩ := u
                    try dsimp only at hw hB
                    obtain ⟨hP1, hD1⟩ := hB
                    rw [ht] at hP1
                    obtain ⟨hP, hD⟩ := va_join (wr := []) (w1 := [(h0, .inr (0, [.ref bA, .ref xA, .ref kA, .ref aA, .ref eA, .ref gA, .ref oA, .int rd, .int lc, .int sc, .int ln, .int le])), (bA, .inl (cI, 1220, .inl f_5)), (xA, .inl (cI, 1220, .inl f_6)), (kA, .inl (cI, 1220, .inl fq)), (aA, .inl (cI, 1220, .inl f_7)), (eA, .inl (cI, 1220, .inl f_8)), (gA, .inl (cI, 1220, .inl f_9)), (oA, .inl (cI, 20, .inl f_10)), (g0, .inr (1, [.ref gF, .ref gK, .ref gT, .ref gC, .ref gM, .int gc, .ref eF, .ref eC, .ref eM, .int ec, .ref hopA])), (gF, .inl (cI, 40, .inl fgF)), (gK, .inl (cI, 40, .inl fgK)), (gT, .inl (cI, 40, .inl fgT)), (gC, .inl (cI, 40, .inl fgC)), (gM, .inl (cI, 40, .inl fgM)), (eF, .inl (cI, 10, .inl feF)), (eC, .inl (cI, 10, .inl feC)), (eM, .inl (cI, 10, .inl feM))]) hP hD [15, 16, 0, 1, 2, 3, 4, 5, 6, 7, 8, 9, 10, 11, 12, 13, 14] [] rfl rfl (by decide) (by decide) hk1 hFc hP1 hD1
                    generalize H1 = H at hP hS ⊢
                    have hP : va_P (dC, dI) vwCl [(h0, .inr (0, [.ref bA, .ref xA, .ref kA, .ref aA, .ref eA, .ref gA, .ref oA, .int rd, .int lc, .int sc, .int ln, .int le])), (bA, .inl (cI, 1220, .inl f_5)), (xA, .inl (cI, 1220, .inl f_6)), (kA, .inl (cI, 1220, .inl fq)), (aA, .inl (cI, 1220, .inl f_7)), (eA, .inl (cI, 1220, .inl f_8)), (gA, .inl (cI, 1220, .inl f_9)), (oA, .inl (cI, 20, .inl f_10)), (g0, .inr (1, [.ref gF, .ref gK, .ref gT, .ref gC, .ref gM, .int gc, .ref eF, .ref eC, .ref eM, .int ec, .ref hopA])), (gF, .inl (cI, 40, .inl fgF)), (gK, .inl (cI, 40, .inl fgK)), (gT, .inl (cI, 40, .inl fgT)), (gC, .inl (cI, 40, .inl fgC)), (gM, .inl (cI, 40, .inl fgM)), (eF, .inl (cI, 10, .inl feF)), (eC, .inl (cI, 10, .inl feC)), (eM, .inl (cI, 10, .inl feM))] H := hP
                    have hD : va_D A [(h0, .inr (0, [.ref bA, .ref xA, .ref kA, .ref aA, .ref eA, .ref gA, .ref oA, .int rd, .int lc, .int sc, .int ln, .int le])), (bA, .inl (cI, 1220, .inl f_5)), (xA, .inl (cI, 1220, .inl f_6)), (kA, .inl (cI, 1220, .inl fq)), (aA, .inl (cI, 1220, .inl f_7)), (eA, .inl (cI, 1220, .inl f_8)), (gA, .inl (cI, 1220, .inl f_9)), (oA, .inl (cI, 20, .inl f_10)), (g0, .inr (1, [.ref gF, .ref gK, .ref gT, .ref gC, .ref gM, .int gc, .ref eF, .ref eC, .ref eM, .int ec, .ref hopA])), (gF, .inl (cI, 40, .inl fgF)), (gK, .inl (cI, 40, .inl fgK)), (gT, .inl (cI, 40, .inl fgT)), (gC, .inl (cI, 40, .inl fgC)), (gM, .inl (cI, 40, .inl fgM)), (eF, .inl (cI, 10, .inl feF)), (eC, .inl (cI, 10, .inl feC)), (eM, .inl (cI, 10, .inl feM))] := hD
                    refine lv_iinc (v := (nI (k + 1))) (lv' := [(4, .int (nI (k + 1))), (0, .ref h0), (1, .ref g0), (2, .int p0), (3, .int p1)]) hx hb dX0_extend_97 hl (k := 0) rfl (nI_1 k) (by decide) rfl (fun ls hl => ?_)
                    refine lv_goto (tgt := 72) hx hb dX0_extend_100 (by decide) ?_
                    exact ih_72  (k + 1) f_5 f_6 f_7 f_8 f_9 f_10 (by omega) (by omega) _ _ _ hP hD hS (lv_sub hl [0, 1, 2, 3, 4] rfl)
            exact lp_72 21 0 fb fx fa fe fg fo (by omega) (by omega) _ _ _ hP hD hS (lv_sub hl [0, 1, 2, 3, 4] rfl)
          · skip
            have hk3_20 : k < 20 := nk_lt (N := 20) rfl c_24 (by omega)
            refine lv_aload_n hx hb dX0_extend_27 rfl (lv_at hl 1 rfl) ?_
            refine va_get (D := (dC, dI)) (ci := 0) (v := .ref bA) (C := RX0) (T := TX0) (N := 12) hx hb hts i0 hown hK hP 0 rfl rfl 0 (by decide) (hts (.fieldLink RX0 11 "StopSetter$Chart" "best" "[I") (by decide +kernel)) (fun _ h9 => h9) rfl dX0_extend_28 ?_
            refine lv_aload_n hx hb dX0_extend_31 rfl (lv_at hl 1 rfl) ?_
            refine va_get (D := (dC, dI)) (ci := 0) (v := .int rd) (C := RX0) (T := TX0) (N := 12) hx hb hts i0 hown hK hP 0 rfl rfl 7 (by decide) (hts (.fieldLink RX0 47 "StopSetter$Chart" "ready" "I") (by decide +kernel)) (fun _ h9 => h9) rfl dX0_extend_32 ?_
            refine lv_iconst (v := 1) hx hb dX0_extend_35 (by decide) ?_
            refine lv_iadd hx hb dX0_extend_36 ?_
            refine lv_topi (fun v_11 ev_11 => ?_)
            refine lv_iload hx hb dX0_extend_37 (lv_at hl 0 rfl) ?_
            have hPc := hP.sub (ws' := []) [] rfl
            have hDc := hD.sub (ws' := []) [] (by decide) rfl
            have hFc := va_free (wc := []) hD hS hA [] rfl
            refine va_calli (va_runS (As := [.int v_11, .int (nI k)]) (rest := [.ref bA]) ⟨hx, hb, hml, hown, hts⟩ (k_cell l dC dI cI cZ cC cJ H.size  v_11 (nI k) ) (va_cwS 2 hts gX0_extend_X0_cell rfl rfl rfl (by decide +kernel) ⟨Nat.le_of_ble_eq_true rfl, Nat.le_of_ble_eq_true rfl⟩) ⟨sPre_blind, fun U hU hW => ⟨rfl, sPre_ok hsk hPc hDc hU hW⟩⟩ rfl rfl hl.1 rfl (lv_room (Nat.le_of_ble_eq_true rfl)) dX0_extend_39 ⟨(show 0 + 0 ≤ 0 by omega), (show 0 + 0 ≤ 0 by omega)⟩) hS (fun q _ h => hFc q h) hFc (fun r_12 u t H1 locs ht hvm hw hB hz1 hk1 hS => ?_)
            try dsimp only at hw hB
            have hw_13 := hw
            obtain rfl : r_12 = cl v_11 (nI k) := hw_13
            obtain ⟨hP1, hD1⟩ := hB
            rw [ht] at hP1
            obtain ⟨hP, hD⟩ := va_join (wr := [(h0, .inr (0, [.ref bA, .ref xA, .ref kA, .ref aA, .ref eA, .ref gA, .ref oA, .int rd, .int lc, .int sc, .int ln, .int le])), (bA, .inl (cI, 1220, .inl fb)), (xA, .inl (cI, 1220, .inl fx)), (kA, .inl (cI, 1220, .inl fq)), (aA, .inl (cI, 1220, .inl fa)), (eA, .inl (cI, 1220, .inl fe)), (gA, .inl (cI, 1220, .inl fg)), (oA, .inl (cI, 20, .inl fo)), (g0, .inr (1, [.ref gF, .ref gK, .ref gT, .ref gC, .ref gM, .int gc, .ref eF, .ref eC, .ref eM, .int ec, .ref hopA])), (gF, .inl (cI, 40, .inl fgF)), (gK, .inl (cI, 40, .inl fgK)), (gT, .inl (cI, 40, .inl fgT)), (gC, .inl (cI, 40, .inl fgC)), (gM, .inl (cI, 40, .inl fgM)), (eF, .inl (cI, 10, .inl feF)), (eC, .inl (cI, 10, .inl feC)), (eM, .inl (cI, 10, .inl feM))]) (w1 := []) hP hD [] [0, 1, 2, 3, 4, 5, 6, 7, 8, 9, 10, 11, 12, 13, 14, 15, 16] rfl rfl (by decide) (by decide) hk1 hFc hP1 hD1
            generalize H1 = H at hP hS ⊢
            have hP : va_P (dC, dI) vwCl [(h0, .inr (0, [.ref bA, .ref xA, .ref kA, .ref aA, .ref eA, .ref gA, .ref oA, .int rd, .int lc, .int sc, .int ln, .int le])), (bA, .inl (cI, 1220, .inl fb)), (xA, .inl (cI, 1220, .inl fx)), (kA, .inl (cI, 1220, .inl fq)), (aA, .inl (cI, 1220, .inl fa)), (eA, .inl (cI, 1220, .inl fe)), (gA, .inl (cI, 1220, .inl fg)), (oA, .inl (cI, 20, .inl fo)), (g0, .inr (1, [.ref gF, .ref gK, .ref gT, .ref gC, .ref gM, .int gc, .ref eF, .ref eC, .ref eM, .int ec, .ref hopA])), (gF, .inl (cI, 40, .inl fgF)), (gK, .inl (cI, 40, .inl fgK)), (gT, .inl (cI, 40, .inl fgT)), (gC, .inl (cI, 40, .inl fgC)), (gM, .inl (cI, 40, .inl fgM)), (eF, .inl (cI, 10, .inl feF)), (eC, .inl (cI, 10, .inl feC)), (eM, .inl (cI, 10, .inl feM))] H := hP
            have hD : va_D A [(h0, .inr (0, [.ref bA, .ref xA, .ref kA, .ref aA, .ref eA, .ref gA, .ref oA, .int rd, .int lc, .int sc, .int ln, .int le])), (bA, .inl (cI, 1220, .inl fb)), (xA, .inl (cI, 1220, .inl fx)), (kA, .inl (cI, 1220, .inl fq)), (aA, .inl (cI, 1220, .inl fa)), (eA, .inl (cI, 1220, .inl fe)), (gA, .inl (cI, 1220, .inl fg)), (oA, .inl (cI, 20, .inl fo)), (g0, .inr (1, [.ref gF, .ref gK, .ref gT, .ref gC, .ref gM, .int gc, .ref eF, .ref eC, .ref eM, .int ec, .ref hopA])), (gF, .inl (cI, 40, .inl fgF)), (gK, .inl (cI, 40, .inl fgK)), (gT, .inl (cI, 40, .inl fgT)), (gC, .inl (cI, 40, .inl fgC)), (gM, .inl (cI, 40, .inl fgM)), (eF, .inl (cI, 10, .inl feF)), (eC, .inl (cI, 10, .inl feC)), (eM, .inl (cI, 10, .inl feM))] := hD
            refine lv_ldc (v := 1000000000) hx hb hown (hts (.constant RX0 33 (1000000000)) (by decide +kernel)) dX0_extend_42 ?_
            refine va_iast hx hb hK hP hD hS 1 0 rfl rfl (cl_in _ _) dX0_extend_44 (fun H locs hP hD hS => ?_)
            have hP : va_P (dC, dI) vwCl [(h0, .inr (0, [.ref bA, .ref xA, .ref kA, .ref aA, .ref eA, .ref gA, .ref oA, .int rd, .int lc, .int sc, .int ln, .int le])), (bA, .inl (cI, 1220, .inl (upd fb ((cl v_11 (nI k)).toNatClampNeg) 1000000000))), (xA, .inl (cI, 1220, .inl fx)), (kA, .inl (cI, 1220, .inl fq)), (aA, .inl (cI, 1220, .inl fa)), (eA, .inl (cI, 1220, .inl fe)), (gA, .inl (cI, 1220, .inl fg)), (oA, .inl (cI, 20, .inl fo)), (g0, .inr (1, [.ref gF, .ref gK, .ref gT, .ref gC, .ref gM, .int gc, .ref eF, .ref eC, .ref eM, .int ec, .ref hopA])), (gF, .inl (cI, 40, .inl fgF)), (gK, .inl (cI, 40, .inl fgK)), (gT, .inl (cI, 40, .inl fgT)), (gC, .inl (cI, 40, .inl fgC)), (gM, .inl (cI, 40, .inl fgM)), (eF, .inl (cI, 10, .inl feF)), (eC, .inl (cI, 10, .inl feC)), (eM, .inl (cI, 10, .inl feM))] H := hP
            have hD : va_D A [(h0, .inr (0, [.ref bA, .ref xA, .ref kA, .ref aA, .ref eA, .ref gA, .ref oA, .int rd, .int lc, .int sc, .int ln, .int le])), (bA, .inl (cI, 1220, .inl (upd fb ((cl v_11 (nI k)).toNatClampNeg) 1000000000))), (xA, .inl (cI, 1220, .inl fx)), (kA, .inl (cI, 1220, .inl fq)), (aA, .inl (cI, 1220, .inl fa)), (eA, .inl (cI, 1220, .inl fe)), (gA, .inl (cI, 1220, .inl fg)), (oA, .inl (cI, 20, .inl fo)), (g0, .inr (1, [.ref gF, .ref gK, .ref gT, .ref gC, .ref gM, .int gc, .ref eF, .ref eC, .ref eM, .int ec, .ref hopA])), (gF, .inl (cI, 40, .inl fgF)), (gK, .inl (cI, 40, .inl fgK)), (gT, .inl (cI, 40, .inl fgT)), (gC, .inl (cI, 40, .inl fgC)), (gM, .inl (cI, 40, .inl fgM)), (eF, .inl (cI, 10, .inl feF)), (eC, .inl (cI, 10, .inl feC)), (eM, .inl (cI, 10, .inl feM))] := hD
            obtain ⟨f_14, ef_14⟩ : ∃ f9, f9 = (upd fb ((cl v_11 (nI k)).toNatClampNeg) 1000000000) := ⟨_, rfl⟩
            rw [← ef_14] at hP hD
            have hP : va_P (dC, dI) vwCl [(h0, .inr (0, [.ref bA, .ref xA, .ref kA, .ref aA, .ref eA, .ref gA, .ref oA, .int rd, .int lc, .int sc, .int ln, .int le])), (bA, .inl (cI, 1220, .inl f_14)), (xA, .inl (cI, 1220, .inl fx)), (kA, .inl (cI, 1220, .inl fq)), (aA, .inl (cI, 1220, .inl fa)), (eA, .inl (cI, 1220, .inl fe)), (gA, .inl (cI, 1220, .inl fg)), (oA, .inl (cI, 20, .inl fo)), (g0, .inr (1, [.ref gF, .ref gK, .ref gT, .ref gC, .ref gM, .int gc, .ref eF, .ref eC, .ref eM, .int ec, .ref hopA])), (gF, .inl (cI, 40, .inl fgF)), (gK, .inl (cI, 40, .inl fgK)), (gT, .inl (cI, 40, .inl fgT)), (gC, .inl (cI, 40, .inl fgC)), (gM, .inl (cI, 40, .inl fgM)), (eF, .inl (cI, 10, .inl feF)), (eC, .inl (cI, 10, .inl feC)), (eM, .inl (cI, 10, .inl feM))] H := hP
            have hD : va_D A [(h0, .inr (0, [.ref bA, .ref xA, .ref kA, .ref aA, .ref eA, .ref gA, .ref oA, .int rd, .int lc, .int sc, .int ln, .int le])), (bA, .inl (cI, 1220, .inl f_14)), (xA, .inl (cI, 1220, .inl fx)), (kA, .inl (cI, 1220, .inl fq)), (aA, .inl (cI, 1220, .inl fa)), (eA, .inl (cI, 1220, .inl fe)), (gA, .inl (cI, 1220, .inl fg)), (oA, .inl (cI, 20, .inl fo)), (g0, .inr (1, [.ref gF, .ref gK, .ref gT, .ref gC, .ref gM, .int gc, .ref eF, .ref eC, .ref eM, .int ec, .ref hopA])), (gF, .inl (cI, 40, .inl fgF)), (gK, .inl (cI, 40, .inl fgK)), (gT, .inl (cI, 40, .inl fgT)), (gC, .inl (cI, 40, .inl fgC)), (gM, .inl (cI, 40, .inl fgM)), (eF, .inl (cI, 10, .inl feF)), (eC, .inl (cI, 10, .inl feC)), (eM, .inl (cI, 10, .inl feM))] := hD
            refine lv_aload_n hx hb dX0_extend_45 rfl (lv_at hl 1 rfl) ?_
            refine va_get (D := (dC, dI)) (ci := 0) (v := .ref xA) (C := RX0) (T := TX0) (N := 12) hx hb hts i0 hown hK hP 0 rfl rfl 1 (by decide) (hts (.fieldLink RX0 15 "StopSetter$Chart" "next" "[I") (by decide +kernel)) (fun _ h9 => h9) rfl dX0_extend_46 ?_
            refine lv_aload_n hx hb dX0_extend_49 rfl (lv_at hl 1 rfl) ?_
            refine va_get (D := (dC, dI)) (ci := 0) (v := .int rd) (C := RX0) (T := TX0) (N := 12) hx hb hts i0 hown hK hP 0 rfl rfl 7 (by decide) (hts (.fieldLink RX0 47 "StopSetter$Chart" "ready" "I") (by decide +kernel)) (fun _ h9 => h9) rfl dX0_extend_50 ?_
            refine lv_iconst (v := 1) hx hb dX0_extend_53 (by decide) ?_
            refine lv_iadd hx hb dX0_extend_54 ?_
            refine lv_topi (fun v_15 ev_15 => ?_)
            refine lv_iload hx hb dX0_extend_55 (lv_at hl 0 rfl) ?_
            have hPc := hP.sub (ws' := []) [] rfl
            have hDc := hD.sub (ws' := []) [] (by decide) rfl
            have hFc := va_free (wc := []) hD hS hA [] rfl
            refine va_calli (va_runS (As := [.int v_15, .int (nI k)]) (rest := [.ref xA]) ⟨hx, hb, hml, hown, hts⟩ (k_cell l dC dI cI cZ cC cJ H.size  v_15 (nI k) ) (va_cwS 2 hts gX0_extend_X0_cell rfl rfl rfl (by decide +kernel) ⟨Nat.le_of_ble_eq_true rfl, Nat.le_of_ble_eq_true rfl⟩) ⟨sPre_blind, fun U hU hW => ⟨rfl, sPre_ok hsk hPc hDc hU hW⟩⟩ rfl rfl hl.1 rfl (lv_room (Nat.le_of_ble_eq_true rfl)) dX0_extend_57 ⟨(show 0 + 0 ≤ 0 by omega), (show 0 + 0 ≤ 0 by omega)⟩) hS (fun q _ h => hFc q h) hFc (fun r_16 u t H1 locs ht hvm hw hB hz1 hk1 hS => ?_)
            try dsimp only at hw hB
            have hw_17 := hw
            obtain rfl : r_16 = cl v_15 (nI k) := hw_17
            obtain ⟨hP1, hD1⟩ := hB
            rw [ht] at hP1
            obtain ⟨hP, hD⟩ := va_join (wr := [(h0, .inr (0, [.ref bA, .ref xA, .ref kA, .ref aA, .ref eA, .ref gA, .ref oA, .int rd, .int lc, .int sc, .int ln, .int le])), (bA, .inl (cI, 1220, .inl f_14)), (xA, .inl (cI, 1220, .inl fx)), (kA, .inl (cI, 1220, .inl fq)), (aA, .inl (cI, 1220, .inl fa)), (eA, .inl (cI, 1220, .inl fe)), (gA, .inl (cI, 1220, .inl fg)), (oA, .inl (cI, 20, .inl fo)), (g0, .inr (1, [.ref gF, .ref gK, .ref gT, .ref gC, .ref gM, .int gc, .ref eF, .ref eC, .ref eM, .int ec, .ref hopA])), (gF, .inl (cI, 40, .inl fgF)), (gK, .inl (cI, 40, .inl fgK)), (gT, .inl (cI, 40, .inl fgT)), (gC, .inl (cI, 40, .inl fgC)), (gM, .inl (cI, 40, .inl fgM)), (eF, .inl (cI, 10, .inl feF)), (eC, .inl (cI, 10, .inl feC)), (eM, .inl (cI, 10, .inl feM))]) (w1 := []) hP hD [] [0, 1, 2, 3, 4, 5, 6, 7, 8, 9, 10, 11, 12, 13, 14, 15, 16] rfl rfl (by decide) (by decide) hk1 hFc hP1 hD1
            generalize H1 = H at hP hS ⊢
            have hP : va_P (dC, dI) vwCl [(h0, .inr (0, [.ref bA, .ref xA, .ref kA, .ref aA, .ref eA, .ref gA, .ref oA, .int rd, .int lc, .int sc, .int ln, .int le])), (bA, .inl (cI, 1220, .inl f_14)), (xA, .inl (cI, 1220, .inl fx)), (kA, .inl (cI, 1220, .inl fq)), (aA, .inl (cI, 1220, .inl fa)), (eA, .inl (cI, 1220, .inl fe)), (gA, .inl (cI, 1220, .inl fg)), (oA, .inl (cI, 20, .inl fo)), (g0, .inr (1, [.ref gF, .ref gK, .ref gT, .ref gC, .ref gM, .int gc, .ref eF, .ref eC, .ref eM, .int ec, .ref hopA])), (gF, .inl (cI, 40, .inl fgF)), (gK, .inl (cI, 40, .inl fgK)), (gT, .inl (cI, 40, .inl fgT)), (gC, .inl (cI, 40, .inl fgC)), (gM, .inl (cI, 40, .inl fgM)), (eF, .inl (cI, 10, .inl feF)), (eC, .inl (cI, 10, .inl feC)), (eM, .inl (cI, 10, .inl feM))] H := hP
            have hD : va_D A [(h0, .inr (0, [.ref bA, .ref xA, .ref kA, .ref aA, .ref eA, .ref gA, .ref oA, .int rd, .int lc, .int sc, .int ln, .int le])), (bA, .inl (cI, 1220, .inl f_14)), (xA, .inl (cI, 1220, .inl fx)), (kA, .inl (cI, 1220, .inl fq)), (aA, .inl (cI, 1220, .inl fa)), (eA, .inl (cI, 1220, .inl fe)), (gA, .inl (cI, 1220, .inl fg)), (oA, .inl (cI, 20, .inl fo)), (g0, .inr (1, [.ref gF, .ref gK, .ref gT, .ref gC, .ref gM, .int gc, .ref eF, .ref eC, .ref eM, .int ec, .ref hopA])), (gF, .inl (cI, 40, .inl fgF)), (gK, .inl (cI, 40, .inl fgK)), (gT, .inl (cI, 40, .inl fgT)), (gC, .inl (cI, 40, .inl fgC)), (gM, .inl (cI, 40, .inl fgM)), (eF, .inl (cI, 10, .inl feF)), (eC, .inl (cI, 10, .inl feC)), (eM, .inl (cI, 10, .inl feM))] := hD
            refine lv_ldc (v := 1000000000) hx hb hown (hts (.constant RX0 33 (1000000000)) (by decide +kernel)) dX0_extend_60 ?_
            refine va_iast hx hb hK hP hD hS 2 0 rfl rfl (cl_in _ _) dX0_extend_62 (fun H locs hP hD hS => ?_)
            have hP : va_P (dC, dI) vwCl [(h0, .inr (0, [.ref bA, .ref xA, .ref kA, .ref aA, .ref eA, .ref gA, .ref oA, .int rd, .int lc, .int sc, .int ln, .int le])), (bA, .inl (cI, 1220, .inl f_14)), (xA, .inl (cI, 1220, .inl (upd fx ((cl v_15 (nI k)).toNatClampNeg) 1000000000))), (kA, .inl (cI, 1220, .inl fq)), (aA, .inl (cI, 1220, .inl fa)), (eA, .inl (cI, 1220, .inl fe)), (gA, .inl (cI, 1220, .inl fg)), (oA, .inl (cI, 20, .inl fo)), (g0, .inr (1, [.ref gF, .ref gK, .ref gT, .ref gC, .ref gM, .int gc, .ref eF, .ref eC, .ref eM, .int ec, .ref hopA])), (gF, .inl (cI, 40, .inl fgF)), (gK, .inl (cI, 40, .inl fgK)), (gT, .inl (cI, 40, .inl fgT)), (gC, .inl (cI, 40, .inl fgC)), (gM, .inl (cI, 40, .inl fgM)), (eF, .inl (cI, 10, .inl feF)), (eC, .inl (cI, 10, .inl feC)), (eM, .inl (cI, 10, .inl feM))] H := hP
            have hD : va_D A [(h0, .inr (0, [.ref bA, .ref xA, .ref kA, .ref aA, .ref eA, .ref gA, .ref oA, .int rd, .int lc, .int sc, .int ln, .int le])), (bA, .inl (cI, 1220, .inl f_14)), (xA, .inl (cI, 1220, .inl (upd fx ((cl v_15 (nI k)).toNatClampNeg) 1000000000))), (kA, .inl (cI, 1220, .inl fq)), (aA, .inl (cI, 1220, .inl fa)), (eA, .inl (cI, 1220, .inl fe)), (gA, .inl (cI, 1220, .inl fg)), (oA, .inl (cI, 20, .inl fo)), (g0, .inr (1, [.ref gF, .ref gK, .ref gT, .ref gC, .ref gM, .int gc, .ref eF, .ref eC, .ref eM, .int ec, .ref hopA])), (gF, .inl (cI, 40, .inl fgF)), (gK, .inl (cI, 40, .inl fgK)), (gT, .inl (cI, 40, .inl fgT)), (gC, .inl (cI, 40, .inl fgC)), (gM, .inl (cI, 40, .inl fgM)), (eF, .inl (cI, 10, .inl feF)), (eC, .inl (cI, 10, .inl feC)), (eM, .inl (cI, 10, .inl feM))] := hD
            obtain ⟨f_18, ef_18⟩ : ∃ f9, f9 = (upd fx ((cl v_15 (nI k)).toNatClampNeg) 1000000000) := ⟨_, rfl⟩
            rw [← ef_18] at hP hD
            have hP : va_P (dC, dI) vwCl [(h0, .inr (0, [.ref bA, .ref xA, .ref kA, .ref aA, .ref eA, .ref gA, .ref oA, .int rd, .int lc, .int sc, .int ln, .int le])), (bA, .inl (cI, 1220, .inl f_14)), (xA, .inl (cI, 1220, .inl f_18)), (kA, .inl (cI, 1220, .inl fq)), (aA, .inl (cI, 1220, .inl fa)), (eA, .inl (cI, 1220, .inl fe)), (gA, .inl (cI, 1220, .inl fg)), (oA, .inl (cI, 20, .inl fo)), (g0, .inr (1, [.ref gF, .ref gK, .ref gT, .ref gC, .ref gM, .int gc, .ref eF, .ref eC, .ref eM, .int ec, .ref hopA])), (gF, .inl (cI, 40, .inl fgF)), (gK, .inl (cI, 40, .inl fgK)), (gT, .inl (cI, 40, .inl fgT)), (gC, .inl (cI, 40, .inl fgC)), (gM, .inl (cI, 40, .inl fgM)), (eF, .inl (cI, 10, .inl feF)), (eC, .inl (cI, 10, .inl feC)), (eM, .inl (cI, 10, .inl feM))] H := hP
            have hD : va_D A [(h0, .inr (0, [.ref bA, .ref xA, .ref kA, .ref aA, .ref eA, .ref gA, .ref oA, .int rd, .int lc, .int sc, .int ln, .int le])), (bA, .inl (cI, 1220, .inl f_14)), (xA, .inl (cI, 1220, .inl f_18)), (kA, .inl (cI, 1220, .inl fq)), (aA, .inl (cI, 1220, .inl fa)), (eA, .inl (cI, 1220, .inl fe)), (gA, .inl (cI, 1220, .inl fg)), (oA, .inl (cI, 20, .inl fo)), (g0, .inr (1, [.ref gF, .ref gK, .ref gT, .ref gC, .ref gM, .int gc, .ref eF, .ref eC, .ref eM, .int ec, .ref hopA])), (gF, .inl (cI, 40, .inl fgF)), (gK, .inl (cI, 40, .inl fgK)), (gT, .inl (cI, 40, .inl fgT)), (gC, .inl (cI, 40, .inl fgC)), (gM, .inl (cI, 40, .inl fgM)), (eF, .inl (cI, 10, .inl feF)), (eC, .inl (cI, 10, .inl feC)), (eM, .inl (cI, 10, .inl feM))] := hD
            refine lv_iinc (v := (nI (k + 1))) (lv' := [(4, .int (nI (k + 1))), (0, .ref h0), (1, .ref g0), (2, .int p0), (3, .int p1)]) hx hb dX0_extend_63 hl (k := 0) rfl (nI_1 k) (by decide) rfl (fun ls hl => ?_)
            refine lv_goto (tgt := 20) hx hb dX0_extend_66 (by decide) ?_
            exact ih_20  (k + 1) f_14 f_18 (by omega) (by omega) _ _ _ hP hD hS (lv_sub hl [0, 1, 2, 3, 4] rfl)
      exact lp_20 21 0 fb fx (by omega) (by omega) _ _ _ hP hD hS (lv_sub hl [0, 1, 2, 3, 4] rfl)
    · skip
      have hP9 := hP.sub (ws' := [(h0, .inr (0, [.ref bA, .ref xA, .ref kA, .ref aA, .ref eA, .ref gA, .ref oA, .int rd, .int lc, .int sc, .int ln, .int le])), (bA, .inl (cI, 1220, .inl fb)), (xA, .inl (cI, 1220, .inl fx)), (kA, .inl (cI, 1220, .inl fq)), (aA, .inl (cI, 1220, .inl fa)), (eA, .inl (cI, 1220, .inl fe)), (gA, .inl (cI, 1220, .inl fg)), (oA, .inl (cI, 20, .inl fo)), (g0, .inr (1, [.ref gF, .ref gK, .ref gT, .ref gC, .ref gM, .int gc, .ref eF, .ref eC, .ref eM, .int ec, .ref hopA])), (gF, .inl (cI, 40, .inl fgF)), (gK, .inl (cI, 40, .inl fgK)), (gT, .inl (cI, 40, .inl fgT)), (gC, .inl (cI, 40, .inl fgC)), (gM, .inl (cI, 40, .inl fgM)), (eF, .inl (cI, 10, .inl feF)), (eC, .inl (cI, 10, .inl feC)), (eM, .inl (cI, 10, .inl feM))]) [0, 1, 2, 3, 4, 5, 6, 7, 8, 9, 10, 11, 12, 13, 14, 15, 16] rfl
      have hD9 := hD.sub (ws' := [(h0, .inr (0, [.ref bA, .ref xA, .ref kA, .ref aA, .ref eA, .ref gA, .ref oA, .int rd, .int lc, .int sc, .int ln, .int le])), (bA, .inl (cI, 1220, .inl fb)), (xA, .inl (cI, 1220, .inl fx)), (kA, .inl (cI, 1220, .inl fq)), (aA, .inl (cI, 1220, .inl fa)), (eA, .inl (cI, 1220, .inl fe)), (gA, .inl (cI, 1220, .inl fg)), (oA, .inl (cI, 20, .inl fo)), (g0, .inr (1, [.ref gF, .ref gK, .ref gT, .ref gC, .ref gM, .int gc, .ref eF, .ref eC, .ref eM, .int ec, .ref hopA])), (gF, .inl (cI, 40, .inl fgF)), (gK, .inl (cI, 40, .inl fgK)), (gT, .inl (cI, 40, .inl fgT)), (gC, .inl (cI, 40, .inl fgC)), (gM, .inl (cI, 40, .inl fgM)), (eF, .inl (cI, 10, .inl feF)), (eC, .inl (cI, 10, .inl feC)), (eM, .inl (cI, 10, .inl feM))]) [0, 1, 2, 3, 4, 5, 6, 7, 8, 9, 10, 11, 12, 13, 14, 15, 16] (by decide) rfl
      have hens0 : ¬ rd < 0 := (by first | exact hrd | (rw [hrd1]; exact lt_ge0 hrd c_13))
      exact W.vret hx hb hr (fun t ht hW => ⟨⟨(fb, fx, fa, fe, fg, fo, fq, rd), rfl, hens0, by rw [ht]; exact hP9, hD9⟩, hS.F ht⟩) hS.2.2 dX0_extend_16
set_option maxHeartbeats 4000000 in
set_option maxRecDepth 100000 in
theorem k_offerLast (l : Launch) (dC : Nat → ClassId) (dI : Nat → Nat → Nat) (cI cZ cC cJ : ClassId) (sz : Nat) (h0 : Nat) (bA : Nat) (xA : Nat) (kA : Nat) (aA : Nat) (eA : Nat) (gA : Nat) (oA : Nat) (rd : Int32) (lc : Int32) (sc : Int32) (ln : Int32) (le : Int32) (fb : Nat → Int32) (fx : Nat → Int32) (fq : Nat → Int32) (p0 : Int32) (p1 : Int32) (p2 : Int32)  : Met l yX0_offerLast wsX0_offerLast ({ frames := 1, cells := 0, slots := 0, locals := 22 }) (va_Pc [.ref h0, .int p0, .int p1, .int p2] (sPre dC dI cI cZ cC cJ [(h0, .inr (0, [.ref bA, .ref xA, .ref kA, .ref aA, .ref eA, .ref gA, .ref oA, .int rd, .int lc, .int sc, .int ln, .int le])), (bA, .inl (cI, 1220, .inl fb)), (xA, .inl (cI, 1220, .inl fx)), (kA, .inl (cI, 1220, .inl fq))] sz)) (va_Qv (fun (u : (Int32) × (Int32) × (Int32) × (Int32)) => match u with | (lc2, sc2, ln2, le2) => True) (fun (u : (Int32) × (Int32) × (Int32) × (Int32)) t => match u with | (lc2, sc2, ln2, le2) => sB dC dI (va_A [(h0, .inr (0, [.ref bA, .ref xA, .ref kA, .ref aA, .ref eA, .ref gA, .ref oA, .int rd, .int lc, .int sc, .int ln, .int le])), (bA, .inl (cI, 1220, .inl fb)), (xA, .inl (cI, 1220, .inl fx)), (kA, .inl (cI, 1220, .inl fq))] sz) [(h0, .inr (0, [.ref bA, .ref xA, .ref kA, .ref aA, .ref eA, .ref gA, .ref oA, .int rd, .int lc2, .int sc2, .int ln2, .int le2])), (bA, .inl (cI, 1220, .inl fb)), (xA, .inl (cI, 1220, .inl fx)), (kA, .inl (cI, 1220, .inl fq))] t) (va_A [(h0, .inr (0, [.ref bA, .ref xA, .ref kA, .ref aA, .ref eA, .ref gA, .ref oA, .int rd, .int lc, .int sc, .int ln, .int le])), (bA, .inl (cI, 1220, .inl fb)), (xA, .inl (cI, 1220, .inl fx)), (kA, .inl (cI, 1220, .inl fq))] sz)) 0 0 (va_A [(h0, .inr (0, [.ref bA, .ref xA, .ref kA, .ref aA, .ref eA, .ref gA, .ref oA, .int rd, .int lc, .int sc, .int ln, .int le])), (bA, .inl (cI, 1220, .inl fb)), (xA, .inl (cI, 1220, .inl fx)), (kA, .inl (cI, 1220, .inl fq))] sz) := by
  refine Met.ofW (cc := cX0_offerLast) (maxL := 7) (ret := none) (by decide) rfl ?_
  intro p e s m args below meth c s₁ B hml hv
  obtain ⟨rfl, hsz, hP, hsk, hD0⟩ := hv
  have hx := B.exec
  have hb := B.bytes
  have hr := B.returns
  have hts := atoms_spec (ws := wsX0_offerLast) B.pre
  have hown : s.vm.findClass RX0 = some m.cls := findClass_of_methodNamed B.named
  have hlocks := B.notSynchronized
  have hK := hsk.1
  have i0 : ∀ w ∈ wsX00, w ∈ wsX0_offerLast := by decide +kernel
  subst hsz
  have hD := hD0.self (sz := s.heap.size)
  generalize hAe : va_A [(h0, .inr (0, [.ref bA, .ref xA, .ref kA, .ref aA, .ref eA, .ref gA, .ref oA, .int rd, .int lc, .int sc, .int ln, .int le])), (bA, .inl (cI, 1220, .inl fb)), (xA, .inl (cI, 1220, .inl fx)), (kA, .inl (cI, 1220, .inl fq))] s.heap.size = A at hD ⊢
  have hA : ∀ q : Nat, s.heap.size ≤ q → A q := fun q h => by rw [← hAe]; exact Or.inr h
  have hS : va_S A s.heap s.heap [] := va_S.rf
  have hl := lv_entry ([.ref h0, .int p0, .int p1, .int p2]) (n := 7) (Nat.le_of_ble_eq_true rfl)
  rw [lg_entry_eq]
  generalize (lg_sl ([.ref h0, .int p0, .int p1, .int p2]) ++ List.replicate (7 - (lg_sl ([.ref h0, .int p0, .int p1, .int p2])).length) Slot.unset).toArray = ls at hl ⊢
  have hl : lv_has ls 7 [(0, .ref h0), (1, .int p0), (2, .int p1), (3, .int p2)] := hl
  refine lv_aload_n hx hb dX0_offerLast_0 rfl (lv_at hl 0 rfl) ?_
  refine va_get (D := (dC, dI)) (ci := 0) (v := .int rd) (C := RX0) (T := TX0) (N := 12) hx hb hts i0 hown hK hP 0 rfl rfl 7 (by decide) (hts (.fieldLink RX0 47 "StopSetter$Chart" "ready" "I") (by decide +kernel)) (fun _ h9 => h9) rfl dX0_offerLast_1 ?_
  refine lv_iload_n hx hb dX0_offerLast_4 rfl (lv_at hl 1 rfl) ?_
  have hPc := hP.sub (ws' := []) [] rfl
  have hDc := hD.sub (ws' := []) [] (by decide) rfl
  have hFc := va_free (wc := []) hD hS hA [] rfl
  refine va_calli (va_runS (As := [.int rd, .int p0]) (rest := []) ⟨hx, hb, hml, hown, hts⟩ (k_cell l dC dI cI cZ cC cJ s.heap.size  rd p0 ) (va_cwS 2 hts gX0_offerLast_X0_cell rfl rfl rfl (by decide +kernel) ⟨Nat.le_of_ble_eq_true rfl, Nat.le_of_ble_eq_true rfl⟩) ⟨sPre_blind, fun U hU hW => ⟨rfl, sPre_ok hsk hPc hDc hU hW⟩⟩ rfl rfl hl.1 rfl (lv_room (Nat.le_of_ble_eq_true rfl)) dX0_offerLast_5 ⟨(show 0 + 0 ≤ 0 by omega), (show 0 + 0 ≤ 0 by omega)⟩) hS (fun q _ h => hFc q h) hFc (fun r_1 u t H1 locs ht hvm hw hB hz1 hk1 hS => ?_)
  try dsimp only at hw hB
  have hw_2 := hw
  obtain rfl : r_1 = cl rd p0 := hw_2
  obtain ⟨hP1, hD1⟩ := hB
  rw [ht] at hP1
  obtain ⟨hP, hD⟩ := va_join (wr := [(h0, .inr (0, [.ref bA, .ref xA, .ref kA, .ref aA, .ref eA, .ref gA, .ref oA, .int rd, .int lc, .int sc, .int ln, .int le])), (bA, .inl (cI, 1220, .inl fb)), (xA, .inl (cI, 1220, .inl fx)), (kA, .inl (cI, 1220, .inl fq))]) (w1 := []) hP hD [] [0, 1, 2, 3] rfl rfl (by decide) (by decide) hk1 hFc hP1 hD1
  generalize H1 = H at hP hS ⊢
  have hP : va_P (dC, dI) vwCl [(h0, .inr (0, [.ref bA, .ref xA, .ref kA, .ref aA, .ref eA, .ref gA, .ref oA, .int rd, .int lc, .int sc, .int ln, .int le])), (bA, .inl (cI, 1220, .inl fb)), (xA, .inl (cI, 1220, .inl fx)), (kA, .inl (cI, 1220, .inl fq))] H := hP
  have hD : va_D A [(h0, .inr (0, [.ref bA, .ref xA, .ref kA, .ref aA, .ref eA, .ref gA, .ref oA, .int rd, .int lc, .int sc, .int ln, .int le])), (bA, .inl (cI, 1220, .inl fb)), (xA, .inl (cI, 1220, .inl fx)), (kA, .inl (cI, 1220, .inl fq))] := hD
  refine lv_istore (lv' := [(4, .int (cl rd p0)), (0, .ref h0), (1, .int p0), (2, .int p1), (3, .int p2)]) hx hb dX0_offerLast_8 hl (by decide) rfl (fun ls hl => ?_)
  refine lv_aload_n hx hb dX0_offerLast_10 rfl (lv_at hl 1 rfl) ?_
  refine va_get (D := (dC, dI)) (ci := 0) (v := .ref bA) (C := RX0) (T := TX0) (N := 12) hx hb hts i0 hown hK hP 0 rfl rfl 0 (by decide) (hts (.fieldLink RX0 11 "StopSetter$Chart" "best" "[I") (by decide +kernel)) (fun _ h9 => h9) rfl dX0_offerLast_11 ?_
  refine lv_iload hx hb dX0_offerLast_14 (lv_at hl 0 rfl) ?_
  refine va_iald hx hb hK hP 1 0 rfl rfl (cl_in _ _) dX0_offerLast_16 ?_
  refine lv_topi (fun v_3 ev_3 => ?_)
  refine lv_iload_n hx hb dX0_offerLast_17 rfl (lv_at hl 4 rfl) ?_
  refine lv_iadd hx hb dX0_offerLast_18 ?_
  refine lv_topi (fun v_4 ev_4 => ?_)
  refine lv_istore (lv' := [(5, .int v_4), (4, .int (cl rd p0)), (0, .ref h0), (1, .int p0), (2, .int p1), (3, .int p2)]) hx hb dX0_offerLast_19 hl (by decide) rfl (fun ls hl => ?_)
  refine lv_iload hx hb dX0_offerLast_21 (lv_at hl 0 rfl) ?_
  refine lv_aload_n hx hb dX0_offerLast_23 rfl (lv_at hl 2 rfl) ?_
  refine va_get (D := (dC, dI)) (ci := 0) (v := .int lc) (C := RX0) (T := TX0) (N := 12) hx hb hts i0 hown hK hP 0 rfl rfl 8 (by decide) (hts (.fieldLink RX0 34 "StopSetter$Chart" "leastCost" "I") (by decide +kernel)) (fun _ h9 => h9) rfl dX0_offerLast_24 ?_
  refine lv_icmp_ne (tgt := 60) hx hb dX0_offerLast_27 (by decide) (fun c_27 => ?_) (fun c_27 => ?_)
  · skip
    refine lv_iconst (v := 0) hx hb dX0_offerLast_60 (by decide) ?_
    refine lv_istore (lv' := [(6, .int 0), (5, .int v_4), (4, .int (cl rd p0)), (0, .ref h0), (1, .int p0), (2, .int p1), (3, .int p2)]) hx hb dX0_offerLast_61 hl (by decide) rfl (fun ls hl => ?_)
    refine lv_iload hx hb dX0_offerLast_63 (lv_at hl 1 rfl) ?_
    refine lv_aload_n hx hb dX0_offerLast_65 rfl (lv_at hl 3 rfl) ?_
    refine va_get (D := (dC, dI)) (ci := 0) (v := .int lc) (C := RX0) (T := TX0) (N := 12) hx hb hts i0 hown hK hP 0 rfl rfl 8 (by decide) (hts (.fieldLink RX0 34 "StopSetter$Chart" "leastCost" "I") (by decide +kernel)) (fun _ h9 => h9) rfl dX0_offerLast_66 ?_
    refine lv_icmp_lt (tgt := 77) hx hb dX0_offerLast_69 (by decide) (fun c_69 => ?_) (fun c_69 => ?_)
    · skip
      refine lv_aload_n hx hb dX0_offerLast_77 rfl (lv_at hl 3 rfl) ?_
      refine lv_aload_n hx hb dX0_offerLast_78 rfl (lv_at hl 3 rfl) ?_
      refine va_get (D := (dC, dI)) (ci := 0) (v := .int lc) (C := RX0) (T := TX0) (N := 12) hx hb hts i0 hown hK hP 0 rfl rfl 8 (by decide) (hts (.fieldLink RX0 34 "StopSetter$Chart" "leastCost" "I") (by decide +kernel)) (fun _ h9 => h9) rfl dX0_offerLast_79 ?_
      refine va_put (D := (dC, dI)) (ci := 0) (v := .int lc) (ty := tyX0 9) (C := RX0) (T := TX0) (N := 12) hx hb hts i0 tyX0 tyX0_ok nmX0 hown hK hP hD hS 0 rfl rfl 9 (by decide) (hts (.fieldLink RX0 38 "StopSetter$Chart" "secondCost" "I") (by decide +kernel)) (fun _ h9 => h9) rfl (by decide +kernel) rfl rfl (Nat.le_of_ble_eq_true rfl) dX0_offerLast_82 (fun H locs hP hD hS => ?_)
      have hP : va_P (dC, dI) vwCl [(h0, .inr (0, [.ref bA, .ref xA, .ref kA, .ref aA, .ref eA, .ref gA, .ref oA, .int rd, .int lc, .int lc, .int ln, .int le])), (bA, .inl (cI, 1220, .inl fb)), (xA, .inl (cI, 1220, .inl fx)), (kA, .inl (cI, 1220, .inl fq))] H := hP
      have hD : va_D A [(h0, .inr (0, [.ref bA, .ref xA, .ref kA, .ref aA, .ref eA, .ref gA, .ref oA, .int rd, .int lc, .int lc, .int ln, .int le])), (bA, .inl (cI, 1220, .inl fb)), (xA, .inl (cI, 1220, .inl fx)), (kA, .inl (cI, 1220, .inl fq))] := hD
      refine lv_aload_n hx hb dX0_offerLast_85 rfl (lv_at hl 3 rfl) ?_
      refine lv_iload hx hb dX0_offerLast_86 (lv_at hl 1 rfl) ?_
      refine va_put (D := (dC, dI)) (ci := 0) (v := .int v_4) (ty := tyX0 8) (C := RX0) (T := TX0) (N := 12) hx hb hts i0 tyX0 tyX0_ok nmX0 hown hK hP hD hS 0 rfl rfl 8 (by decide) (hts (.fieldLink RX0 34 "StopSetter$Chart" "leastCost" "I") (by decide +kernel)) (fun _ h9 => h9) rfl (by decide +kernel) rfl rfl (Nat.le_of_ble_eq_true rfl) dX0_offerLast_88 (fun H locs hP hD hS => ?_)
      have hP : va_P (dC, dI) vwCl [(h0, .inr (0, [.ref bA, .ref xA, .ref kA, .ref aA, .ref eA, .ref gA, .ref oA, .int rd, .int v_4, .int lc, .int ln, .int le])), (bA, .inl (cI, 1220, .inl fb)), (xA, .inl (cI, 1220, .inl fx)), (kA, .inl (cI, 1220, .inl fq))] H := hP
      have hD : va_D A [(h0, .inr (0, [.ref bA, .ref xA, .ref kA, .ref aA, .ref eA, .ref gA, .ref oA, .int rd, .int v_4, .int lc, .int ln, .int le])), (bA, .inl (cI, 1220, .inl fb)), (xA, .inl (cI, 1220, .inl fx)), (kA, .inl (cI, 1220, .inl fq))] := hD
      refine lv_aload_n hx hb dX0_offerLast_91 rfl (lv_at hl 3 rfl) ?_
      refine lv_iload_n hx hb dX0_offerLast_92 rfl (lv_at hl 4 rfl) ?_
      refine va_put (D := (dC, dI)) (ci := 0) (v := .int p0) (ty := tyX0 10) (C := RX0) (T := TX0) (N := 12) hx hb hts i0 tyX0 tyX0_ok nmX0 hown hK hP hD hS 0 rfl rfl 10 (by decide) (hts (.fieldLink RX0 113 "StopSetter$Chart" "lastNode" "I") (by decide +kernel)) (fun _ h9 => h9) rfl (by decide +kernel) rfl rfl (Nat.le_of_ble_eq_true rfl) dX0_offerLast_93 (fun H locs hP hD hS => ?_)
      have hP : va_P (dC, dI) vwCl [(h0, .inr (0, [.ref bA, .ref xA, .ref kA, .ref aA, .ref eA, .ref gA, .ref oA, .int rd, .int v_4, .int lc, .int p0, .int le])), (bA, .inl (cI, 1220, .inl fb)), (xA, .inl (cI, 1220, .inl fx)), (kA, .inl (cI, 1220, .inl fq))] H := hP
      have hD : va_D A [(h0, .inr (0, [.ref bA, .ref xA, .ref kA, .ref aA, .ref eA, .ref gA, .ref oA, .int rd, .int v_4, .int lc, .int p0, .int le])), (bA, .inl (cI, 1220, .inl fb)), (xA, .inl (cI, 1220, .inl fx)), (kA, .inl (cI, 1220, .inl fq))] := hD
      refine lv_aload_n hx hb dX0_offerLast_96 rfl (lv_at hl 3 rfl) ?_
      refine lv_iload_n hx hb dX0_offerLast_97 rfl (lv_at hl 5 rfl) ?_
      refine va_put (D := (dC, dI)) (ci := 0) (v := .int p1) (ty := tyX0 11) (C := RX0) (T := TX0) (N := 12) hx hb hts i0 tyX0 tyX0_ok nmX0 hown hK hP hD hS 0 rfl rfl 11 (by decide) (hts (.fieldLink RX0 116 "StopSetter$Chart" "lastEnd" "I") (by decide +kernel)) (fun _ h9 => h9) rfl (by decide +kernel) rfl rfl (Nat.le_of_ble_eq_true rfl) dX0_offerLast_98 (fun H locs hP hD hS => ?_)
      have hP : va_P (dC, dI) vwCl [(h0, .inr (0, [.ref bA, .ref xA, .ref kA, .ref aA, .ref eA, .ref gA, .ref oA, .int rd, .int v_4, .int lc, .int p0, .int p1])), (bA, .inl (cI, 1220, .inl fb)), (xA, .inl (cI, 1220, .inl fx)), (kA, .inl (cI, 1220, .inl fq))] H := hP
      have hD : va_D A [(h0, .inr (0, [.ref bA, .ref xA, .ref kA, .ref aA, .ref eA, .ref gA, .ref oA, .int rd, .int v_4, .int lc, .int p0, .int p1])), (bA, .inl (cI, 1220, .inl fb)), (xA, .inl (cI, 1220, .inl fx)), (kA, .inl (cI, 1220, .inl fq))] := hD
      refine lv_goto (tgt := 117) hx hb dX0_offerLast_101 (by decide) ?_
      refine lv_aload_n hx hb dX0_offerLast_117 rfl (lv_at hl 3 rfl) ?_
      refine va_get (D := (dC, dI)) (ci := 0) (v := .ref xA) (C := RX0) (T := TX0) (N := 12) hx hb hts i0 hown hK hP 0 rfl rfl 1 (by decide) (hts (.fieldLink RX0 15 "StopSetter$Chart" "next" "[I") (by decide +kernel)) (fun _ h9 => h9) rfl dX0_offerLast_118 ?_
      refine lv_iload hx hb dX0_offerLast_121 (lv_at hl 2 rfl) ?_
      refine va_iald hx hb hK hP 2 0 rfl rfl (cl_in _ _) dX0_offerLast_123 ?_
      refine lv_topi (fun v_5 ev_5 => ?_)
      refine lv_ldc (v := 1000000000) hx hb hown (hts (.constant RX0 33 (1000000000)) (by decide +kernel)) dX0_offerLast_124 ?_
      refine lv_icmp_ge (tgt := 149) hx hb dX0_offerLast_126 (by decide) (fun c_126 => ?_) (fun c_126 => ?_)
      · skip
        have hP9 := hP.sub (ws' := [(h0, .inr (0, [.ref bA, .ref xA, .ref kA, .ref aA, .ref eA, .ref gA, .ref oA, .int rd, .int v_4, .int lc, .int p0, .int p1])), (bA, .inl (cI, 1220, .inl fb)), (xA, .inl (cI, 1220, .inl fx)), (kA, .inl (cI, 1220, .inl fq))]) [0, 1, 2, 3] rfl
        have hD9 := hD.sub (ws' := [(h0, .inr (0, [.ref bA, .ref xA, .ref kA, .ref aA, .ref eA, .ref gA, .ref oA, .int rd, .int v_4, .int lc, .int p0, .int p1])), (bA, .inl (cI, 1220, .inl fb)), (xA, .inl (cI, 1220, .inl fx)), (kA, .inl (cI, 1220, .inl fq))]) [0, 1, 2, 3] (by decide) rfl
        exact W.vret hx hb hr (fun t ht hW => ⟨⟨(v_4, lc, p0, p1), rfl, trivial, by rw [ht]; exact hP9, hD9⟩, hS.F ht⟩) hS.2.2 dX0_offerLast_149
      · skip
        refine lv_aload_n hx hb dX0_offerLast_129 rfl (lv_at hl 3 rfl) ?_
        refine lv_aload_n hx hb dX0_offerLast_130 rfl (lv_at hl 3 rfl) ?_
        refine va_get (D := (dC, dI)) (ci := 0) (v := .int lc) (C := RX0) (T := TX0) (N := 12) hx hb hts i0 hown hK hP 0 rfl rfl 9 (by decide) (hts (.fieldLink RX0 38 "StopSetter$Chart" "secondCost" "I") (by decide +kernel)) (fun _ h9 => h9) rfl dX0_offerLast_131 ?_
        refine lv_aload_n hx hb dX0_offerLast_134 rfl (lv_at hl 3 rfl) ?_
        refine va_get (D := (dC, dI)) (ci := 0) (v := .ref xA) (C := RX0) (T := TX0) (N := 12) hx hb hts i0 hown hK hP 0 rfl rfl 1 (by decide) (hts (.fieldLink RX0 15 "StopSetter$Chart" "next" "[I") (by decide +kernel)) (fun _ h9 => h9) rfl dX0_offerLast_135 ?_
        refine lv_iload hx hb dX0_offerLast_138 (lv_at hl 2 rfl) ?_
        refine va_iald hx hb hK hP 2 0 rfl rfl (cl_in _ _) dX0_offerLast_140 ?_
        refine lv_topi (fun v_6 ev_6 => ?_)
        refine lv_iload_n hx hb dX0_offerLast_141 rfl (lv_at hl 6 rfl) ?_
        refine lv_iadd hx hb dX0_offerLast_142 ?_
        refine lv_topi (fun v_7 ev_7 => ?_)
        refine va_mmin hx hb (by rw [hml]; exact hl.1.symm) hown (hts (.methodLink RX0 105 Lib.Math.min.name) (by decide +kernel)) (hts (.static Lib.Math.min.name) (by decide +kernel)) (hts (.initialized "java/lang/Math") (by decide +kernel)) (hts (.code Lib.Math.min.name Lib.Math.min.code 2 (some .int)) (by decide +kernel)) (Nat.le_of_ble_eq_true rfl) (Nat.le_of_ble_eq_true rfl) (Nat.le_of_ble_eq_true rfl) (Nat.le_of_ble_eq_true rfl) dX0_offerLast_143 ?_
        refine lv_topi (fun v_8 ev_8 => ?_)
        refine va_put (D := (dC, dI)) (ci := 0) (v := .int v_8) (ty := tyX0 9) (C := RX0) (T := TX0) (N := 12) hx hb hts i0 tyX0 tyX0_ok nmX0 hown hK hP hD hS 0 rfl rfl 9 (by decide) (hts (.fieldLink RX0 38 "StopSetter$Chart" "secondCost" "I") (by decide +kernel)) (fun _ h9 => h9) rfl (by decide +kernel) rfl rfl (Nat.le_of_ble_eq_true rfl) dX0_offerLast_146 (fun H locs hP hD hS => ?_)
        have hP : va_P (dC, dI) vwCl [(h0, .inr (0, [.ref bA, .ref xA, .ref kA, .ref aA, .ref eA, .ref gA, .ref oA, .int rd, .int v_4, .int v_8, .int p0, .int p1])), (bA, .inl (cI, 1220, .inl fb)), (xA, .inl (cI, 1220, .inl fx)), (kA, .inl (cI, 1220, .inl fq))] H := hP
        have hD : va_D A [(h0, .inr (0, [.ref bA, .ref xA, .ref kA, .ref aA, .ref eA, .ref gA, .ref oA, .int rd, .int v_4, .int v_8, .int p0, .int p1])), (bA, .inl (cI, 1220, .inl fb)), (xA, .inl (cI, 1220, .inl fx)), (kA, .inl (cI, 1220, .inl fq))] := hD
        have hP9 := hP.sub (ws' := [(h0, .inr (0, [.ref bA, .ref xA, .ref kA, .ref aA, .ref eA, .ref gA, .ref oA, .int rd, .int v_4, .int v_8, .int p0, .int p1])), (bA, .inl (cI, 1220, .inl fb)), (xA, .inl (cI, 1220, .inl fx)), (kA, .inl (cI, 1220, .inl fq))]) [0, 1, 2, 3] rfl
        have hD9 := hD.sub (ws' := [(h0, .inr (0, [.ref bA, .ref xA, .ref kA, .ref aA, .ref eA, .ref gA, .ref oA, .int rd, .int v_4, .int v_8, .int p0, .int p1])), (bA, .inl (cI, 1220, .inl fb)), (xA, .inl (cI, 1220, .inl fx)), (kA, .inl (cI, 1220, .inl fq))]) [0, 1, 2, 3] (by decide) rfl
        exact W.vret hx hb hr (fun t ht hW => ⟨⟨(v_4, v_8, p0, p1), rfl, trivial, by rw [ht]; exact hP9, hD9⟩, hS.F ht⟩) hS.2.2 dX0_offerLast_149
    · skip
      refine lv_iload hx hb dX0_offerLast_72 (lv_at hl 0 rfl) ?_
      refine lv_if_eq (tgt := 104) hx hb dX0_offerLast_74 (by decide) (fun _ => ?_) (fun h9 => absurd (by decide) h9)
      refine lv_aload_n hx hb dX0_offerLast_104 rfl (lv_at hl 3 rfl) ?_
      refine lv_aload_n hx hb dX0_offerLast_105 rfl (lv_at hl 3 rfl) ?_
      refine va_get (D := (dC, dI)) (ci := 0) (v := .int sc) (C := RX0) (T := TX0) (N := 12) hx hb hts i0 hown hK hP 0 rfl rfl 9 (by decide) (hts (.fieldLink RX0 38 "StopSetter$Chart" "secondCost" "I") (by decide +kernel)) (fun _ h9 => h9) rfl dX0_offerLast_106 ?_
      refine lv_iload hx hb dX0_offerLast_109 (lv_at hl 1 rfl) ?_
      refine va_mmin hx hb (by rw [hml]; exact hl.1.symm) hown (hts (.methodLink RX0 105 Lib.Math.min.name) (by decide +kernel)) (hts (.static Lib.Math.min.name) (by decide +kernel)) (hts (.initialized "java/lang/Math") (by decide +kernel)) (hts (.code Lib.Math.min.name Lib.Math.min.code 2 (some .int)) (by decide +kernel)) (Nat.le_of_ble_eq_true rfl) (Nat.le_of_ble_eq_true rfl) (Nat.le_of_ble_eq_true rfl) (Nat.le_of_ble_eq_true rfl) dX0_offerLast_111 ?_
      refine lv_topi (fun v_9 ev_9 => ?_)
      refine va_put (D := (dC, dI)) (ci := 0) (v := .int v_9) (ty := tyX0 9) (C := RX0) (T := TX0) (N := 12) hx hb hts i0 tyX0 tyX0_ok nmX0 hown hK hP hD hS 0 rfl rfl 9 (by decide) (hts (.fieldLink RX0 38 "StopSetter$Chart" "secondCost" "I") (by decide +kernel)) (fun _ h9 => h9) rfl (by decide +kernel) rfl rfl (Nat.le_of_ble_eq_true rfl) dX0_offerLast_114 (fun H locs hP hD hS => ?_)
      have hP : va_P (dC, dI) vwCl [(h0, .inr (0, [.ref bA, .ref xA, .ref kA, .ref aA, .ref eA, .ref gA, .ref oA, .int rd, .int lc, .int v_9, .int ln, .int le])), (bA, .inl (cI, 1220, .inl fb)), (xA, .inl (cI, 1220, .inl fx)), (kA, .inl (cI, 1220, .inl fq))] H := hP
      have hD : va_D A [(h0, .inr (0, [.ref bA, .ref xA, .ref kA, .ref aA, .ref eA, .ref gA, .ref oA, .int rd, .int lc, .int v_9, .int ln, .int le])), (bA, .inl (cI, 1220, .inl fb)), (xA, .inl (cI, 1220, .inl fx)), (kA, .inl (cI, 1220, .inl fq))] := hD
      refine lv_aload_n hx hb dX0_offerLast_117 rfl (lv_at hl 3 rfl) ?_
      refine va_get (D := (dC, dI)) (ci := 0) (v := .ref xA) (C := RX0) (T := TX0) (N := 12) hx hb hts i0 hown hK hP 0 rfl rfl 1 (by decide) (hts (.fieldLink RX0 15 "StopSetter$Chart" "next" "[I") (by decide +kernel)) (fun _ h9 => h9) rfl dX0_offerLast_118 ?_
      refine lv_iload hx hb dX0_offerLast_121 (lv_at hl 2 rfl) ?_
      refine va_iald hx hb hK hP 2 0 rfl rfl (cl_in _ _) dX0_offerLast_123 ?_
      refine lv_topi (fun v_10 ev_10 => ?_)
      refine lv_ldc (v := 1000000000) hx hb hown (hts (.constant RX0 33 (1000000000)) (by decide +kernel)) dX0_offerLast_124 ?_
      refine lv_icmp_ge (tgt := 149) hx hb dX0_offerLast_126 (by decide) (fun c_126 => ?_) (fun c_126 => ?_)
      · skip
        have hP9 := hP.sub (ws' := [(h0, .inr (0, [.ref bA, .ref xA, .ref kA, .ref aA, .ref eA, .ref gA, .ref oA, .int rd, .int lc, .int v_9, .int ln, .int le])), (bA, .inl (cI, 1220, .inl fb)), (xA, .inl (cI, 1220, .inl fx)), (kA, .inl (cI, 1220, .inl fq))]) [0, 1, 2, 3] rfl
        have hD9 := hD.sub (ws' := [(h0, .inr (0, [.ref bA, .ref xA, .ref kA, .ref aA, .ref eA, .ref gA, .ref oA, .int rd, .int lc, .int v_9, .int ln, .int le])), (bA, .inl (cI, 1220, .inl fb)), (xA, .inl (cI, 1220, .inl fx)), (kA, .inl (cI, 1220, .inl fq))]) [0, 1, 2, 3] (by decide) rfl
        exact W.vret hx hb hr (fun t ht hW => ⟨⟨(lc, v_9, ln, le), rfl, trivial, by rw [ht]; exact hP9, hD9⟩, hS.F ht⟩) hS.2.2 dX0_offerLast_149
      · skip
        refine lv_aload_n hx hb dX0_offerLast_129 rfl (lv_at hl 3 rfl) ?_
        refine lv_aload_n hx hb dX0_offerLast_130 rfl (lv_at hl 3 rfl) ?_
        refine va_get (D := (dC, dI)) (ci := 0) (v := .int v_9) (C := RX0) (T := TX0) (N := 12) hx hb hts i0 hown hK hP 0 rfl rfl 9 (by decide) (hts (.fieldLink RX0 38 "StopSetter$Chart" "secondCost" "I") (by decide +kernel)) (fun _ h9 => h9) rfl dX0_offerLast_131 ?_
        refine lv_aload_n hx hb dX0_offerLast_134 rfl (lv_at hl 3 rfl) ?_
        refine va_get (D := (dC, dI)) (ci := 0) (v := .ref xA) (C := RX0) (T := TX0) (N := 12) hx hb hts i0 hown hK hP 0 rfl rfl 1 (by decide) (hts (.fieldLink RX0 15 "StopSetter$Chart" "next" "[I") (by decide +kernel)) (fun _ h9 => h9) rfl dX0_offerLast_135 ?_
        refine lv_iload hx hb dX0_offerLast_138 (lv_at hl 2 rfl) ?_
        refine va_iald hx hb hK hP 2 0 rfl rfl (cl_in _ _) dX0_offerLast_140 ?_
        refine lv_topi (fun v_11 ev_11 => ?_)
        refine lv_iload_n hx hb dX0_offerLast_141 rfl (lv_at hl 6 rfl) ?_
        refine lv_iadd hx hb dX0_offerLast_142 ?_
        refine lv_topi (fun v_12 ev_12 => ?_)
        refine va_mmin hx hb (by rw [hml]; exact hl.1.symm) hown (hts (.methodLink RX0 105 Lib.Math.min.name) (by decide +kernel)) (hts (.static Lib.Math.min.name) (by decide +kernel)) (hts (.initialized "java/lang/Math") (by decide +kernel)) (hts (.code Lib.Math.min.name Lib.Math.min.code 2 (some .int)) (by decide +kernel)) (Nat.le_of_ble_eq_true rfl) (Nat.le_of_ble_eq_true rfl) (Nat.le_of_ble_eq_true rfl) (Nat.le_of_ble_eq_true rfl) dX0_offerLast_143 ?_
        refine lv_topi (fun v_13 ev_13 => ?_)
        refine va_put (D := (dC, dI)) (ci := 0) (v := .int v_13) (ty := tyX0 9) (C := RX0) (T := TX0) (N := 12) hx hb hts i0 tyX0 tyX0_ok nmX0 hown hK hP hD hS 0 rfl rfl 9 (by decide) (hts (.fieldLink RX0 38 "StopSetter$Chart" "secondCost" "I") (by decide +kernel)) (fun _ h9 => h9) rfl (by decide +kernel) rfl rfl (Nat.le_of_ble_eq_true rfl) dX0_offerLast_146 (fun H locs hP hD hS => ?_)
        have hP : va_P (dC, dI) vwCl [(h0, .inr (0, [.ref bA, .ref xA, .ref kA, .ref aA, .ref eA, .ref gA, .ref oA, .int rd, .int lc, .int v_13, .int ln, .int le])), (bA, .inl (cI, 1220, .inl fb)), (xA, .inl (cI, 1220, .inl fx)), (kA, .inl (cI, 1220, .inl fq))] H := hP
        have hD : va_D A [(h0, .inr (0, [.ref bA, .ref xA, .ref kA, .ref aA, .ref eA, .ref gA, .ref oA, .int rd, .int lc, .int v_13, .int ln, .int le])), (bA, .inl (cI, 1220, .inl fb)), (xA, .inl (cI, 1220, .inl fx)), (kA, .inl (cI, 1220, .inl fq))] := hD
        have hP9 := hP.sub (ws' := [(h0, .inr (0, [.ref bA, .ref xA, .ref kA, .ref aA, .ref eA, .ref gA, .ref oA, .int rd, .int lc, .int v_13, .int ln, .int le])), (bA, .inl (cI, 1220, .inl fb)), (xA, .inl (cI, 1220, .inl fx)), (kA, .inl (cI, 1220, .inl fq))]) [0, 1, 2, 3] rfl
        have hD9 := hD.sub (ws' := [(h0, .inr (0, [.ref bA, .ref xA, .ref kA, .ref aA, .ref eA, .ref gA, .ref oA, .int rd, .int lc, .int v_13, .int ln, .int le])), (bA, .inl (cI, 1220, .inl fb)), (xA, .inl (cI, 1220, .inl fx)), (kA, .inl (cI, 1220, .inl fq))]) [0, 1, 2, 3] (by decide) rfl
        exact W.vret hx hb hr (fun t ht hW => ⟨⟨(lc, v_13, ln, le), rfl, trivial, by rw [ht]; exact hP9, hD9⟩, hS.F ht⟩) hS.2.2 dX0_offerLast_149
  · skip
    refine lv_aload_n hx hb dX0_offerLast_30 rfl (lv_at hl 2 rfl) ?_
    refine va_get (D := (dC, dI)) (ci := 0) (v := .ref kA) (C := RX0) (T := TX0) (N := 12) hx hb hts i0 hown hK hP 0 rfl rfl 2 (by decide) (hts (.fieldLink RX0 18 "StopSetter$Chart" "rank" "[I") (by decide +kernel)) (fun _ h9 => h9) rfl dX0_offerLast_31 ?_
    refine lv_iload hx hb dX0_offerLast_34 (lv_at hl 1 rfl) ?_
    refine va_iald hx hb hK hP 3 0 rfl rfl (cl_in _ _) dX0_offerLast_36 ?_
    refine lv_topi (fun v_14 ev_14 => ?_)
    refine lv_aload_n hx hb dX0_offerLast_37 rfl (lv_at hl 2 rfl) ?_
    refine va_get (D := (dC, dI)) (ci := 0) (v := .ref kA) (C := RX0) (T := TX0) (N := 12) hx hb hts i0 hown hK hP 0 rfl rfl 2 (by decide) (hts (.fieldLink RX0 18 "StopSetter$Chart" "rank" "[I") (by decide +kernel)) (fun _ h9 => h9) rfl dX0_offerLast_38 ?_
    refine lv_aload_n hx hb dX0_offerLast_41 rfl (lv_at hl 2 rfl) ?_
    refine va_get (D := (dC, dI)) (ci := 0) (v := .int rd) (C := RX0) (T := TX0) (N := 12) hx hb hts i0 hown hK hP 0 rfl rfl 7 (by decide) (hts (.fieldLink RX0 47 "StopSetter$Chart" "ready" "I") (by decide +kernel)) (fun _ h9 => h9) rfl dX0_offerLast_42 ?_
    refine lv_aload_n hx hb dX0_offerLast_45 rfl (lv_at hl 2 rfl) ?_
    refine va_get (D := (dC, dI)) (ci := 0) (v := .int ln) (C := RX0) (T := TX0) (N := 12) hx hb hts i0 hown hK hP 0 rfl rfl 10 (by decide) (hts (.fieldLink RX0 113 "StopSetter$Chart" "lastNode" "I") (by decide +kernel)) (fun _ h9 => h9) rfl dX0_offerLast_46 ?_
    have hPc := hP.sub (ws' := []) [] rfl
    have hDc := hD.sub (ws' := []) [] (by decide) rfl
    have hFc := va_free (wc := []) hD hS hA [] rfl
    refine va_calli (va_runS (As := [.int rd, .int ln]) (rest := [.ref kA, .int v_14]) ⟨hx, hb, hml, hown, hts⟩ (k_cell l dC dI cI cZ cC cJ H.size  rd ln ) (va_cwS 2 hts gX0_offerLast_X0_cell rfl rfl rfl (by decide +kernel) ⟨Nat.le_of_ble_eq_true rfl, Nat.le_of_ble_eq_true rfl⟩) ⟨sPre_blind, fun U hU hW => ⟨rfl, sPre_ok hsk hPc hDc hU hW⟩⟩ rfl rfl hl.1 rfl (lv_room (Nat.le_of_ble_eq_true rfl)) dX0_offerLast_49 ⟨(show 0 + 0 ≤ 0 by omega), (show 0 + 0 ≤ 0 by omega)⟩) hS (fun q _ h => hFc q h) hFc (fun r_15 u t H1 locs ht hvm hw hB hz1 hk1 hS => ?_)
    try dsimp only at hw hB
    have hw_16 := hw
    obtain rfl : r_15 = cl rd ln := hw_16
    obtain ⟨hP1, hD1⟩ := hB
    rw [ht] at hP1
    obtain ⟨hP, hD⟩ := va_join (wr := [(h0, .inr (0, [.ref bA, .ref xA, .ref kA, .ref aA, .ref eA, .ref gA, .ref oA, .int rd, .int lc, .int sc, .int ln, .int le])), (bA, .inl (cI, 1220, .inl fb)), (xA, .inl (cI, 1220, .inl fx)), (kA, .inl (cI, 1220, .inl fq))]) (w1 := []) hP hD [] [0, 1, 2, 3] rfl rfl (by decide) (by decide) hk1 hFc hP1 hD1
    generalize H1 = H at hP hS ⊢
    have hP : va_P (dC, dI) vwCl [(h0, .inr (0, [.ref bA, .ref xA, .ref kA, .ref aA, .ref eA, .ref gA, .ref oA, .int rd, .int lc, .int sc, .int ln, .int le])), (bA, .inl (cI, 1220, .inl fb)), (xA, .inl (cI, 1220, .inl fx)), (kA, .inl (cI, 1220, .inl fq))] H := hP
    have hD : va_D A [(h0, .inr (0, [.ref bA, .ref xA, .ref kA, .ref aA, .ref eA, .ref gA, .ref oA, .int rd, .int lc, .int sc, .int ln, .int le])), (bA, .inl (cI, 1220, .inl fb)), (xA, .inl (cI, 1220, .inl fx)), (kA, .inl (cI, 1220, .inl fq))] := hD
    refine va_iald hx hb hK hP 3 0 rfl rfl (cl_in _ _) dX0_offerLast_52 ?_
    refine lv_topi (fun v_17 ev_17 => ?_)
    refine lv_icmp_ge (tgt := 60) hx hb dX0_offerLast_53 (by decide) (fun c_53 => ?_) (fun c_53 => ?_)
    · skip
      refine lv_iconst (v := 0) hx hb dX0_offerLast_60 (by decide) ?_
      refine lv_istore (lv' := [(6, .int 0), (5, .int v_4), (4, .int (cl rd p0)), (0, .ref h0), (1, .int p0), (2, .int p1), (3, .int p2)]) hx hb dX0_offerLast_61 hl (by decide) rfl (fun ls hl => ?_)
      refine lv_iload hx hb dX0_offerLast_63 (lv_at hl 1 rfl) ?_
      refine lv_aload_n hx hb dX0_offerLast_65 rfl (lv_at hl 3 rfl) ?_
      refine va_get (D := (dC, dI)) (ci := 0) (v := .int lc) (C := RX0) (T := TX0) (N := 12) hx hb hts i0 hown hK hP 0 rfl rfl 8 (by decide) (hts (.fieldLink RX0 34 "StopSetter$Chart" "leastCost" "I") (by decide +kernel)) (fun _ h9 => h9) rfl dX0_offerLast_66 ?_
      refine lv_icmp_lt (tgt := 77) hx hb dX0_offerLast_69 (by decide) (fun c_69 => ?_) (fun c_69 => ?_)
      · skip
        refine lv_aload_n hx hb dX0_offerLast_77 rfl (lv_at hl 3 rfl) ?_
        refine lv_aload_n hx hb dX0_offerLast_78 rfl (lv_at hl 3 rfl) ?_
        refine va_get (D := (dC, dI)) (ci := 0) (v := .int lc) (C := RX0) (T := TX0) (N := 12) hx hb hts i0 hown hK hP 0 rfl rfl 8 (by decide) (hts (.fieldLink RX0 34 "StopSetter$Chart" "leastCost" "I") (by decide +kernel)) (fun _ h9 => h9) rfl dX0_offerLast_79 ?_
        refine va_put (D := (dC, dI)) (ci := 0) (v := .int lc) (ty := tyX0 9) (C := RX0) (T := TX0) (N := 12) hx hb hts i0 tyX0 tyX0_ok nmX0 hown hK hP hD hS 0 rfl rfl 9 (by decide) (hts (.fieldLink RX0 38 "StopSetter$Chart" "secondCost" "I") (by decide +kernel)) (fun _ h9 => h9) rfl (by decide +kernel) rfl rfl (Nat.le_of_ble_eq_true rfl) dX0_offerLast_82 (fun H locs hP hD hS => ?_)
        have hP : va_P (dC, dI) vwCl [(h0, .inr (0, [.ref bA, .ref xA, .ref kA, .ref aA, .ref eA, .ref gA, .ref oA, .int rd, .int lc, .int lc, .int ln, .int le])), (bA, .inl (cI, 1220, .inl fb)), (xA, .inl (cI, 1220, .inl fx)), (kA, .inl (cI, 1220, .inl fq))] H := hP
        have hD : va_D A [(h0, .inr (0, [.ref bA, .ref xA, .ref kA, .ref aA, .ref eA, .ref gA, .ref oA, .int rd, .int lc, .int lc, .int ln, .int le])), (bA, .inl (cI, 1220, .inl fb)), (xA, .inl (cI, 1220, .inl fx)), (kA, .inl (cI, 1220, .inl fq))] := hD
        refine lv_aload_n hx hb dX0_offerLast_85 rfl (lv_at hl 3 rfl) ?_
        refine lv_iload hx hb dX0_offerLast_86 (lv_at hl 1 rfl) ?_
        refine va_put (D := (dC, dI)) (ci := 0) (v := .int v_4) (ty := tyX0 8) (C := RX0) (T := TX0) (N := 12) hx hb hts i0 tyX0 tyX0_ok nmX0 hown hK hP hD hS 0 rfl rfl 8 (by decide) (hts (.fieldLink RX0 34 "StopSetter$Chart" "leastCost" "I") (by decide +kernel)) (fun _ h9 => h9) rfl (by decide +kernel) rfl rfl (Nat.le_of_ble_eq_true rfl) dX0_offerLast_88 (fun H locs hP hD hS => ?_)
        have hP : va_P (dC, dI) vwCl [(h0, .inr (0, [.ref bA, .ref xA, .ref kA, .ref aA, .ref eA, .ref gA, .ref oA, .int rd, .int v_4, .int lc, .int ln, .int le])), (bA, .inl (cI, 1220, .inl fb)), (xA, .inl (cI, 1220, .inl fx)), (kA, .inl (cI, 1220, .inl fq))] H := hP
        have hD : va_D A [(h0, .inr (0, [.ref bA, .ref xA, .ref kA, .ref aA, .ref eA, .ref gA, .ref oA, .int rd, .int v_4, .int lc, .int ln, .int le])), (bA, .inl (cI, 1220, .inl fb)), (xA, .inl (cI, 1220, .inl fx)), (kA, .inl (cI, 1220, .inl fq))] := hD
        refine lv_aload_n hx hb dX0_offerLast_91 rfl (lv_at hl 3 rfl) ?_
        refine lv_iload_n hx hb dX0_offerLast_92 rfl (lv_at hl 4 rfl) ?_
        refine va_put (D := (dC, dI)) (ci := 0) (v := .int p0) (ty := tyX0 10) (C := RX0) (T := TX0) (N := 12) hx hb hts i0 tyX0 tyX0_ok nmX0 hown hK hP hD hS 0 rfl rfl 10 (by decide) (hts (.fieldLink RX0 113 "StopSetter$Chart" "lastNode" "I") (by decide +kernel)) (fun _ h9 => h9) rfl (by decide +kernel) rfl rfl (Nat.le_of_ble_eq_true rfl) dX0_offerLast_93 (fun H locs hP hD hS => ?_)
        have hP : va_P (dC, dI) vwCl [(h0, .inr (0, [.ref bA, .ref xA, .ref kA, .ref aA, .ref eA, .ref gA, .ref oA, .int rd, .int v_4, .int lc, .int p0, .int le])), (bA, .inl (cI, 1220, .inl fb)), (xA, .inl (cI, 1220, .inl fx)), (kA, .inl (cI, 1220, .inl fq))] H := hP
        have hD : va_D A [(h0, .inr (0, [.ref bA, .ref xA, .ref kA, .ref aA, .ref eA, .ref gA, .ref oA, .int rd, .int v_4, .int lc, .int p0, .int le])), (bA, .inl (cI, 1220, .inl fb)), (xA, .inl (cI, 1220, .inl fx)), (kA, .inl (cI, 1220, .inl fq))] := hD
        refine lv_aload_n hx hb dX0_offerLast_96 rfl (lv_at hl 3 rfl) ?_
        refine lv_iload_n hx hb dX0_offerLast_97 rfl (lv_at hl 5 rfl) ?_
        refine va_put (D := (dC, dI)) (ci := 0) (v := .int p1) (ty := tyX0 11) (C := RX0) (T := TX0) (N := 12) hx hb hts i0 tyX0 tyX0_ok nmX0 hown hK hP hD hS 0 rfl rfl 11 (by decide) (hts (.fieldLink RX0 116 "StopSetter$Chart" "lastEnd" "I") (by decide +kernel)) (fun _ h9 => h9) rfl (by decide +kernel) rfl rfl (Nat.le_of_ble_eq_true rfl) dX0_offerLast_98 (fun H locs hP hD hS => ?_)
        have hP : va_P (dC, dI) vwCl [(h0, .inr (0, [.ref bA, .ref xA, .ref kA, .ref aA, .ref eA, .ref gA, .ref oA, .int rd, .int v_4, .int lc, .int p0, .int p1])), (bA, .inl (cI, 1220, .inl fb)), (xA, .inl (cI, 1220, .inl fx)), (kA, .inl (cI, 1220, .inl fq))] H := hP
        have hD : va_D A [(h0, .inr (0, [.ref bA, .ref xA, .ref kA, .ref aA, .ref eA, .ref gA, .ref oA, .int rd, .int v_4, .int lc, .int p0, .int p1])), (bA, .inl (cI, 1220, .inl fb)), (xA, .inl (cI, 1220, .inl fx)), (kA, .inl (cI, 1220, .inl fq))] := hD
        refine lv_goto (tgt := 117) hx hb dX0_offerLast_101 (by decide) ?_
        refine lv_aload_n hx hb dX0_offerLast_117 rfl (lv_at hl 3 rfl) ?_
        refine va_get (D := (dC, dI)) (ci := 0) (v := .ref xA) (C := RX0) (T := TX0) (N := 12) hx hb hts i0 hown hK hP 0 rfl rfl 1 (by decide) (hts (.fieldLink RX0 15 "StopSetter$Chart" "next" "[I") (by decide +kernel)) (fun _ h9 => h9) rfl dX0_offerLast_118 ?_
        refine lv_iload hx hb dX0_offerLast_121 (lv_at hl 2 rfl) ?_
        refine va_iald hx hb hK hP 2 0 rfl rfl (cl_in _ _) dX0_offerLast_123 ?_
        refine lv_topi (fun v_18 ev_18 => ?_)
        refine lv_ldc (v := 1000000000) hx hb hown (hts (.constant RX0 33 (1000000000)) (by decide +kernel)) dX0_offerLast_124 ?_
        refine lv_icmp_ge (tgt := 149) hx hb dX0_offerLast_126 (by decide) (fun c_126 => ?_) (fun c_126 => ?_)
        · skip
          have hP9 := hP.sub (ws' := [(h0, .inr (0, [.ref bA, .ref xA, .ref kA, .ref aA, .ref eA, .ref gA, .ref oA, .int rd, .int v_4, .int lc, .int p0, .int p1])), (bA, .inl (cI, 1220, .inl fb)), (xA, .inl (cI, 1220, .inl fx)), (kA, .inl (cI, 1220, .inl fq))]) [0, 1, 2, 3] rfl
          have hD9 := hD.sub (ws' := [(h0, .inr (0, [.ref bA, .ref xA, .ref kA, .ref aA, .ref eA, .ref gA, .ref oA, .int rd, .int v_4, .int lc, .int p0, .int p1])), (bA, .inl (cI, 1220, .inl fb)), (xA, .inl (cI, 1220, .inl fx)), (kA, .inl (cI, 1220, .inl fq))]) [0, 1, 2, 3] (by decide) rfl
          exact W.vret hx hb hr (fun t ht hW => ⟨⟨(v_4, lc, p0, p1), rfl, trivial, by rw [ht]; exact hP9, hD9⟩, hS.F ht⟩) hS.2.2 dX0_offerLast_149
        · skip
          refine lv_aload_n hx hb dX0_offerLast_129 rfl (lv_at hl 3 rfl) ?_
          refine lv_aload_n hx hb dX0_offerLast_130 rfl (lv_at hl 3 rfl) ?_
          refine va_get (D := (dC, dI)) (ci := 0) (v := .int lc) (C := RX0) (T := TX0) (N := 12) hx hb hts i0 hown hK hP 0 rfl rfl 9 (by decide) (hts (.fieldLink RX0 38 "StopSetter$Chart" "secondCost" "I") (by decide +kernel)) (fun _ h9 => h9) rfl dX0_offerLast_131 ?_
          refine lv_aload_n hx hb dX0_offerLast_134 rfl (lv_at hl 3 rfl) ?_
          refine va_get (D := (dC, dI)) (ci := 0) (v := .ref xA) (C := RX0) (T := TX0) (N := 12) hx hb hts i0 hown hK hP 0 rfl rfl 1 (by decide) (hts (.fieldLink RX0 15 "StopSetter$Chart" "next" "[I") (by decide +kernel)) (fun _ h9 => h9) rfl dX0_offerLast_135 ?_
          refine lv_iload hx hb dX0_offerLast_138 (lv_at hl 2 rfl) ?_
          refine va_iald hx hb hK hP 2 0 rfl rfl (cl_in _ _) dX0_offerLast_140 ?_
          refine lv_topi (fun v_19 ev_19 => ?_)
          refine lv_iload_n hx hb dX0_offerLast_141 rfl (lv_at hl 6 rfl) ?_
          refine lv_iadd hx hb dX0_offerLast_142 ?_
          refine lv_topi (fun v_20 ev_20 => ?_)
          refine va_mmin hx hb (by rw [hml]; exact hl.1.symm) hown (hts (.methodLink RX0 105 Lib.Math.min.name) (by decide +kernel)) (hts (.static Lib.Math.min.name) (by decide +kernel)) (hts (.initialized "java/lang/Math") (by decide +kernel)) (hts (.code Lib.Math.min.name Lib.Math.min.code 2 (some .int)) (by decide +kernel)) (Nat.le_of_ble_eq_true rfl) (Nat.le_of_ble_eq_true rfl) (Nat.le_of_ble_eq_true rfl) (Nat.le_of_ble_eq_true rfl) dX0_offerLast_143 ?_
          refine lv_topi (fun v_21 ev_21 => ?_)
          refine va_put (D := (dC, dI)) (ci := 0) (v := .int v_21) (ty := tyX0 9) (C := RX0) (T := TX0) (N := 12) hx hb hts i0 tyX0 tyX0_ok nmX0 hown hK hP hD hS 0 rfl rfl 9 (by decide) (hts (.fieldLink RX0 38 "StopSetter$Chart" "secondCost" "I") (by decide +kernel)) (fun _ h9 => h9) rfl (by decide +kernel) rfl rfl (Nat.le_of_ble_eq_true rfl) dX0_offerLast_146 (fun H locs hP hD hS => ?_)
          have hP : va_P (dC, dI) vwCl [(h0, .inr (0, [.ref bA, .ref xA, .ref kA, .ref aA, .ref eA, .ref gA, .ref oA, .int rd, .int v_4, .int v_21, .int p0, .int p1])), (bA, .inl (cI, 1220, .inl fb)), (xA, .inl (cI, 1220, .inl fx)), (kA, .inl (cI, 1220, .inl fq))] H := hP
          have hD : va_D A [(h0, .inr (0, [.ref bA, .ref xA, .ref kA, .ref aA, .ref eA, .ref gA, .ref oA, .int rd, .int v_4, .int v_21, .int p0, .int p1])), (bA, .inl (cI, 1220, .inl fb)), (xA, .inl (cI, 1220, .inl fx)), (kA, .inl (cI, 1220, .inl fq))] := hD
          have hP9 := hP.sub (ws' := [(h0, .inr (0, [.ref bA, .ref xA, .ref kA, .ref aA, .ref eA, .ref gA, .ref oA, .int rd, .int v_4, .int v_21, .int p0, .int p1])), (bA, .inl (cI, 1220, .inl fb)), (xA, .inl (cI, 1220, .inl fx)), (kA, .inl (cI, 1220, .inl fq))]) [0, 1, 2, 3] rfl
          have hD9 := hD.sub (ws' := [(h0, .inr (0, [.ref bA, .ref xA, .ref kA, .ref aA, .ref eA, .ref gA, .ref oA, .int rd, .int v_4, .int v_21, .int p0, .int p1])), (bA, .inl (cI, 1220, .inl fb)), (xA, .inl (cI, 1220, .inl fx)), (kA, .inl (cI, 1220, .inl fq))]) [0, 1, 2, 3] (by decide) rfl
          exact W.vret hx hb hr (fun t ht hW => ⟨⟨(v_4, v_21, p0, p1), rfl, trivial, by rw [ht]; exact hP9, hD9⟩, hS.F ht⟩) hS.2.2 dX0_offerLast_149
      · skip
        refine lv_iload hx hb dX0_offerLast_72 (lv_at hl 0 rfl) ?_
        refine lv_if_eq (tgt := 104) hx hb dX0_offerLast_74 (by decide) (fun _ => ?_) (fun h9 => absurd (by decide) h9)
        refine lv_aload_n hx hb dX0_offerLast_104 rfl (lv_at hl 3 rfl) ?_
        refine lv_aload_n hx hb dX0_offerLast_105 rfl (lv_at hl 3 rfl) ?_
        refine va_get (D := (dC, dI)) (ci := 0) (v := .int sc) (C := RX0) (T := TX0) (N := 12) hx hb hts i0 hown hK hP 0 rfl rfl 9 (by decide) (hts (.fieldLink RX0 38 "StopSetter$Chart" "secondCost" "I") (by decide +kernel)) (fun _ h9 => h9) rfl dX0_offerLast_106 ?_
        refine lv_iload hx hb dX0_offerLast_109 (lv_at hl 1 rfl) ?_
        refine va_mmin hx hb (by rw [hml]; exact hl.1.symm) hown (hts (.methodLink RX0 105 Lib.Math.min.name) (by decide +kernel)) (hts (.static Lib.Math.min.name) (by decide +kernel)) (hts (.initialized "java/lang/Math") (by decide +kernel)) (hts (.code Lib.Math.min.name Lib.Math.min.code 2 (some .int)) (by decide +kernel)) (Nat.le_of_ble_eq_true rfl) (Nat.le_of_ble_eq_true rfl) (Nat.le_of_ble_eq_true rfl) (Nat.le_of_ble_eq_true rfl) dX0_offerLast_111 ?_
        refine lv_topi (fun v_22 ev_22 => ?_)
        refine va_put (D := (dC, dI)) (ci := 0) (v := .int v_22) (ty := tyX0 9) (C := RX0) (T := TX0) (N := 12) hx hb hts i0 tyX0 tyX0_ok nmX0 hown hK hP hD hS 0 rfl rfl 9 (by decide) (hts (.fieldLink RX0 38 "StopSetter$Chart" "secondCost" "I") (by decide +kernel)) (fun _ h9 => h9) rfl (by decide +kernel) rfl rfl (Nat.le_of_ble_eq_true rfl) dX0_offerLast_114 (fun H locs hP hD hS => ?_)
        have hP : va_P (dC, dI) vwCl [(h0, .inr (0, [.ref bA, .ref xA, .ref kA, .ref aA, .ref eA, .ref gA, .ref oA, .int rd, .int lc, .int v_22, .int ln, .int le])), (bA, .inl (cI, 1220, .inl fb)), (xA, .inl (cI, 1220, .inl fx)), (kA, .inl (cI, 1220, .inl fq))] H := hP
        have hD : va_D A [(h0, .inr (0, [.ref bA, .ref xA, .ref kA, .ref aA, .ref eA, .ref gA, .ref oA, .int rd, .int lc, .int v_22, .int ln, .int le])), (bA, .inl (cI, 1220, .inl fb)), (xA, .inl (cI, 1220, .inl fx)), (kA, .inl (cI, 1220, .inl fq))] := hD
        refine lv_aload_n hx hb dX0_offerLast_117 rfl (lv_at hl 3 rfl) ?_
        refine va_get (D := (dC, dI)) (ci := 0) (v := .ref xA) (C := RX0) (T := TX0) (N := 12) hx hb hts i0 hown hK hP 0 rfl rfl 1 (by decide) (hts (.fieldLink RX0 15 "StopSetter$Chart" "next" "[I") (by decide +kernel)) (fun _ h9 => h9) rfl dX0_offerLast_118 ?_
        refine lv_iload hx hb dX0_offerLast_121 (lv_at hl 2 rfl) ?_
        refine va_iald hx hb hK hP 2 0 rfl rfl (cl_in _ _) dX0_offerLast_123 ?_
        refine lv_topi (fun v_23 ev_23 => ?_)
        refine lv_ldc (v := 1000000000) hx hb hown (hts (.constant RX0 33 (1000000000)) (by decide +kernel)) dX0_offerLast_124 ?_
        refine lv_icmp_ge (tgt := 149) hx hb dX0_offerLast_126 (by decide) (fun c_126 => ?_) (fun c_126 => ?_)
        · skip
          have hP9 := hP.sub (ws' := [(h0, .inr (0, [.ref bA, .ref xA, .ref kA, .ref aA, .ref eA, .ref gA, .ref oA, .int rd, .int lc, .int v_22, .int ln, .int le])), (bA, .inl (cI, 1220, .inl fb)), (xA, .inl (cI, 1220, .inl fx)), (kA, .inl (cI, 1220, .inl fq))]) [0, 1, 2, 3] rfl
          have hD9 := hD.sub (ws' := [(h0, .inr (0, [.ref bA, .ref xA, .ref kA, .ref aA, .ref eA, .ref gA, .ref oA, .int rd, .int lc, .int v_22, .int ln, .int le])), (bA, .inl (cI, 1220, .inl fb)), (xA, .inl (cI, 1220, .inl fx)), (kA, .inl (cI, 1220, .inl fq))]) [0, 1, 2, 3] (by decide) rfl
          exact W.vret hx hb hr (fun t ht hW => ⟨⟨(lc, v_22, ln, le), rfl, trivial, by rw [ht]; exact hP9, hD9⟩, hS.F ht⟩) hS.2.2 dX0_offerLast_149
        · skip
          refine lv_aload_n hx hb dX0_offerLast_129 rfl (lv_at hl 3 rfl) ?_
          refine lv_aload_n hx hb dX0_offerLast_130 rfl (lv_at hl 3 rfl) ?_
          refine va_get (D := (dC, dI)) (ci := 0) (v := .int v_22) (C := RX0) (T := TX0) (N := 12) hx hb hts i0 hown hK hP 0 rfl rfl 9 (by decide) (hts (.fieldLink RX0 38 "StopSetter$Chart" "secondCost" "I") (by decide +kernel)) (fun _ h9 => h9) rfl dX0_offerLast_131 ?_
          refine lv_aload_n hx hb dX0_offerLast_134 rfl (lv_at hl 3 rfl) ?_
          refine va_get (D := (dC, dI)) (ci := 0) (v := .ref xA) (C := RX0) (T := TX0) (N := 12) hx hb hts i0 hown hK hP 0 rfl rfl 1 (by decide) (hts (.fieldLink RX0 15 "StopSetter$Chart" "next" "[I") (by decide +kernel)) (fun _ h9 => h9) rfl dX0_offerLast_135 ?_
          refine lv_iload hx hb dX0_offerLast_138 (lv_at hl 2 rfl) ?_
          refine va_iald hx hb hK hP 2 0 rfl rfl (cl_in _ _) dX0_offerLast_140 ?_
          refine lv_topi (fun v_24 ev_24 => ?_)
          refine lv_iload_n hx hb dX0_offerLast_141 rfl (lv_at hl 6 rfl) ?_
          refine lv_iadd hx hb dX0_offerLast_142 ?_
          refine lv_topi (fun v_25 ev_25 => ?_)
          refine va_mmin hx hb (by rw [hml]; exact hl.1.symm) hown (hts (.methodLink RX0 105 Lib.Math.min.name) (by decide +kernel)) (hts (.static Lib.Math.min.name) (by decide +kernel)) (hts (.initialized "java/lang/Math") (by decide +kernel)) (hts (.code Lib.Math.min.name Lib.Math.min.code 2 (some .int)) (by decide +kernel)) (Nat.le_of_ble_eq_true rfl) (Nat.le_of_ble_eq_true rfl) (Nat.le_of_ble_eq_true rfl) (Nat.le_of_ble_eq_true rfl) dX0_offerLast_143 ?_
          refine lv_topi (fun v_26 ev_26 => ?_)
          refine va_put (D := (dC, dI)) (ci := 0) (v := .int v_26) (ty := tyX0 9) (C := RX0) (T := TX0) (N := 12) hx hb hts i0 tyX0 tyX0_ok nmX0 hown hK hP hD hS 0 rfl rfl 9 (by decide) (hts (.fieldLink RX0 38 "StopSetter$Chart" "secondCost" "I") (by decide +kernel)) (fun _ h9 => h9) rfl (by decide +kernel) rfl rfl (Nat.le_of_ble_eq_true rfl) dX0_offerLast_146 (fun H locs hP hD hS => ?_)
          have hP : va_P (dC, dI) vwCl [(h0, .inr (0, [.ref bA, .ref xA, .ref kA, .ref aA, .ref eA, .ref gA, .ref oA, .int rd, .int lc, .int v_26, .int ln, .int le])), (bA, .inl (cI, 1220, .inl fb)), (xA, .inl (cI, 1220, .inl fx)), (kA, .inl (cI, 1220, .inl fq))] H := hP
          have hD : va_D A [(h0, .inr (0, [.ref bA, .ref xA, .ref kA, .ref aA, .ref eA, .ref gA, .ref oA, .int rd, .int lc, .int v_26, .int ln, .int le])), (bA, .inl (cI, 1220, .inl fb)), (xA, .inl (cI, 1220, .inl fx)), (kA, .inl (cI, 1220, .inl fq))] := hD
          have hP9 := hP.sub (ws' := [(h0, .inr (0, [.ref bA, .ref xA, .ref kA, .ref aA, .ref eA, .ref gA, .ref oA, .int rd, .int lc, .int v_26, .int ln, .int le])), (bA, .inl (cI, 1220, .inl fb)), (xA, .inl (cI, 1220, .inl fx)), (kA, .inl (cI, 1220, .inl fq))]) [0, 1, 2, 3] rfl
          have hD9 := hD.sub (ws' := [(h0, .inr (0, [.ref bA, .ref xA, .ref kA, .ref aA, .ref eA, .ref gA, .ref oA, .int rd, .int lc, .int v_26, .int ln, .int le])), (bA, .inl (cI, 1220, .inl fb)), (xA, .inl (cI, 1220, .inl fx)), (kA, .inl (cI, 1220, .inl fq))]) [0, 1, 2, 3] (by decide) rfl
          exact W.vret hx hb hr (fun t ht hW => ⟨⟨(lc, v_26, ln, le), rfl, trivial, by rw [ht]; exact hP9, hD9⟩, hS.F ht⟩) hS.2.2 dX0_offerLast_149
    · skip
      refine lv_iconst (v := 1) hx hb dX0_offerLast_56 (by decide) ?_
      refine lv_goto (tgt := 61) hx hb dX0_offerLast_57 (by decide) ?_
      refine lv_istore (lv' := [(6, .int 1), (5, .int v_4), (4, .int (cl rd p0)), (0, .ref h0), (1, .int p0), (2, .int p1), (3, .int p2)]) hx hb dX0_offerLast_61 hl (by decide) rfl (fun ls hl => ?_)
      refine lv_iload hx hb dX0_offerLast_63 (lv_at hl 1 rfl) ?_
      refine lv_aload_n hx hb dX0_offerLast_65 rfl (lv_at hl 3 rfl) ?_
      refine va_get (D := (dC, dI)) (ci := 0) (v := .int lc) (C := RX0) (T := TX0) (N := 12) hx hb hts i0 hown hK hP 0 rfl rfl 8 (by decide) (hts (.fieldLink RX0 34 "StopSetter$Chart" "leastCost" "I") (by decide +kernel)) (fun _ h9 => h9) rfl dX0_offerLast_66 ?_
      refine lv_icmp_lt (tgt := 77) hx hb dX0_offerLast_69 (by decide) (fun c_69 => ?_) (fun c_69 => ?_)
      · skip
        refine lv_aload_n hx hb dX0_offerLast_77 rfl (lv_at hl 3 rfl) ?_
        refine lv_aload_n hx hb dX0_offerLast_78 rfl (lv_at hl 3 rfl) ?_
        refine va_get (D := (dC, dI)) (ci := 0) (v := .int lc) (C := RX0) (T := TX0) (N := 12) hx hb hts i0 hown hK hP 0 rfl rfl 8 (by decide) (hts (.fieldLink RX0 34 "StopSetter$Chart" "leastCost" "I") (by decide +kernel)) (fun _ h9 => h9) rfl dX0_offerLast_79 ?_
        refine va_put (D := (dC, dI)) (ci := 0) (v := .int lc) (ty := tyX0 9) (C := RX0) (T := TX0) (N := 12) hx hb hts i0 tyX0 tyX0_ok nmX0 hown hK hP hD hS 0 rfl rfl 9 (by decide) (hts (.fieldLink RX0 38 "StopSetter$Chart" "secondCost" "I") (by decide +kernel)) (fun _ h9 => h9) rfl (by decide +kernel) rfl rfl (Nat.le_of_ble_eq_true rfl) dX0_offerLast_82 (fun H locs hP hD hS => ?_)
        have hP : va_P (dC, dI) vwCl [(h0, .inr (0, [.ref bA, .ref xA, .ref kA, .ref aA, .ref eA, .ref gA, .ref oA, .int rd, .int lc, .int lc, .int ln, .int le])), (bA, .inl (cI, 1220, .inl fb)), (xA, .inl (cI, 1220, .inl fx)), (kA, .inl (cI, 1220, .inl fq))] H := hP
        have hD : va_D A [(h0, .inr (0, [.ref bA, .ref xA, .ref kA, .ref aA, .ref eA, .ref gA, .ref oA, .int rd, .int lc, .int lc, .int ln, .int le])), (bA, .inl (cI, 1220, .inl fb)), (xA, .inl (cI, 1220, .inl fx)), (kA, .inl (cI, 1220, .inl fq))] := hD
        refine lv_aload_n hx hb dX0_offerLast_85 rfl (lv_at hl 3 rfl) ?_
        refine lv_iload hx hb dX0_offerLast_86 (lv_at hl 1 rfl) ?_
        refine va_put (D := (dC, dI)) (ci := 0) (v := .int v_4) (ty := tyX0 8) (C := RX0) (T := TX0) (N := 12) hx hb hts i0 tyX0 tyX0_ok nmX0 hown hK hP hD hS 0 rfl rfl 8 (by decide) (hts (.fieldLink RX0 34 "StopSetter$Chart" "leastCost" "I") (by decide +kernel)) (fun _ h9 => h9) rfl (by decide +kernel) rfl rfl (Nat.le_of_ble_eq_true rfl) dX0_offerLast_88 (fun H locs hP hD hS => ?_)
        have hP : va_P (dC, dI) vwCl [(h0, .inr (0, [.ref bA, .ref xA, .ref kA, .ref aA, .ref eA, .ref gA, .ref oA, .int rd, .int v_4, .int lc, .int ln, .int le])), (bA, .inl (cI, 1220, .inl fb)), (xA, .inl (cI, 1220, .inl fx)), (kA, .inl (cI, 1220, .inl fq))] H := hP
        have hD : va_D A [(h0, .inr (0, [.ref bA, .ref xA, .ref kA, .ref aA, .ref eA, .ref gA, .ref oA, .int rd, .int v_4, .int lc, .int ln, .int le])), (bA, .inl (cI, 1220, .inl fb)), (xA, .inl (cI, 1220, .inl fx)), (kA, .inl (cI, 1220, .inl fq))] := hD
        refine lv_aload_n hx hb dX0_offerLast_91 rfl (lv_at hl 3 rfl) ?_
        refine lv_iload_n hx hb dX0_offerLast_92 rfl (lv_at hl 4 rfl) ?_
        refine va_put (D := (dC, dI)) (ci := 0) (v := .int p0) (ty := tyX0 10) (C := RX0) (T := TX0) (N := 12) hx hb hts i0 tyX0 tyX0_ok nmX0 hown hK hP hD hS 0 rfl rfl 10 (by decide) (hts (.fieldLink RX0 113 "StopSetter$Chart" "lastNode" "I") (by decide +kernel)) (fun _ h9 => h9) rfl (by decide +kernel) rfl rfl (Nat.le_of_ble_eq_true rfl) dX0_offerLast_93 (fun H locs hP hD hS => ?_)
        have hP : va_P (dC, dI) vwCl [(h0, .inr (0, [.ref bA, .ref xA, .ref kA, .ref aA, .ref eA, .ref gA, .ref oA, .int rd, .int v_4, .int lc, .int p0, .int le])), (bA, .inl (cI, 1220, .inl fb)), (xA, .inl (cI, 1220, .inl fx)), (kA, .inl (cI, 1220, .inl fq))] H := hP
        have hD : va_D A [(h0, .inr (0, [.ref bA, .ref xA, .ref kA, .ref aA, .ref eA, .ref gA, .ref oA, .int rd, .int v_4, .int lc, .int p0, .int le])), (bA, .inl (cI, 1220, .inl fb)), (xA, .inl (cI, 1220, .inl fx)), (kA, .inl (cI, 1220, .inl fq))] := hD
        refine lv_aload_n hx hb dX0_offerLast_96 rfl (lv_at hl 3 rfl) ?_
        refine lv_iload_n hx hb dX0_offerLast_97 rfl (lv_at hl 5 rfl) ?_
        refine va_put (D := (dC, dI)) (ci := 0) (v := .int p1) (ty := tyX0 11) (C := RX0) (T := TX0) (N := 12) hx hb hts i0 tyX0 tyX0_ok nmX0 hown hK hP hD hS 0 rfl rfl 11 (by decide) (hts (.fieldLink RX0 116 "StopSetter$Chart" "lastEnd" "I") (by decide +kernel)) (fun _ h9 => h9) rfl (by decide +kernel) rfl rfl (Nat.le_of_ble_eq_true rfl) dX0_offerLast_98 (fun H locs hP hD hS => ?_)
        have hP : va_P (dC, dI) vwCl [(h0, .inr (0, [.ref bA, .ref xA, .ref kA, .ref aA, .ref eA, .ref gA, .ref oA, .int rd, .int v_4, .int lc, .int p0, .int p1])), (bA, .inl (cI, 1220, .inl fb)), (xA, .inl (cI, 1220, .inl fx)), (kA, .inl (cI, 1220, .inl fq))] H := hP
        have hD : va_D A [(h0, .inr (0, [.ref bA, .ref xA, .ref kA, .ref aA, .ref eA, .ref gA, .ref oA, .int rd, .int v_4, .int lc, .int p0, .int p1])), (bA, .inl (cI, 1220, .inl fb)), (xA, .inl (cI, 1220, .inl fx)), (kA, .inl (cI, 1220, .inl fq))] := hD
        refine lv_goto (tgt := 117) hx hb dX0_offerLast_101 (by decide) ?_
        refine lv_aload_n hx hb dX0_offerLast_117 rfl (lv_at hl 3 rfl) ?_
        refine va_get (D := (dC, dI)) (ci := 0) (v := .ref xA) (C := RX0) (T := TX0) (N := 12) hx hb hts i0 hown hK hP 0 rfl rfl 1 (by decide) (hts (.fieldLink RX0 15 "StopSetter$Chart" "next" "[I") (by decide +kernel)) (fun _ h9 => h9) rfl dX0_offerLast_118 ?_
        refine lv_iload hx hb dX0_offerLast_121 (lv_at hl 2 rfl) ?_
        refine va_iald hx hb hK hP 2 0 rfl rfl (cl_in _ _) dX0_offerLast_123 ?_
        refine lv_topi (fun v_27 ev_27 => ?_)
        refine lv_ldc (v := 1000000000) hx hb hown (hts (.constant RX0 33 (1000000000)) (by decide +kernel)) dX0_offerLast_124 ?_
        refine lv_icmp_ge (tgt := 149) hx hb dX0_offerLast_126 (by decide) (fun c_126 => ?_) (fun c_126 => ?_)
        · skip
          have hP9 := hP.sub (ws' := [(h0, .inr (0, [.ref bA, .ref xA, .ref kA, .ref aA, .ref eA, .ref gA, .ref oA, .int rd, .int v_4, .int lc, .int p0, .int p1])), (bA, .inl (cI, 1220, .inl fb)), (xA, .inl (cI, 1220, .inl fx)), (kA, .inl (cI, 1220, .inl fq))]) [0, 1, 2, 3] rfl
          have hD9 := hD.sub (ws' := [(h0, .inr (0, [.ref bA, .ref xA, .ref kA, .ref aA, .ref eA, .ref gA, .ref oA, .int rd, .int v_4, .int lc, .int p0, .int p1])), (bA, .inl (cI, 1220, .inl fb)), (xA, .inl (cI, 1220, .inl fx)), (kA, .inl (cI, 1220, .inl fq))]) [0, 1, 2, 3] (by decide) rfl
          exact W.vret hx hb hr (fun t ht hW => ⟨⟨(v_4, lc, p0, p1), rfl, trivial, by rw [ht]; exact hP9, hD9⟩, hS.F ht⟩) hS.2.2 dX0_offerLast_149
        · skip
          refine lv_aload_n hx hb dX0_offerLast_129 rfl (lv_at hl 3 rfl) ?_
          refine lv_aload_n hx hb dX0_offerLast_130 rfl (lv_at hl 3 rfl) ?_
          refine va_get (D := (dC, dI)) (ci := 0) (v := .int lc) (C := RX0) (T := TX0) (N := 12) hx hb hts i0 hown hK hP 0 rfl rfl 9 (by decide) (hts (.fieldLink RX0 38 "StopSetter$Chart" "secondCost" "I") (by decide +kernel)) (fun _ h9 => h9) rfl dX0_offerLast_131 ?_
          refine lv_aload_n hx hb dX0_offerLast_134 rfl (lv_at hl 3 rfl) ?_
          refine va_get (D := (dC, dI)) (ci := 0) (v := .ref xA) (C := RX0) (T := TX0) (N := 12) hx hb hts i0 hown hK hP 0 rfl rfl 1 (by decide) (hts (.fieldLink RX0 15 "StopSetter$Chart" "next" "[I") (by decide +kernel)) (fun _ h9 => h9) rfl dX0_offerLast_135 ?_
          refine lv_iload hx hb dX0_offerLast_138 (lv_at hl 2 rfl) ?_
          refine va_iald hx hb hK hP 2 0 rfl rfl (cl_in _ _) dX0_offerLast_140 ?_
          refine lv_topi (fun v_28 ev_28 => ?_)
          refine lv_iload_n hx hb dX0_offerLast_141 rfl (lv_at hl 6 rfl) ?_
          refine lv_iadd hx hb dX0_offerLast_142 ?_
          refine lv_topi (fun v_29 ev_29 => ?_)
          refine va_mmin hx hb (by rw [hml]; exact hl.1.symm) hown (hts (.methodLink RX0 105 Lib.Math.min.name) (by decide +kernel)) (hts (.static Lib.Math.min.name) (by decide +kernel)) (hts (.initialized "java/lang/Math") (by decide +kernel)) (hts (.code Lib.Math.min.name Lib.Math.min.code 2 (some .int)) (by decide +kernel)) (Nat.le_of_ble_eq_true rfl) (Nat.le_of_ble_eq_true rfl) (Nat.le_of_ble_eq_true rfl) (Nat.le_of_ble_eq_true rfl) dX0_offerLast_143 ?_
          refine lv_topi (fun v_30 ev_30 => ?_)
          refine va_put (D := (dC, dI)) (ci := 0) (v := .int v_30) (ty := tyX0 9) (C := RX0) (T := TX0) (N := 12) hx hb hts i0 tyX0 tyX0_ok nmX0 hown hK hP hD hS 0 rfl rfl 9 (by decide) (hts (.fieldLink RX0 38 "StopSetter$Chart" "secondCost" "I") (by decide +kernel)) (fun _ h9 => h9) rfl (by decide +kernel) rfl rfl (Nat.le_of_ble_eq_true rfl) dX0_offerLast_146 (fun H locs hP hD hS => ?_)
          have hP : va_P (dC, dI) vwCl [(h0, .inr (0, [.ref bA, .ref xA, .ref kA, .ref aA, .ref eA, .ref gA, .ref oA, .int rd, .int v_4, .int v_30, .int p0, .int p1])), (bA, .inl (cI, 1220, .inl fb)), (xA, .inl (cI, 1220, .inl fx)), (kA, .inl (cI, 1220, .inl fq))] H := hP
          have hD : va_D A [(h0, .inr (0, [.ref bA, .ref xA, .ref kA, .ref aA, .ref eA, .ref gA, .ref oA, .int rd, .int v_4, .int v_30, .int p0, .int p1])), (bA, .inl (cI, 1220, .inl fb)), (xA, .inl (cI, 1220, .inl fx)), (kA, .inl (cI, 1220, .inl fq))] := hD
          have hP9 := hP.sub (ws' := [(h0, .inr (0, [.ref bA, .ref xA, .ref kA, .ref aA, .ref eA, .ref gA, .ref oA, .int rd, .int v_4, .int v_30, .int p0, .int p1])), (bA, .inl (cI, 1220, .inl fb)), (xA, .inl (cI, 1220, .inl fx)), (kA, .inl (cI, 1220, .inl fq))]) [0, 1, 2, 3] rfl
          have hD9 := hD.sub (ws' := [(h0, .inr (0, [.ref bA, .ref xA, .ref kA, .ref aA, .ref eA, .ref gA, .ref oA, .int rd, .int v_4, .int v_30, .int p0, .int p1])), (bA, .inl (cI, 1220, .inl fb)), (xA, .inl (cI, 1220, .inl fx)), (kA, .inl (cI, 1220, .inl fq))]) [0, 1, 2, 3] (by decide) rfl
          exact W.vret hx hb hr (fun t ht hW => ⟨⟨(v_4, v_30, p0, p1), rfl, trivial, by rw [ht]; exact hP9, hD9⟩, hS.F ht⟩) hS.2.2 dX0_offerLast_149
      · skip
        refine lv_iload hx hb dX0_offerLast_72 (lv_at hl 0 rfl) ?_
        refine lv_if_eq (tgt := 104) hx hb dX0_offerLast_74 (by decide) (fun h9 => absurd h9 (by decide)) (fun _ => ?_)
        refine lv_aload_n hx hb dX0_offerLast_77 rfl (lv_at hl 3 rfl) ?_
        refine lv_aload_n hx hb dX0_offerLast_78 rfl (lv_at hl 3 rfl) ?_
        refine va_get (D := (dC, dI)) (ci := 0) (v := .int lc) (C := RX0) (T := TX0) (N := 12) hx hb hts i0 hown hK hP 0 rfl rfl 8 (by decide) (hts (.fieldLink RX0 34 "StopSetter$Chart" "leastCost" "I") (by decide +kernel)) (fun _ h9 => h9) rfl dX0_offerLast_79 ?_
        refine va_put (D := (dC, dI)) (ci := 0) (v := .int lc) (ty := tyX0 9) (C := RX0) (T := TX0) (N := 12) hx hb hts i0 tyX0 tyX0_ok nmX0 hown hK hP hD hS 0 rfl rfl 9 (by decide) (hts (.fieldLink RX0 38 "StopSetter$Chart" "secondCost" "I") (by decide +kernel)) (fun _ h9 => h9) rfl (by decide +kernel) rfl rfl (Nat.le_of_ble_eq_true rfl) dX0_offerLast_82 (fun H locs hP hD hS => ?_)
        have hP : va_P (dC, dI) vwCl [(h0, .inr (0, [.ref bA, .ref xA, .ref kA, .ref aA, .ref eA, .ref gA, .ref oA, .int rd, .int lc, .int lc, .int ln, .int le])), (bA, .inl (cI, 1220, .inl fb)), (xA, .inl (cI, 1220, .inl fx)), (kA, .inl (cI, 1220, .inl fq))] H := hP
        have hD : va_D A [(h0, .inr (0, [.ref bA, .ref xA, .ref kA, .ref aA, .ref eA, .ref gA, .ref oA, .int rd, .int lc, .int lc, .int ln, .int le])), (bA, .inl (cI, 1220, .inl fb)), (xA, .inl (cI, 1220, .inl fx)), (kA, .inl (cI, 1220, .inl fq))] := hD
        refine lv_aload_n hx hb dX0_offerLast_85 rfl (lv_at hl 3 rfl) ?_
        refine lv_iload hx hb dX0_offerLast_86 (lv_at hl 1 rfl) ?_
        refine va_put (D := (dC, dI)) (ci := 0) (v := .int v_4) (ty := tyX0 8) (C := RX0) (T := TX0) (N := 12) hx hb hts i0 tyX0 tyX0_ok nmX0 hown hK hP hD hS 0 rfl rfl 8 (by decide) (hts (.fieldLink RX0 34 "StopSetter$Chart" "leastCost" "I") (by decide +kernel)) (fun _ h9 => h9) rfl (by decide +kernel) rfl rfl (Nat.le_of_ble_eq_true rfl) dX0_offerLast_88 (fun H locs hP hD hS => ?_)
        have hP : va_P (dC, dI) vwCl [(h0, .inr (0, [.ref bA, .ref xA, .ref kA, .ref aA, .ref eA, .ref gA, .ref oA, .int rd, .int v_4, .int lc, .int ln, .int le])), (bA, .inl (cI, 1220, .inl fb)), (xA, .inl (cI, 1220, .inl fx)), (kA, .inl (cI, 1220, .inl fq))] H := hP
        have hD : va_D A [(h0, .inr (0, [.ref bA, .ref xA, .ref kA, .ref aA, .ref eA, .ref gA, .ref oA, .int rd, .int v_4, .int lc, .int ln, .int le])), (bA, .inl (cI, 1220, .inl fb)), (xA, .inl (cI, 1220, .inl fx)), (kA, .inl (cI, 1220, .inl fq))] := hD
        refine lv_aload_n hx hb dX0_offerLast_91 rfl (lv_at hl 3 rfl) ?_
        refine lv_iload_n hx hb dX0_offerLast_92 rfl (lv_at hl 4 rfl) ?_
        refine va_put (D := (dC, dI)) (ci := 0) (v := .int p0) (ty := tyX0 10) (C := RX0) (T := TX0) (N := 12) hx hb hts i0 tyX0 tyX0_ok nmX0 hown hK hP hD hS 0 rfl rfl 10 (by decide) (hts (.fieldLink RX0 113 "StopSetter$Chart" "lastNode" "I") (by decide +kernel)) (fun _ h9 => h9) rfl (by decide +kernel) rfl rfl (Nat.le_of_ble_eq_true rfl) dX0_offerLast_93 (fun H locs hP hD hS => ?_)
        have hP : va_P (dC, dI) vwCl [(h0, .inr (0, [.ref bA, .ref xA, .ref kA, .ref aA, .ref eA, .ref gA, .ref oA, .int rd, .int v_4, .int lc, .int p0, .int le])), (bA, .inl (cI, 1220, .inl fb)), (xA, .inl (cI, 1220, .inl fx)), (kA, .inl (cI, 1220, .inl fq))] H := hP
        have hD : va_D A [(h0, .inr (0, [.ref bA, .ref xA, .ref kA, .ref aA, .ref eA, .ref gA, .ref oA, .int rd, .int v_4, .int lc, .int p0, .int le])), (bA, .inl (cI, 1220, .inl fb)), (xA, .inl (cI, 1220, .inl fx)), (kA, .inl (cI, 1220, .inl fq))] := hD
        refine lv_aload_n hx hb dX0_offerLast_96 rfl (lv_at hl 3 rfl) ?_
        refine lv_iload_n hx hb dX0_offerLast_97 rfl (lv_at hl 5 rfl) ?_
        refine va_put (D := (dC, dI)) (ci := 0) (v := .int p1) (ty := tyX0 11) (C := RX0) (T := TX0) (N := 12) hx hb hts i0 tyX0 tyX0_ok nmX0 hown hK hP hD hS 0 rfl rfl 11 (by decide) (hts (.fieldLink RX0 116 "StopSetter$Chart" "lastEnd" "I") (by decide +kernel)) (fun _ h9 => h9) rfl (by decide +kernel) rfl rfl (Nat.le_of_ble_eq_true rfl) dX0_offerLast_98 (fun H locs hP hD hS => ?_)
        have hP : va_P (dC, dI) vwCl [(h0, .inr (0, [.ref bA, .ref xA, .ref kA, .ref aA, .ref eA, .ref gA, .ref oA, .int rd, .int v_4, .int lc, .int p0, .int p1])), (bA, .inl (cI, 1220, .inl fb)), (xA, .inl (cI, 1220, .inl fx)), (kA, .inl (cI, 1220, .inl fq))] H := hP
        have hD : va_D A [(h0, .inr (0, [.ref bA, .ref xA, .ref kA, .ref aA, .ref eA, .ref gA, .ref oA, .int rd, .int v_4, .int lc, .int p0, .int p1])), (bA, .inl (cI, 1220, .inl fb)), (xA, .inl (cI, 1220, .inl fx)), (kA, .inl (cI, 1220, .inl fq))] := hD
        refine lv_goto (tgt := 117) hx hb dX0_offerLast_101 (by decide) ?_
        refine lv_aload_n hx hb dX0_offerLast_117 rfl (lv_at hl 3 rfl) ?_
        refine va_get (D := (dC, dI)) (ci := 0) (v := .ref xA) (C := RX0) (T := TX0) (N := 12) hx hb hts i0 hown hK hP 0 rfl rfl 1 (by decide) (hts (.fieldLink RX0 15 "StopSetter$Chart" "next" "[I") (by decide +kernel)) (fun _ h9 => h9) rfl dX0_offerLast_118 ?_
        refine lv_iload hx hb dX0_offerLast_121 (lv_at hl 2 rfl) ?_
        refine va_iald hx hb hK hP 2 0 rfl rfl (cl_in _ _) dX0_offerLast_123 ?_
        refine lv_topi (fun v_31 ev_31 => ?_)
        refine lv_ldc (v := 1000000000) hx hb hown (hts (.constant RX0 33 (1000000000)) (by decide +kernel)) dX0_offerLast_124 ?_
        refine lv_icmp_ge (tgt := 149) hx hb dX0_offerLast_126 (by decide) (fun c_126 => ?_) (fun c_126 => ?_)
        · skip
          have hP9 := hP.sub (ws' := [(h0, .inr (0, [.ref bA, .ref xA, .ref kA, .ref aA, .ref eA, .ref gA, .ref oA, .int rd, .int v_4, .int lc, .int p0, .int p1])), (bA, .inl (cI, 1220, .inl fb)), (xA, .inl (cI, 1220, .inl fx)), (kA, .inl (cI, 1220, .inl fq))]) [0, 1, 2, 3] rfl
          have hD9 := hD.sub (ws' := [(h0, .inr (0, [.ref bA, .ref xA, .ref kA, .ref aA, .ref eA, .ref gA, .ref oA, .int rd, .int v_4, .int lc, .int p0, .int p1])), (bA, .inl (cI, 1220, .inl fb)), (xA, .inl (cI, 1220, .inl fx)), (kA, .inl (cI, 1220, .inl fq))]) [0, 1, 2, 3] (by decide) rfl
          exact W.vret hx hb hr (fun t ht hW => ⟨⟨(v_4, lc, p0, p1), rfl, trivial, by rw [ht]; exact hP9, hD9⟩, hS.F ht⟩) hS.2.2 dX0_offerLast_149
        · skip
          refine lv_aload_n hx hb dX0_offerLast_129 rfl (lv_at hl 3 rfl) ?_
          refine lv_aload_n hx hb dX0_offerLast_130 rfl (lv_at hl 3 rfl) ?_
          refine va_get (D := (dC, dI)) (ci := 0) (v := .int lc) (C := RX0) (T := TX0) (N := 12) hx hb hts i0 hown hK hP 0 rfl rfl 9 (by decide) (hts (.fieldLink RX0 38 "StopSetter$Chart" "secondCost" "I") (by decide +kernel)) (fun _ h9 => h9) rfl dX0_offerLast_131 ?_
          refine lv_aload_n hx hb dX0_offerLast_134 rfl (lv_at hl 3 rfl) ?_
          refine va_get (D := (dC, dI)) (ci := 0) (v := .ref xA) (C := RX0) (T := TX0) (N := 12) hx hb hts i0 hown hK hP 0 rfl rfl 1 (by decide) (hts (.fieldLink RX0 15 "StopSetter$Chart" "next" "[I") (by decide +kernel)) (fun _ h9 => h9) rfl dX0_offerLast_135 ?_
          refine lv_iload hx hb dX0_offerLast_138 (lv_at hl 2 rfl) ?_
          refine va_iald hx hb hK hP 2 0 rfl rfl (cl_in _ _) dX0_offerLast_140 ?_
          refine lv_topi (fun v_32 ev_32 => ?_)
          refine lv_iload_n hx hb dX0_offerLast_141 rfl (lv_at hl 6 rfl) ?_
          refine lv_iadd hx hb dX0_offerLast_142 ?_
          refine lv_topi (fun v_33 ev_33 => ?_)
          refine va_mmin hx hb (by rw [hml]; exact hl.1.symm) hown (hts (.methodLink RX0 105 Lib.Math.min.name) (by decide +kernel)) (hts (.static Lib.Math.min.name) (by decide +kernel)) (hts (.initialized "java/lang/Math") (by decide +kernel)) (hts (.code Lib.Math.min.name Lib.Math.min.code 2 (some .int)) (by decide +kernel)) (Nat.le_of_ble_eq_true rfl) (Nat.le_of_ble_eq_true rfl) (Nat.le_of_ble_eq_true rfl) (Nat.le_of_ble_eq_true rfl) dX0_offerLast_143 ?_
          refine lv_topi (fun v_34 ev_34 => ?_)
          refine va_put (D := (dC, dI)) (ci := 0) (v := .int v_34) (ty := tyX0 9) (C := RX0) (T := TX0) (N := 12) hx hb hts i0 tyX0 tyX0_ok nmX0 hown hK hP hD hS 0 rfl rfl 9 (by decide) (hts (.fieldLink RX0 38 "StopSetter$Chart" "secondCost" "I") (by decide +kernel)) (fun _ h9 => h9) rfl (by decide +kernel) rfl rfl (Nat.le_of_ble_eq_true rfl) dX0_offerLast_146 (fun H locs hP hD hS => ?_)
          have hP : va_P (dC, dI) vwCl [(h0, .inr (0, [.ref bA, .ref xA, .ref kA, .ref aA, .ref eA, .ref gA, .ref oA, .int rd, .int v_4, .int v_34, .int p0, .int p1])), (bA, .inl (cI, 1220, .inl fb)), (xA, .inl (cI, 1220, .inl fx)), (kA, .inl (cI, 1220, .inl fq))] H := hP
          have hD : va_D A [(h0, .inr (0, [.ref bA, .ref xA, .ref kA, .ref aA, .ref eA, .ref gA, .ref oA, .int rd, .int v_4, .int v_34, .int p0, .int p1])), (bA, .inl (cI, 1220, .inl fb)), (xA, .inl (cI, 1220, .inl fx)), (kA, .inl (cI, 1220, .inl fq))] := hD
          have hP9 := hP.sub (ws' := [(h0, .inr (0, [.ref bA, .ref xA, .ref kA, .ref aA, .ref eA, .ref gA, .ref oA, .int rd, .int v_4, .int v_34, .int p0, .int p1])), (bA, .inl (cI, 1220, .inl fb)), (xA, .inl (cI, 1220, .inl fx)), (kA, .inl (cI, 1220, .inl fq))]) [0, 1, 2, 3] rfl
          have hD9 := hD.sub (ws' := [(h0, .inr (0, [.ref bA, .ref xA, .ref kA, .ref aA, .ref eA, .ref gA, .ref oA, .int rd, .int v_4, .int v_34, .int p0, .int p1])), (bA, .inl (cI, 1220, .inl fb)), (xA, .inl (cI, 1220, .inl fx)), (kA, .inl (cI, 1220, .inl fq))]) [0, 1, 2, 3] (by decide) rfl
          exact W.vret hx hb hr (fun t ht hW => ⟨⟨(v_4, v_34, p0, p1), rfl, trivial, by rw [ht]; exact hP9, hD9⟩, hS.F ht⟩) hS.2.2 dX0_offerLast_149
set_option maxHeartbeats 4000000 in
set_option maxRecDepth 100000 in
theorem k_finish (l : Launch) (dC : Nat → ClassId) (dI : Nat → Nat → Nat) (cI cZ cC cJ : ClassId) (sz : Nat) (h0 : Nat) (bA : Nat) (xA : Nat) (kA : Nat) (aA : Nat) (eA : Nat) (gA : Nat) (oA : Nat) (rd : Int32) (lc : Int32) (sc : Int32) (ln : Int32) (le : Int32) (fb : Nat → Int32) (fx : Nat → Int32) (fq : Nat → Int32) (g0 : Nat) (gF : Nat) (gK : Nat) (gT : Nat) (gC : Nat) (gM : Nat) (gc : Int32) (eF : Nat) (eC : Nat) (eM : Nat) (ec : Int32) (hopA : Nat) (feF : Nat → Int32) (feC : Nat → Int32) (feM : Nat → Int32)  : Met l yX0_finish wsX0_finish ({ frames := 2, cells := 0, slots := 0, locals := 48 }) (va_Pc [.ref h0, .ref g0] (sPre dC dI cI cZ cC cJ [(h0, .inr (0, [.ref bA, .ref xA, .ref kA, .ref aA, .ref eA, .ref gA, .ref oA, .int rd, .int lc, .int sc, .int ln, .int le])), (bA, .inl (cI, 1220, .inl fb)), (xA, .inl (cI, 1220, .inl fx)), (kA, .inl (cI, 1220, .inl fq)), (g0, .inr (1, [.ref gF, .ref gK, .ref gT, .ref gC, .ref gM, .int gc, .ref eF, .ref eC, .ref eM, .int ec, .ref hopA])), (eF, .inl (cI, 10, .inl feF)), (eC, .inl (cI, 10, .inl feC)), (eM, .inl (cI, 10, .inl feM))] sz)) (va_Qv (fun (u : (Int32) × (Int32) × (Int32) × (Int32)) => match u with | (lc2, sc2, ln2, le2) => True) (fun (u : (Int32) × (Int32) × (Int32) × (Int32)) t => match u with | (lc2, sc2, ln2, le2) => sB dC dI (va_A [(h0, .inr (0, [.ref bA, .ref xA, .ref kA, .ref aA, .ref eA, .ref gA, .ref oA, .int rd, .int lc, .int sc, .int ln, .int le])), (bA, .inl (cI, 1220, .inl fb)), (xA, .inl (cI, 1220, .inl fx)), (kA, .inl (cI, 1220, .inl fq)), (g0, .inr (1, [.ref gF, .ref gK, .ref gT, .ref gC, .ref gM, .int gc, .ref eF, .ref eC, .ref eM, .int ec, .ref hopA])), (eF, .inl (cI, 10, .inl feF)), (eC, .inl (cI, 10, .inl feC)), (eM, .inl (cI, 10, .inl feM))] sz) [(h0, .inr (0, [.ref bA, .ref xA, .ref kA, .ref aA, .ref eA, .ref gA, .ref oA, .int rd, .int lc2, .int sc2, .int ln2, .int le2])), (bA, .inl (cI, 1220, .inl fb)), (xA, .inl (cI, 1220, .inl fx)), (kA, .inl (cI, 1220, .inl fq)), (g0, .inr (1, [.ref gF, .ref gK, .ref gT, .ref gC, .ref gM, .int gc, .ref eF, .ref eC, .ref eM, .int ec, .ref hopA])), (eF, .inl (cI, 10, .inl feF)), (eC, .inl (cI, 10, .inl feC)), (eM, .inl (cI, 10, .inl feM))] t) (va_A [(h0, .inr (0, [.ref bA, .ref xA, .ref kA, .ref aA, .ref eA, .ref gA, .ref oA, .int rd, .int lc, .int sc, .int ln, .int le])), (bA, .inl (cI, 1220, .inl fb)), (xA, .inl (cI, 1220, .inl fx)), (kA, .inl (cI, 1220, .inl fq)), (g0, .inr (1, [.ref gF, .ref gK, .ref gT, .ref gC, .ref gM, .int gc, .ref eF, .ref eC, .ref eM, .int ec, .ref hopA])), (eF, .inl (cI, 10, .inl feF)), (eC, .inl (cI, 10, .inl feC)), (eM, .inl (cI, 10, .inl feM))] sz)) 0 0 (va_A [(h0, .inr (0, [.ref bA, .ref xA, .ref kA, .ref aA, .ref eA, .ref gA, .ref oA, .int rd, .int lc, .int sc, .int ln, .int le])), (bA, .inl (cI, 1220, .inl fb)), (xA, .inl (cI, 1220, .inl fx)), (kA, .inl (cI, 1220, .inl fq)), (g0, .inr (1, [.ref gF, .ref gK, .ref gT, .ref gC, .ref gM, .int gc, .ref eF, .ref eC, .ref eM, .int ec, .ref hopA])), (eF, .inl (cI, 10, .inl feF)), (eC, .inl (cI, 10, .inl feC)), (eM, .inl (cI, 10, .inl feM))] sz) := by
  refine Met.ofW (cc := cX0_finish) (maxL := 5) (ret := none) (by decide) rfl ?_
  intro p e s m args below meth c s₁ B hml hv
  obtain ⟨rfl, hsz, hP, hsk, hD0⟩ := hv
  have hx := B.exec
  have hb := B.bytes
  have hr := B.returns
  have hts := atoms_spec (ws := wsX0_finish) B.pre
  have hown : s.vm.findClass RX0 = some m.cls := findClass_of_methodNamed B.named
  have hlocks := B.notSynchronized
  have hK := hsk.1
  have i0 : ∀ w ∈ wsX00, w ∈ wsX0_finish := by decide +kernel
  have i1 : ∀ w ∈ wsX10, w ∈ wsX0_finish := by decide +kernel
  subst hsz
  have hD := hD0.self (sz := s.heap.size)
  generalize hAe : va_A [(h0, .inr (0, [.ref bA, .ref xA, .ref kA, .ref aA, .ref eA, .ref gA, .ref oA, .int rd, .int lc, .int sc, .int ln, .int le])), (bA, .inl (cI, 1220, .inl fb)), (xA, .inl (cI, 1220, .inl fx)), (kA, .inl (cI, 1220, .inl fq)), (g0, .inr (1, [.ref gF, .ref gK, .ref gT, .ref gC, .ref gM, .int gc, .ref eF, .ref eC, .ref eM, .int ec, .ref hopA])), (eF, .inl (cI, 10, .inl feF)), (eC, .inl (cI, 10, .inl feC)), (eM, .inl (cI, 10, .inl feM))] s.heap.size = A at hD ⊢
  have hA : ∀ q : Nat, s.heap.size ≤ q → A q := fun q h => by rw [← hAe]; exact Or.inr h
  have hS : va_S A s.heap s.heap [] := va_S.rf
  have hl := lv_entry ([.ref h0, .ref g0]) (n := 5) (Nat.le_of_ble_eq_true rfl)
  rw [lg_entry_eq]
  generalize (lg_sl ([.ref h0, .ref g0]) ++ List.replicate (5 - (lg_sl ([.ref h0, .ref g0])).length) Slot.unset).toArray = ls at hl ⊢
  have hl : lv_has ls 5 [(0, .ref h0), (1, .ref g0)] := hl
  refine lv_aload_n hx hb dX0_finish_0 rfl (lv_at hl 0 rfl) ?_
  refine lv_ldc (v := 1000000000) hx hb hown (hts (.constant RX0 33 (1000000000)) (by decide +kernel)) dX0_finish_1 ?_
  refine va_put (D := (dC, dI)) (ci := 0) (v := .int 1000000000) (ty := tyX0 8) (C := RX0) (T := TX0) (N := 12) hx hb hts i0 tyX0 tyX0_ok nmX0 hown hK hP hD hS 0 rfl rfl 8 (by decide) (hts (.fieldLink RX0 34 "StopSetter$Chart" "leastCost" "I") (by decide +kernel)) (fun _ h9 => h9) rfl (by decide +kernel) rfl rfl (Nat.le_of_ble_eq_true rfl) dX0_finish_3 (fun H locs hP hD hS => ?_)
  have hP : va_P (dC, dI) vwCl [(h0, .inr (0, [.ref bA, .ref xA, .ref kA, .ref aA, .ref eA, .ref gA, .ref oA, .int rd, .int 1000000000, .int sc, .int ln, .int le])), (bA, .inl (cI, 1220, .inl fb)), (xA, .inl (cI, 1220, .inl fx)), (kA, .inl (cI, 1220, .inl fq)), (g0, .inr (1, [.ref gF, .ref gK, .ref gT, .ref gC, .ref gM, .int gc, .ref eF, .ref eC, .ref eM, .int ec, .ref hopA])), (eF, .inl (cI, 10, .inl feF)), (eC, .inl (cI, 10, .inl feC)), (eM, .inl (cI, 10, .inl feM))] H := hP
  have hD : va_D A [(h0, .inr (0, [.ref bA, .ref xA, .ref kA, .ref aA, .ref eA, .ref gA, .ref oA, .int rd, .int 1000000000, .int sc, .int ln, .int le])), (bA, .inl (cI, 1220, .inl fb)), (xA, .inl (cI, 1220, .inl fx)), (kA, .inl (cI, 1220, .inl fq)), (g0, .inr (1, [.ref gF, .ref gK, .ref gT, .ref gC, .ref gM, .int gc, .ref eF, .ref eC, .ref eM, .int ec, .ref hopA])), (eF, .inl (cI, 10, .inl feF)), (eC, .inl (cI, 10, .inl feC)), (eM, .inl (cI, 10, .inl feM))] := hD
  refine lv_aload_n hx hb dX0_finish_6 rfl (lv_at hl 0 rfl) ?_
  refine lv_ldc (v := 1000000000) hx hb hown (hts (.constant RX0 33 (1000000000)) (by decide +kernel)) dX0_finish_7 ?_
  refine va_put (D := (dC, dI)) (ci := 0) (v := .int 1000000000) (ty := tyX0 9) (C := RX0) (T := TX0) (N := 12) hx hb hts i0 tyX0 tyX0_ok nmX0 hown hK hP hD hS 0 rfl rfl 9 (by decide) (hts (.fieldLink RX0 38 "StopSetter$Chart" "secondCost" "I") (by decide +kernel)) (fun _ h9 => h9) rfl (by decide +kernel) rfl rfl (Nat.le_of_ble_eq_true rfl) dX0_finish_9 (fun H locs hP hD hS => ?_)
  have hP : va_P (dC, dI) vwCl [(h0, .inr (0, [.ref bA, .ref xA, .ref kA, .ref aA, .ref eA, .ref gA, .ref oA, .int rd, .int 1000000000, .int 1000000000, .int ln, .int le])), (bA, .inl (cI, 1220, .inl fb)), (xA, .inl (cI, 1220, .inl fx)), (kA, .inl (cI, 1220, .inl fq)), (g0, .inr (1, [.ref gF, .ref gK, .ref gT, .ref gC, .ref gM, .int gc, .ref eF, .ref eC, .ref eM, .int ec, .ref hopA])), (eF, .inl (cI, 10, .inl feF)), (eC, .inl (cI, 10, .inl feC)), (eM, .inl (cI, 10, .inl feM))] H := hP
  have hD : va_D A [(h0, .inr (0, [.ref bA, .ref xA, .ref kA, .ref aA, .ref eA, .ref gA, .ref oA, .int rd, .int 1000000000, .int 1000000000, .int ln, .int le])), (bA, .inl (cI, 1220, .inl fb)), (xA, .inl (cI, 1220, .inl fx)), (kA, .inl (cI, 1220, .inl fq)), (g0, .inr (1, [.ref gF, .ref gK, .ref gT, .ref gC, .ref gM, .int gc, .ref eF, .ref eC, .ref eM, .int ec, .ref hopA])), (eF, .inl (cI, 10, .inl feF)), (eC, .inl (cI, 10, .inl feC)), (eM, .inl (cI, 10, .inl feM))] := hD
  refine lv_aload_n hx hb dX0_finish_12 rfl (lv_at hl 0 rfl) ?_
  refine lv_iconst (v := 0) hx hb dX0_finish_13 (by decide) ?_
  refine va_put (D := (dC, dI)) (ci := 0) (v := .int 0) (ty := tyX0 10) (C := RX0) (T := TX0) (N := 12) hx hb hts i0 tyX0 tyX0_ok nmX0 hown hK hP hD hS 0 rfl rfl 10 (by decide) (hts (.fieldLink RX0 113 "StopSetter$Chart" "lastNode" "I") (by decide +kernel)) (fun _ h9 => h9) rfl (by decide +kernel) rfl rfl (Nat.le_of_ble_eq_true rfl) dX0_finish_14 (fun H locs hP hD hS => ?_)
  have hP : va_P (dC, dI) vwCl [(h0, .inr (0, [.ref bA, .ref xA, .ref kA, .ref aA, .ref eA, .ref gA, .ref oA, .int rd, .int 1000000000, .int 1000000000, .int 0, .int le])), (bA, .inl (cI, 1220, .inl fb)), (xA, .inl (cI, 1220, .inl fx)), (kA, .inl (cI, 1220, .inl fq)), (g0, .inr (1, [.ref gF, .ref gK, .ref gT, .ref gC, .ref gM, .int gc, .ref eF, .ref eC, .ref eM, .int ec, .ref hopA])), (eF, .inl (cI, 10, .inl feF)), (eC, .inl (cI, 10, .inl feC)), (eM, .inl (cI, 10, .inl feM))] H := hP
  have hD : va_D A [(h0, .inr (0, [.ref bA, .ref xA, .ref kA, .ref aA, .ref eA, .ref gA, .ref oA, .int rd, .int 1000000000, .int 1000000000, .int 0, .int le])), (bA, .inl (cI, 1220, .inl fb)), (xA, .inl (cI, 1220, .inl fx)), (kA, .inl (cI, 1220, .inl fq)), (g0, .inr (1, [.ref gF, .ref gK, .ref gT, .ref gC, .ref gM, .int gc, .ref eF, .ref eC, .ref eM, .int ec, .ref hopA])), (eF, .inl (cI, 10, .inl feF)), (eC, .inl (cI, 10, .inl feC)), (eM, .inl (cI, 10, .inl feM))] := hD
  refine lv_aload_n hx hb dX0_finish_17 rfl (lv_at hl 0 rfl) ?_
  refine lv_iconst (v := (-1)) hx hb dX0_finish_18 (by decide) ?_
  refine va_put (D := (dC, dI)) (ci := 0) (v := .int (-1)) (ty := tyX0 11) (C := RX0) (T := TX0) (N := 12) hx hb hts i0 tyX0 tyX0_ok nmX0 hown hK hP hD hS 0 rfl rfl 11 (by decide) (hts (.fieldLink RX0 116 "StopSetter$Chart" "lastEnd" "I") (by decide +kernel)) (fun _ h9 => h9) rfl (by decide +kernel) rfl rfl (Nat.le_of_ble_eq_true rfl) dX0_finish_19 (fun H locs hP hD hS => ?_)
  have hP : va_P (dC, dI) vwCl [(h0, .inr (0, [.ref bA, .ref xA, .ref kA, .ref aA, .ref eA, .ref gA, .ref oA, .int rd, .int 1000000000, .int 1000000000, .int 0, .int (-1)])), (bA, .inl (cI, 1220, .inl fb)), (xA, .inl (cI, 1220, .inl fx)), (kA, .inl (cI, 1220, .inl fq)), (g0, .inr (1, [.ref gF, .ref gK, .ref gT, .ref gC, .ref gM, .int gc, .ref eF, .ref eC, .ref eM, .int ec, .ref hopA])), (eF, .inl (cI, 10, .inl feF)), (eC, .inl (cI, 10, .inl feC)), (eM, .inl (cI, 10, .inl feM))] H := hP
  have hD : va_D A [(h0, .inr (0, [.ref bA, .ref xA, .ref kA, .ref aA, .ref eA, .ref gA, .ref oA, .int rd, .int 1000000000, .int 1000000000, .int 0, .int (-1)])), (bA, .inl (cI, 1220, .inl fb)), (xA, .inl (cI, 1220, .inl fx)), (kA, .inl (cI, 1220, .inl fq)), (g0, .inr (1, [.ref gF, .ref gK, .ref gT, .ref gC, .ref gM, .int gc, .ref eF, .ref eC, .ref eM, .int ec, .ref hopA])), (eF, .inl (cI, 10, .inl feF)), (eC, .inl (cI, 10, .inl feC)), (eM, .inl (cI, 10, .inl feM))] := hD
  refine lv_aload_n hx hb dX0_finish_22 rfl (lv_at hl 0 rfl) ?_
  refine va_get (D := (dC, dI)) (ci := 0) (v := .int rd) (C := RX0) (T := TX0) (N := 12) hx hb hts i0 hown hK hP 0 rfl rfl 7 (by decide) (hts (.fieldLink RX0 47 "StopSetter$Chart" "ready" "I") (by decide +kernel)) (fun _ h9 => h9) rfl dX0_finish_23 ?_
  refine lv_if_gt (tgt := 30) hx hb dX0_finish_26 (by decide) (fun c_26 => ?_) (fun c_26 => ?_)
  · skip
    refine lv_iconst (v := 0) hx hb dX0_finish_30 (by decide) ?_
    refine lv_istore_n (lv' := [(2, .int 0), (0, .ref h0), (1, .ref g0)]) hx hb dX0_finish_31 rfl hl (by decide) rfl (fun ls hl => ?_)
    have lp_32 : ∀ (n_32 : Nat) (k : Nat) (lc : Int32) (sc : Int32) (ln : Int32) (le : Int32), 10 + 1 ≤ k + n_32 → k ≤ 10 → ∀ (H : Heap) (locs : List Loc) (ls : Array Slot), va_P (dC, dI) vwCl [(h0, .inr (0, [.ref bA, .ref xA, .ref kA, .ref aA, .ref eA, .ref gA, .ref oA, .int rd, .int lc, .int sc, .int ln, .int le])), (bA, .inl (cI, 1220, .inl fb)), (xA, .inl (cI, 1220, .inl fx)), (kA, .inl (cI, 1220, .inl fq)), (g0, .inr (1, [.ref gF, .ref gK, .ref gT, .ref gC, .ref gM, .int gc, .ref eF, .ref eC, .ref eM, .int ec, .ref hopA])), (eF, .inl (cI, 10, .inl feF)), (eC, .inl (cI, 10, .inl feC)), (eM, .inl (cI, 10, .inl feM))] H → va_D A [(h0, .inr (0, [.ref bA, .ref xA, .ref kA, .ref aA, .ref eA, .ref gA, .ref oA, .int rd, .int lc, .int sc, .int ln, .int le])), (bA, .inl (cI, 1220, .inl fb)), (xA, .inl (cI, 1220, .inl fx)), (kA, .inl (cI, 1220, .inl fq)), (g0, .inr (1, [.ref gF, .ref gK, .ref gT, .ref gC, .ref gM, .int gc, .ref eF, .ref eC, .ref eM, .int ec, .ref hopA])), (eF, .inl (cI, 10, .inl feF)), (eC, .inl (cI, 10, .inl feC)), (eM, .inl (cI, 10, .inl feM))] → va_S A s.heap H locs → lv_has ls 5 [(2, .int (nI k)), (0, .ref h0), (1, .ref g0)] → W p l e (headSpec wsX0_finish ({ frames := 2, cells := 0, slots := 0, locals := 48 })).room s m ([.ref h0, .ref g0]).toArray below meth c H locs 0 0 (MQ below (va_Qv (fun (u : (Int32) × (Int32) × (Int32) × (Int32)) => match u with | (lc2, sc2, ln2, le2) => True) (fun (u : (Int32) × (Int32) × (Int32) × (Int32)) t => match u with | (lc2, sc2, ln2, le2) => sB dC dI A [(h0, .inr (0, [.ref bA, .ref xA, .ref kA, .ref aA, .ref eA, .ref gA, .ref oA, .int rd, .int lc2, .int sc2, .int ln2, .int le2])), (bA, .inl (cI, 1220, .inl fb)), (xA, .inl (cI, 1220, .inl fx)), (kA, .inl (cI, 1220, .inl fq)), (g0, .inr (1, [.ref gF, .ref gK, .ref gT, .ref gC, .ref gM, .int gc, .ref eF, .ref eC, .ref eM, .int ec, .ref hopA])), (eF, .inl (cI, 10, .inl feF)), (eC, .inl (cI, 10, .inl feC)), (eM, .inl (cI, 10, .inl feM))] t) A) ([.ref h0, .ref g0]).toArray s 0 0 A) (F0 m 32 ls []) := by
      intro n_32
      induction n_32 with
      | zero =>
        intro k lc sc ln le fuel_32 hk_32
        exact absurd fuel_32 (by omega)
      | succ n_32 ih_32 =>
        intro k lc sc ln le fuel_32 hk_32 H locs ls hP hD hS hl
        refine lv_iload_n hx hb dX0_finish_32 rfl (lv_at hl 0 rfl) ?_
        refine lv_bipush (v := 10) hx hb dX0_finish_33 (by decide) ?_
        refine lv_icmp_ge (tgt := 100) hx hb dX0_finish_35 (by decide) (fun c_35 => ?_) (fun c_35 => ?_)
        · skip
          have hP9 := hP.sub (ws' := [(h0, .inr (0, [.ref bA, .ref xA, .ref kA, .ref aA, .ref eA, .ref gA, .ref oA, .int rd, .int lc, .int sc, .int ln, .int le])), (bA, .inl (cI, 1220, .inl fb)), (xA, .inl (cI, 1220, .inl fx)), (kA, .inl (cI, 1220, .inl fq)), (g0, .inr (1, [.ref gF, .ref gK, .ref gT, .ref gC, .ref gM, .int gc, .ref eF, .ref eC, .ref eM, .int ec, .ref hopA])), (eF, .inl (cI, 10, .inl feF)), (eC, .inl (cI, 10, .inl feC)), (eM, .inl (cI, 10, .inl feM))]) [0, 1, 2, 3, 4, 5, 6, 7] rfl
          have hD9 := hD.sub (ws' := [(h0, .inr (0, [.ref bA, .ref xA, .ref kA, .ref aA, .ref eA, .ref gA, .ref oA, .int rd, .int lc, .int sc, .int ln, .int le])), (bA, .inl (cI, 1220, .inl fb)), (xA, .inl (cI, 1220, .inl fx)), (kA, .inl (cI, 1220, .inl fq)), (g0, .inr (1, [.ref gF, .ref gK, .ref gT, .ref gC, .ref gM, .int gc, .ref eF, .ref eC, .ref eM, .int ec, .ref hopA])), (eF, .inl (cI, 10, .inl feF)), (eC, .inl (cI, 10, .inl feC)), (eM, .inl (cI, 10, .inl feM))]) [0, 1, 2, 3, 4, 5, 6, 7] (by decide) rfl
          exact W.vret hx hb hr (fun t ht hW => ⟨⟨(lc, sc, ln, le), rfl, trivial, by rw [ht]; exact hP9, hD9⟩, hS.F ht⟩) hS.2.2 dX0_finish_100
        · skip
          have hk3_32 : k < 10 := nk_lt (N := 10) rfl c_35 (by omega)
          refine lv_iload_n hx hb dX0_finish_38 rfl (lv_at hl 0 rfl) ?_
          refine lv_iconst (v := 0) hx hb dX0_finish_39 (by decide) ?_
          have hPc := hP.sub (ws' := []) [] rfl
          have hDc := hD.sub (ws' := []) [] (by decide) rfl
          have hFc := va_free (wc := []) hD hS hA [] rfl
          refine va_calli (va_runSN (As := [.int (nI k), .int 0]) (rest := []) ⟨hx, hb, hml, hown, hts⟩ (k_nodeOf l dC dI cI cZ cC cJ H.size  (nI k) 0 ) ⟨va_cnB (host := "StopSetter") 2 hts gX0_finish_X4_nodeOf_n119 rfl rfl rfl (hsk.2.2 (RX0, 119, yX4_nodeOf, "StopSetter") (by decide +kernel)) (hts (.initialized RX4) (by decide +kernel)) (by decide +kernel) ⟨Nat.le_of_ble_eq_true rfl, Nat.le_of_ble_eq_true rfl⟩, hts (.static yX4_nodeOf) (by decide +kernel), trivial⟩ ⟨sPre_blind, fun U hU hW => ⟨rfl, sPre_ok hsk hPc hDc hU hW⟩⟩ rfl rfl hl.1 rfl (lv_room (Nat.le_of_ble_eq_true rfl)) dX0_finish_40 ⟨(show 0 + 0 ≤ 0 by omega), (show 0 + 0 ≤ 0 by omega)⟩) hS (fun q _ h => hFc q h) hFc (fun r_1 u t H1 locs ht hvm hw hB hz1 hk1 hS => ?_)
          try dsimp only at hw hB
          have hw_2 := hw
          obtain rfl : r_1 = ((nI k) * 2 + 0) := hw_2
          obtain ⟨hP1, hD1⟩ := hB
          rw [ht] at hP1
          obtain ⟨hP, hD⟩ := va_join (wr := [(h0, .inr (0, [.ref bA, .ref xA, .ref kA, .ref aA, .ref eA, .ref gA, .ref oA, .int rd, .int lc, .int sc, .int ln, .int le])), (bA, .inl (cI, 1220, .inl fb)), (xA, .inl (cI, 1220, .inl fx)), (kA, .inl (cI, 1220, .inl fq)), (g0, .inr (1, [.ref gF, .ref gK, .ref gT, .ref gC, .ref gM, .int gc, .ref eF, .ref eC, .ref eM, .int ec, .ref hopA])), (eF, .inl (cI, 10, .inl feF)), (eC, .inl (cI, 10, .inl feC)), (eM, .inl (cI, 10, .inl feM))]) (w1 := []) hP hD [] [0, 1, 2, 3, 4, 5, 6, 7] rfl rfl (by decide) (by decide) hk1 hFc hP1 hD1
          generalize H1 = H at hP hS ⊢
          have hP : va_P (dC, dI) vwCl [(h0, .inr (0, [.ref bA, .ref xA, .ref kA, .ref aA, .ref eA, .ref gA, .ref oA, .int rd, .int lc, .int sc, .int ln, .int le])), (bA, .inl (cI, 1220, .inl fb)), (xA, .inl (cI, 1220, .inl fx)), (kA, .inl (cI, 1220, .inl fq)), (g0, .inr (1, [.ref gF, .ref gK, .ref gT, .ref gC, .ref gM, .int gc, .ref eF, .ref eC, .ref eM, .int ec, .ref hopA])), (eF, .inl (cI, 10, .inl feF)), (eC, .inl (cI, 10, .inl feC)), (eM, .inl (cI, 10, .inl feM))] H := hP
          have hD : va_D A [(h0, .inr (0, [.ref bA, .ref xA, .ref kA, .ref aA, .ref eA, .ref gA, .ref oA, .int rd, .int lc, .int sc, .int ln, .int le])), (bA, .inl (cI, 1220, .inl fb)), (xA, .inl (cI, 1220, .inl fx)), (kA, .inl (cI, 1220, .inl fq)), (g0, .inr (1, [.ref gF, .ref gK, .ref gT, .ref gC, .ref gM, .int gc, .ref eF, .ref eC, .ref eM, .int ec, .ref hopA])), (eF, .inl (cI, 10, .inl feF)), (eC, .inl (cI, 10, .inl feC)), (eM, .inl (cI, 10, .inl feM))] := hD
          refine lv_istore_n (lv' := [(3, .int ((nI k) * 2 + 0)), (2, .int (nI k)), (0, .ref h0), (1, .ref g0)]) hx hb dX0_finish_43 rfl hl (by decide) rfl (fun ls hl => ?_)
          refine lv_iconst (v := 0) hx hb dX0_finish_44 (by decide) ?_
          refine lv_istore (lv' := [(4, .int 0), (3, .int ((nI k) * 2 + 0)), (2, .int (nI k)), (0, .ref h0), (1, .ref g0)]) hx hb dX0_finish_45 hl (by decide) rfl (fun ls hl => ?_)
          have lp_47 : ∀ (n_47 : Nat) (iv : Int32) (lc : Int32) (sc : Int32) (ln : Int32) (le : Int32), ((ec : Int32).toInt - (iv : Int32).toInt < n_47 ∧ 0 < n_47) → ∀ (H : Heap) (locs : List Loc) (ls : Array Slot), va_P (dC, dI) vwCl [(h0, .inr (0, [.ref bA, .ref xA, .ref kA, .ref aA, .ref eA, .ref gA, .ref oA, .int rd, .int lc, .int sc, .int ln, .int le])), (bA, .inl (cI, 1220, .inl fb)), (xA, .inl (cI, 1220, .inl fx)), (kA, .inl (cI, 1220, .inl fq)), (g0, .inr (1, [.ref gF, .ref gK, .ref gT, .ref gC, .ref gM, .int gc, .ref eF, .ref eC, .ref eM, .int ec, .ref hopA])), (eF, .inl (cI, 10, .inl feF)), (eC, .inl (cI, 10, .inl feC)), (eM, .inl (cI, 10, .inl feM))] H → va_D A [(h0, .inr (0, [.ref bA, .ref xA, .ref kA, .ref aA, .ref eA, .ref gA, .ref oA, .int rd, .int lc, .int sc, .int ln, .int le])), (bA, .inl (cI, 1220, .inl fb)), (xA, .inl (cI, 1220, .inl fx)), (kA, .inl (cI, 1220, .inl fq)), (g0, .inr (1, [.ref gF, .ref gK, .ref gT, .ref gC, .ref gM, .int gc, .ref eF, .ref eC, .ref eM, .int ec, .ref hopA])), (eF, .inl (cI, 10, .inl feF)), (eC, .inl (cI, 10, .inl feC)), (eM, .inl (cI, 10, .inl feM))] → va_S A s.heap H locs → lv_has ls 5 [(4, .int iv), (3, .int ((nI k) * 2 + 0)), (2, .int (nI k)), (0, .ref h0), (1, .ref g0)] → W p l e (headSpec wsX0_finish ({ frames := 2, cells := 0, slots := 0, locals := 48 })).room s m ([.ref h0, .ref g0]).toArray below meth c H locs 0 0 (MQ below (va_Qv (fun (u : (Int32) × (Int32) × (Int32) × (Int32)) => match u with | (lc2, sc2, ln2, le2) => True) (fun (u : (Int32) × (Int32) × (Int32) × (Int32)) t => match u with | (lc2, sc2, ln2, le2) => sB dC dI A [(h0, .inr (0, [.ref bA, .ref xA, .ref kA, .ref aA, .ref eA, .ref gA, .ref oA, .int rd, .int lc2, .int sc2, .int ln2, .int le2])), (bA, .inl (cI, 1220, .inl fb)), (xA, .inl (cI, 1220, .inl fx)), (kA, .inl (cI, 1220, .inl fq)), (g0, .inr (1, [.ref gF, .ref gK, .ref gT, .ref gC, .ref gM, .int gc, .ref eF, .ref eC, .ref eM, .int ec, .ref hopA])), (eF, .inl (cI, 10, .inl feF)), (eC, .inl (cI, 10, .inl feC)), (eM, .inl (cI, 10, .inl feM))] t) A) ([.ref h0, .ref g0]).toArray s 0 0 A) (F0 m 47 ls []) := by
            intro n_47
            induction n_47 with
            | zero =>
              intro iv lc sc ln le fuel_47 
              exact absurd fuel_47 (by omega)
            | succ n_47 ih_47 =>
              intro iv lc sc ln le fuel_47  H locs ls hP hD hS hl
              refine lv_iload hx hb dX0_finish_47 (lv_at hl 0 rfl) ?_
              refine lv_aload_n hx hb dX0_finish_49 rfl (lv_at hl 4 rfl) ?_
              refine va_getN (D := (dC, dI)) (ci := 1) (v := .int ec) (C := RX1) (T := TX1) (N := 11) hx hb hts i1 hown hK hP 4 rfl rfl 9 (by decide) (va_Nw.use rfl (hsk.2.1 ("StopSetter$Chart", 73, "StopSetter$Grammar", "endCount", "I", "StopSetter") (by decide +kernel))) (fun _ h9 => h9) rfl dX0_finish_50 ?_
              refine lv_icmp_ge (tgt := 94) hx hb dX0_finish_53 (by decide) (fun c_53 => ?_) (fun c_53 => ?_)
              · skip
                refine lv_iinc (v := (nI (k + 1))) (lv' := [(2, .int (nI (k + 1))), (4, .int iv), (3, .int ((nI k) * 2 + 0)), (0, .ref h0), (1, .ref g0)]) hx hb dX0_finish_94 hl (k := 2) rfl (nI_1 k) (by decide) rfl (fun ls hl => ?_)
                refine lv_goto (tgt := 32) hx hb dX0_finish_97 (by decide) ?_
                exact ih_32  (k + 1) lc sc ln le (by omega) (by omega) _ _ _ hP hD hS (lv_sub hl [0, 3, 4] rfl)
              · skip
                refine lv_aload_n hx hb dX0_finish_56 rfl (lv_at hl 3 rfl) ?_
                refine lv_iload_n hx hb dX0_finish_57 rfl (lv_at hl 1 rfl) ?_
                have hPc := hP.sub (ws' := [(h0, .inr (0, [.ref bA, .ref xA, .ref kA, .ref aA, .ref eA, .ref gA, .ref oA, .int rd, .int lc, .int sc, .int ln, .int le])), (bA, .inl (cI, 1220, .inl fb))]) [0, 1] rfl
                have hDc := hD.sub (ws' := [(h0, .inr (0, [.ref bA, .ref xA, .ref kA, .ref aA, .ref eA, .ref gA, .ref oA, .int rd, .int lc, .int sc, .int ln, .int le])), (bA, .inl (cI, 1220, .inl fb))]) [0, 1] (by decide) rfl
                have hFc := va_free (wc := [(h0, .inr (0, [.ref bA, .ref xA, .ref kA, .ref aA, .ref eA, .ref gA, .ref oA, .int rd, .int lc, .int sc, .int ln, .int le])), (bA, .inl (cI, 1220, .inl fb))]) hD hS hA [0, 1] rfl
                refine va_calli (va_runV (As := [.int ((nI k) * 2 + 0)]) (rest := []) ⟨hx, hb, hml, hown, hts⟩ (k_isReached l dC dI cI cZ cC cJ H.size  h0 bA xA kA aA eA gA oA rd lc sc ln le fb ((nI k) * 2 + 0) ) (cwV 1 hts gX0_finish_X0_isReached rfl rfl rfl (by decide +kernel) ⟨Nat.le_of_ble_eq_true rfl, Nat.le_of_ble_eq_true rfl⟩) ⟨sPre_blind, va_recv hK hPc (ci := 0) (q0 := 0) rfl rfl, fun U hU hW => ⟨rfl, sPre_ok hsk hPc hDc hU hW⟩⟩ rfl rfl hl.1 rfl (lv_room (Nat.le_of_ble_eq_true rfl)) dX0_finish_58 ⟨(show 0 + 0 ≤ 0 by omega), (show 0 + 0 ≤ 0 by omega)⟩) hS (fun q _ h => hFc q h) hFc (fun r_3 u t H1 locs ht hvm hw hB hz1 hk1 hS => ?_)
                try dsimp only at hw hB
                obtain ⟨hP1, hD1⟩ := hB
                rw [ht] at hP1
                obtain ⟨hP, hD⟩ := va_join (wr := [(xA, .inl (cI, 1220, .inl fx)), (kA, .inl (cI, 1220, .inl fq)), (g0, .inr (1, [.ref gF, .ref gK, .ref gT, .ref gC, .ref gM, .int gc, .ref eF, .ref eC, .ref eM, .int ec, .ref hopA])), (eF, .inl (cI, 10, .inl feF)), (eC, .inl (cI, 10, .inl feC)), (eM, .inl (cI, 10, .inl feM))]) (w1 := [(h0, .inr (0, [.ref bA, .ref xA, .ref kA, .ref aA, .ref eA, .ref gA, .ref oA, .int rd, .int lc, .int sc, .int ln, .int le])), (bA, .inl (cI, 1220, .inl fb))]) hP hD [0, 1] [2, 3, 4, 5, 6, 7] rfl rfl (by decide) (by decide) hk1 hFc hP1 hD1
                generalize H1 = H at hP hS ⊢
                have hP : va_P (dC, dI) vwCl [(xA, .inl (cI, 1220, .inl fx)), (kA, .inl (cI, 1220, .inl fq)), (g0, .inr (1, [.ref gF, .ref gK, .ref gT, .ref gC, .ref gM, .int gc, .ref eF, .ref eC, .ref eM, .int ec, .ref hopA])), (eF, .inl (cI, 10, .inl feF)), (eC, .inl (cI, 10, .inl feC)), (eM, .inl (cI, 10, .inl feM)), (h0, .inr (0, [.ref bA, .ref xA, .ref kA, .ref aA, .ref eA, .ref gA, .ref oA, .int rd, .int lc, .int sc, .int ln, .int le])), (bA, .inl (cI, 1220, .inl fb))] H := hP
                have hD : va_D A [(xA, .inl (cI, 1220, .inl fx)), (kA, .inl (cI, 1220, .inl fq)), (g0, .inr (1, [.ref gF, .ref gK, .ref gT, .ref gC, .ref gM, .int gc, .ref eF, .ref eC, .ref eM, .int ec, .ref hopA])), (eF, .inl (cI, 10, .inl feF)), (eC, .inl (cI, 10, .inl feC)), (eM, .inl (cI, 10, .inl feM)), (h0, .inr (0, [.ref bA, .ref xA, .ref kA, .ref aA, .ref eA, .ref gA, .ref oA, .int rd, .int lc, .int sc, .int ln, .int le])), (bA, .inl (cI, 1220, .inl fb))] := hD
                have hw_r_3 := hw
                refine lv_if_eq (tgt := 88) hx hb dX0_finish_61 (by decide) (fun c_61 => ?_) (fun c_61 => ?_)
                · skip
                  refine lv_iinc (v := (iv + 1)) (lv' := [(4, .int (iv + 1)), (3, .int ((nI k) * 2 + 0)), (2, .int (nI k)), (0, .ref h0), (1, .ref g0)]) hx hb dX0_finish_88 hl (k := 0) rfl rfl (by decide) rfl (fun ls hl => ?_)
                  refine lv_goto (tgt := 47) hx hb dX0_finish_91 (by decide) ?_
                  exact ih_47  (iv + 1) lc sc ln le (up_f c_53 fuel_47) _ _ _ (hP.sub [6, 7, 0, 1, 2, 3, 4, 5] rfl) (hD.sub [6, 7, 0, 1, 2, 3, 4, 5] (by decide) rfl) hS (lv_sub hl [0, 1, 2, 3, 4] rfl)
                · skip
                  refine lv_aload_n hx hb dX0_finish_64 rfl (lv_at hl 4 rfl) ?_
                  refine lv_iload hx hb dX0_finish_65 (lv_at hl 0 rfl) ?_
                  refine lv_iload_n hx hb dX0_finish_67 rfl (lv_at hl 2 rfl) ?_
                  refine lv_iconst (v := (-1)) hx hb dX0_finish_68 (by decide) ?_
                  have hPc := hP.sub (ws' := [(g0, .inr (1, [.ref gF, .ref gK, .ref gT, .ref gC, .ref gM, .int gc, .ref eF, .ref eC, .ref eM, .int ec, .ref hopA])), (eF, .inl (cI, 10, .inl feF)), (eM, .inl (cI, 10, .inl feM))]) [2, 3, 5] rfl
                  have hDc := hD.sub (ws' := [(g0, .inr (1, [.ref gF, .ref gK, .ref gT, .ref gC, .ref gM, .int gc, .ref eF, .ref eC, .ref eM, .int ec, .ref hopA])), (eF, .inl (cI, 10, .inl feF)), (eM, .inl (cI, 10, .inl feM))]) [2, 3, 5] (by decide) rfl
                  have hFc := va_free (wc := [(g0, .inr (1, [.ref gF, .ref gK, .ref gT, .ref gC, .ref gM, .int gc, .ref eF, .ref eC, .ref eM, .int ec, .ref hopA])), (eF, .inl (cI, 10, .inl feF)), (eM, .inl (cI, 10, .inl feM))]) hD hS hA [2, 3, 5] rfl
                  refine va_calli (va_runV (As := [.int iv, .int (nI k), .int (-1)]) (rest := []) ⟨hx, hb, hml, hown, hts⟩ (k_canEnd l dC dI cI cZ cC cJ H.size  g0 gF gK gT gC gM gc eF eC eM ec hopA feF feM iv (nI k) (-1) ) (cwV 3 hts gX0_finish_X1_canEnd rfl rfl rfl (by decide +kernel) ⟨Nat.le_of_ble_eq_true rfl, Nat.le_of_ble_eq_true rfl⟩) ⟨sPre_blind, va_recv hK hPc (ci := 1) (q0 := 0) rfl rfl, fun U hU hW => ⟨rfl, sPre_ok hsk hPc hDc hU hW⟩⟩ rfl rfl hl.1 rfl (lv_room (Nat.le_of_ble_eq_true rfl)) dX0_finish_69 ⟨(show 0 + 0 ≤ 0 by omega), (show 0 + 0 ≤ 0 by omega)⟩) hS (fun q _ h => hFc q h) hFc (fun r_4 u t H1 locs ht hvm hw hB hz1 hk1 hS => ?_)
                  try dsimp only at hw hB
                  have hw_5 := hw
                  obtain rfl : r_4 = canE ec feF feM iv (nI k) (-1) := hw_5
                  obtain ⟨hP1, hD1⟩ := hB
                  rw [ht] at hP1
                  obtain ⟨hP, hD⟩ := va_join (wr := [(xA, .inl (cI, 1220, .inl fx)), (kA, .inl (cI, 1220, .inl fq)), (eC, .inl (cI, 10, .inl feC)), (h0, .inr (0, [.ref bA, .ref xA, .ref kA, .ref aA, .ref eA, .ref gA, .ref oA, .int rd, .int lc, .int sc, .int ln, .int le])), (bA, .inl (cI, 1220, .inl fb))]) (w1 := [(g0, .inr (1, [.ref gF, .ref gK, .ref gT, .ref gC, .ref gM, .int gc, .ref eF, .ref eC, .ref eM, .int ec, .ref hopA])), (eF, .inl (cI, 10, .inl feF)), (eM, .inl (cI, 10, .inl feM))]) hP hD [2, 3, 5] [0, 1, 4, 6, 7] rfl rfl (by decide) (by decide) hk1 hFc hP1 hD1
                  generalize H1 = H at hP hS ⊢
                  have hP : va_P (dC, dI) vwCl [(xA, .inl (cI, 1220, .inl fx)), (kA, .inl (cI, 1220, .inl fq)), (eC, .inl (cI, 10, .inl feC)), (h0, .inr (0, [.ref bA, .ref xA, .ref kA, .ref aA, .ref eA, .ref gA, .ref oA, .int rd, .int lc, .int sc, .int ln, .int le])), (bA, .inl (cI, 1220, .inl fb)), (g0, .inr (1, [.ref gF, .ref gK, .ref gT, .ref gC, .ref gM, .int gc, .ref eF, .ref eC, .ref eM, .int ec, .ref hopA])), (eF, .inl (cI, 10, .inl feF)), (eM, .inl (cI, 10, .inl feM))] H := hP
                  have hD : va_D A [(xA, .inl (cI, 1220, .inl fx)), (kA, .inl (cI, 1220, .inl fq)), (eC, .inl (cI, 10, .inl feC)), (h0, .inr (0, [.ref bA, .ref xA, .ref kA, .ref aA, .ref eA, .ref gA, .ref oA, .int rd, .int lc, .int sc, .int ln, .int le])), (bA, .inl (cI, 1220, .inl fb)), (g0, .inr (1, [.ref gF, .ref gK, .ref gT, .ref gC, .ref gM, .int gc, .ref eF, .ref eC, .ref eM, .int ec, .ref hopA])), (eF, .inl (cI, 10, .inl feF)), (eM, .inl (cI, 10, .inl feM))] := hD
                  refine lv_if_eq (tgt := 88) hx hb dX0_finish_72 (by decide) (fun c_72 => ?_) (fun c_72 => ?_)
                  · skip
                    refine lv_iinc (v := (iv + 1)) (lv' := [(4, .int (iv + 1)), (3, .int ((nI k) * 2 + 0)), (2, .int (nI k)), (0, .ref h0), (1, .ref g0)]) hx hb dX0_finish_88 hl (k := 0) rfl rfl (by decide) rfl (fun ls hl => ?_)
                    refine lv_goto (tgt := 47) hx hb dX0_finish_91 (by decide) ?_
                    exact ih_47  (iv + 1) lc sc ln le (up_f c_53 fuel_47) _ _ _ (hP.sub [3, 4, 0, 1, 5, 6, 2, 7] rfl) (hD.sub [3, 4, 0, 1, 5, 6, 2, 7] (by decide) rfl) hS (lv_sub hl [0, 1, 2, 3, 4] rfl)
                  · skip
                    refine lv_aload_n hx hb dX0_finish_75 rfl (lv_at hl 3 rfl) ?_
                    refine lv_iload_n hx hb dX0_finish_76 rfl (lv_at hl 1 rfl) ?_
                    refine lv_iload hx hb dX0_finish_77 (lv_at hl 0 rfl) ?_
                    refine lv_aload_n hx hb dX0_finish_79 rfl (lv_at hl 4 rfl) ?_
                    refine lv_iload hx hb dX0_finish_80 (lv_at hl 0 rfl) ?_
                    have hPc := hP.sub (ws' := [(g0, .inr (1, [.ref gF, .ref gK, .ref gT, .ref gC, .ref gM, .int gc, .ref eF, .ref eC, .ref eM, .int ec, .ref hopA])), (eC, .inl (cI, 10, .inl feC))]) [5, 2] rfl
                    have hDc := hD.sub (ws' := [(g0, .inr (1, [.ref gF, .ref gK, .ref gT, .ref gC, .ref gM, .int gc, .ref eF, .ref eC, .ref eM, .int ec, .ref hopA])), (eC, .inl (cI, 10, .inl feC))]) [5, 2] (by decide) rfl
                    have hFc := va_free (wc := [(g0, .inr (1, [.ref gF, .ref gK, .ref gT, .ref gC, .ref gM, .int gc, .ref eF, .ref eC, .ref eM, .int ec, .ref hopA])), (eC, .inl (cI, 10, .inl feC))]) hD hS hA [5, 2] rfl
                    refine va_calli (va_runV (As := [.int iv]) (rest := [.int iv, .int ((nI k) * 2 + 0), .ref h0]) ⟨hx, hb, hml, hown, hts⟩ (k_costOfEnd l dC dI cI cZ cC cJ H.size  g0 gF gK gT gC gM gc eF eC eM ec hopA feC iv ) (cwV 1 hts gX0_finish_X1_costOfEnd rfl rfl rfl (by decide +kernel) ⟨Nat.le_of_ble_eq_true rfl, Nat.le_of_ble_eq_true rfl⟩) ⟨sPre_blind, va_recv hK hPc (ci := 1) (q0 := 0) rfl rfl, fun U hU hW => ⟨rfl, sPre_ok hsk hPc hDc hU hW⟩⟩ rfl rfl hl.1 rfl (lv_room (Nat.le_of_ble_eq_true rfl)) dX0_finish_82 ⟨(show 0 + 0 ≤ 0 by omega), (show 0 + 0 ≤ 0 by omega)⟩) hS (fun q _ h => hFc q h) hFc (fun r_6 u t H1 locs ht hvm hw hB hz1 hk1 hS => ?_)
                    try dsimp only at hw hB
                    obtain ⟨hP1, hD1⟩ := hB
                    rw [ht] at hP1
                    obtain ⟨hP, hD⟩ := va_join (wr := [(xA, .inl (cI, 1220, .inl fx)), (kA, .inl (cI, 1220, .inl fq)), (h0, .inr (0, [.ref bA, .ref xA, .ref kA, .ref aA, .ref eA, .ref gA, .ref oA, .int rd, .int lc, .int sc, .int ln, .int le])), (bA, .inl (cI, 1220, .inl fb)), (eF, .inl (cI, 10, .inl feF)), (eM, .inl (cI, 10, .inl feM))]) (w1 := [(g0, .inr (1, [.ref gF, .ref gK, .ref gT, .ref gC, .ref gM, .int gc, .ref eF, .ref eC, .ref eM, .int ec, .ref hopA])), (eC, .inl (cI, 10, .inl feC))]) hP hD [5, 2] [0, 1, 3, 4, 6, 7] rfl rfl (by decide) (by decide) hk1 hFc hP1 hD1
                    generalize H1 = H at hP hS ⊢
                    have hP : va_P (dC, dI) vwCl [(xA, .inl (cI, 1220, .inl fx)), (kA, .inl (cI, 1220, .inl fq)), (h0, .inr (0, [.ref bA, .ref xA, .ref kA, .ref aA, .ref eA, .ref gA, .ref oA, .int rd, .int lc, .int sc, .int ln, .int le])), (bA, .inl (cI, 1220, .inl fb)), (eF, .inl (cI, 10, .inl feF)), (eM, .inl (cI, 10, .inl feM)), (g0, .inr (1, [.ref gF, .ref gK, .ref gT, .ref gC, .ref gM, .int gc, .ref eF, .ref eC, .ref eM, .int ec, .ref hopA])), (eC, .inl (cI, 10, .inl feC))] H := hP
                    have hD : va_D A [(xA, .inl (cI, 1220, .inl fx)), (kA, .inl (cI, 1220, .inl fq)), (h0, .inr (0, [.ref bA, .ref xA, .ref kA, .ref aA, .ref eA, .ref gA, .ref oA, .int rd, .int lc, .int sc, .int ln, .int le])), (bA, .inl (cI, 1220, .inl fb)), (eF, .inl (cI, 10, .inl feF)), (eM, .inl (cI, 10, .inl feM)), (g0, .inr (1, [.ref gF, .ref gK, .ref gT, .ref gC, .ref gM, .int gc, .ref eF, .ref eC, .ref eM, .int ec, .ref hopA])), (eC, .inl (cI, 10, .inl feC))] := hD
                    have hw_r_6 := hw
                    have hPc := hP.sub (ws' := [(h0, .inr (0, [.ref bA, .ref xA, .ref kA, .ref aA, .ref eA, .ref gA, .ref oA, .int rd, .int lc, .int sc, .int ln, .int le])), (bA, .inl (cI, 1220, .inl fb)), (xA, .inl (cI, 1220, .inl fx)), (kA, .inl (cI, 1220, .inl fq))]) [2, 3, 0, 1] rfl
                    have hDc := hD.sub (ws' := [(h0, .inr (0, [.ref bA, .ref xA, .ref kA, .ref aA, .ref eA, .ref gA, .ref oA, .int rd, .int lc, .int sc, .int ln, .int le])), (bA, .inl (cI, 1220, .inl fb)), (xA, .inl (cI, 1220, .inl fx)), (kA, .inl (cI, 1220, .inl fq))]) [2, 3, 0, 1] (by decide) rfl
                    have hFc := va_free (wc := [(h0, .inr (0, [.ref bA, .ref xA, .ref kA, .ref aA, .ref eA, .ref gA, .ref oA, .int rd, .int lc, .int sc, .int ln, .int le])), (bA, .inl (cI, 1220, .inl fb)), (xA, .inl (cI, 1220, .inl fx)), (kA, .inl (cI, 1220, .inl fq))]) hD hS hA [2, 3, 0, 1] rfl
                    refine va_callv (va_runV (As := [.int ((nI k) * 2 + 0), .int iv, .int r_6]) (rest := []) ⟨hx, hb, hml, hown, hts⟩ (k_offerLast l dC dI cI cZ cC cJ H.size  h0 bA xA kA aA eA gA oA rd lc sc ln le fb fx fq ((nI k) * 2 + 0) iv r_6 ) (cwV 3 hts gX0_finish_X0_offerLast rfl rfl rfl (by decide +kernel) ⟨Nat.le_of_ble_eq_true rfl, Nat.le_of_ble_eq_true rfl⟩) ⟨sPre_blind, va_recv hK hPc (ci := 0) (q0 := 0) rfl rfl, fun U hU hW => ⟨rfl, sPre_ok hsk hPc hDc hU hW⟩⟩ rfl rfl hl.1 rfl (lv_room (Nat.le_of_ble_eq_true rfl)) dX0_finish_85 ⟨(show 0 + 0 ≤ 0 by omega), (show 0 + 0 ≤ 0 by omega)⟩) hS (fun q _ h => hFc q h) hFc (fun u t H1 locs ht hvm hw hB hz1 hk1 hS => ?_)
                    obtain ⟨l_8, s_9, l_10, l_11⟩ := u
                    try dsimp only at hw hB
                    obtain ⟨hP1, hD1⟩ := hB
                    rw [ht] at hP1
                    obtain ⟨hP, hD⟩ := va_join (wr := [(eF, .inl (cI, 10, .inl feF)), (eM, .inl (cI, 10, .inl feM)), (g0, .inr (1, [.ref gF, .ref gK, .ref gT, .ref gC, .ref gM, .int gc, .ref eF, .ref eC, .ref eM, .int ec, .ref hopA])), (eC, .inl (cI, 10, .inl feC))]) (w1 := [(h0, .inr (0, [.ref bA, .ref xA, .ref kA, .ref aA, .ref eA, .ref gA, .ref oA, .int rd, .int l_8, .int s_9, .int l_10, .int l_11])), (bA, .inl (cI, 1220, .inl fb)), (xA, .inl (cI, 1220, .inl fx)), (kA, .inl (cI, 1220, .inl fq))]) hP hD [2, 3, 0, 1] [4, 5, 6, 7] rfl rfl (by decide) (by decide) hk1 hFc hP1 hD1
                    generalize H1 = H at hP hS ⊢
                    have hP : va_P (dC, dI) vwCl [(eF, .inl (cI, 10, .inl feF)), (eM, .inl (cI, 10, .inl feM)), (g0, .inr (1, [.ref gF, .ref gK, .ref gT, .ref gC, .ref gM, .int gc, .ref eF, .ref eC, .ref eM, .int ec, .ref hopA])), (eC, .inl (cI, 10, .inl feC)), (h0, .inr (0, [.ref bA, .ref xA, .ref kA, .ref aA, .ref eA, .ref gA, .ref oA, .int rd, .int l_8, .int s_9, .int l_10, .int l_11])), (bA, .inl (cI, 1220, .inl fb)), (xA, .inl (cI, 1220, .inl fx)), (kA, .inl (cI, 1220, .inl fq))] H := hP
                    have hD : va_D A [(eF, .inl (cI, 10, .inl feF)), (eM, .inl (cI, 10, .inl feM)), (g0, .inr (1, [.ref gF, .ref gK, .ref gT, .ref gC, .ref gM, .int gc, .ref eF, .ref eC, .ref eM, .int ec, .ref hopA])), (eC, .inl (cI, 10, .inl feC)), (h0, .inr (0, [.ref bA, .ref xA, .ref kA, .ref aA, .ref eA, .ref gA, .ref oA, .int rd, .int l_8, .int s_9, .int l_10, .int l_11])), (bA, .inl (cI, 1220, .inl fb)), (xA, .inl (cI, 1220, .inl fx)), (kA, .inl (cI, 1220, .inl fq))] := hD
                    refine lv_iinc (v := (iv + 1)) (lv' := [(4, .int (iv + 1)), (3, .int ((nI k) * 2 + 0)), (2, .int (nI k)), (0, .ref h0), (1, .ref g0)]) hx hb dX0_finish_88 hl (k := 0) rfl rfl (by decide) rfl (fun ls hl => ?_)
                    refine lv_goto (tgt := 47) hx hb dX0_finish_91 (by decide) ?_
                    exact ih_47  (iv + 1) l_8 s_9 l_10 l_11 (up_f c_53 fuel_47) _ _ _ (hP.sub [4, 5, 6, 7, 2, 0, 3, 1] rfl) (hD.sub [4, 5, 6, 7, 2, 0, 3, 1] (by decide) rfl) hS (lv_sub hl [0, 1, 2, 3, 4] rfl)
          exact lp_47 (((ec : Int32).toInt - (0 : Int32).toInt).toNat + 1) 0 lc sc ln le (by omega) _ _ _ hP hD hS (lv_sub hl [0, 1, 2, 3, 4] rfl)
    exact lp_32 11 0 1000000000 1000000000 0 (-1) (by omega) (by omega) _ _ _ hP hD hS (lv_sub hl [0, 1, 2] rfl)
  · skip
    have hP9 := hP.sub (ws' := [(h0, .inr (0, [.ref bA, .ref xA, .ref kA, .ref aA, .ref eA, .ref gA, .ref oA, .int rd, .int 1000000000, .int 1000000000, .int 0, .int (-1)])), (bA, .inl (cI, 1220, .inl fb)), (xA, .inl (cI, 1220, .inl fx)), (kA, .inl (cI, 1220, .inl fq)), (g0, .inr (1, [.ref gF, .ref gK, .ref gT, .ref gC, .ref gM, .int gc, .ref eF, .ref eC, .ref eM, .int ec, .ref hopA])), (eF, .inl (cI, 10, .inl feF)), (eC, .inl (cI, 10, .inl feC)), (eM, .inl (cI, 10, .inl feM))]) [0, 1, 2, 3, 4, 5, 6, 7] rfl
    have hD9 := hD.sub (ws' := [(h0, .inr (0, [.ref bA, .ref xA, .ref kA, .ref aA, .ref eA, .ref gA, .ref oA, .int rd, .int 1000000000, .int 1000000000, .int 0, .int (-1)])), (bA, .inl (cI, 1220, .inl fb)), (xA, .inl (cI, 1220, .inl fx)), (kA, .inl (cI, 1220, .inl fq)), (g0, .inr (1, [.ref gF, .ref gK, .ref gT, .ref gC, .ref gM, .int gc, .ref eF, .ref eC, .ref eM, .int ec, .ref hopA])), (eF, .inl (cI, 10, .inl feF)), (eC, .inl (cI, 10, .inl feC)), (eM, .inl (cI, 10, .inl feM))]) [0, 1, 2, 3, 4, 5, 6, 7] (by decide) rfl
    exact W.vret hx hb hr (fun t ht hW => ⟨⟨(1000000000, 1000000000, 0, (-1)), rfl, trivial, by rw [ht]; exact hP9, hD9⟩, hS.F ht⟩) hS.2.2 dX0_finish_29
set_option maxHeartbeats 4000000 in
set_option maxRecDepth 100000 in
theorem k_cnodeBehind (l : Launch) (dC : Nat → ClassId) (dI : Nat → Nat → Nat) (cI cZ cC cJ : ClassId) (sz : Nat) (h0 : Nat) (bA : Nat) (xA : Nat) (kA : Nat) (aA : Nat) (eA : Nat) (gA : Nat) (oA : Nat) (rd : Int32) (lc : Int32) (sc : Int32) (ln : Int32) (le : Int32) (fa : Nat → Int32) (p0 : Int32)  : Met l yX0_nodeBehind wsX0_nodeBehind ({ frames := 1, cells := 0, slots := 0, locals := 22 }) (va_Pc [.ref h0, .int p0] (sPre dC dI cI cZ cC cJ [(h0, .inr (0, [.ref bA, .ref xA, .ref kA, .ref aA, .ref eA, .ref gA, .ref oA, .int rd, .int lc, .int sc, .int ln, .int le])), (aA, .inl (cI, 1220, .inl fa))] sz)) (va_Qi (fun (r : Int32) (u : Unit) => True) (fun _ => sB dC dI (va_A [(h0, .inr (0, [.ref bA, .ref xA, .ref kA, .ref aA, .ref eA, .ref gA, .ref oA, .int rd, .int lc, .int sc, .int ln, .int le])), (aA, .inl (cI, 1220, .inl fa))] sz) [(h0, .inr (0, [.ref bA, .ref xA, .ref kA, .ref aA, .ref eA, .ref gA, .ref oA, .int rd, .int lc, .int sc, .int ln, .int le])), (aA, .inl (cI, 1220, .inl fa))]) (va_A [(h0, .inr (0, [.ref bA, .ref xA, .ref kA, .ref aA, .ref eA, .ref gA, .ref oA, .int rd, .int lc, .int sc, .int ln, .int le])), (aA, .inl (cI, 1220, .inl fa))] sz)) 0 0 (va_A [(h0, .inr (0, [.ref bA, .ref xA, .ref kA, .ref aA, .ref eA, .ref gA, .ref oA, .int rd, .int lc, .int sc, .int ln, .int le])), (aA, .inl (cI, 1220, .inl fa))] sz) := by
  refine Met.ofW (cc := cX0_nodeBehind) (maxL := 4) (ret := (some .int)) (by decide) rfl ?_
  intro p e s m args below meth c s₁ B hml hv
  obtain ⟨rfl, hsz, hP, hsk, hD0⟩ := hv
  have hx := B.exec
  have hb := B.bytes
  have hr := B.returns
  have hts := atoms_spec (ws := wsX0_nodeBehind) B.pre
  have hown : s.vm.findClass RX0 = some m.cls := findClass_of_methodNamed B.named
  have hlocks := B.notSynchronized
  have hK := hsk.1
  have i0 : ∀ w ∈ wsX00, w ∈ wsX0_nodeBehind := by decide +kernel
  subst hsz
  have hD := hD0.self (sz := s.heap.size)
  generalize hAe : va_A [(h0, .inr (0, [.ref bA, .ref xA, .ref kA, .ref aA, .ref eA, .ref gA, .ref oA, .int rd, .int lc, .int sc, .int ln, .int le])), (aA, .inl (cI, 1220, .inl fa))] s.heap.size = A at hD ⊢
  have hA : ∀ q : Nat, s.heap.size ≤ q → A q := fun q h => by rw [← hAe]; exact Or.inr h
  have hS : va_S A s.heap s.heap [] := va_S.rf
  have hl := lv_entry ([.ref h0, .int p0]) (n := 4) (Nat.le_of_ble_eq_true rfl)
  rw [lg_entry_eq]
  generalize (lg_sl ([.ref h0, .int p0]) ++ List.replicate (4 - (lg_sl ([.ref h0, .int p0])).length) Slot.unset).toArray = ls at hl ⊢
  have hl : lv_has ls 4 [(0, .ref h0), (1, .int p0)] := hl
  refine lv_aload_n hx hb dX0_nodeBehind_0 rfl (lv_at hl 0 rfl) ?_
  refine va_get (D := (dC, dI)) (ci := 0) (v := .int ln) (C := RX0) (T := TX0) (N := 12) hx hb hts i0 hown hK hP 0 rfl rfl 10 (by decide) (hts (.fieldLink RX0 113 "StopSetter$Chart" "lastNode" "I") (by decide +kernel)) (fun _ h9 => h9) rfl dX0_nodeBehind_1 ?_
  refine lv_istore_n (lv' := [(2, .int ln), (0, .ref h0), (1, .int p0)]) hx hb dX0_nodeBehind_4 rfl hl (by decide) rfl (fun ls hl => ?_)
  refine lv_aload_n hx hb dX0_nodeBehind_5 rfl (lv_at hl 1 rfl) ?_
  refine va_get (D := (dC, dI)) (ci := 0) (v := .int rd) (C := RX0) (T := TX0) (N := 12) hx hb hts i0 hown hK hP 0 rfl rfl 7 (by decide) (hts (.fieldLink RX0 47 "StopSetter$Chart" "ready" "I") (by decide +kernel)) (fun _ h9 => h9) rfl dX0_nodeBehind_6 ?_
  refine lv_istore_n (lv' := [(3, .int rd), (2, .int ln), (0, .ref h0), (1, .int p0)]) hx hb dX0_nodeBehind_9 rfl hl (by decide) rfl (fun ls hl => ?_)
  have lp_10 : ∀ (n_10 : Nat) (iv : Int32) (nd : Int32), ((iv : Int32).toInt - ((p0 + 1) : Int32).toInt < n_10 ∧ 0 < n_10) → ∀ (H : Heap) (locs : List Loc) (ls : Array Slot), va_P (dC, dI) vwCl [(h0, .inr (0, [.ref bA, .ref xA, .ref kA, .ref aA, .ref eA, .ref gA, .ref oA, .int rd, .int lc, .int sc, .int ln, .int le])), (aA, .inl (cI, 1220, .inl fa))] H → va_D A [(h0, .inr (0, [.ref bA, .ref xA, .ref kA, .ref aA, .ref eA, .ref gA, .ref oA, .int rd, .int lc, .int sc, .int ln, .int le])), (aA, .inl (cI, 1220, .inl fa))] → va_S A s.heap H locs → lv_has ls 4 [(3, .int iv), (2, .int nd), (0, .ref h0), (1, .int p0)] → W p l e (headSpec wsX0_nodeBehind ({ frames := 1, cells := 0, slots := 0, locals := 22 })).room s m ([.ref h0, .int p0]).toArray below meth c H locs 0 0 (MQ below (va_Qi (fun (r : Int32) (u : Unit) => True) (fun _ => sB dC dI A [(h0, .inr (0, [.ref bA, .ref xA, .ref kA, .ref aA, .ref eA, .ref gA, .ref oA, .int rd, .int lc, .int sc, .int ln, .int le])), (aA, .inl (cI, 1220, .inl fa))]) A) ([.ref h0, .int p0]).toArray s 0 0 A) (F0 m 10 ls []) := by
    intro n_10
    induction n_10 with
    | zero =>
      intro iv nd fuel_10 
      exact absurd fuel_10 (by omega)
    | succ n_10 ih_10 =>
      intro iv nd fuel_10  H locs ls hP hD hS hl
      refine lv_iload_n hx hb dX0_nodeBehind_10 rfl (lv_at hl 0 rfl) ?_
      refine lv_iload_n hx hb dX0_nodeBehind_11 rfl (lv_at hl 3 rfl) ?_
      refine lv_iconst (v := 1) hx hb dX0_nodeBehind_12 (by decide) ?_
      refine lv_iadd hx hb dX0_nodeBehind_13 ?_
      refine lv_topi (fun v_ ev_ => ?_)
      obtain rfl : v_ = (p0 + 1) := ev_.trans (rfl)
      refine lv_icmp_le (tgt := 34) hx hb dX0_nodeBehind_14 (by decide) (fun c_14 => ?_) (fun c_14 => ?_)
      · skip
        refine lv_iload_n hx hb dX0_nodeBehind_34 rfl (lv_at hl 1 rfl) ?_
        have hP9 := hP.sub (ws' := [(h0, .inr (0, [.ref bA, .ref xA, .ref kA, .ref aA, .ref eA, .ref gA, .ref oA, .int rd, .int lc, .int sc, .int ln, .int le])), (aA, .inl (cI, 1220, .inl fa))]) [0, 1] rfl
        have hD9 := hD.sub (ws' := [(h0, .inr (0, [.ref bA, .ref xA, .ref kA, .ref aA, .ref eA, .ref gA, .ref oA, .int rd, .int lc, .int sc, .int ln, .int le])), (aA, .inl (cI, 1220, .inl fa))]) [0, 1] (by decide) rfl
        exact W.iret (v := nd) hx hb hr (fun t ht hW => ⟨⟨nd, (), rfl, trivial, by rw [ht]; exact hP9, hD9⟩, hS.F ht⟩) hS.2.2 dX0_nodeBehind_35
      · skip
        refine lv_aload_n hx hb dX0_nodeBehind_17 rfl (lv_at hl 2 rfl) ?_
        refine va_get (D := (dC, dI)) (ci := 0) (v := .ref aA) (C := RX0) (T := TX0) (N := 12) hx hb hts i0 hown hK hP 0 rfl rfl 3 (by decide) (hts (.fieldLink RX0 21 "StopSetter$Chart" "nodeAhead" "[I") (by decide +kernel)) (fun _ h9 => h9) rfl dX0_nodeBehind_18 ?_
        refine lv_iload_n hx hb dX0_nodeBehind_21 rfl (lv_at hl 0 rfl) ?_
        refine lv_iload_n hx hb dX0_nodeBehind_22 rfl (lv_at hl 1 rfl) ?_
        have hPc := hP.sub (ws' := []) [] rfl
        have hDc := hD.sub (ws' := []) [] (by decide) rfl
        have hFc := va_free (wc := []) hD hS hA [] rfl
        refine va_calli (va_runS (As := [.int iv, .int nd]) (rest := [.ref aA]) ⟨hx, hb, hml, hown, hts⟩ (k_cell l dC dI cI cZ cC cJ H.size  iv nd ) (va_cwS 2 hts gX0_nodeBehind_X0_cell rfl rfl rfl (by decide +kernel) ⟨Nat.le_of_ble_eq_true rfl, Nat.le_of_ble_eq_true rfl⟩) ⟨sPre_blind, fun U hU hW => ⟨rfl, sPre_ok hsk hPc hDc hU hW⟩⟩ rfl rfl hl.1 rfl (lv_room (Nat.le_of_ble_eq_true rfl)) dX0_nodeBehind_23 ⟨(show 0 + 0 ≤ 0 by omega), (show 0 + 0 ≤ 0 by omega)⟩) hS (fun q _ h => hFc q h) hFc (fun r_1 u t H1 locs ht hvm hw hB hz1 hk1 hS => ?_)
        try dsimp only at hw hB
        have hw_2 := hw
        obtain rfl : r_1 = cl iv nd := hw_2
        obtain ⟨hP1, hD1⟩ := hB
        rw [ht] at hP1
        obtain ⟨hP, hD⟩ := va_join (wr := [(h0, .inr (0, [.ref bA, .ref xA, .ref kA, .ref aA, .ref eA, .ref gA, .ref oA, .int rd, .int lc, .int sc, .int ln, .int le])), (aA, .inl (cI, 1220, .inl fa))]) (w1 := []) hP hD [] [0, 1] rfl rfl (by decide) (by decide) hk1 hFc hP1 hD1
        generalize H1 = H at hP hS ⊢
        have hP : va_P (dC, dI) vwCl [(h0, .inr (0, [.ref bA, .ref xA, .ref kA, .ref aA, .ref eA, .ref gA, .ref oA, .int rd, .int lc, .int sc, .int ln, .int le])), (aA, .inl (cI, 1220, .inl fa))] H := hP
        have hD : va_D A [(h0, .inr (0, [.ref bA, .ref xA, .ref kA, .ref aA, .ref eA, .ref gA, .ref oA, .int rd, .int lc, .int sc, .int ln, .int le])), (aA, .inl (cI, 1220, .inl fa))] := hD
        refine va_iald hx hb hK hP 1 0 rfl rfl (cl_in _ _) dX0_nodeBehind_26 ?_
        refine lv_topi (fun v_3 ev_3 => ?_)
        refine lv_istore_n (lv' := [(2, .int v_3), (3, .int iv), (0, .ref h0), (1, .int p0)]) hx hb dX0_nodeBehind_27 rfl hl (by decide) rfl (fun ls hl => ?_)
        refine lv_iinc (v := (iv + (-1))) (lv' := [(3, .int (iv + (-1))), (2, .int v_3), (0, .ref h0), (1, .int p0)]) hx hb dX0_nodeBehind_28 hl (k := 1) rfl rfl (by decide) rfl (fun ls hl => ?_)
        refine lv_goto (tgt := 10) hx hb dX0_nodeBehind_31 (by decide) ?_
        exact ih_10  (iv + (-1)) v_3 (dn_f c_14 fuel_10) _ _ _ hP hD hS (lv_sub hl [0, 1, 2, 3] rfl)
  exact lp_10 (((rd : Int32).toInt - ((p0 + 1) : Int32).toInt).toNat + 1) rd ln (by omega) _ _ _ hP hD hS (lv_sub hl [0, 1, 2, 3] rfl)
set_option maxHeartbeats 4000000 in
set_option maxRecDepth 100000 in
theorem k_endsInside (l : Launch) (dC : Nat → ClassId) (dI : Nat → Nat → Nat) (cI cZ cC cJ : ClassId) (sz : Nat) (h0 : Nat) (bA : Nat) (xA : Nat) (kA : Nat) (aA : Nat) (eA : Nat) (gA : Nat) (oA : Nat) (rd : Int32) (lc : Int32) (sc : Int32) (ln : Int32) (le : Int32) (fa : Nat → Int32) (fe : Nat → Int32)  : Met l yX0_endsInside wsX0_endsInside ({ frames := 2, cells := 0, slots := 0, locals := 44 }) (va_Pc [.ref h0] (sPre dC dI cI cZ cC cJ [(h0, .inr (0, [.ref bA, .ref xA, .ref kA, .ref aA, .ref eA, .ref gA, .ref oA, .int rd, .int lc, .int sc, .int ln, .int le])), (aA, .inl (cI, 1220, .inl fa)), (eA, .inl (cI, 1220, .inl fe))] sz)) (va_Qi (fun (r : Int32) (u : Unit) => True) (fun _ => sB dC dI (va_A [(h0, .inr (0, [.ref bA, .ref xA, .ref kA, .ref aA, .ref eA, .ref gA, .ref oA, .int rd, .int lc, .int sc, .int ln, .int le])), (aA, .inl (cI, 1220, .inl fa)), (eA, .inl (cI, 1220, .inl fe))] sz) [(h0, .inr (0, [.ref bA, .ref xA, .ref kA, .ref aA, .ref eA, .ref gA, .ref oA, .int rd, .int lc, .int sc, .int ln, .int le])), (aA, .inl (cI, 1220, .inl fa)), (eA, .inl (cI, 1220, .inl fe))]) (va_A [(h0, .inr (0, [.ref bA, .ref xA, .ref kA, .ref aA, .ref eA, .ref gA, .ref oA, .int rd, .int lc, .int sc, .int ln, .int le])), (aA, .inl (cI, 1220, .inl fa)), (eA, .inl (cI, 1220, .inl fe))] sz)) 0 0 (va_A [(h0, .inr (0, [.ref bA, .ref xA, .ref kA, .ref aA, .ref eA, .ref gA, .ref oA, .int rd, .int lc, .int sc, .int ln, .int le])), (aA, .inl (cI, 1220, .inl fa)), (eA, .inl (cI, 1220, .inl fe))] sz) := by
  refine Met.ofW (cc := cX0_endsInside) (maxL := 4) (ret := (some .int)) (by decide) rfl ?_
  intro p e s m args below meth c s₁ B hml hv
  obtain ⟨rfl, hsz, hP, hsk, hD0⟩ := hv
  have hx := B.exec
  have hb := B.bytes
  have hr := B.returns
  have hts := atoms_spec (ws := wsX0_endsInside) B.pre
  have hown : s.vm.findClass RX0 = some m.cls := findClass_of_methodNamed B.named
  have hlocks := B.notSynchronized
  have hK := hsk.1
  have i0 : ∀ w ∈ wsX00, w ∈ wsX0_endsInside := by decide +kernel
  subst hsz
  have hD := hD0.self (sz := s.heap.size)
  generalize hAe : va_A [(h0, .inr (0, [.ref bA, .ref xA, .ref kA, .ref aA, .ref eA, .ref gA, .ref oA, .int rd, .int lc, .int sc, .int ln, .int le])), (aA, .inl (cI, 1220, .inl fa)), (eA, .inl (cI, 1220, .inl fe))] s.heap.size = A at hD ⊢
  have hA : ∀ q : Nat, s.heap.size ≤ q → A q := fun q h => by rw [← hAe]; exact Or.inr h
  have hS : va_S A s.heap s.heap [] := va_S.rf
  have hl := lv_entry ([.ref h0]) (n := 4) (Nat.le_of_ble_eq_true rfl)
  rw [lg_entry_eq]
  generalize (lg_sl ([.ref h0]) ++ List.replicate (4 - (lg_sl ([.ref h0])).length) Slot.unset).toArray = ls at hl ⊢
  have hl : lv_has ls 4 [(0, .ref h0)] := hl
  refine lv_iconst (v := 0) hx hb dX0_endsInside_0 (by decide) ?_
  refine lv_istore_n (lv' := [(1, .int 0), (0, .ref h0)]) hx hb dX0_endsInside_1 rfl hl (by decide) rfl (fun ls hl => ?_)
  refine lv_aload_n hx hb dX0_endsInside_2 rfl (lv_at hl 1 rfl) ?_
  refine va_get (D := (dC, dI)) (ci := 0) (v := .int ln) (C := RX0) (T := TX0) (N := 12) hx hb hts i0 hown hK hP 0 rfl rfl 10 (by decide) (hts (.fieldLink RX0 113 "StopSetter$Chart" "lastNode" "I") (by decide +kernel)) (fun _ h9 => h9) rfl dX0_endsInside_3 ?_
  refine lv_istore_n (lv' := [(2, .int ln), (1, .int 0), (0, .ref h0)]) hx hb dX0_endsInside_6 rfl hl (by decide) rfl (fun ls hl => ?_)
  refine lv_aload_n hx hb dX0_endsInside_7 rfl (lv_at hl 2 rfl) ?_
  refine va_get (D := (dC, dI)) (ci := 0) (v := .int rd) (C := RX0) (T := TX0) (N := 12) hx hb hts i0 hown hK hP 0 rfl rfl 7 (by decide) (hts (.fieldLink RX0 47 "StopSetter$Chart" "ready" "I") (by decide +kernel)) (fun _ h9 => h9) rfl dX0_endsInside_8 ?_
  refine lv_istore_n (lv' := [(3, .int rd), (2, .int ln), (1, .int 0), (0, .ref h0)]) hx hb dX0_endsInside_11 rfl hl (by decide) rfl (fun ls hl => ?_)
  have lp_12 : ∀ (n_12 : Nat) (iv : Int32) (nd : Int32) (en : Int32), ((iv : Int32).toInt - (0 : Int32).toInt < n_12 ∧ 0 < n_12) → ∀ (H : Heap) (locs : List Loc) (ls : Array Slot), va_P (dC, dI) vwCl [(h0, .inr (0, [.ref bA, .ref xA, .ref kA, .ref aA, .ref eA, .ref gA, .ref oA, .int rd, .int lc, .int sc, .int ln, .int le])), (aA, .inl (cI, 1220, .inl fa)), (eA, .inl (cI, 1220, .inl fe))] H → va_D A [(h0, .inr (0, [.ref bA, .ref xA, .ref kA, .ref aA, .ref eA, .ref gA, .ref oA, .int rd, .int lc, .int sc, .int ln, .int le])), (aA, .inl (cI, 1220, .inl fa)), (eA, .inl (cI, 1220, .inl fe))] → va_S A s.heap H locs → lv_has ls 4 [(3, .int iv), (2, .int nd), (1, .int en), (0, .ref h0)] → W p l e (headSpec wsX0_endsInside ({ frames := 2, cells := 0, slots := 0, locals := 44 })).room s m ([.ref h0]).toArray below meth c H locs 0 0 (MQ below (va_Qi (fun (r : Int32) (u : Unit) => True) (fun _ => sB dC dI A [(h0, .inr (0, [.ref bA, .ref xA, .ref kA, .ref aA, .ref eA, .ref gA, .ref oA, .int rd, .int lc, .int sc, .int ln, .int le])), (aA, .inl (cI, 1220, .inl fa)), (eA, .inl (cI, 1220, .inl fe))]) A) ([.ref h0]).toArray s 0 0 A) (F0 m 12 ls []) := by
    intro n_12
    induction n_12 with
    | zero =>
      intro iv nd en fuel_12 
      exact absurd fuel_12 (by omega)
    | succ n_12 ih_12 =>
      intro iv nd en fuel_12  H locs ls hP hD hS hl
      refine lv_iload_n hx hb dX0_endsInside_12 rfl (lv_at hl 0 rfl) ?_
      refine lv_if_le (tgt := 46) hx hb dX0_endsInside_13 (by decide) (fun c_13 => ?_) (fun c_13 => ?_)
      · skip
        refine lv_iload_n hx hb dX0_endsInside_46 rfl (lv_at hl 2 rfl) ?_
        have hP9 := hP.sub (ws' := [(h0, .inr (0, [.ref bA, .ref xA, .ref kA, .ref aA, .ref eA, .ref gA, .ref oA, .int rd, .int lc, .int sc, .int ln, .int le])), (aA, .inl (cI, 1220, .inl fa)), (eA, .inl (cI, 1220, .inl fe))]) [0, 1, 2] rfl
        have hD9 := hD.sub (ws' := [(h0, .inr (0, [.ref bA, .ref xA, .ref kA, .ref aA, .ref eA, .ref gA, .ref oA, .int rd, .int lc, .int sc, .int ln, .int le])), (aA, .inl (cI, 1220, .inl fa)), (eA, .inl (cI, 1220, .inl fe))]) [0, 1, 2] (by decide) rfl
        exact W.iret (v := en) hx hb hr (fun t ht hW => ⟨⟨en, (), rfl, trivial, by rw [ht]; exact hP9, hD9⟩, hS.F ht⟩) hS.2.2 dX0_endsInside_47
      · skip
        refine lv_aload_n hx hb dX0_endsInside_16 rfl (lv_at hl 3 rfl) ?_
        refine lv_iload_n hx hb dX0_endsInside_17 rfl (lv_at hl 0 rfl) ?_
        refine lv_iload_n hx hb dX0_endsInside_18 rfl (lv_at hl 1 rfl) ?_
        have hPc := hP.sub (ws' := [(h0, .inr (0, [.ref bA, .ref xA, .ref kA, .ref aA, .ref eA, .ref gA, .ref oA, .int rd, .int lc, .int sc, .int ln, .int le])), (eA, .inl (cI, 1220, .inl fe))]) [0, 2] rfl
        have hDc := hD.sub (ws' := [(h0, .inr (0, [.ref bA, .ref xA, .ref kA, .ref aA, .ref eA, .ref gA, .ref oA, .int rd, .int lc, .int sc, .int ln, .int le])), (eA, .inl (cI, 1220, .inl fe))]) [0, 2] (by decide) rfl
        have hFc := va_free (wc := [(h0, .inr (0, [.ref bA, .ref xA, .ref kA, .ref aA, .ref eA, .ref gA, .ref oA, .int rd, .int lc, .int sc, .int ln, .int le])), (eA, .inl (cI, 1220, .inl fe))]) hD hS hA [0, 2] rfl
        refine va_calli (va_runV (As := [.int iv, .int nd]) (rest := []) ⟨hx, hb, hml, hown, hts⟩ (k_endInto l dC dI cI cZ cC cJ H.size  h0 bA xA kA aA eA gA oA rd lc sc ln le fe iv nd ) (cwV 2 hts gX0_endsInside_X0_endInto rfl rfl rfl (by decide +kernel) ⟨Nat.le_of_ble_eq_true rfl, Nat.le_of_ble_eq_true rfl⟩) ⟨sPre_blind, va_recv hK hPc (ci := 0) (q0 := 0) rfl rfl, fun U hU hW => ⟨rfl, sPre_ok hsk hPc hDc hU hW⟩⟩ rfl rfl hl.1 rfl (lv_room (Nat.le_of_ble_eq_true rfl)) dX0_endsInside_19 ⟨(show 0 + 0 ≤ 0 by omega), (show 0 + 0 ≤ 0 by omega)⟩) hS (fun q _ h => hFc q h) hFc (fun r_1 u t H1 locs ht hvm hw hB hz1 hk1 hS => ?_)
        try dsimp only at hw hB
        obtain ⟨hP1, hD1⟩ := hB
        rw [ht] at hP1
        obtain ⟨hP, hD⟩ := va_join (wr := [(aA, .inl (cI, 1220, .inl fa))]) (w1 := [(h0, .inr (0, [.ref bA, .ref xA, .ref kA, .ref aA, .ref eA, .ref gA, .ref oA, .int rd, .int lc, .int sc, .int ln, .int le])), (eA, .inl (cI, 1220, .inl fe))]) hP hD [0, 2] [1] rfl rfl (by decide) (by decide) hk1 hFc hP1 hD1
        generalize H1 = H at hP hS ⊢
        have hP : va_P (dC, dI) vwCl [(aA, .inl (cI, 1220, .inl fa)), (h0, .inr (0, [.ref bA, .ref xA, .ref kA, .ref aA, .ref eA, .ref gA, .ref oA, .int rd, .int lc, .int sc, .int ln, .int le])), (eA, .inl (cI, 1220, .inl fe))] H := hP
        have hD : va_D A [(aA, .inl (cI, 1220, .inl fa)), (h0, .inr (0, [.ref bA, .ref xA, .ref kA, .ref aA, .ref eA, .ref gA, .ref oA, .int rd, .int lc, .int sc, .int ln, .int le])), (eA, .inl (cI, 1220, .inl fe))] := hD
        have hw_r_1 := hw
        refine lv_iconst (v := (-1)) hx hb dX0_endsInside_22 (by decide) ?_
        refine lv_icmp_eq (tgt := 29) hx hb dX0_endsInside_23 (by decide) (fun c_23 => ?_) (fun c_23 => ?_)
        · skip
          refine lv_aload_n hx hb dX0_endsInside_29 rfl (lv_at hl 3 rfl) ?_
          refine va_get (D := (dC, dI)) (ci := 0) (v := .ref aA) (C := RX0) (T := TX0) (N := 12) hx hb hts i0 hown hK hP 1 rfl rfl 3 (by decide) (hts (.fieldLink RX0 21 "StopSetter$Chart" "nodeAhead" "[I") (by decide +kernel)) (fun _ h9 => h9) rfl dX0_endsInside_30 ?_
          refine lv_iload_n hx hb dX0_endsInside_33 rfl (lv_at hl 0 rfl) ?_
          refine lv_iload_n hx hb dX0_endsInside_34 rfl (lv_at hl 1 rfl) ?_
          have hPc := hP.sub (ws' := []) [] rfl
          have hDc := hD.sub (ws' := []) [] (by decide) rfl
          have hFc := va_free (wc := []) hD hS hA [] rfl
          refine va_calli (va_runS (As := [.int iv, .int nd]) (rest := [.ref aA]) ⟨hx, hb, hml, hown, hts⟩ (k_cell l dC dI cI cZ cC cJ H.size  iv nd ) (va_cwS 2 hts gX0_endsInside_X0_cell rfl rfl rfl (by decide +kernel) ⟨Nat.le_of_ble_eq_true rfl, Nat.le_of_ble_eq_true rfl⟩) ⟨sPre_blind, fun U hU hW => ⟨rfl, sPre_ok hsk hPc hDc hU hW⟩⟩ rfl rfl hl.1 rfl (lv_room (Nat.le_of_ble_eq_true rfl)) dX0_endsInside_35 ⟨(show 0 + 0 ≤ 0 by omega), (show 0 + 0 ≤ 0 by omega)⟩) hS (fun q _ h => hFc q h) hFc (fun r_2 u t H1 locs ht hvm hw hB hz1 hk1 hS => ?_)
          try dsimp only at hw hB
          have hw_3 := hw
          obtain rfl : r_2 = cl iv nd := hw_3
          obtain ⟨hP1, hD1⟩ := hB
          rw [ht] at hP1
          obtain ⟨hP, hD⟩ := va_join (wr := [(aA, .inl (cI, 1220, .inl fa)), (h0, .inr (0, [.ref bA, .ref xA, .ref kA, .ref aA, .ref eA, .ref gA, .ref oA, .int rd, .int lc, .int sc, .int ln, .int le])), (eA, .inl (cI, 1220, .inl fe))]) (w1 := []) hP hD [] [0, 1, 2] rfl rfl (by decide) (by decide) hk1 hFc hP1 hD1
          generalize H1 = H at hP hS ⊢
          have hP : va_P (dC, dI) vwCl [(aA, .inl (cI, 1220, .inl fa)), (h0, .inr (0, [.ref bA, .ref xA, .ref kA, .ref aA, .ref eA, .ref gA, .ref oA, .int rd, .int lc, .int sc, .int ln, .int le])), (eA, .inl (cI, 1220, .inl fe))] H := hP
          have hD : va_D A [(aA, .inl (cI, 1220, .inl fa)), (h0, .inr (0, [.ref bA, .ref xA, .ref kA, .ref aA, .ref eA, .ref gA, .ref oA, .int rd, .int lc, .int sc, .int ln, .int le])), (eA, .inl (cI, 1220, .inl fe))] := hD
          refine va_iald hx hb hK hP 0 0 rfl rfl (cl_in _ _) dX0_endsInside_38 ?_
          refine lv_topi (fun v_4 ev_4 => ?_)
          refine lv_istore_n (lv' := [(2, .int v_4), (3, .int iv), (1, .int en), (0, .ref h0)]) hx hb dX0_endsInside_39 rfl hl (by decide) rfl (fun ls hl => ?_)
          refine lv_iinc (v := (iv + (-1))) (lv' := [(3, .int (iv + (-1))), (2, .int v_4), (1, .int en), (0, .ref h0)]) hx hb dX0_endsInside_40 hl (k := 1) rfl rfl (by decide) rfl (fun ls hl => ?_)
          refine lv_goto (tgt := 12) hx hb dX0_endsInside_43 (by decide) ?_
          exact ih_12  (iv + (-1)) v_4 en (dn_f c_13 fuel_12) _ _ _ (hP.sub [1, 0, 2] rfl) (hD.sub [1, 0, 2] (by decide) rfl) hS (lv_sub hl [0, 1, 2, 3] rfl)
        · skip
          refine lv_iinc (v := (en + 1)) (lv' := [(1, .int (en + 1)), (3, .int iv), (2, .int nd), (0, .ref h0)]) hx hb dX0_endsInside_26 hl (k := 2) rfl rfl (by decide) rfl (fun ls hl => ?_)
          refine lv_aload_n hx hb dX0_endsInside_29 rfl (lv_at hl 3 rfl) ?_
          refine va_get (D := (dC, dI)) (ci := 0) (v := .ref aA) (C := RX0) (T := TX0) (N := 12) hx hb hts i0 hown hK hP 1 rfl rfl 3 (by decide) (hts (.fieldLink RX0 21 "StopSetter$Chart" "nodeAhead" "[I") (by decide +kernel)) (fun _ h9 => h9) rfl dX0_endsInside_30 ?_
          refine lv_iload_n hx hb dX0_endsInside_33 rfl (lv_at hl 1 rfl) ?_
          refine lv_iload_n hx hb dX0_endsInside_34 rfl (lv_at hl 2 rfl) ?_
          have hPc := hP.sub (ws' := []) [] rfl
          have hDc := hD.sub (ws' := []) [] (by decide) rfl
          have hFc := va_free (wc := []) hD hS hA [] rfl
          refine va_calli (va_runS (As := [.int iv, .int nd]) (rest := [.ref aA]) ⟨hx, hb, hml, hown, hts⟩ (k_cell l dC dI cI cZ cC cJ H.size  iv nd ) (va_cwS 2 hts gX0_endsInside_X0_cell rfl rfl rfl (by decide +kernel) ⟨Nat.le_of_ble_eq_true rfl, Nat.le_of_ble_eq_true rfl⟩) ⟨sPre_blind, fun U hU hW => ⟨rfl, sPre_ok hsk hPc hDc hU hW⟩⟩ rfl rfl hl.1 rfl (lv_room (Nat.le_of_ble_eq_true rfl)) dX0_endsInside_35 ⟨(show 0 + 0 ≤ 0 by omega), (show 0 + 0 ≤ 0 by omega)⟩) hS (fun q _ h => hFc q h) hFc (fun r_5 u t H1 locs ht hvm hw hB hz1 hk1 hS => ?_)
          try dsimp only at hw hB
          have hw_6 := hw
          obtain rfl : r_5 = cl iv nd := hw_6
          obtain ⟨hP1, hD1⟩ := hB
          rw [ht] at hP1
          obtain ⟨hP, hD⟩ := va_join (wr := [(aA, .inl (cI, 1220, .inl fa)), (h0, .inr (0, [.ref bA, .ref xA, .ref kA, .ref aA, .ref eA, .ref gA, .ref oA, .int rd, .int lc, .int sc, .int ln, .int le])), (eA, .inl (cI, 1220, .inl fe))]) (w1 := []) hP hD [] [0, 1, 2] rfl rfl (by decide) (by decide) hk1 hFc hP1 hD1
          generalize H1 = H at hP hS ⊢
          have hP : va_P (dC, dI) vwCl [(aA, .inl (cI, 1220, .inl fa)), (h0, .inr (0, [.ref bA, .ref xA, .ref kA, .ref aA, .ref eA, .ref gA, .ref oA, .int rd, .int lc, .int sc, .int ln, .int le])), (eA, .inl (cI, 1220, .inl fe))] H := hP
          have hD : va_D A [(aA, .inl (cI, 1220, .inl fa)), (h0, .inr (0, [.ref bA, .ref xA, .ref kA, .ref aA, .ref eA, .ref gA, .ref oA, .int rd, .int lc, .int sc, .int ln, .int le])), (eA, .inl (cI, 1220, .inl fe))] := hD
          refine va_iald hx hb hK hP 0 0 rfl rfl (cl_in _ _) dX0_endsInside_38 ?_
          refine lv_topi (fun v_7 ev_7 => ?_)
          refine lv_istore_n (lv' := [(2, .int v_7), (1, .int (en + 1)), (3, .int iv), (0, .ref h0)]) hx hb dX0_endsInside_39 rfl hl (by decide) rfl (fun ls hl => ?_)
          refine lv_iinc (v := (iv + (-1))) (lv' := [(3, .int (iv + (-1))), (2, .int v_7), (1, .int (en + 1)), (0, .ref h0)]) hx hb dX0_endsInside_40 hl (k := 2) rfl rfl (by decide) rfl (fun ls hl => ?_)
          refine lv_goto (tgt := 12) hx hb dX0_endsInside_43 (by decide) ?_
          exact ih_12  (iv + (-1)) v_7 (en + 1) (dn_f c_13 fuel_12) _ _ _ (hP.sub [1, 0, 2] rfl) (hD.sub [1, 0, 2] (by decide) rfl) hS (lv_sub hl [0, 1, 2, 3] rfl)
  exact lp_12 (((rd : Int32).toInt - (0 : Int32).toInt).toNat + 1) rd ln 0 (by omega) _ _ _ hP hD hS (lv_sub hl [0, 1, 2, 3] rfl)
set_option maxHeartbeats 4000000 in
set_option maxRecDepth 100000 in
theorem k_meetingLevel (l : Launch) (dC : Nat → ClassId) (dI : Nat → Nat → Nat) (cI cZ cC cJ : ClassId) (sz : Nat) (h0 : Nat) (bA : Nat) (xA : Nat) (kA : Nat) (aA : Nat) (eA : Nat) (gA : Nat) (oA : Nat) (rd : Int32) (lc : Int32) (sc : Int32) (ln : Int32) (le : Int32) (fa : Nat → Int32) (p0 : Int32) (p1 : Int32)  : Met l yX0_meetingLevel wsX0_meetingLevel ({ frames := 1, cells := 0, slots := 0, locals := 22 }) (va_Pc [.ref h0, .int p0, .int p1] (sPre dC dI cI cZ cC cJ [(h0, .inr (0, [.ref bA, .ref xA, .ref kA, .ref aA, .ref eA, .ref gA, .ref oA, .int rd, .int lc, .int sc, .int ln, .int le])), (aA, .inl (cI, 1220, .inl fa))] sz)) (va_Qi (fun (r : Int32) (u : Unit) => True) (fun _ => sB dC dI (va_A [(h0, .inr (0, [.ref bA, .ref xA, .ref kA, .ref aA, .ref eA, .ref gA, .ref oA, .int rd, .int lc, .int sc, .int ln, .int le])), (aA, .inl (cI, 1220, .inl fa))] sz) [(h0, .inr (0, [.ref bA, .ref xA, .ref kA, .ref aA, .ref eA, .ref gA, .ref oA, .int rd, .int lc, .int sc, .int ln, .int le])), (aA, .inl (cI, 1220, .inl fa))]) (va_A [(h0, .inr (0, [.ref bA, .ref xA, .ref kA, .ref aA, .ref eA, .ref gA, .ref oA, .int rd, .int lc, .int sc, .int ln, .int le])), (aA, .inl (cI, 1220, .inl fa))] sz)) 0 0 (va_A [(h0, .inr (0, [.ref bA, .ref xA, .ref kA, .ref aA, .ref eA, .ref gA, .ref oA, .int rd, .int lc, .int sc, .int ln, .int le])), (aA, .inl (cI, 1220, .inl fa))] sz) := by
  refine Met.ofW (cc := cX0_meetingLevel) (maxL := 6) (ret := (some .int)) (by decide) rfl ?_
  intro p e s m args below meth c s₁ B hml hv
  obtain ⟨rfl, hsz, hP, hsk, hD0⟩ := hv
  have hx := B.exec
  have hb := B.bytes
  have hr := B.returns
  have hts := atoms_spec (ws := wsX0_meetingLevel) B.pre
  have hown : s.vm.findClass RX0 = some m.cls := findClass_of_methodNamed B.named
  have hlocks := B.notSynchronized
  have hK := hsk.1
  have i0 : ∀ w ∈ wsX00, w ∈ wsX0_meetingLevel := by decide +kernel
  subst hsz
  have hD := hD0.self (sz := s.heap.size)
  generalize hAe : va_A [(h0, .inr (0, [.ref bA, .ref xA, .ref kA, .ref aA, .ref eA, .ref gA, .ref oA, .int rd, .int lc, .int sc, .int ln, .int le])), (aA, .inl (cI, 1220, .inl fa))] s.heap.size = A at hD ⊢
  have hA : ∀ q : Nat, s.heap.size ≤ q → A q := fun q h => by rw [← hAe]; exact Or.inr h
  have hS : va_S A s.heap s.heap [] := va_S.rf
  have hl := lv_entry ([.ref h0, .int p0, .int p1]) (n := 6) (Nat.le_of_ble_eq_true rfl)
  rw [lg_entry_eq]
  generalize (lg_sl ([.ref h0, .int p0, .int p1]) ++ List.replicate (6 - (lg_sl ([.ref h0, .int p0, .int p1])).length) Slot.unset).toArray = ls at hl ⊢
  have hl : lv_has ls 6 [(0, .ref h0), (1, .int p0), (2, .int p1)] := hl
  refine lv_iload_n hx hb dX0_meetingLevel_0 rfl (lv_at hl 1 rfl) ?_
  refine lv_istore_n (lv' := [(3, .int p0), (0, .ref h0), (1, .int p0), (2, .int p1)]) hx hb dX0_meetingLevel_1 rfl hl (by decide) rfl (fun ls hl => ?_)
  refine lv_iload_n hx hb dX0_meetingLevel_2 rfl (lv_at hl 3 rfl) ?_
  refine lv_istore (lv' := [(4, .int p1), (3, .int p0), (0, .ref h0), (1, .int p0), (2, .int p1)]) hx hb dX0_meetingLevel_3 hl (by decide) rfl (fun ls hl => ?_)
  refine lv_aload_n hx hb dX0_meetingLevel_5 rfl (lv_at hl 2 rfl) ?_
  refine va_get (D := (dC, dI)) (ci := 0) (v := .int rd) (C := RX0) (T := TX0) (N := 12) hx hb hts i0 hown hK hP 0 rfl rfl 7 (by decide) (hts (.fieldLink RX0 47 "StopSetter$Chart" "ready" "I") (by decide +kernel)) (fun _ h9 => h9) rfl dX0_meetingLevel_6 ?_
  refine lv_istore (lv' := [(5, .int rd), (4, .int p1), (3, .int p0), (0, .ref h0), (1, .int p0), (2, .int p1)]) hx hb dX0_meetingLevel_9 hl (by decide) rfl (fun ls hl => ?_)
  have lp_11 : ∀ (n_11 : Nat) (iv : Int32) (av : Int32) (bv : Int32), ((iv : Int32).toInt - (0 : Int32).toInt < n_11 ∧ 0 < n_11) → ∀ (H : Heap) (locs : List Loc) (ls : Array Slot), va_P (dC, dI) vwCl [(h0, .inr (0, [.ref bA, .ref xA, .ref kA, .ref aA, .ref eA, .ref gA, .ref oA, .int rd, .int lc, .int sc, .int ln, .int le])), (aA, .inl (cI, 1220, .inl fa))] H → va_D A [(h0, .inr (0, [.ref bA, .ref xA, .ref kA, .ref aA, .ref eA, .ref gA, .ref oA, .int rd, .int lc, .int sc, .int ln, .int le])), (aA, .inl (cI, 1220, .inl fa))] → va_S A s.heap H locs → lv_has ls 6 [(5, .int iv), (4, .int bv), (3, .int av), (0, .ref h0), (1, .int p0), (2, .int p1)] → W p l e (headSpec wsX0_meetingLevel ({ frames := 1, cells := 0, slots := 0, locals := 22 })).room s m ([.ref h0, .int p0, .int p1]).toArray below meth c H locs 0 0 (MQ below (va_Qi (fun (r : Int32) (u : Unit) => True) (fun _ => sB dC dI A [(h0, .inr (0, [.ref bA, .ref xA, .ref kA, .ref aA, .ref eA, .ref gA, .ref oA, .int rd, .int lc, .int sc, .int ln, .int le])), (aA, .inl (cI, 1220, .inl fa))]) A) ([.ref h0, .int p0, .int p1]).toArray s 0 0 A) (F0 m 11 ls []) := by
    intro n_11
    induction n_11 with
    | zero =>
      intro iv av bv fuel_11 
      exact absurd fuel_11 (by omega)
    | succ n_11 ih_11 =>
      intro iv av bv fuel_11  H locs ls hP hD hS hl
      refine lv_iload hx hb dX0_meetingLevel_11 (lv_at hl 0 rfl) ?_
      refine lv_if_le (tgt := 57) hx hb dX0_meetingLevel_13 (by decide) (fun c_13 => ?_) (fun c_13 => ?_)
      · skip
        refine lv_iconst (v := 0) hx hb dX0_meetingLevel_57 (by decide) ?_
        have hP9 := hP.sub (ws' := [(h0, .inr (0, [.ref bA, .ref xA, .ref kA, .ref aA, .ref eA, .ref gA, .ref oA, .int rd, .int lc, .int sc, .int ln, .int le])), (aA, .inl (cI, 1220, .inl fa))]) [0, 1] rfl
        have hD9 := hD.sub (ws' := [(h0, .inr (0, [.ref bA, .ref xA, .ref kA, .ref aA, .ref eA, .ref gA, .ref oA, .int rd, .int lc, .int sc, .int ln, .int le])), (aA, .inl (cI, 1220, .inl fa))]) [0, 1] (by decide) rfl
        exact W.iret (v := 0) hx hb hr (fun t ht hW => ⟨⟨0, (), rfl, trivial, by rw [ht]; exact hP9, hD9⟩, hS.F ht⟩) hS.2.2 dX0_meetingLevel_58
      · skip
        refine lv_iload_n hx hb dX0_meetingLevel_16 rfl (lv_at hl 2 rfl) ?_
        refine lv_iload hx hb dX0_meetingLevel_17 (lv_at hl 1 rfl) ?_
        refine lv_icmp_ne (tgt := 25) hx hb dX0_meetingLevel_19 (by decide) (fun c_19 => ?_) (fun c_19 => ?_)
        · skip
          refine lv_aload_n hx hb dX0_meetingLevel_25 rfl (lv_at hl 3 rfl) ?_
          refine va_get (D := (dC, dI)) (ci := 0) (v := .ref aA) (C := RX0) (T := TX0) (N := 12) hx hb hts i0 hown hK hP 0 rfl rfl 3 (by decide) (hts (.fieldLink RX0 21 "StopSetter$Chart" "nodeAhead" "[I") (by decide +kernel)) (fun _ h9 => h9) rfl dX0_meetingLevel_26 ?_
          refine lv_iload hx hb dX0_meetingLevel_29 (lv_at hl 0 rfl) ?_
          refine lv_iload_n hx hb dX0_meetingLevel_31 rfl (lv_at hl 2 rfl) ?_
          have hPc := hP.sub (ws' := []) [] rfl
          have hDc := hD.sub (ws' := []) [] (by decide) rfl
          have hFc := va_free (wc := []) hD hS hA [] rfl
          refine va_calli (va_runS (As := [.int iv, .int av]) (rest := [.ref aA]) ⟨hx, hb, hml, hown, hts⟩ (k_cell l dC dI cI cZ cC cJ H.size  iv av ) (va_cwS 2 hts gX0_meetingLevel_X0_cell rfl rfl rfl (by decide +kernel) ⟨Nat.le_of_ble_eq_true rfl, Nat.le_of_ble_eq_true rfl⟩) ⟨sPre_blind, fun U hU hW => ⟨rfl, sPre_ok hsk hPc hDc hU hW⟩⟩ rfl rfl hl.1 rfl (lv_room (Nat.le_of_ble_eq_true rfl)) dX0_meetingLevel_32 ⟨(show 0 + 0 ≤ 0 by omega), (show 0 + 0 ≤ 0 by omega)⟩) hS (fun q _ h => hFc q h) hFc (fun r_1 u t H1 locs ht hvm hw hB hz1 hk1 hS => ?_)
          try dsimp only at hw hB
          have hw_2 := hw
          obtain rfl : r_1 = cl iv av := hw_2
          obtain ⟨hP1, hD1⟩ := hB
          rw [ht] at hP1
          obtain ⟨hP, hD⟩ := va_join (wr := [(h0, .inr (0, [.ref bA, .ref xA, .ref kA, .ref aA, .ref eA, .ref gA, .ref oA, .int rd, .int lc, .int sc, .int ln, .int le])), (aA, .inl (cI, 1220, .inl fa))]) (w1 := []) hP hD [] [0, 1] rfl rfl (by decide) (by decide) hk1 hFc hP1 hD1
          generalize H1 = H at hP hS ⊢
          have hP : va_P (dC, dI) vwCl [(h0, .inr (0, [.ref bA, .ref xA, .ref kA, .ref aA, .ref eA, .ref gA, .ref oA, .int rd, .int lc, .int sc, .int ln, .int le])), (aA, .inl (cI, 1220, .inl fa))] H := hP
          have hD : va_D A [(h0, .inr (0, [.ref bA, .ref xA, .ref kA, .ref aA, .ref eA, .ref gA, .ref oA, .int rd, .int lc, .int sc, .int ln, .int le])), (aA, .inl (cI, 1220, .inl fa))] := hD
          refine va_iald hx hb hK hP 1 0 rfl rfl (cl_in _ _) dX0_meetingLevel_35 ?_
          refine lv_topi (fun v_3 ev_3 => ?_)
          refine lv_istore_n (lv' := [(3, .int v_3), (5, .int iv), (4, .int bv), (0, .ref h0), (1, .int p0), (2, .int p1)]) hx hb dX0_meetingLevel_36 rfl hl (by decide) rfl (fun ls hl => ?_)
          refine lv_aload_n hx hb dX0_meetingLevel_37 rfl (lv_at hl 3 rfl) ?_
          refine va_get (D := (dC, dI)) (ci := 0) (v := .ref aA) (C := RX0) (T := TX0) (N := 12) hx hb hts i0 hown hK hP 0 rfl rfl 3 (by decide) (hts (.fieldLink RX0 21 "StopSetter$Chart" "nodeAhead" "[I") (by decide +kernel)) (fun _ h9 => h9) rfl dX0_meetingLevel_38 ?_
          refine lv_iload hx hb dX0_meetingLevel_41 (lv_at hl 1 rfl) ?_
          refine lv_iload hx hb dX0_meetingLevel_43 (lv_at hl 2 rfl) ?_
          have hPc := hP.sub (ws' := []) [] rfl
          have hDc := hD.sub (ws' := []) [] (by decide) rfl
          have hFc := va_free (wc := []) hD hS hA [] rfl
          refine va_calli (va_runS (As := [.int iv, .int bv]) (rest := [.ref aA]) ⟨hx, hb, hml, hown, hts⟩ (k_cell l dC dI cI cZ cC cJ H.size  iv bv ) (va_cwS 2 hts gX0_meetingLevel_X0_cell rfl rfl rfl (by decide +kernel) ⟨Nat.le_of_ble_eq_true rfl, Nat.le_of_ble_eq_true rfl⟩) ⟨sPre_blind, fun U hU hW => ⟨rfl, sPre_ok hsk hPc hDc hU hW⟩⟩ rfl rfl hl.1 rfl (lv_room (Nat.le_of_ble_eq_true rfl)) dX0_meetingLevel_45 ⟨(show 0 + 0 ≤ 0 by omega), (show 0 + 0 ≤ 0 by omega)⟩) hS (fun q _ h => hFc q h) hFc (fun r_4 u t H1 locs ht hvm hw hB hz1 hk1 hS => ?_)
          try dsimp only at hw hB
          have hw_5 := hw
          obtain rfl : r_4 = cl iv bv := hw_5
          obtain ⟨hP1, hD1⟩ := hB
          rw [ht] at hP1
          obtain ⟨hP, hD⟩ := va_join (wr := [(h0, .inr (0, [.ref bA, .ref xA, .ref kA, .ref aA, .ref eA, .ref gA, .ref oA, .int rd, .int lc, .int sc, .int ln, .int le])), (aA, .inl (cI, 1220, .inl fa))]) (w1 := []) hP hD [] [0, 1] rfl rfl (by decide) (by decide) hk1 hFc hP1 hD1
          generalize H1 = H at hP hS ⊢
          have hP : va_P (dC, dI) vwCl [(h0, .inr (0, [.ref bA, .ref xA, .ref kA, .ref aA, .ref eA, .ref gA, .ref oA, .int rd, .int lc, .int sc, .int ln, .int le])), (aA, .inl (cI, 1220, .inl fa))] H := hP
          have hD : va_D A [(h0, .inr (0, [.ref bA, .ref xA, .ref kA, .ref aA, .ref eA, .ref gA, .ref oA, .int rd, .int lc, .int sc, .int ln, .int le])), (aA, .inl (cI, 1220, .inl fa))] := hD
          refine va_iald hx hb hK hP 1 0 rfl rfl (cl_in _ _) dX0_meetingLevel_48 ?_
          refine lv_topi (fun v_6 ev_6 => ?_)
          refine lv_istore (lv' := [(4, .int v_6), (3, .int v_3), (5, .int iv), (0, .ref h0), (1, .int p0), (2, .int p1)]) hx hb dX0_meetingLevel_49 hl (by decide) rfl (fun ls hl => ?_)
          refine lv_iinc (v := (iv + (-1))) (lv' := [(5, .int (iv + (-1))), (4, .int v_6), (3, .int v_3), (0, .ref h0), (1, .int p0), (2, .int p1)]) hx hb dX0_meetingLevel_51 hl (k := 2) rfl rfl (by decide) rfl (fun ls hl => ?_)
          refine lv_goto (tgt := 11) hx hb dX0_meetingLevel_54 (by decide) ?_
          exact ih_11  (iv + (-1)) v_3 v_6 (dn_f c_13 fuel_11) _ _ _ hP hD hS (lv_sub hl [0, 1, 2, 3, 4, 5] rfl)
        · skip
          refine lv_iload hx hb dX0_meetingLevel_22 (lv_at hl 0 rfl) ?_
          have hP9 := hP.sub (ws' := [(h0, .inr (0, [.ref bA, .ref xA, .ref kA, .ref aA, .ref eA, .ref gA, .ref oA, .int rd, .int lc, .int sc, .int ln, .int le])), (aA, .inl (cI, 1220, .inl fa))]) [0, 1] rfl
          have hD9 := hD.sub (ws' := [(h0, .inr (0, [.ref bA, .ref xA, .ref kA, .ref aA, .ref eA, .ref gA, .ref oA, .int rd, .int lc, .int sc, .int ln, .int le])), (aA, .inl (cI, 1220, .inl fa))]) [0, 1] (by decide) rfl
          exact W.iret (v := iv) hx hb hr (fun t ht hW => ⟨⟨iv, (), rfl, trivial, by rw [ht]; exact hP9, hD9⟩, hS.F ht⟩) hS.2.2 dX0_meetingLevel_24
  exact lp_11 (((rd : Int32).toInt - (0 : Int32).toInt).toNat + 1) rd p0 p1 (by omega) _ _ _ hP hD hS (lv_sub hl [0, 1, 2, 3, 4, 5] rfl)
set_option maxHeartbeats 4000000 in
set_option maxRecDepth 100000 in
theorem k_sharedSteps (l : Launch) (dC : Nat → ClassId) (dI : Nat → Nat → Nat) (cI cZ cC cJ : ClassId) (sz : Nat) (h0 : Nat) (bA : Nat) (xA : Nat) (kA : Nat) (aA : Nat) (eA : Nat) (gA : Nat) (oA : Nat) (rd : Int32) (lc : Int32) (sc : Int32) (ln : Int32) (le : Int32) (fb : Nat → Int32) (fa : Nat → Int32) (g0 : Nat) (gF : Nat) (gK : Nat) (gT : Nat) (gC : Nat) (gM : Nat) (gc : Int32) (eF : Nat) (eC : Nat) (eM : Nat) (ec : Int32) (hopA : Nat) (fhopA : Nat → Int32)  : Met l yX0_sharedSteps wsX0_sharedSteps ({ frames := 2, cells := 0, slots := 0, locals := 47 }) (va_Pc [.ref h0, .ref g0] (sPre dC dI cI cZ cC cJ [(h0, .inr (0, [.ref bA, .ref xA, .ref kA, .ref aA, .ref eA, .ref gA, .ref oA, .int rd, .int lc, .int sc, .int ln, .int le])), (bA, .inl (cI, 1220, .inl fb)), (aA, .inl (cI, 1220, .inl fa)), (g0, .inr (1, [.ref gF, .ref gK, .ref gT, .ref gC, .ref gM, .int gc, .ref eF, .ref eC, .ref eM, .int ec, .ref hopA])), (hopA, .inl (cZ, 20, .inl fhopA))] sz)) (va_Qi (fun (r : Int32) (u : Unit) => True) (fun _ => sB dC dI (va_A [(h0, .inr (0, [.ref bA, .ref xA, .ref kA, .ref aA, .ref eA, .ref gA, .ref oA, .int rd, .int lc, .int sc, .int ln, .int le])), (bA, .inl (cI, 1220, .inl fb)), (aA, .inl (cI, 1220, .inl fa)), (g0, .inr (1, [.ref gF, .ref gK, .ref gT, .ref gC, .ref gM, .int gc, .ref eF, .ref eC, .ref eM, .int ec, .ref hopA])), (hopA, .inl (cZ, 20, .inl fhopA))] sz) [(h0, .inr (0, [.ref bA, .ref xA, .ref kA, .ref aA, .ref eA, .ref gA, .ref oA, .int rd, .int lc, .int sc, .int ln, .int le])), (bA, .inl (cI, 1220, .inl fb)), (aA, .inl (cI, 1220, .inl fa)), (g0, .inr (1, [.ref gF, .ref gK, .ref gT, .ref gC, .ref gM, .int gc, .ref eF, .ref eC, .ref eM, .int ec, .ref hopA])), (hopA, .inl (cZ, 20, .inl fhopA))]) (va_A [(h0, .inr (0, [.ref bA, .ref xA, .ref kA, .ref aA, .ref eA, .ref gA, .ref oA, .int rd, .int lc, .int sc, .int ln, .int le])), (bA, .inl (cI, 1220, .inl fb)), (aA, .inl (cI, 1220, .inl fa)), (g0, .inr (1, [.ref gF, .ref gK, .ref gT, .ref gC, .ref gM, .int gc, .ref eF, .ref eC, .ref eM, .int ec, .ref hopA])), (hopA, .inl (cZ, 20, .inl fhopA))] sz)) 0 0 (va_A [(h0, .inr (0, [.ref bA, .ref xA, .ref kA, .ref aA, .ref eA, .ref gA, .ref oA, .int rd, .int lc, .int sc, .int ln, .int le])), (bA, .inl (cI, 1220, .inl fb)), (aA, .inl (cI, 1220, .inl fa)), (g0, .inr (1, [.ref gF, .ref gK, .ref gT, .ref gC, .ref gM, .int gc, .ref eF, .ref eC, .ref eM, .int ec, .ref hopA])), (hopA, .inl (cZ, 20, .inl fhopA))] sz) := by
  refine Met.ofW (cc := cX0_sharedSteps) (maxL := 5) (ret := (some .int)) (by decide) rfl ?_
  intro p e s m args below meth c s₁ B hml hv
  obtain ⟨rfl, hsz, hP, hsk, hD0⟩ := hv
  have hx := B.exec
  have hb := B.bytes
  have hr := B.returns
  have hts := atoms_spec (ws := wsX0_sharedSteps) B.pre
  have hown : s.vm.findClass RX0 = some m.cls := findClass_of_methodNamed B.named
  have hlocks := B.notSynchronized
  have hK := hsk.1
  have i0 : ∀ w ∈ wsX00, w ∈ wsX0_sharedSteps := by decide +kernel
  subst hsz
  have hD := hD0.self (sz := s.heap.size)
  generalize hAe : va_A [(h0, .inr (0, [.ref bA, .ref xA, .ref kA, .ref aA, .ref eA, .ref gA, .ref oA, .int rd, .int lc, .int sc, .int ln, .int le])), (bA, .inl (cI, 1220, .inl fb)), (aA, .inl (cI, 1220, .inl fa)), (g0, .inr (1, [.ref gF, .ref gK, .ref gT, .ref gC, .ref gM, .int gc, .ref eF, .ref eC, .ref eM, .int ec, .ref hopA])), (hopA, .inl (cZ, 20, .inl fhopA))] s.heap.size = A at hD ⊢
  have hA : ∀ q : Nat, s.heap.size ≤ q → A q := fun q h => by rw [← hAe]; exact Or.inr h
  have hS : va_S A s.heap s.heap [] := va_S.rf
  have hl := lv_entry ([.ref h0, .ref g0]) (n := 5) (Nat.le_of_ble_eq_true rfl)
  rw [lg_entry_eq]
  generalize (lg_sl ([.ref h0, .ref g0]) ++ List.replicate (5 - (lg_sl ([.ref h0, .ref g0])).length) Slot.unset).toArray = ls at hl ⊢
  have hl : lv_has ls 5 [(0, .ref h0), (1, .ref g0)] := hl
  refine lv_iconst (v := (-1)) hx hb dX0_sharedSteps_0 (by decide) ?_
  refine lv_istore_n (lv' := [(2, .int (-1)), (0, .ref h0), (1, .ref g0)]) hx hb dX0_sharedSteps_1 rfl hl (by decide) rfl (fun ls hl => ?_)
  refine lv_iconst (v := 0) hx hb dX0_sharedSteps_2 (by decide) ?_
  refine lv_istore_n (lv' := [(3, .int 0), (2, .int (-1)), (0, .ref h0), (1, .ref g0)]) hx hb dX0_sharedSteps_3 rfl hl (by decide) rfl (fun ls hl => ?_)
  refine lv_iconst (v := 0) hx hb dX0_sharedSteps_4 (by decide) ?_
  refine lv_istore (lv' := [(4, .int 0), (3, .int 0), (2, .int (-1)), (0, .ref h0), (1, .ref g0)]) hx hb dX0_sharedSteps_5 hl (by decide) rfl (fun ls hl => ?_)
  have lp_7 : ∀ (n_7 : Nat) (k : Nat) (fi : Int32) (sh : Int32), 20 + 1 ≤ k + n_7 → k ≤ 20 → ∀ (H : Heap) (locs : List Loc) (ls : Array Slot), va_P (dC, dI) vwCl [(h0, .inr (0, [.ref bA, .ref xA, .ref kA, .ref aA, .ref eA, .ref gA, .ref oA, .int rd, .int lc, .int sc, .int ln, .int le])), (bA, .inl (cI, 1220, .inl fb)), (aA, .inl (cI, 1220, .inl fa)), (g0, .inr (1, [.ref gF, .ref gK, .ref gT, .ref gC, .ref gM, .int gc, .ref eF, .ref eC, .ref eM, .int ec, .ref hopA])), (hopA, .inl (cZ, 20, .inl fhopA))] H → va_D A [(h0, .inr (0, [.ref bA, .ref xA, .ref kA, .ref aA, .ref eA, .ref gA, .ref oA, .int rd, .int lc, .int sc, .int ln, .int le])), (bA, .inl (cI, 1220, .inl fb)), (aA, .inl (cI, 1220, .inl fa)), (g0, .inr (1, [.ref gF, .ref gK, .ref gT, .ref gC, .ref gM, .int gc, .ref eF, .ref eC, .ref eM, .int ec, .ref hopA])), (hopA, .inl (cZ, 20, .inl fhopA))] → va_S A s.heap H locs → lv_has ls 5 [(4, .int (nI k)), (3, .int sh), (2, .int fi), (0, .ref h0), (1, .ref g0)] → W p l e (headSpec wsX0_sharedSteps ({ frames := 2, cells := 0, slots := 0, locals := 47 })).room s m ([.ref h0, .ref g0]).toArray below meth c H locs 0 0 (MQ below (va_Qi (fun (r : Int32) (u : Unit) => True) (fun _ => sB dC dI A [(h0, .inr (0, [.ref bA, .ref xA, .ref kA, .ref aA, .ref eA, .ref gA, .ref oA, .int rd, .int lc, .int sc, .int ln, .int le])), (bA, .inl (cI, 1220, .inl fb)), (aA, .inl (cI, 1220, .inl fa)), (g0, .inr (1, [.ref gF, .ref gK, .ref gT, .ref gC, .ref gM, .int gc, .ref eF, .ref eC, .ref eM, .int ec, .ref hopA])), (hopA, .inl (cZ, 20, .inl fhopA))]) A) ([.ref h0, .ref g0]).toArray s 0 0 A) (F0 m 7 ls []) := by
    intro n_7
    induction n_7 with
    | zero =>
      intro k fi sh fuel_7 hk_7
      exact absurd fuel_7 (by omega)
    | succ n_7 ih_7 =>
      intro k fi sh fuel_7 hk_7 H locs ls hP hD hS hl
      refine lv_iload hx hb dX0_sharedSteps_7 (lv_at hl 0 rfl) ?_
      refine lv_bipush (v := 20) hx hb dX0_sharedSteps_9 (by decide) ?_
      refine lv_icmp_ge (tgt := 74) hx hb dX0_sharedSteps_11 (by decide) (fun c_11 => ?_) (fun c_11 => ?_)
      · skip
        refine lv_iload_n hx hb dX0_sharedSteps_74 rfl (lv_at hl 1 rfl) ?_
        have hP9 := hP.sub (ws' := [(h0, .inr (0, [.ref bA, .ref xA, .ref kA, .ref aA, .ref eA, .ref gA, .ref oA, .int rd, .int lc, .int sc, .int ln, .int le])), (bA, .inl (cI, 1220, .inl fb)), (aA, .inl (cI, 1220, .inl fa)), (g0, .inr (1, [.ref gF, .ref gK, .ref gT, .ref gC, .ref gM, .int gc, .ref eF, .ref eC, .ref eM, .int ec, .ref hopA])), (hopA, .inl (cZ, 20, .inl fhopA))]) [0, 1, 2, 3, 4] rfl
        have hD9 := hD.sub (ws' := [(h0, .inr (0, [.ref bA, .ref xA, .ref kA, .ref aA, .ref eA, .ref gA, .ref oA, .int rd, .int lc, .int sc, .int ln, .int le])), (bA, .inl (cI, 1220, .inl fb)), (aA, .inl (cI, 1220, .inl fa)), (g0, .inr (1, [.ref gF, .ref gK, .ref gT, .ref gC, .ref gM, .int gc, .ref eF, .ref eC, .ref eM, .int ec, .ref hopA])), (hopA, .inl (cZ, 20, .inl fhopA))]) [0, 1, 2, 3, 4] (by decide) rfl
        exact W.iret (v := sh) hx hb hr (fun t ht hW => ⟨⟨sh, (), rfl, trivial, by rw [ht]; exact hP9, hD9⟩, hS.F ht⟩) hS.2.2 dX0_sharedSteps_75
      · skip
        have hk3_7 : k < 20 := nk_lt (N := 20) rfl c_11 (by omega)
        refine lv_aload_n hx hb dX0_sharedSteps_14 rfl (lv_at hl 3 rfl) ?_
        refine lv_iload hx hb dX0_sharedSteps_15 (lv_at hl 0 rfl) ?_
        have hPc := hP.sub (ws' := [(h0, .inr (0, [.ref bA, .ref xA, .ref kA, .ref aA, .ref eA, .ref gA, .ref oA, .int rd, .int lc, .int sc, .int ln, .int le])), (bA, .inl (cI, 1220, .inl fb))]) [0, 1] rfl
        have hDc := hD.sub (ws' := [(h0, .inr (0, [.ref bA, .ref xA, .ref kA, .ref aA, .ref eA, .ref gA, .ref oA, .int rd, .int lc, .int sc, .int ln, .int le])), (bA, .inl (cI, 1220, .inl fb))]) [0, 1] (by decide) rfl
        have hFc := va_free (wc := [(h0, .inr (0, [.ref bA, .ref xA, .ref kA, .ref aA, .ref eA, .ref gA, .ref oA, .int rd, .int lc, .int sc, .int ln, .int le])), (bA, .inl (cI, 1220, .inl fb))]) hD hS hA [0, 1] rfl
        refine va_calli (va_runV (As := [.int (nI k)]) (rest := []) ⟨hx, hb, hml, hown, hts⟩ (k_isReached l dC dI cI cZ cC cJ H.size  h0 bA xA kA aA eA gA oA rd lc sc ln le fb (nI k) ) (cwV 1 hts gX0_sharedSteps_X0_isReached rfl rfl rfl (by decide +kernel) ⟨Nat.le_of_ble_eq_true rfl, Nat.le_of_ble_eq_true rfl⟩) ⟨sPre_blind, va_recv hK hPc (ci := 0) (q0 := 0) rfl rfl, fun U hU hW => ⟨rfl, sPre_ok hsk hPc hDc hU hW⟩⟩ rfl rfl hl.1 rfl (lv_room (Nat.le_of_ble_eq_true rfl)) dX0_sharedSteps_17 ⟨(show 0 + 0 ≤ 0 by omega), (show 0 + 0 ≤ 0 by omega)⟩) hS (fun q _ h => hFc q h) hFc (fun r_1 u t H1 locs ht hvm hw hB hz1 hk1 hS => ?_)
        try dsimp only at hw hB
        obtain ⟨hP1, hD1⟩ := hB
        rw [ht] at hP1
        obtain ⟨hP, hD⟩ := va_join (wr := [(aA, .inl (cI, 1220, .inl fa)), (g0, .inr (1, [.ref gF, .ref gK, .ref gT, .ref gC, .ref gM, .int gc, .ref eF, .ref eC, .ref eM, .int ec, .ref hopA])), (hopA, .inl (cZ, 20, .inl fhopA))]) (w1 := [(h0, .inr (0, [.ref bA, .ref xA, .ref kA, .ref aA, .ref eA, .ref gA, .ref oA, .int rd, .int lc, .int sc, .int ln, .int le])), (bA, .inl (cI, 1220, .inl fb))]) hP hD [0, 1] [2, 3, 4] rfl rfl (by decide) (by decide) hk1 hFc hP1 hD1
        generalize H1 = H at hP hS ⊢
        have hP : va_P (dC, dI) vwCl [(aA, .inl (cI, 1220, .inl fa)), (g0, .inr (1, [.ref gF, .ref gK, .ref gT, .ref gC, .ref gM, .int gc, .ref eF, .ref eC, .ref eM, .int ec, .ref hopA])), (hopA, .inl (cZ, 20, .inl fhopA)), (h0, .inr (0, [.ref bA, .ref xA, .ref kA, .ref aA, .ref eA, .ref gA, .ref oA, .int rd, .int lc, .int sc, .int ln, .int le])), (bA, .inl (cI, 1220, .inl fb))] H := hP
        have hD : va_D A [(aA, .inl (cI, 1220, .inl fa)), (g0, .inr (1, [.ref gF, .ref gK, .ref gT, .ref gC, .ref gM, .int gc, .ref eF, .ref eC, .ref eM, .int ec, .ref hopA])), (hopA, .inl (cZ, 20, .inl fhopA)), (h0, .inr (0, [.ref bA, .ref xA, .ref kA, .ref aA, .ref eA, .ref gA, .ref oA, .int rd, .int lc, .int sc, .int ln, .int le])), (bA, .inl (cI, 1220, .inl fb))] := hD
        have hw_r_1 := hw
        refine lv_if_eq (tgt := 68) hx hb dX0_sharedSteps_20 (by decide) (fun c_20 => ?_) (fun c_20 => ?_)
        · skip
          refine lv_iinc (v := (nI (k + 1))) (lv' := [(4, .int (nI (k + 1))), (3, .int sh), (2, .int fi), (0, .ref h0), (1, .ref g0)]) hx hb dX0_sharedSteps_68 hl (k := 0) rfl (nI_1 k) (by decide) rfl (fun ls hl => ?_)
          refine lv_goto (tgt := 7) hx hb dX0_sharedSteps_71 (by decide) ?_
          exact ih_7  (k + 1) fi sh (by omega) (by omega) _ _ _ (hP.sub [3, 4, 0, 1, 2] rfl) (hD.sub [3, 4, 0, 1, 2] (by decide) rfl) hS (lv_sub hl [0, 1, 2, 3, 4] rfl)
        · skip
          refine lv_aload_n hx hb dX0_sharedSteps_23 rfl (lv_at hl 4 rfl) ?_
          refine lv_iload hx hb dX0_sharedSteps_24 (lv_at hl 0 rfl) ?_
          have hPc := hP.sub (ws' := [(g0, .inr (1, [.ref gF, .ref gK, .ref gT, .ref gC, .ref gM, .int gc, .ref eF, .ref eC, .ref eM, .int ec, .ref hopA])), (hopA, .inl (cZ, 20, .inl fhopA))]) [1, 2] rfl
          have hDc := hD.sub (ws' := [(g0, .inr (1, [.ref gF, .ref gK, .ref gT, .ref gC, .ref gM, .int gc, .ref eF, .ref eC, .ref eM, .int ec, .ref hopA])), (hopA, .inl (cZ, 20, .inl fhopA))]) [1, 2] (by decide) rfl
          have hFc := va_free (wc := [(g0, .inr (1, [.ref gF, .ref gK, .ref gT, .ref gC, .ref gM, .int gc, .ref eF, .ref eC, .ref eM, .int ec, .ref hopA])), (hopA, .inl (cZ, 20, .inl fhopA))]) hD hS hA [1, 2] rfl
          refine va_calli (va_runV (As := [.int (nI k)]) (rest := []) ⟨hx, hb, hml, hown, hts⟩ (k_isHopeful l dC dI cI cZ cC cJ H.size  g0 gF gK gT gC gM gc eF eC eM ec hopA fhopA (nI k) ) (cwV 1 hts gX0_sharedSteps_X1_isHopeful rfl rfl rfl (by decide +kernel) ⟨Nat.le_of_ble_eq_true rfl, Nat.le_of_ble_eq_true rfl⟩) ⟨sPre_blind, va_recv hK hPc (ci := 1) (q0 := 0) rfl rfl, fun U hU hW => ⟨rfl, sPre_ok hsk hPc hDc hU hW⟩⟩ rfl rfl hl.1 rfl (lv_room (Nat.le_of_ble_eq_true rfl)) dX0_sharedSteps_26 ⟨(show 0 + 0 ≤ 0 by omega), (show 0 + 0 ≤ 0 by omega)⟩) hS (fun q _ h => hFc q h) hFc (fun r_2 u t H1 locs ht hvm hw hB hz1 hk1 hS => ?_)
          try dsimp only at hw hB
          obtain ⟨hP1, hD1⟩ := hB
          rw [ht] at hP1
          obtain ⟨hP, hD⟩ := va_join (wr := [(aA, .inl (cI, 1220, .inl fa)), (h0, .inr (0, [.ref bA, .ref xA, .ref kA, .ref aA, .ref eA, .ref gA, .ref oA, .int rd, .int lc, .int sc, .int ln, .int le])), (bA, .inl (cI, 1220, .inl fb))]) (w1 := [(g0, .inr (1, [.ref gF, .ref gK, .ref gT, .ref gC, .ref gM, .int gc, .ref eF, .ref eC, .ref eM, .int ec, .ref hopA])), (hopA, .inl (cZ, 20, .inl fhopA))]) hP hD [1, 2] [0, 3, 4] rfl rfl (by decide) (by decide) hk1 hFc hP1 hD1
          generalize H1 = H at hP hS ⊢
          have hP : va_P (dC, dI) vwCl [(aA, .inl (cI, 1220, .inl fa)), (h0, .inr (0, [.ref bA, .ref xA, .ref kA, .ref aA, .ref eA, .ref gA, .ref oA, .int rd, .int lc, .int sc, .int ln, .int le])), (bA, .inl (cI, 1220, .inl fb)), (g0, .inr (1, [.ref gF, .ref gK, .ref gT, .ref gC, .ref gM, .int gc, .ref eF, .ref eC, .ref eM, .int ec, .ref hopA])), (hopA, .inl (cZ, 20, .inl fhopA))] H := hP
          have hD : va_D A [(aA, .inl (cI, 1220, .inl fa)), (h0, .inr (0, [.ref bA, .ref xA, .ref kA, .ref aA, .ref eA, .ref gA, .ref oA, .int rd, .int lc, .int sc, .int ln, .int le])), (bA, .inl (cI, 1220, .inl fb)), (g0, .inr (1, [.ref gF, .ref gK, .ref gT, .ref gC, .ref gM, .int gc, .ref eF, .ref eC, .ref eM, .int ec, .ref hopA])), (hopA, .inl (cZ, 20, .inl fhopA))] := hD
          have hw_r_2 := hw
          refine lv_if_eq (tgt := 68) hx hb dX0_sharedSteps_29 (by decide) (fun c_29 => ?_) (fun c_29 => ?_)
          · skip
            refine lv_iinc (v := (nI (k + 1))) (lv' := [(4, .int (nI (k + 1))), (3, .int sh), (2, .int fi), (0, .ref h0), (1, .ref g0)]) hx hb dX0_sharedSteps_68 hl (k := 0) rfl (nI_1 k) (by decide) rfl (fun ls hl => ?_)
            refine lv_goto (tgt := 7) hx hb dX0_sharedSteps_71 (by decide) ?_
            exact ih_7  (k + 1) fi sh (by omega) (by omega) _ _ _ (hP.sub [1, 2, 0, 3, 4] rfl) (hD.sub [1, 2, 0, 3, 4] (by decide) rfl) hS (lv_sub hl [0, 1, 2, 3, 4] rfl)
          · skip
            refine lv_iload_n hx hb dX0_sharedSteps_32 rfl (lv_at hl 2 rfl) ?_
            refine lv_iconst (v := (-1)) hx hb dX0_sharedSteps_33 (by decide) ?_
            refine lv_icmp_ne (tgt := 44) hx hb dX0_sharedSteps_34 (by decide) (fun c_34 => ?_) (fun c_34 => ?_)
            · skip
              refine lv_iload_n hx hb dX0_sharedSteps_44 rfl (lv_at hl 1 rfl) ?_
              refine lv_aload_n hx hb dX0_sharedSteps_45 rfl (lv_at hl 3 rfl) ?_
              refine lv_iload_n hx hb dX0_sharedSteps_46 rfl (lv_at hl 2 rfl) ?_
              refine lv_iload hx hb dX0_sharedSteps_47 (lv_at hl 0 rfl) ?_
              have hPc := hP.sub (ws' := [(h0, .inr (0, [.ref bA, .ref xA, .ref kA, .ref aA, .ref eA, .ref gA, .ref oA, .int rd, .int lc, .int sc, .int ln, .int le])), (aA, .inl (cI, 1220, .inl fa))]) [1, 0] rfl
              have hDc := hD.sub (ws' := [(h0, .inr (0, [.ref bA, .ref xA, .ref kA, .ref aA, .ref eA, .ref gA, .ref oA, .int rd, .int lc, .int sc, .int ln, .int le])), (aA, .inl (cI, 1220, .inl fa))]) [1, 0] (by decide) rfl
              have hFc := va_free (wc := [(h0, .inr (0, [.ref bA, .ref xA, .ref kA, .ref aA, .ref eA, .ref gA, .ref oA, .int rd, .int lc, .int sc, .int ln, .int le])), (aA, .inl (cI, 1220, .inl fa))]) hD hS hA [1, 0] rfl
              refine va_calli (va_runV (As := [.int fi, .int (nI k)]) (rest := [.int sh]) ⟨hx, hb, hml, hown, hts⟩ (k_meetingLevel l dC dI cI cZ cC cJ H.size  h0 bA xA kA aA eA gA oA rd lc sc ln le fa fi (nI k) ) (cwV 2 hts gX0_sharedSteps_X0_meetingLevel rfl rfl rfl (by decide +kernel) ⟨Nat.le_of_ble_eq_true rfl, Nat.le_of_ble_eq_true rfl⟩) ⟨sPre_blind, va_recv hK hPc (ci := 0) (q0 := 0) rfl rfl, fun U hU hW => ⟨rfl, sPre_ok hsk hPc hDc hU hW⟩⟩ rfl rfl hl.1 rfl (lv_room (Nat.le_of_ble_eq_true rfl)) dX0_sharedSteps_49 ⟨(show 0 + 0 ≤ 0 by omega), (show 0 + 0 ≤ 0 by omega)⟩) hS (fun q _ h => hFc q h) hFc (fun r_3 u t H1 locs ht hvm hw hB hz1 hk1 hS => ?_)
              try dsimp only at hw hB
              obtain ⟨hP1, hD1⟩ := hB
              rw [ht] at hP1
              obtain ⟨hP, hD⟩ := va_join (wr := [(bA, .inl (cI, 1220, .inl fb)), (g0, .inr (1, [.ref gF, .ref gK, .ref gT, .ref gC, .ref gM, .int gc, .ref eF, .ref eC, .ref eM, .int ec, .ref hopA])), (hopA, .inl (cZ, 20, .inl fhopA))]) (w1 := [(h0, .inr (0, [.ref bA, .ref xA, .ref kA, .ref aA, .ref eA, .ref gA, .ref oA, .int rd, .int lc, .int sc, .int ln, .int le])), (aA, .inl (cI, 1220, .inl fa))]) hP hD [1, 0] [2, 3, 4] rfl rfl (by decide) (by decide) hk1 hFc hP1 hD1
              generalize H1 = H at hP hS ⊢
              have hP : va_P (dC, dI) vwCl [(bA, .inl (cI, 1220, .inl fb)), (g0, .inr (1, [.ref gF, .ref gK, .ref gT, .ref gC, .ref gM, .int gc, .ref eF, .ref eC, .ref eM, .int ec, .ref hopA])), (hopA, .inl (cZ, 20, .inl fhopA)), (h0, .inr (0, [.ref bA, .ref xA, .ref kA, .ref aA, .ref eA, .ref gA, .ref oA, .int rd, .int lc, .int sc, .int ln, .int le])), (aA, .inl (cI, 1220, .inl fa))] H := hP
              have hD : va_D A [(bA, .inl (cI, 1220, .inl fb)), (g0, .inr (1, [.ref gF, .ref gK, .ref gT, .ref gC, .ref gM, .int gc, .ref eF, .ref eC, .ref eM, .int ec, .ref hopA])), (hopA, .inl (cZ, 20, .inl fhopA)), (h0, .inr (0, [.ref bA, .ref xA, .ref kA, .ref aA, .ref eA, .ref gA, .ref oA, .int rd, .int lc, .int sc, .int ln, .int le])), (aA, .inl (cI, 1220, .inl fa))] := hD
              have hw_r_3 := hw
              refine va_mmin hx hb (by rw [hml]; exact hl.1.symm) hown (hts (.methodLink RX0 105 Lib.Math.min.name) (by decide +kernel)) (hts (.static Lib.Math.min.name) (by decide +kernel)) (hts (.initialized "java/lang/Math") (by decide +kernel)) (hts (.code Lib.Math.min.name Lib.Math.min.code 2 (some .int)) (by decide +kernel)) (Nat.le_of_ble_eq_true rfl) (Nat.le_of_ble_eq_true rfl) (Nat.le_of_ble_eq_true rfl) (Nat.le_of_ble_eq_true rfl) dX0_sharedSteps_52 ?_
              refine lv_topi (fun v_4 ev_4 => ?_)
              refine lv_istore_n (lv' := [(3, .int v_4), (4, .int (nI k)), (2, .int fi), (0, .ref h0), (1, .ref g0)]) hx hb dX0_sharedSteps_55 rfl hl (by decide) rfl (fun ls hl => ?_)
              refine lv_iload_n hx hb dX0_sharedSteps_56 rfl (lv_at hl 2 rfl) ?_
              refine lv_iconst (v := (-1)) hx hb dX0_sharedSteps_57 (by decide) ?_
              refine lv_icmp_ne (tgt := 66) hx hb dX0_sharedSteps_58 (by decide) (fun c_58 => ?_) (fun c_58 => ?_)
              · skip
                refine lv_iload_n hx hb dX0_sharedSteps_66 rfl (lv_at hl 2 rfl) ?_
                refine lv_istore_n (lv' := [(2, .int fi), (3, .int v_4), (4, .int (nI k)), (0, .ref h0), (1, .ref g0)]) hx hb dX0_sharedSteps_67 rfl hl (by decide) rfl (fun ls hl => ?_)
                refine lv_iinc (v := (nI (k + 1))) (lv' := [(4, .int (nI (k + 1))), (2, .int fi), (3, .int v_4), (0, .ref h0), (1, .ref g0)]) hx hb dX0_sharedSteps_68 hl (k := 2) rfl (nI_1 k) (by decide) rfl (fun ls hl => ?_)
                refine lv_goto (tgt := 7) hx hb dX0_sharedSteps_71 (by decide) ?_
                exact ih_7  (k + 1) fi v_4 (by omega) (by omega) _ _ _ (hP.sub [3, 0, 4, 1, 2] rfl) (hD.sub [3, 0, 4, 1, 2] (by decide) rfl) hS (lv_sub hl [0, 2, 1, 3, 4] rfl)
              · skip
                refine lv_iload hx hb dX0_sharedSteps_61 (lv_at hl 1 rfl) ?_
                refine lv_goto (tgt := 67) hx hb dX0_sharedSteps_63 (by decide) ?_
                refine lv_istore_n (lv' := [(2, .int (nI k)), (3, .int v_4), (4, .int (nI k)), (0, .ref h0), (1, .ref g0)]) hx hb dX0_sharedSteps_67 rfl hl (by decide) rfl (fun ls hl => ?_)
                refine lv_iinc (v := (nI (k + 1))) (lv' := [(4, .int (nI (k + 1))), (2, .int (nI k)), (3, .int v_4), (0, .ref h0), (1, .ref g0)]) hx hb dX0_sharedSteps_68 hl (k := 2) rfl (nI_1 k) (by decide) rfl (fun ls hl => ?_)
                refine lv_goto (tgt := 7) hx hb dX0_sharedSteps_71 (by decide) ?_
                exact ih_7  (k + 1) (nI k) v_4 (by omega) (by omega) _ _ _ (hP.sub [3, 0, 4, 1, 2] rfl) (hD.sub [3, 0, 4, 1, 2] (by decide) rfl) hS (lv_sub hl [0, 2, 1, 3, 4] rfl)
            · skip
              refine lv_aload_n hx hb dX0_sharedSteps_37 rfl (lv_at hl 3 rfl) ?_
              refine va_get (D := (dC, dI)) (ci := 0) (v := .int rd) (C := RX0) (T := TX0) (N := 12) hx hb hts i0 hown hK hP 1 rfl rfl 7 (by decide) (hts (.fieldLink RX0 47 "StopSetter$Chart" "ready" "I") (by decide +kernel)) (fun _ h9 => h9) rfl dX0_sharedSteps_38 ?_
              refine lv_goto (tgt := 55) hx hb dX0_sharedSteps_41 (by decide) ?_
              refine lv_istore_n (lv' := [(3, .int rd), (4, .int (nI k)), (2, .int fi), (0, .ref h0), (1, .ref g0)]) hx hb dX0_sharedSteps_55 rfl hl (by decide) rfl (fun ls hl => ?_)
              refine lv_iload_n hx hb dX0_sharedSteps_56 rfl (lv_at hl 2 rfl) ?_
              refine lv_iconst (v := (-1)) hx hb dX0_sharedSteps_57 (by decide) ?_
              refine lv_icmp_ne (tgt := 66) hx hb dX0_sharedSteps_58 (by decide) (fun c_58 => ?_) (fun c_58 => ?_)
              · skip
                refine lv_iload_n hx hb dX0_sharedSteps_66 rfl (lv_at hl 2 rfl) ?_
                refine lv_istore_n (lv' := [(2, .int fi), (3, .int rd), (4, .int (nI k)), (0, .ref h0), (1, .ref g0)]) hx hb dX0_sharedSteps_67 rfl hl (by decide) rfl (fun ls hl => ?_)
                refine lv_iinc (v := (nI (k + 1))) (lv' := [(4, .int (nI (k + 1))), (2, .int fi), (3, .int rd), (0, .ref h0), (1, .ref g0)]) hx hb dX0_sharedSteps_68 hl (k := 2) rfl (nI_1 k) (by decide) rfl (fun ls hl => ?_)
                refine lv_goto (tgt := 7) hx hb dX0_sharedSteps_71 (by decide) ?_
                exact ih_7  (k + 1) fi rd (by omega) (by omega) _ _ _ (hP.sub [1, 2, 0, 3, 4] rfl) (hD.sub [1, 2, 0, 3, 4] (by decide) rfl) hS (lv_sub hl [0, 2, 1, 3, 4] rfl)
              · skip
                refine lv_iload hx hb dX0_sharedSteps_61 (lv_at hl 1 rfl) ?_
                refine lv_goto (tgt := 67) hx hb dX0_sharedSteps_63 (by decide) ?_
                refine lv_istore_n (lv' := [(2, .int (nI k)), (3, .int rd), (4, .int (nI k)), (0, .ref h0), (1, .ref g0)]) hx hb dX0_sharedSteps_67 rfl hl (by decide) rfl (fun ls hl => ?_)
                refine lv_iinc (v := (nI (k + 1))) (lv' := [(4, .int (nI (k + 1))), (2, .int (nI k)), (3, .int rd), (0, .ref h0), (1, .ref g0)]) hx hb dX0_sharedSteps_68 hl (k := 2) rfl (nI_1 k) (by decide) rfl (fun ls hl => ?_)
                refine lv_goto (tgt := 7) hx hb dX0_sharedSteps_71 (by decide) ?_
                exact ih_7  (k + 1) (nI k) rd (by omega) (by omega) _ _ _ (hP.sub [1, 2, 0, 3, 4] rfl) (hD.sub [1, 2, 0, 3, 4] (by decide) rfl) hS (lv_sub hl [0, 2, 1, 3, 4] rfl)
  exact lp_7 21 0 (-1) 0 (by omega) (by omega) _ _ _ hP hD hS (lv_sub hl [0, 1, 2, 3, 4] rfl)

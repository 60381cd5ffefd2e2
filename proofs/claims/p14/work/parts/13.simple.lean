theorem wd_ne {z : Int32} (h : ¬ z < 0) (h2 : z < 60) (e : z + 1 = -1) : False := by
  obtain ⟨k, hk, rfl⟩ := nI_of h
  have h3 := (nI_ltI (a := k) (b := 60) hk (by decide)).mp h2
  rw [nI_1] at e
  have h4 : nI (k + 1) < 0 := by rw [e]; decide
  exact nI_pos (by omega) h4
set_option maxHeartbeats 4000000 in
set_option maxRecDepth 100000 in
theorem k_cnodeBehind (l : Launch) (dC : Nat → ClassId) (dI : Nat → Nat → Nat) (cI cZ cC cJ : ClassId) (sz : Nat) (h0 : Nat) (bA : Nat) (xA : Nat) (kA : Nat) (aA : Nat) (eA : Nat) (gA : Nat) (oA : Nat) (rd : Int32) (lc : Int32) (sc : Int32) (ln : Int32) (le : Int32) (fa : Nat → Int32) (p0 : Int32)  : Met l yX0_nodeBehind wsX0_nodeBehind ({ frames := 1, cells := 0, slots := 0, locals := 22 }) (va_Pc [.ref h0, .int p0] (sPre dC dI cI cZ cC cJ [(h0, .inr (0, [.ref bA, .ref xA, .ref kA, .ref aA, .ref eA, .ref gA, .ref oA, .int rd, .int lc, .int sc, .int ln, .int le])), (aA, .inl (cI, 1220, .inl fa))] sz)) (va_Qi (fun (r : Int32) (u : Unit) => True) (fun _ => sB dC dI (va_A [(h0, .inr (0, [.ref bA, .ref xA, .ref kA, .ref aA, .ref eA, .ref gA, .ref oA, .int rd, .int lc, .int sc, .int ln, .int le])), (aA, .inl (cI, 1220, .inl fa))] sz) [(h0, .inr (0, [.ref bA, .ref xA, .ref kA, .ref aA, .ref eA, .ref gA, .ref oA, .int rd, .int lc, .int sc, .int ln, .int le])), (aA, .inl (cI, 1220, .inl fa))]) (va_A [(h0, .inr (0, [.ref bA, .ref xA, .ref kA, .ref aA, .ref eA, .ref gA, .ref oA, .int rd, .int lc, .int sc, .int ln, .int le])), (aA, .inl (cI, 1220, .inl fa))] sz)) 0 0 (va_A [(h0, .inr (0, [.ref bA, .ref xA, .ref kA, .ref aA, .ref eA, .ref gA, .ref oA, .int rd, .int lc, .int sc, .int ln, .int le])), (aA, .inl (cI, 1220, .inl fa))] sz) := by
  refine Met.ofW (cc := cX0_nodeBehind) (maxL := 4) (ret := (some .int)) (by decide) rfl ?_
  intro p e s m args below meth c s₁ B hml hv
  obtain ⟨rfl, hsz, hP, hsk, hD0⟩ := hv
  have hx := B.exec
  have hb := B.bytes
  have hr := B.returns
  have hts := atoms_spec (ws := wsX0_nodeBehind) B.pre
  have hown : s.vm.findClass RX0 = some m.cls := findClass_of_methodNamed B.named
  have hlocks := B.notSynchronized
  have hK := hsk.1
  have i0 : ∀ w ∈ wsX00, w ∈ wsX0_nodeBehind := by decide +kernel
  subst hsz
  have hD := hD0.self (sz := s.heap.size)
  generalize hAe : va_A [(h0, .inr (0, [.ref bA, .ref xA, .ref kA, .ref aA, .ref eA, .ref gA, .ref oA, .int rd, .int lc, .int sc, .int ln, .int le])), (aA, .inl (cI, 1220, .inl fa))] s.heap.size = A at hD ⊢
  have hA : ∀ q : Nat, s.heap.size ≤ q → A q := fun q h => by rw [← hAe]; exact Or.inr h
  have hS : va_S A s.heap s.heap [] := va_S.rf
  have hl := lv_entry ([.ref h0, .int p0]) (n := 4) (Nat.le_of_ble_eq_true rfl)
  rw [lg_entry_eq]
  generalize (lg_sl ([.ref h0, .int p0]) ++ List.replicate (4 - (lg_sl ([.ref h0, .int p0])).length) Slot.unset).toArray = ls at hl ⊢
  have hl : lv_has ls 4 [(0, .ref h0), (1, .int p0)] := hl
  refine lv_aload_n hx hb dX0_nodeBehind_0 rfl (lv_at hl 0 rfl) ?_
  refine va_get (D := (dC, dI)) (ci := 0) (v := .int ln) (C := RX0) (T := TX0) (N := 12) hx hb hts i0 hown hK hP 0 rfl rfl 10 (by decide) (hts (.fieldLink RX0 113 "StopSetter$Chart" "lastNode" "I") (by decide +kernel)) (fun _ h9 => h9) rfl dX0_nodeBehind_1 ?_
  refine lv_istore_n (lv' := [(2, .int ln), (0, .ref h0), (1, .int p0)]) hx hb dX0_nodeBehind_4 rfl hl (by decide) rfl (fun ls hl => ?_)
  refine lv_aload_n hx hb dX0_nodeBehind_5 rfl (lv_at hl 1 rfl) ?_
  refine va_get (D := (dC, dI)) (ci := 0) (v := .int rd) (C := RX0) (T := TX0) (N := 12) hx hb hts i0 hown hK hP 0 rfl rfl 7 (by decide) (hts (.fieldLink RX0 47 "StopSetter$Chart" "ready" "I") (by decide +kernel)) (fun _ h9 => h9) rfl dX0_nodeBehind_6 ?_
  refine lv_istore_n (lv' := [(3, .int rd), (2, .int ln), (0, .ref h0), (1, .int p0)]) hx hb dX0_nodeBehind_9 rfl hl (by decide) rfl (fun ls hl => ?_)
  have lp_10 : ∀ (n_10 : Nat) (iv : Int32) (nd : Int32), ((iv : Int32).toInt - ((p0 + 1) : Int32).toInt < n_10 ∧ 0 < n_10) → ∀ (H : Heap) (locs : List Loc) (ls : Array Slot), va_P (dC, dI) vwCl [(h0, .inr (0, [.ref bA, .ref xA, .ref kA, .ref aA, .ref eA, .ref gA, .ref oA, .int rd, .int lc, .int sc, .int ln, .int le])), (aA, .inl (cI, 1220, .inl fa))] H → va_D A [(h0, .inr (0, [.ref bA, .ref xA, .ref kA, .ref aA, .ref eA, .ref gA, .ref oA, .int rd, .int lc, .int sc, .int ln, .int le])), (aA, .inl (cI, 1220, .inl fa))] → va_S A s.heap H locs → lv_has ls 4 [(3, .int iv), (2, .int nd), (0, .ref h0), (1, .int p0)] → W p l e (headSpec wsX0_nodeBehind ({ frames := 1, cells := 0, slots := 0, locals := 22 })).room s m ([.ref h0, .int p0]).toArray below meth c H locs 0 0 (MQ below (va_Qi (fun (r : Int32) (u : Unit) => True) (fun _ => sB dC dI A [(h0, .inr (0, [.ref bA, .ref xA, .ref kA, .ref aA, .ref eA, .ref gA, .ref oA, .int rd, .int lc, .int sc, .int ln, .int le])), (aA, .inl (cI, 1220, .inl fa))]) A) ([.ref h0, .int p0]).toArray s 0 0 A) (F0 m 10 ls []) := by
    intro n_10
    induction n_10 with
    | zero =>
      intro iv nd fuel_10 
      exact absurd fuel_10 (by omega)
    | succ n_10 ih_10 =>
      intro iv nd fuel_10  H locs ls hP hD hS hl
      refine lv_iload_n hx hb dX0_nodeBehind_10 rfl (lv_at hl 0 rfl) ?_
      refine lv_iload_n hx hb dX0_nodeBehind_11 rfl (lv_at hl 3 rfl) ?_
      refine lv_iconst (v := 1) hx hb dX0_nodeBehind_12 (by decide) ?_
      refine lv_iadd hx hb dX0_nodeBehind_13 ?_
      refine lv_topi (fun v_ ev_ => ?_)
      obtain rfl : v_ = (p0 + 1) := ev_.trans (rfl)
      refine lv_icmp_le (tgt := 34) hx hb dX0_nodeBehind_14 (by decide) (fun c_14 => ?_) (fun c_14 => ?_)
      · skip
        refine lv_iload_n hx hb dX0_nodeBehind_34 rfl (lv_at hl 1 rfl) ?_
        have hP9 := hP.sub (ws' := [(h0, .inr (0, [.ref bA, .ref xA, .ref kA, .ref aA, .ref eA, .ref gA, .ref oA, .int rd, .int lc, .int sc, .int ln, .int le])), (aA, .inl (cI, 1220, .inl fa))]) [0, 1] rfl
        have hD9 := hD.sub (ws' := [(h0, .inr (0, [.ref bA, .ref xA, .ref kA, .ref aA, .ref eA, .ref gA, .ref oA, .int rd, .int lc, .int sc, .int ln, .int le])), (aA, .inl (cI, 1220, .inl fa))]) [0, 1] (by decide) rfl
        exact W.iret (v := nd) hx hb hr (fun t ht hW => ⟨⟨nd, (), rfl, trivial, by rw [ht]; exact hP9, hD9⟩, hS.F ht⟩) hS.2.2 dX0_nodeBehind_35
      · skip
        refine lv_aload_n hx hb dX0_nodeBehind_17 rfl (lv_at hl 2 rfl) ?_
        refine va_get (D := (dC, dI)) (ci := 0) (v := .ref aA) (C := RX0) (T := TX0) (N := 12) hx hb hts i0 hown hK hP 0 rfl rfl 3 (by decide) (hts (.fieldLink RX0 21 "StopSetter$Chart" "nodeAhead" "[I") (by decide +kernel)) (fun _ h9 => h9) rfl dX0_nodeBehind_18 ?_
        refine lv_iload_n hx hb dX0_nodeBehind_21 rfl (lv_at hl 0 rfl) ?_
        refine lv_iload_n hx hb dX0_nodeBehind_22 rfl (lv_at hl 1 rfl) ?_
        have hPc := hP.sub (ws' := []) [] rfl
        have hDc := hD.sub (ws' := []) [] (by decide) rfl
        have hFc := va_free (wc := []) hD hS hA [] rfl
        refine va_calli (va_runS (As := [.int iv, .int nd]) (rest := [.ref aA]) ⟨hx, hb, hml, hown, hts⟩ (k_cell l dC dI cI cZ cC cJ H.size  iv nd ) (va_cwS 2 hts gX0_nodeBehind_X0_cell rfl rfl rfl (by decide +kernel) ⟨Nat.le_of_ble_eq_true rfl, Nat.le_of_ble_eq_true rfl⟩) ⟨sPre_blind, fun U hU hW => ⟨rfl, sPre_ok hsk hPc hDc hU hW⟩⟩ rfl rfl hl.1 rfl (lv_room (Nat.le_of_ble_eq_true rfl)) dX0_nodeBehind_23 ⟨(show 0 + 0 ≤ 0 by omega), (show 0 + 0 ≤ 0 by omega)⟩) hS (fun q _ h => hFc q h) hFc (fun r_1 u t H1 locs ht hvm hw hB hz1 hk1 hS => ?_)
        try dsimp only at hw hB
        have hw_2 := hw
        obtain rfl : r_1 = cl iv nd := hw_2
        obtain ⟨hP1, hD1⟩ := hB
        rw [ht] at hP1
        obtain ⟨hP, hD⟩ := va_join (wr := [(h0, .inr (0, [.ref bA, .ref xA, .ref kA, .ref aA, .ref eA, .ref gA, .ref oA, .int rd, .int lc, .int sc, .int ln, .int le])), (aA, .inl (cI, 1220, .inl fa))]) (w1 := []) hP hD [] [0, 1] rfl rfl (by decide) (by decide) hk1 hFc hP1 hD1
        generalize H1 = H at hP hS ⊢
        have hP : va_P (dC, dI) vwCl [(h0, .inr (0, [.ref bA, .ref xA, .ref kA, .ref aA, .ref eA, .ref gA, .ref oA, .int rd, .int lc, .int sc, .int ln, .int le])), (aA, .inl (cI, 1220, .inl fa))] H := hP
        have hD : va_D A [(h0, .inr (0, [.ref bA, .ref xA, .ref kA, .ref aA, .ref eA, .ref gA, .ref oA, .int rd, .int lc, .int sc, .int ln, .int le])), (aA, .inl (cI, 1220, .inl fa))] := hD
        refine va_iald hx hb hK hP 1 0 rfl rfl (cl_in _ _) dX0_nodeBehind_26 ?_
        refine lv_topi (fun v_3 ev_3 => ?_)
        refine lv_istore_n (lv' := [(2, .int v_3), (3, .int iv), (0, .ref h0), (1, .int p0)]) hx hb dX0_nodeBehind_27 rfl hl (by decide) rfl (fun ls hl => ?_)
        refine lv_iinc (v := (iv + (-1))) (lv' := [(3, .int (iv + (-1))), (2, .int v_3), (0, .ref h0), (1, .int p0)]) hx hb dX0_nodeBehind_28 hl (k := 1) rfl rfl (by decide) rfl (fun ls hl => ?_)
        refine lv_goto (tgt := 10) hx hb dX0_nodeBehind_31 (by decide) ?_
        exact ih_10  (iv + (-1)) v_3 (dn_f c_14 fuel_10) _ _ _ hP hD hS (lv_sub hl [0, 1, 2, 3] rfl)
  exact lp_10 (((rd : Int32).toInt - ((p0 + 1) : Int32).toInt).toNat + 1) rd ln (by omega) _ _ _ hP hD hS (lv_sub hl [0, 1, 2, 3] rfl)
set_option maxHeartbeats 4000000 in
set_option maxRecDepth 100000 in
theorem k_handMarks (l : Launch) (dC : Nat → ClassId) (dI : Nat → Nat → Nat) (cI cZ cC cJ : ClassId) (sz : Nat) (h0 : Nat) (kO : Nat) (nO : Nat) (rO : Nat) (mO : Nat) (mnq : Nat) (tO : Nat) (rdO : Nat) (lnO : Nat) (drO : Nat) (chO : Nat) (fm : Nat → Int32) (hmn : mnq ≤ 60) : Met l yX4_handMarks wsX4_handMarks ({ frames := 0, cells := 0, slots := 0, locals := 0 }) (va_Pc [.ref h0] (sPre dC dI cI cZ cC cJ [(h0, .inr (4, [.ref kO, .ref nO, .ref rO, .ref mO, .int (nI mnq), .ref tO, .ref rdO, .ref lnO, .ref drO, .ref chO])), (mO, .inl (cI, 60, .inl fm))] sz)) (va_Qi (fun (r : Int32) (u : Unit) => r = nI (cM fm mnq)) (fun _ => sB dC dI (va_A [(h0, .inr (4, [.ref kO, .ref nO, .ref rO, .ref mO, .int (nI mnq), .ref tO, .ref rdO, .ref lnO, .ref drO, .ref chO])), (mO, .inl (cI, 60, .inl fm))] sz) [(h0, .inr (4, [.ref kO, .ref nO, .ref rO, .ref mO, .int (nI mnq), .ref tO, .ref rdO, .ref lnO, .ref drO, .ref chO])), (mO, .inl (cI, 60, .inl fm))]) (va_A [(h0, .inr (4, [.ref kO, .ref nO, .ref rO, .ref mO, .int (nI mnq), .ref tO, .ref rdO, .ref lnO, .ref drO, .ref chO])), (mO, .inl (cI, 60, .inl fm))] sz)) 0 0 (va_A [(h0, .inr (4, [.ref kO, .ref nO, .ref rO, .ref mO, .int (nI mnq), .ref tO, .ref rdO, .ref lnO, .ref drO, .ref chO])), (mO, .inl (cI, 60, .inl fm))] sz) := by
  refine Met.ofW (cc := cX4_handMarks) (maxL := 3) (ret := (some .int)) (by decide) rfl ?_
  intro p e s m args below meth c s₁ B hml hv
  obtain ⟨rfl, hsz, hP, hsk, hD0⟩ := hv
  have hx := B.exec
  have hb := B.bytes
  have hr := B.returns
  have hts := atoms_spec (ws := wsX4_handMarks) B.pre
  have hown : s.vm.findClass RX4 = some m.cls := findClass_of_methodNamed B.named
  have hlocks := B.notSynchronized
  have hK := hsk.1
  have i4 : ∀ w ∈ wsX40, w ∈ wsX4_handMarks := by decide +kernel
  subst hsz
  have hD := hD0.self (sz := s.heap.size)
  generalize hAe : va_A [(h0, .inr (4, [.ref kO, .ref nO, .ref rO, .ref mO, .int (nI mnq), .ref tO, .ref rdO, .ref lnO, .ref drO, .ref chO])), (mO, .inl (cI, 60, .inl fm))] s.heap.size = A at hD ⊢
  have hA : ∀ q : Nat, s.heap.size ≤ q → A q := fun q h => by rw [← hAe]; exact Or.inr h
  have hS : va_S A s.heap s.heap [] := va_S.rf
  have hl := lv_entry ([.ref h0]) (n := 3) (Nat.le_of_ble_eq_true rfl)
  rw [lg_entry_eq]
  generalize (lg_sl ([.ref h0]) ++ List.replicate (3 - (lg_sl ([.ref h0])).length) Slot.unset).toArray = ls at hl ⊢
  have hl : lv_has ls 3 [(0, .ref h0)] := hl
  refine lv_iconst (v := 0) hx hb dX4_handMarks_0 (by decide) ?_
  refine lv_istore_n (lv' := [(1, .int 0), (0, .ref h0)]) hx hb dX4_handMarks_1 rfl hl (by decide) rfl (fun ls hl => ?_)
  refine lv_iconst (v := 0) hx hb dX4_handMarks_2 (by decide) ?_
  refine lv_istore_n (lv' := [(2, .int 0), (1, .int 0), (0, .ref h0)]) hx hb dX4_handMarks_3 rfl hl (by decide) rfl (fun ls hl => ?_)
  have lp_4 : ∀ (n_4 : Nat) (kq : Nat) (mk : Int32), mnq + 1 ≤ kq + n_4 → kq ≤ mnq → mk = nI (cM fm kq) → ∀ (H : Heap) (locs : List Loc) (ls : Array Slot), va_P (dC, dI) vwCl [(h0, .inr (4, [.ref kO, .ref nO, .ref rO, .ref mO, .int (nI mnq), .ref tO, .ref rdO, .ref lnO, .ref drO, .ref chO])), (mO, .inl (cI, 60, .inl fm))] H → va_D A [(h0, .inr (4, [.ref kO, .ref nO, .ref rO, .ref mO, .int (nI mnq), .ref tO, .ref rdO, .ref lnO, .ref drO, .ref chO])), (mO, .inl (cI, 60, .inl fm))] → va_S A s.heap H locs → lv_has ls 3 [(2, .int (nI kq)), (1, .int mk), (0, .ref h0)] → W p l e (headSpec wsX4_handMarks ({ frames := 0, cells := 0, slots := 0, locals := 0 })).room s m ([.ref h0]).toArray below meth c H locs 0 0 (MQ below (va_Qi (fun (r : Int32) (u : Unit) => r = nI (cM fm mnq)) (fun _ => sB dC dI A [(h0, .inr (4, [.ref kO, .ref nO, .ref rO, .ref mO, .int (nI mnq), .ref tO, .ref rdO, .ref lnO, .ref drO, .ref chO])), (mO, .inl (cI, 60, .inl fm))]) A) ([.ref h0]).toArray s 0 0 A) (F0 m 4 ls []) := by
    intro n_4
    induction n_4 with
    | zero =>
      intro kq mk fuel_4 hk_4 hmk
      exact absurd fuel_4 (by omega)
    | succ n_4 ih_4 =>
      intro kq mk fuel_4 hk_4 hmk H locs ls hP hD hS hl
      refine lv_iload_n hx hb dX4_handMarks_4 rfl (lv_at hl 0 rfl) ?_
      refine lv_aload_n hx hb dX4_handMarks_5 rfl (lv_at hl 2 rfl) ?_
      refine va_get (D := (dC, dI)) (ci := 4) (v := .int (nI mnq)) (C := RX4) (T := TX4) (N := 10) hx hb hts i4 hown hK hP 0 rfl rfl 4 (by decide) (hts (.fieldLink RX4 74 "StopSetter" "size" "I") (by decide +kernel)) (fun _ h9 => h9) rfl dX4_handMarks_6 ?_
      refine lv_icmp_ge (tgt := 37) hx hb dX4_handMarks_9 (by decide) (fun c_9 => ?_) (fun c_9 => ?_)
      · skip
        refine lv_iload_n hx hb dX4_handMarks_37 rfl (lv_at hl 1 rfl) ?_
        have hP9 := hP.sub (ws' := [(h0, .inr (4, [.ref kO, .ref nO, .ref rO, .ref mO, .int (nI mnq), .ref tO, .ref rdO, .ref lnO, .ref drO, .ref chO])), (mO, .inl (cI, 60, .inl fm))]) [0, 1] rfl
        have hD9 := hD.sub (ws' := [(h0, .inr (4, [.ref kO, .ref nO, .ref rO, .ref mO, .int (nI mnq), .ref tO, .ref rdO, .ref lnO, .ref drO, .ref chO])), (mO, .inl (cI, 60, .inl fm))]) [0, 1] (by decide) rfl
        exact W.iret (v := mk) hx hb hr (fun t ht hW => ⟨⟨mk, (), rfl, (by rw [hmk, show kq = mnq by have := (nI_leI (a := mnq) (b := kq) (by omega) (by omega)).mp c_9; omega]), by rw [ht]; exact hP9, hD9⟩, hS.F ht⟩) hS.2.2 dX4_handMarks_38
      · skip
        have hk3_4 : kq < mnq := nk_lt (N := mnq) rfl c_9 (by omega)
        refine lv_iload_n hx hb dX4_handMarks_12 rfl (lv_at hl 0 rfl) ?_
        refine lv_bipush (v := 60) hx hb dX4_handMarks_13 (by decide) ?_
        refine lv_icmp_ge (tgt := 37) hx hb dX4_handMarks_15 (by decide) (fun h9 => absurd h9 (nI_ge (a := kq) (b := 60) (by omega) (by decide))) (fun _ => ?_)
        refine lv_aload_n hx hb dX4_handMarks_18 rfl (lv_at hl 2 rfl) ?_
        refine va_get (D := (dC, dI)) (ci := 4) (v := .ref mO) (C := RX4) (T := TX4) (N := 10) hx hb hts i4 hown hK hP 0 rfl rfl 3 (by decide) (hts (.fieldLink RX4 20 "StopSetter" "marks" "[I") (by decide +kernel)) (fun _ h9 => h9) rfl dX4_handMarks_19 ?_
        refine lv_iload_n hx hb dX4_handMarks_22 rfl (lv_at hl 0 rfl) ?_
        refine va_iald hx hb hK hP 1 0 rfl rfl (vp_in_nI (by omega) (by decide)) dX4_handMarks_23 ?_
        refine lv_topi (fun v_ ev_ => ?_)
        obtain rfl : v_ = (fm kq) := ev_.trans (by rw [nI_clamp (by omega)])
        refine lv_iconst (v := (-1)) hx hb dX4_handMarks_24 (by decide) ?_
        refine lv_icmp_eq (tgt := 31) hx hb dX4_handMarks_25 (by decide) (fun c_25 => ?_) (fun c_25 => ?_)
        · skip
          refine lv_iinc (v := (nI (kq + 1))) (lv' := [(2, .int (nI (kq + 1))), (1, .int mk), (0, .ref h0)]) hx hb dX4_handMarks_31 hl (k := 0) rfl (nI_1 kq) (by decide) rfl (fun ls hl => ?_)
          refine lv_goto (tgt := 4) hx hb dX4_handMarks_34 (by decide) ?_
          exact ih_4  (kq + 1) mk (by omega) (by omega) (by rw [hmk, cM_s, if_pos c_25]; rfl) _ _ _ hP hD hS (lv_sub hl [0, 1, 2] rfl)
        · skip
          refine lv_iinc (v := (mk + 1)) (lv' := [(1, .int (mk + 1)), (2, .int (nI kq)), (0, .ref h0)]) hx hb dX4_handMarks_28 hl (k := 1) rfl rfl (by decide) rfl (fun ls hl => ?_)
          refine lv_iinc (v := (nI (kq + 1))) (lv' := [(2, .int (nI (kq + 1))), (1, .int (mk + 1)), (0, .ref h0)]) hx hb dX4_handMarks_31 hl (k := 1) rfl (nI_1 kq) (by decide) rfl (fun ls hl => ?_)
          refine lv_goto (tgt := 4) hx hb dX4_handMarks_34 (by decide) ?_
          exact ih_4  (kq + 1) (mk + 1) (by omega) (by omega) (by rw [hmk, cM_s, if_neg c_25]; exact nI_1 _) _ _ _ hP hD hS (lv_sub hl [0, 1, 2] rfl)
  exact lp_4 (mnq + 1) 0 0 (by omega) (by omega) (rfl) _ _ _ hP hD hS (lv_sub hl [0, 1, 2] rfl)
set_option maxHeartbeats 4000000 in
set_option maxRecDepth 100000 in
theorem k_isRaised (l : Launch) (dC : Nat → ClassId) (dI : Nat → Nat → Nat) (cI cZ cC cJ : ClassId) (sz : Nat) (h0 : Nat) (kO : Nat) (nO : Nat) (rO : Nat) (mO : Nat) (zs : Int32) (tO : Nat) (rdO : Nat) (lnO : Nat) (drO : Nat) (chO : Nat) (fr : Nat → Int32) (fn : Nat → Int32) (p0 : Int32) (p1 : Int32) (p2 : Int32)  : Met l yX4_isRaised wsX4_isRaised ({ frames := 2, cells := 0, slots := 0, locals := 42 }) (va_Pc [.ref h0, .int p0, .int p1, .int p2] (sPre dC dI cI cZ cC cJ [(h0, .inr (4, [.ref kO, .ref nO, .ref rO, .ref mO, .int zs, .ref tO, .ref rdO, .ref lnO, .ref drO, .ref chO])), (rO, .inl (cI, 60, .inl fr)), (nO, .inl (cZ, 100, .inl fn))] sz)) (va_Qi (fun (r : Int32) (u : Unit) => True) (fun _ => sB dC dI (va_A [(h0, .inr (4, [.ref kO, .ref nO, .ref rO, .ref mO, .int zs, .ref tO, .ref rdO, .ref lnO, .ref drO, .ref chO])), (rO, .inl (cI, 60, .inl fr)), (nO, .inl (cZ, 100, .inl fn))] sz) [(h0, .inr (4, [.ref kO, .ref nO, .ref rO, .ref mO, .int zs, .ref tO, .ref rdO, .ref lnO, .ref drO, .ref chO])), (rO, .inl (cI, 60, .inl fr)), (nO, .inl (cZ, 100, .inl fn))]) (va_A [(h0, .inr (4, [.ref kO, .ref nO, .ref rO, .ref mO, .int zs, .ref tO, .ref rdO, .ref lnO, .ref drO, .ref chO])), (rO, .inl (cI, 60, .inl fr)), (nO, .inl (cZ, 100, .inl fn))] sz)) 0 0 (va_A [(h0, .inr (4, [.ref kO, .ref nO, .ref rO, .ref mO, .int zs, .ref tO, .ref rdO, .ref lnO, .ref drO, .ref chO])), (rO, .inl (cI, 60, .inl fr)), (nO, .inl (cZ, 100, .inl fn))] sz) := by
  refine Met.ofW (cc := cX4_isRaised) (maxL := 6) (ret := (some .boolean)) (by decide) rfl ?_
  intro p e s m args below meth c s₁ B hml hv
  obtain ⟨rfl, hsz, hP, hsk, hD0⟩ := hv
  have hx := B.exec
  have hb := B.bytes
  have hr := B.returns
  have hts := atoms_spec (ws := wsX4_isRaised) B.pre
  have hown : s.vm.findClass RX4 = some m.cls := findClass_of_methodNamed B.named
  have hlocks := B.notSynchronized
  have hK := hsk.1
  have i4 : ∀ w ∈ wsX40, w ∈ wsX4_isRaised := by decide +kernel
  subst hsz
  have hD := hD0.self (sz := s.heap.size)
  generalize hAe : va_A [(h0, .inr (4, [.ref kO, .ref nO, .ref rO, .ref mO, .int zs, .ref tO, .ref rdO, .ref lnO, .ref drO, .ref chO])), (rO, .inl (cI, 60, .inl fr)), (nO, .inl (cZ, 100, .inl fn))] s.heap.size = A at hD ⊢
  have hA : ∀ q : Nat, s.heap.size ≤ q → A q := fun q h => by rw [← hAe]; exact Or.inr h
  have hS : va_S A s.heap s.heap [] := va_S.rf
  have hl := lv_entry ([.ref h0, .int p0, .int p1, .int p2]) (n := 6) (Nat.le_of_ble_eq_true rfl)
  rw [lg_entry_eq]
  generalize (lg_sl ([.ref h0, .int p0, .int p1, .int p2]) ++ List.replicate (6 - (lg_sl ([.ref h0, .int p0, .int p1, .int p2])).length) Slot.unset).toArray = ls at hl ⊢
  have hl : lv_has ls 6 [(0, .ref h0), (1, .int p0), (2, .int p1), (3, .int p2)] := hl
  refine lv_aload_n hx hb dX4_isRaised_0 rfl (lv_at hl 0 rfl) ?_
  refine lv_iload_n hx hb dX4_isRaised_1 rfl (lv_at hl 1 rfl) ?_
  have hPc := hP.sub (ws' := [(h0, .inr (4, [.ref kO, .ref nO, .ref rO, .ref mO, .int zs, .ref tO, .ref rdO, .ref lnO, .ref drO, .ref chO])), (rO, .inl (cI, 60, .inl fr))]) [0, 1] rfl
  have hDc := hD.sub (ws' := [(h0, .inr (4, [.ref kO, .ref nO, .ref rO, .ref mO, .int zs, .ref tO, .ref rdO, .ref lnO, .ref drO, .ref chO])), (rO, .inl (cI, 60, .inl fr))]) [0, 1] (by decide) rfl
  have hFc := va_free (wc := [(h0, .inr (4, [.ref kO, .ref nO, .ref rO, .ref mO, .int zs, .ref tO, .ref rdO, .ref lnO, .ref drO, .ref chO])), (rO, .inl (cI, 60, .inl fr))]) hD hS hA [0, 1] rfl
  refine va_calli (va_runV (As := [.int p0]) (rest := []) ⟨hx, hb, hml, hown, hts⟩ (k_wordAt l dC dI cI cZ cC cJ s.heap.size  h0 kO nO rO mO zs tO rdO lnO drO chO fr p0 ) (cwV 1 hts gX4_isRaised_X4_wordAt rfl rfl rfl (by decide +kernel) ⟨Nat.le_of_ble_eq_true rfl, Nat.le_of_ble_eq_true rfl⟩) ⟨sPre_blind, va_recv hK hPc (ci := 4) (q0 := 0) rfl rfl, fun U hU hW => ⟨rfl, sPre_ok hsk hPc hDc hU hW⟩⟩ rfl rfl hl.1 rfl (lv_room (Nat.le_of_ble_eq_true rfl)) dX4_isRaised_2 ⟨(show 0 + 0 ≤ 0 by omega), (show 0 + 0 ≤ 0 by omega)⟩) hS (fun q _ h => hFc q h) hFc (fun r_1 u t H1 locs ht hvm hw hB hz1 hk1 hS => ?_)
  try dsimp only at hw hB
  have hw_2 := hw
  obtain rfl : r_1 = (if bnd 60 p0 zs = 0 then 0 else fr p0.toNatClampNeg) := hw_2
  obtain ⟨hP1, hD1⟩ := hB
  rw [ht] at hP1
  obtain ⟨hP, hD⟩ := va_join (wr := [(nO, .inl (cZ, 100, .inl fn))]) (w1 := [(h0, .inr (4, [.ref kO, .ref nO, .ref rO, .ref mO, .int zs, .ref tO, .ref rdO, .ref lnO, .ref drO, .ref chO])), (rO, .inl (cI, 60, .inl fr))]) hP hD [0, 1] [2] rfl rfl (by decide) (by decide) hk1 hFc hP1 hD1
  generalize H1 = H at hP hS ⊢
  have hP : va_P (dC, dI) vwCl [(nO, .inl (cZ, 100, .inl fn)), (h0, .inr (4, [.ref kO, .ref nO, .ref rO, .ref mO, .int zs, .ref tO, .ref rdO, .ref lnO, .ref drO, .ref chO])), (rO, .inl (cI, 60, .inl fr))] H := hP
  have hD : va_D A [(nO, .inl (cZ, 100, .inl fn)), (h0, .inr (4, [.ref kO, .ref nO, .ref rO, .ref mO, .int zs, .ref tO, .ref rdO, .ref lnO, .ref drO, .ref chO])), (rO, .inl (cI, 60, .inl fr))] := hD
  refine lv_istore (lv' := [(4, .int (if bnd 60 p0 zs = 0 then 0 else fr p0.toNatClampNeg)), (0, .ref h0), (1, .int p0), (2, .int p1), (3, .int p2)]) hx hb dX4_isRaised_5 hl (by decide) rfl (fun ls hl => ?_)
  refine lv_iload hx hb dX4_isRaised_7 (lv_at hl 0 rfl) ?_
  have hPc := hP.sub (ws' := []) [] rfl
  have hDc := hD.sub (ws' := []) [] (by decide) rfl
  have hFc := va_free (wc := []) hD hS hA [] rfl
  refine va_calli (va_runS (As := [.int (if bnd 60 p0 zs = 0 then 0 else fr p0.toNatClampNeg)]) (rest := []) ⟨hx, hb, hml, hown, hts⟩ (k_isWord l dC dI cI cZ cC cJ H.size  (if bnd 60 p0 zs = 0 then 0 else fr p0.toNatClampNeg) ) (va_cwS 1 hts gX4_isRaised_X4_isWord rfl rfl rfl (by decide +kernel) ⟨Nat.le_of_ble_eq_true rfl, Nat.le_of_ble_eq_true rfl⟩) ⟨sPre_blind, fun U hU hW => ⟨rfl, sPre_ok hsk hPc hDc hU hW⟩⟩ rfl rfl hl.1 rfl (lv_room (Nat.le_of_ble_eq_true rfl)) dX4_isRaised_9 ⟨(show 0 + 0 ≤ 0 by omega), (show 0 + 0 ≤ 0 by omega)⟩) hS (fun q _ h => hFc q h) hFc (fun r_3 u t H1 locs ht hvm hw hB hz1 hk1 hS => ?_)
  try dsimp only at hw hB
  have hw_4 := hw
  obtain rfl : r_3 = isW (if bnd 60 p0 zs = 0 then 0 else fr p0.toNatClampNeg) := hw_4
  obtain ⟨hP1, hD1⟩ := hB
  rw [ht] at hP1
  obtain ⟨hP, hD⟩ := va_join (wr := [(nO, .inl (cZ, 100, .inl fn)), (h0, .inr (4, [.ref kO, .ref nO, .ref rO, .ref mO, .int zs, .ref tO, .ref rdO, .ref lnO, .ref drO, .ref chO])), (rO, .inl (cI, 60, .inl fr))]) (w1 := []) hP hD [] [0, 1, 2] rfl rfl (by decide) (by decide) hk1 hFc hP1 hD1
  generalize H1 = H at hP hS ⊢
  have hP : va_P (dC, dI) vwCl [(nO, .inl (cZ, 100, .inl fn)), (h0, .inr (4, [.ref kO, .ref nO, .ref rO, .ref mO, .int zs, .ref tO, .ref rdO, .ref lnO, .ref drO, .ref chO])), (rO, .inl (cI, 60, .inl fr))] H := hP
  have hD : va_D A [(nO, .inl (cZ, 100, .inl fn)), (h0, .inr (4, [.ref kO, .ref nO, .ref rO, .ref mO, .int zs, .ref tO, .ref rdO, .ref lnO, .ref drO, .ref chO])), (rO, .inl (cI, 60, .inl fr))] := hD
  refine lv_if_eq (tgt := 29) hx hb dX4_isRaised_12 (by decide) (fun c_12 => ?_) (fun c_12 => ?_)
  · skip
    refine lv_iconst (v := 0) hx hb dX4_isRaised_29 (by decide) ?_
    refine lv_istore (lv' := [(5, .int 0), (4, .int (if bnd 60 p0 zs = 0 then 0 else fr p0.toNatClampNeg)), (0, .ref h0), (1, .int p0), (2, .int p1), (3, .int p2)]) hx hb dX4_isRaised_30 hl (by decide) rfl (fun ls hl => ?_)
    refine lv_iload hx hb dX4_isRaised_32 (lv_at hl 0 rfl) ?_
    refine lv_if_ne (tgt := 56) hx hb dX4_isRaised_34 (by decide) (fun h9 => absurd (by decide) h9) (fun _ => ?_)
    refine lv_iload_n hx hb dX4_isRaised_37 rfl (lv_at hl 3 rfl) ?_
    refine lv_if_eq (tgt := 56) hx hb dX4_isRaised_38 (by decide) (fun c_38 => ?_) (fun c_38 => ?_)
    · skip
      refine lv_iconst (v := 1) hx hb dX4_isRaised_56 (by decide) ?_
      refine lv_goto (tgt := 61) hx hb dX4_isRaised_57 (by decide) ?_
      have hP9 := hP.sub (ws' := [(h0, .inr (4, [.ref kO, .ref nO, .ref rO, .ref mO, .int zs, .ref tO, .ref rdO, .ref lnO, .ref drO, .ref chO])), (rO, .inl (cI, 60, .inl fr)), (nO, .inl (cZ, 100, .inl fn))]) [1, 2, 0] rfl
      have hD9 := hD.sub (ws' := [(h0, .inr (4, [.ref kO, .ref nO, .ref rO, .ref mO, .int zs, .ref tO, .ref rdO, .ref lnO, .ref drO, .ref chO])), (rO, .inl (cI, 60, .inl fr)), (nO, .inl (cZ, 100, .inl fn))]) [1, 2, 0] (by decide) rfl
      exact W.zret (v := 1) (ty := .boolean) hx hb hr rfl (fun t ht hW => ⟨⟨1, (), rfl, trivial, by rw [ht]; exact hP9, hD9⟩, hS.F ht⟩) hS.2.2 dX4_isRaised_61
    · skip
      refine lv_iload_n hx hb dX4_isRaised_41 rfl (lv_at hl 4 rfl) ?_
      refine lv_iconst (v := 4) hx hb dX4_isRaised_42 (by decide) ?_
      refine lv_icmp_eq (tgt := 56) hx hb dX4_isRaised_43 (by decide) (fun c_43 => ?_) (fun c_43 => ?_)
      · skip
        refine lv_iconst (v := 1) hx hb dX4_isRaised_56 (by decide) ?_
        refine lv_goto (tgt := 61) hx hb dX4_isRaised_57 (by decide) ?_
        have hP9 := hP.sub (ws' := [(h0, .inr (4, [.ref kO, .ref nO, .ref rO, .ref mO, .int zs, .ref tO, .ref rdO, .ref lnO, .ref drO, .ref chO])), (rO, .inl (cI, 60, .inl fr)), (nO, .inl (cZ, 100, .inl fn))]) [1, 2, 0] rfl
        have hD9 := hD.sub (ws' := [(h0, .inr (4, [.ref kO, .ref nO, .ref rO, .ref mO, .int zs, .ref tO, .ref rdO, .ref lnO, .ref drO, .ref chO])), (rO, .inl (cI, 60, .inl fr)), (nO, .inl (cZ, 100, .inl fn))]) [1, 2, 0] (by decide) rfl
        exact W.zret (v := 1) (ty := .boolean) hx hb hr rfl (fun t ht hW => ⟨⟨1, (), rfl, trivial, by rw [ht]; exact hP9, hD9⟩, hS.F ht⟩) hS.2.2 dX4_isRaised_61
      · skip
        refine lv_iload_n hx hb dX4_isRaised_46 rfl (lv_at hl 4 rfl) ?_
        refine lv_iconst (v := 5) hx hb dX4_isRaised_47 (by decide) ?_
        refine lv_icmp_eq (tgt := 56) hx hb dX4_isRaised_48 (by decide) (fun c_48 => ?_) (fun c_48 => ?_)
        · skip
          refine lv_iconst (v := 1) hx hb dX4_isRaised_56 (by decide) ?_
          refine lv_goto (tgt := 61) hx hb dX4_isRaised_57 (by decide) ?_
          have hP9 := hP.sub (ws' := [(h0, .inr (4, [.ref kO, .ref nO, .ref rO, .ref mO, .int zs, .ref tO, .ref rdO, .ref lnO, .ref drO, .ref chO])), (rO, .inl (cI, 60, .inl fr)), (nO, .inl (cZ, 100, .inl fn))]) [1, 2, 0] rfl
          have hD9 := hD.sub (ws' := [(h0, .inr (4, [.ref kO, .ref nO, .ref rO, .ref mO, .int zs, .ref tO, .ref rdO, .ref lnO, .ref drO, .ref chO])), (rO, .inl (cI, 60, .inl fr)), (nO, .inl (cZ, 100, .inl fn))]) [1, 2, 0] (by decide) rfl
          exact W.zret (v := 1) (ty := .boolean) hx hb hr rfl (fun t ht hW => ⟨⟨1, (), rfl, trivial, by rw [ht]; exact hP9, hD9⟩, hS.F ht⟩) hS.2.2 dX4_isRaised_61
        · skip
          refine lv_iload_n hx hb dX4_isRaised_51 rfl (lv_at hl 5 rfl) ?_
          refine lv_iconst (v := 2) hx hb dX4_isRaised_52 (by decide) ?_
          refine lv_icmp_ne (tgt := 60) hx hb dX4_isRaised_53 (by decide) (fun c_53 => ?_) (fun c_53 => ?_)
          · skip
            refine lv_iconst (v := 0) hx hb dX4_isRaised_60 (by decide) ?_
            have hP9 := hP.sub (ws' := [(h0, .inr (4, [.ref kO, .ref nO, .ref rO, .ref mO, .int zs, .ref tO, .ref rdO, .ref lnO, .ref drO, .ref chO])), (rO, .inl (cI, 60, .inl fr)), (nO, .inl (cZ, 100, .inl fn))]) [1, 2, 0] rfl
            have hD9 := hD.sub (ws' := [(h0, .inr (4, [.ref kO, .ref nO, .ref rO, .ref mO, .int zs, .ref tO, .ref rdO, .ref lnO, .ref drO, .ref chO])), (rO, .inl (cI, 60, .inl fr)), (nO, .inl (cZ, 100, .inl fn))]) [1, 2, 0] (by decide) rfl
            exact W.zret (v := 0) (ty := .boolean) hx hb hr rfl (fun t ht hW => ⟨⟨0, (), rfl, trivial, by rw [ht]; exact hP9, hD9⟩, hS.F ht⟩) hS.2.2 dX4_isRaised_61
          · skip
            refine lv_iconst (v := 1) hx hb dX4_isRaised_56 (by decide) ?_
            refine lv_goto (tgt := 61) hx hb dX4_isRaised_57 (by decide) ?_
            have hP9 := hP.sub (ws' := [(h0, .inr (4, [.ref kO, .ref nO, .ref rO, .ref mO, .int zs, .ref tO, .ref rdO, .ref lnO, .ref drO, .ref chO])), (rO, .inl (cI, 60, .inl fr)), (nO, .inl (cZ, 100, .inl fn))]) [1, 2, 0] rfl
            have hD9 := hD.sub (ws' := [(h0, .inr (4, [.ref kO, .ref nO, .ref rO, .ref mO, .int zs, .ref tO, .ref rdO, .ref lnO, .ref drO, .ref chO])), (rO, .inl (cI, 60, .inl fr)), (nO, .inl (cZ, 100, .inl fn))]) [1, 2, 0] (by decide) rfl
            exact W.zret (v := 1) (ty := .boolean) hx hb hr rfl (fun t ht hW => ⟨⟨1, (), rfl, trivial, by rw [ht]; exact hP9, hD9⟩, hS.F ht⟩) hS.2.2 dX4_isRaised_61
  · skip
    refine lv_aload_n hx hb dX4_isRaised_15 rfl (lv_at hl 1 rfl) ?_
    refine va_get (D := (dC, dI)) (ci := 4) (v := .ref nO) (C := RX4) (T := TX4) (N := 10) hx hb hts i4 hown hK hP 1 rfl rfl 1 (by decide) (hts (.fieldLink RX4 13 "StopSetter" "isName" "[Z") (by decide +kernel)) (fun _ h9 => h9) rfl dX4_isRaised_16 ?_
    refine lv_iload hx hb dX4_isRaised_19 (lv_at hl 0 rfl) ?_
    refine va_zald hx hb hK hP 0 1 rfl rfl (isW_in c_12) dX4_isRaised_21 ?_
    refine lv_topi (fun v_5 ev_5 => ?_)
    refine lv_if_eq (tgt := 29) hx hb dX4_isRaised_22 (by decide) (fun c_22 => ?_) (fun c_22 => ?_)
    · skip
      refine lv_iconst (v := 0) hx hb dX4_isRaised_29 (by decide) ?_
      refine lv_istore (lv' := [(5, .int 0), (4, .int (if bnd 60 p0 zs = 0 then 0 else fr p0.toNatClampNeg)), (0, .ref h0), (1, .int p0), (2, .int p1), (3, .int p2)]) hx hb dX4_isRaised_30 hl (by decide) rfl (fun ls hl => ?_)
      refine lv_iload hx hb dX4_isRaised_32 (lv_at hl 0 rfl) ?_
      refine lv_if_ne (tgt := 56) hx hb dX4_isRaised_34 (by decide) (fun h9 => absurd (by decide) h9) (fun _ => ?_)
      refine lv_iload_n hx hb dX4_isRaised_37 rfl (lv_at hl 3 rfl) ?_
      refine lv_if_eq (tgt := 56) hx hb dX4_isRaised_38 (by decide) (fun c_38 => ?_) (fun c_38 => ?_)
      · skip
        refine lv_iconst (v := 1) hx hb dX4_isRaised_56 (by decide) ?_
        refine lv_goto (tgt := 61) hx hb dX4_isRaised_57 (by decide) ?_
        have hP9 := hP.sub (ws' := [(h0, .inr (4, [.ref kO, .ref nO, .ref rO, .ref mO, .int zs, .ref tO, .ref rdO, .ref lnO, .ref drO, .ref chO])), (rO, .inl (cI, 60, .inl fr)), (nO, .inl (cZ, 100, .inl fn))]) [1, 2, 0] rfl
        have hD9 := hD.sub (ws' := [(h0, .inr (4, [.ref kO, .ref nO, .ref rO, .ref mO, .int zs, .ref tO, .ref rdO, .ref lnO, .ref drO, .ref chO])), (rO, .inl (cI, 60, .inl fr)), (nO, .inl (cZ, 100, .inl fn))]) [1, 2, 0] (by decide) rfl
        exact W.zret (v := 1) (ty := .boolean) hx hb hr rfl (fun t ht hW => ⟨⟨1, (), rfl, trivial, by rw [ht]; exact hP9, hD9⟩, hS.F ht⟩) hS.2.2 dX4_isRaised_61
      · skip
        refine lv_iload_n hx hb dX4_isRaised_41 rfl (lv_at hl 4 rfl) ?_
        refine lv_iconst (v := 4) hx hb dX4_isRaised_42 (by decide) ?_
        refine lv_icmp_eq (tgt := 56) hx hb dX4_isRaised_43 (by decide) (fun c_43 => ?_) (fun c_43 => ?_)
        · skip
          refine lv_iconst (v := 1) hx hb dX4_isRaised_56 (by decide) ?_
          refine lv_goto (tgt := 61) hx hb dX4_isRaised_57 (by decide) ?_
          have hP9 := hP.sub (ws' := [(h0, .inr (4, [.ref kO, .ref nO, .ref rO, .ref mO, .int zs, .ref tO, .ref rdO, .ref lnO, .ref drO, .ref chO])), (rO, .inl (cI, 60, .inl fr)), (nO, .inl (cZ, 100, .inl fn))]) [1, 2, 0] rfl
          have hD9 := hD.sub (ws' := [(h0, .inr (4, [.ref kO, .ref nO, .ref rO, .ref mO, .int zs, .ref tO, .ref rdO, .ref lnO, .ref drO, .ref chO])), (rO, .inl (cI, 60, .inl fr)), (nO, .inl (cZ, 100, .inl fn))]) [1, 2, 0] (by decide) rfl
          exact W.zret (v := 1) (ty := .boolean) hx hb hr rfl (fun t ht hW => ⟨⟨1, (), rfl, trivial, by rw [ht]; exact hP9, hD9⟩, hS.F ht⟩) hS.2.2 dX4_isRaised_61
        · skip
          refine lv_iload_n hx hb dX4_isRaised_46 rfl (lv_at hl 4 rfl) ?_
          refine lv_iconst (v := 5) hx hb dX4_isRaised_47 (by decide) ?_
          refine lv_icmp_eq (tgt := 56) hx hb dX4_isRaised_48 (by decide) (fun c_48 => ?_) (fun c_48 => ?_)
          · skip
            refine lv_iconst (v := 1) hx hb dX4_isRaised_56 (by decide) ?_
            refine lv_goto (tgt := 61) hx hb dX4_isRaised_57 (by decide) ?_
            have hP9 := hP.sub (ws' := [(h0, .inr (4, [.ref kO, .ref nO, .ref rO, .ref mO, .int zs, .ref tO, .ref rdO, .ref lnO, .ref drO, .ref chO])), (rO, .inl (cI, 60, .inl fr)), (nO, .inl (cZ, 100, .inl fn))]) [1, 2, 0] rfl
            have hD9 := hD.sub (ws' := [(h0, .inr (4, [.ref kO, .ref nO, .ref rO, .ref mO, .int zs, .ref tO, .ref rdO, .ref lnO, .ref drO, .ref chO])), (rO, .inl (cI, 60, .inl fr)), (nO, .inl (cZ, 100, .inl fn))]) [1, 2, 0] (by decide) rfl
            exact W.zret (v := 1) (ty := .boolean) hx hb hr rfl (fun t ht hW => ⟨⟨1, (), rfl, trivial, by rw [ht]; exact hP9, hD9⟩, hS.F ht⟩) hS.2.2 dX4_isRaised_61
          · skip
            refine lv_iload_n hx hb dX4_isRaised_51 rfl (lv_at hl 5 rfl) ?_
            refine lv_iconst (v := 2) hx hb dX4_isRaised_52 (by decide) ?_
            refine lv_icmp_ne (tgt := 60) hx hb dX4_isRaised_53 (by decide) (fun c_53 => ?_) (fun c_53 => ?_)
            · skip
              refine lv_iconst (v := 0) hx hb dX4_isRaised_60 (by decide) ?_
              have hP9 := hP.sub (ws' := [(h0, .inr (4, [.ref kO, .ref nO, .ref rO, .ref mO, .int zs, .ref tO, .ref rdO, .ref lnO, .ref drO, .ref chO])), (rO, .inl (cI, 60, .inl fr)), (nO, .inl (cZ, 100, .inl fn))]) [1, 2, 0] rfl
              have hD9 := hD.sub (ws' := [(h0, .inr (4, [.ref kO, .ref nO, .ref rO, .ref mO, .int zs, .ref tO, .ref rdO, .ref lnO, .ref drO, .ref chO])), (rO, .inl (cI, 60, .inl fr)), (nO, .inl (cZ, 100, .inl fn))]) [1, 2, 0] (by decide) rfl
              exact W.zret (v := 0) (ty := .boolean) hx hb hr rfl (fun t ht hW => ⟨⟨0, (), rfl, trivial, by rw [ht]; exact hP9, hD9⟩, hS.F ht⟩) hS.2.2 dX4_isRaised_61
            · skip
              refine lv_iconst (v := 1) hx hb dX4_isRaised_56 (by decide) ?_
              refine lv_goto (tgt := 61) hx hb dX4_isRaised_57 (by decide) ?_
              have hP9 := hP.sub (ws' := [(h0, .inr (4, [.ref kO, .ref nO, .ref rO, .ref mO, .int zs, .ref tO, .ref rdO, .ref lnO, .ref drO, .ref chO])), (rO, .inl (cI, 60, .inl fr)), (nO, .inl (cZ, 100, .inl fn))]) [1, 2, 0] rfl
              have hD9 := hD.sub (ws' := [(h0, .inr (4, [.ref kO, .ref nO, .ref rO, .ref mO, .int zs, .ref tO, .ref rdO, .ref lnO, .ref drO, .ref chO])), (rO, .inl (cI, 60, .inl fr)), (nO, .inl (cZ, 100, .inl fn))]) [1, 2, 0] (by decide) rfl
              exact W.zret (v := 1) (ty := .boolean) hx hb hr rfl (fun t ht hW => ⟨⟨1, (), rfl, trivial, by rw [ht]; exact hP9, hD9⟩, hS.F ht⟩) hS.2.2 dX4_isRaised_61
    · skip
      refine lv_iconst (v := 1) hx hb dX4_isRaised_25 (by decide) ?_
      refine lv_goto (tgt := 30) hx hb dX4_isRaised_26 (by decide) ?_
      refine lv_istore (lv' := [(5, .int 1), (4, .int (if bnd 60 p0 zs = 0 then 0 else fr p0.toNatClampNeg)), (0, .ref h0), (1, .int p0), (2, .int p1), (3, .int p2)]) hx hb dX4_isRaised_30 hl (by decide) rfl (fun ls hl => ?_)
      refine lv_iload hx hb dX4_isRaised_32 (lv_at hl 0 rfl) ?_
      refine lv_if_ne (tgt := 56) hx hb dX4_isRaised_34 (by decide) (fun _ => ?_) (fun h9 => absurd h9 (by decide))
      refine lv_iconst (v := 1) hx hb dX4_isRaised_56 (by decide) ?_
      refine lv_goto (tgt := 61) hx hb dX4_isRaised_57 (by decide) ?_
      have hP9 := hP.sub (ws' := [(h0, .inr (4, [.ref kO, .ref nO, .ref rO, .ref mO, .int zs, .ref tO, .ref rdO, .ref lnO, .ref drO, .ref chO])), (rO, .inl (cI, 60, .inl fr)), (nO, .inl (cZ, 100, .inl fn))]) [1, 2, 0] rfl
      have hD9 := hD.sub (ws' := [(h0, .inr (4, [.ref kO, .ref nO, .ref rO, .ref mO, .int zs, .ref tO, .ref rdO, .ref lnO, .ref drO, .ref chO])), (rO, .inl (cI, 60, .inl fr)), (nO, .inl (cZ, 100, .inl fn))]) [1, 2, 0] (by decide) rfl
      exact W.zret (v := 1) (ty := .boolean) hx hb hr rfl (fun t ht hW => ⟨⟨1, (), rfl, trivial, by rw [ht]; exact hP9, hD9⟩, hS.F ht⟩) hS.2.2 dX4_isRaised_61
set_option maxHeartbeats 4000000 in
set_option maxRecDepth 100000 in
theorem k_firstPlaceOf (l : Launch) (dC : Nat → ClassId) (dI : Nat → Nat → Nat) (cI cZ cC cJ : ClassId) (sz : Nat) (h0 : Nat) (kO : Nat) (nO : Nat) (rO : Nat) (mO : Nat) (mnq : Nat) (tO : Nat) (rdO : Nat) (lnO : Nat) (drO : Nat) (chO : Nat) (fr : Nat → Int32) (p0 : Int32) (hmn : mnq ≤ 60) : Met l yX4_firstPlaceOf wsX4_firstPlaceOf ({ frames := 2, cells := 0, slots := 0, locals := 42 }) (va_Pc [.ref h0, .int p0] (sPre dC dI cI cZ cC cJ [(h0, .inr (4, [.ref kO, .ref nO, .ref rO, .ref mO, .int (nI mnq), .ref tO, .ref rdO, .ref lnO, .ref drO, .ref chO])), (rO, .inl (cI, 60, .inl fr))] sz)) (va_Qi (fun (r : Int32) (u : Unit) => r = nI (fpl fr p0 mnq 0)) (fun _ => sB dC dI (va_A [(h0, .inr (4, [.ref kO, .ref nO, .ref rO, .ref mO, .int (nI mnq), .ref tO, .ref rdO, .ref lnO, .ref drO, .ref chO])), (rO, .inl (cI, 60, .inl fr))] sz) [(h0, .inr (4, [.ref kO, .ref nO, .ref rO, .ref mO, .int (nI mnq), .ref tO, .ref rdO, .ref lnO, .ref drO, .ref chO])), (rO, .inl (cI, 60, .inl fr))]) (va_A [(h0, .inr (4, [.ref kO, .ref nO, .ref rO, .ref mO, .int (nI mnq), .ref tO, .ref rdO, .ref lnO, .ref drO, .ref chO])), (rO, .inl (cI, 60, .inl fr))] sz)) 0 0 (va_A [(h0, .inr (4, [.ref kO, .ref nO, .ref rO, .ref mO, .int (nI mnq), .ref tO, .ref rdO, .ref lnO, .ref drO, .ref chO])), (rO, .inl (cI, 60, .inl fr))] sz) := by
  refine Met.ofW (cc := cX4_firstPlaceOf) (maxL := 3) (ret := (some .int)) (by decide) rfl ?_
  intro p e s m args below meth c s₁ B hml hv
  obtain ⟨rfl, hsz, hP, hsk, hD0⟩ := hv
  have hx := B.exec
  have hb := B.bytes
  have hr := B.returns
  have hts := atoms_spec (ws := wsX4_firstPlaceOf) B.pre
  have hown : s.vm.findClass RX4 = some m.cls := findClass_of_methodNamed B.named
  have hlocks := B.notSynchronized
  have hK := hsk.1
  have i4 : ∀ w ∈ wsX40, w ∈ wsX4_firstPlaceOf := by decide +kernel
  subst hsz
  have hD := hD0.self (sz := s.heap.size)
  generalize hAe : va_A [(h0, .inr (4, [.ref kO, .ref nO, .ref rO, .ref mO, .int (nI mnq), .ref tO, .ref rdO, .ref lnO, .ref drO, .ref chO])), (rO, .inl (cI, 60, .inl fr))] s.heap.size = A at hD ⊢
  have hA : ∀ q : Nat, s.heap.size ≤ q → A q := fun q h => by rw [← hAe]; exact Or.inr h
  have hS : va_S A s.heap s.heap [] := va_S.rf
  have hl := lv_entry ([.ref h0, .int p0]) (n := 3) (Nat.le_of_ble_eq_true rfl)
  rw [lg_entry_eq]
  generalize (lg_sl ([.ref h0, .int p0]) ++ List.replicate (3 - (lg_sl ([.ref h0, .int p0])).length) Slot.unset).toArray = ls at hl ⊢
  have hl : lv_has ls 3 [(0, .ref h0), (1, .int p0)] := hl
  obtain ⟨Rq, eRq⟩ : ∃ x9 : Nat, x9 = fpl fr p0 mnq 0 := ⟨_, rfl⟩
  refine lv_iconst (v := 0) hx hb dX4_firstPlaceOf_0 (by decide) ?_
  refine lv_istore_n (lv' := [(2, .int 0), (0, .ref h0), (1, .int p0)]) hx hb dX4_firstPlaceOf_1 rfl hl (by decide) rfl (fun ls hl => ?_)
  have lp_2 : ∀ (n_2 : Nat) (kq : Nat), mnq + 1 ≤ kq + n_2 → kq ≤ mnq → fpl fr p0 (mnq - kq) kq = Rq → ∀ (H : Heap) (locs : List Loc) (ls : Array Slot), va_P (dC, dI) vwCl [(h0, .inr (4, [.ref kO, .ref nO, .ref rO, .ref mO, .int (nI mnq), .ref tO, .ref rdO, .ref lnO, .ref drO, .ref chO])), (rO, .inl (cI, 60, .inl fr))] H → va_D A [(h0, .inr (4, [.ref kO, .ref nO, .ref rO, .ref mO, .int (nI mnq), .ref tO, .ref rdO, .ref lnO, .ref drO, .ref chO])), (rO, .inl (cI, 60, .inl fr))] → va_S A s.heap H locs → lv_has ls 3 [(2, .int (nI kq)), (0, .ref h0), (1, .int p0)] → W p l e (headSpec wsX4_firstPlaceOf ({ frames := 2, cells := 0, slots := 0, locals := 42 })).room s m ([.ref h0, .int p0]).toArray below meth c H locs 0 0 (MQ below (va_Qi (fun (r : Int32) (u : Unit) => r = nI (fpl fr p0 mnq 0)) (fun _ => sB dC dI A [(h0, .inr (4, [.ref kO, .ref nO, .ref rO, .ref mO, .int (nI mnq), .ref tO, .ref rdO, .ref lnO, .ref drO, .ref chO])), (rO, .inl (cI, 60, .inl fr))]) A) ([.ref h0, .int p0]).toArray s 0 0 A) (F0 m 2 ls []) := by
    intro n_2
    induction n_2 with
    | zero =>
      intro kq fuel_2 hk hE
      exact absurd fuel_2 (by omega)
    | succ n_2 ih_2 =>
      intro kq fuel_2 hk hE H locs ls hP hD hS hl
      refine lv_iload_n hx hb dX4_firstPlaceOf_2 rfl (lv_at hl 0 rfl) ?_
      refine lv_aload_n hx hb dX4_firstPlaceOf_3 rfl (lv_at hl 1 rfl) ?_
      refine va_get (D := (dC, dI)) (ci := 4) (v := .int (nI mnq)) (C := RX4) (T := TX4) (N := 10) hx hb hts i4 hown hK hP 0 rfl rfl 4 (by decide) (hts (.fieldLink RX4 74 "StopSetter" "size" "I") (by decide +kernel)) (fun _ h9 => h9) rfl dX4_firstPlaceOf_4 ?_
      refine lv_icmp_ge (tgt := 27) hx hb dX4_firstPlaceOf_7 (by decide) (fun c_7 => ?_) (fun c_7 => ?_)
      · skip
        refine lv_aload_n hx hb dX4_firstPlaceOf_27 rfl (lv_at hl 1 rfl) ?_
        refine va_get (D := (dC, dI)) (ci := 4) (v := .int (nI mnq)) (C := RX4) (T := TX4) (N := 10) hx hb hts i4 hown hK hP 0 rfl rfl 4 (by decide) (hts (.fieldLink RX4 74 "StopSetter" "size" "I") (by decide +kernel)) (fun _ h9 => h9) rfl dX4_firstPlaceOf_28 ?_
        have hP9 := hP.sub (ws' := [(h0, .inr (4, [.ref kO, .ref nO, .ref rO, .ref mO, .int (nI mnq), .ref tO, .ref rdO, .ref lnO, .ref drO, .ref chO])), (rO, .inl (cI, 60, .inl fr))]) [0, 1] rfl
        have hD9 := hD.sub (ws' := [(h0, .inr (4, [.ref kO, .ref nO, .ref rO, .ref mO, .int (nI mnq), .ref tO, .ref rdO, .ref lnO, .ref drO, .ref chO])), (rO, .inl (cI, 60, .inl fr))]) [0, 1] (by decide) rfl
        exact W.iret (v := (nI mnq)) hx hb hr (fun t ht hW => ⟨⟨(nI mnq), (), rfl, (by rw [← eRq, ← hE, show kq = mnq by have := (nI_leI (a := mnq) (b := kq) (by omega) (by omega)).mp c_7; omega, Nat.sub_self]; rfl), by rw [ht]; exact hP9, hD9⟩, hS.F ht⟩) hS.2.2 dX4_firstPlaceOf_31
      · skip
        have hkl : kq < mnq := nk_lt rfl c_7 (by omega)
        refine lv_aload_n hx hb dX4_firstPlaceOf_10 rfl (lv_at hl 1 rfl) ?_
        refine lv_iload_n hx hb dX4_firstPlaceOf_11 rfl (lv_at hl 0 rfl) ?_
        have hPc := hP.sub (ws' := [(h0, .inr (4, [.ref kO, .ref nO, .ref rO, .ref mO, .int (nI mnq), .ref tO, .ref rdO, .ref lnO, .ref drO, .ref chO])), (rO, .inl (cI, 60, .inl fr))]) [0, 1] rfl
        have hDc := hD.sub (ws' := [(h0, .inr (4, [.ref kO, .ref nO, .ref rO, .ref mO, .int (nI mnq), .ref tO, .ref rdO, .ref lnO, .ref drO, .ref chO])), (rO, .inl (cI, 60, .inl fr))]) [0, 1] (by decide) rfl
        have hFc := va_free (wc := [(h0, .inr (4, [.ref kO, .ref nO, .ref rO, .ref mO, .int (nI mnq), .ref tO, .ref rdO, .ref lnO, .ref drO, .ref chO])), (rO, .inl (cI, 60, .inl fr))]) hD hS hA [0, 1] rfl
        refine va_calli (va_runV (As := [.int (nI kq)]) (rest := []) ⟨hx, hb, hml, hown, hts⟩ (k_wordAt l dC dI cI cZ cC cJ H.size  h0 kO nO rO mO (nI mnq) tO rdO lnO drO chO fr (nI kq) ) (cwV 1 hts gX4_firstPlaceOf_X4_wordAt rfl rfl rfl (by decide +kernel) ⟨Nat.le_of_ble_eq_true rfl, Nat.le_of_ble_eq_true rfl⟩) ⟨sPre_blind, va_recv hK hPc (ci := 4) (q0 := 0) rfl rfl, fun U hU hW => ⟨rfl, sPre_ok hsk hPc hDc hU hW⟩⟩ rfl rfl hl.1 rfl (lv_room (Nat.le_of_ble_eq_true rfl)) dX4_firstPlaceOf_12 ⟨(show 0 + 0 ≤ 0 by omega), (show 0 + 0 ≤ 0 by omega)⟩) hS (fun q _ h => hFc q h) hFc (fun r_1 u t H1 locs ht hvm hw hB hz1 hk1 hS => ?_)
        try dsimp only at hw hB
        have hw_2 := hw
        obtain rfl : r_1 = (if bnd 60 (nI kq) (nI mnq) = 0 then 0 else fr (nI kq).toNatClampNeg) := hw_2
        obtain ⟨hP1, hD1⟩ := hB
        rw [ht] at hP1
        obtain ⟨hP, hD⟩ := va_join (wr := []) (w1 := [(h0, .inr (4, [.ref kO, .ref nO, .ref rO, .ref mO, .int (nI mnq), .ref tO, .ref rdO, .ref lnO, .ref drO, .ref chO])), (rO, .inl (cI, 60, .inl fr))]) hP hD [0, 1] [] rfl rfl (by decide) (by decide) hk1 hFc hP1 hD1
        generalize H1 = H at hP hS ⊢
        have hP : va_P (dC, dI) vwCl [(h0, .inr (4, [.ref kO, .ref nO, .ref rO, .ref mO, .int (nI mnq), .ref tO, .ref rdO, .ref lnO, .ref drO, .ref chO])), (rO, .inl (cI, 60, .inl fr))] H := hP
        have hD : va_D A [(h0, .inr (4, [.ref kO, .ref nO, .ref rO, .ref mO, .int (nI mnq), .ref tO, .ref rdO, .ref lnO, .ref drO, .ref chO])), (rO, .inl (cI, 60, .inl fr))] := hD
        refine lv_topi (fun v_ ev_ => ?_)
        obtain rfl : v_ = (fr kq) := ev_.trans (by rw [if_neg (bnd_y hkl hmn), nI_clamp (by omega)])
        refine lv_iload_n hx hb dX4_firstPlaceOf_15 rfl (lv_at hl 2 rfl) ?_
        refine lv_icmp_ne (tgt := 21) hx hb dX4_firstPlaceOf_16 (by decide) (fun c_16 => ?_) (fun c_16 => ?_)
        · skip
          refine lv_iinc (v := (nI (kq + 1))) (lv' := [(2, .int (nI (kq + 1))), (0, .ref h0), (1, .int p0)]) hx hb dX4_firstPlaceOf_21 hl (k := 0) rfl (nI_1 kq) (by decide) rfl (fun ls hl => ?_)
          refine lv_goto (tgt := 2) hx hb dX4_firstPlaceOf_24 (by decide) ?_
          exact ih_2  (kq + 1) (by omega) (by omega) ((fpl_no hkl c_16).symm.trans hE) _ _ _ hP hD hS (lv_sub hl [0, 1, 2] rfl)
        · skip
          refine lv_iload_n hx hb dX4_firstPlaceOf_19 rfl (lv_at hl 0 rfl) ?_
          have hP9 := hP.sub (ws' := [(h0, .inr (4, [.ref kO, .ref nO, .ref rO, .ref mO, .int (nI mnq), .ref tO, .ref rdO, .ref lnO, .ref drO, .ref chO])), (rO, .inl (cI, 60, .inl fr))]) [0, 1] rfl
          have hD9 := hD.sub (ws' := [(h0, .inr (4, [.ref kO, .ref nO, .ref rO, .ref mO, .int (nI mnq), .ref tO, .ref rdO, .ref lnO, .ref drO, .ref chO])), (rO, .inl (cI, 60, .inl fr))]) [0, 1] (by decide) rfl
          exact W.iret (v := (nI kq)) hx hb hr (fun t ht hW => ⟨⟨(nI kq), (), rfl, (by rw [← eRq, ← hE, fpl_yes hkl c_16]), by rw [ht]; exact hP9, hD9⟩, hS.F ht⟩) hS.2.2 dX4_firstPlaceOf_20
  exact lp_2 (mnq + 1) 0 (by omega) (by omega) (eRq.symm) _ _ _ hP hD hS (lv_sub hl [0, 1, 2] rfl)
set_option maxHeartbeats 4000000 in
set_option maxRecDepth 100000 in
theorem k_kinds (l : Launch) (dC : Nat → ClassId) (dI : Nat → Nat → Nat) (cI cZ cC cJ : ClassId) (sz : Nat) (h0 : Nat) (kO : Nat) (nO : Nat) (rO : Nat) (mO : Nat) (mnq : Nat) (tO : Nat) (rdO : Nat) (lnO : Nat) (drO : Nat) (chO : Nat) (fk : Nat → Int32) (fr : Nat → Int32) (bA : Nat) (xA : Nat) (kA : Nat) (aA : Nat) (eA : Nat) (gA : Nat) (oA : Nat) (rd : Int32) (lc : Int32) (sc : Int32) (ln : Int32) (le : Int32) (p0 : Int32) (p1 : Int32) (hmn : mnq ≤ 60) : Met l yX4_kinds wsX4_kinds ({ frames := 3, cells := 0, slots := 0, locals := 64 }) (va_Pc [.ref h0, .int p0, .int p1] (sPre dC dI cI cZ cC cJ [(h0, .inr (4, [.ref kO, .ref nO, .ref rO, .ref mO, .int (nI mnq), .ref tO, .ref rdO, .ref lnO, .ref drO, .ref chO])), (kO, .inl (cI, 100, .inl fk)), (rO, .inl (cI, 60, .inl fr)), (chO, .inr (0, [.ref bA, .ref xA, .ref kA, .ref aA, .ref eA, .ref gA, .ref oA, .int rd, .int lc, .int sc, .int ln, .int le]))] sz)) (va_Qi (fun (r : Int32) (u : (Nat → Int32) × (Int32)) => match u with | (fk2, rd2) => r = rKinds p0 p1 ∧ (fk2 = if rKinds p0 p1 = 0 then fk else upd fk p0.toNatClampNeg p1) ∧ (rd2 = if rKinds p0 p1 = 0 then rd else kpR (nI (fpl fr p0 mnq 0)) rd)) (fun (u : (Nat → Int32) × (Int32)) t => match u with | (fk2, rd2) => sB dC dI (va_A [(h0, .inr (4, [.ref kO, .ref nO, .ref rO, .ref mO, .int (nI mnq), .ref tO, .ref rdO, .ref lnO, .ref drO, .ref chO])), (kO, .inl (cI, 100, .inl fk)), (rO, .inl (cI, 60, .inl fr)), (chO, .inr (0, [.ref bA, .ref xA, .ref kA, .ref aA, .ref eA, .ref gA, .ref oA, .int rd, .int lc, .int sc, .int ln, .int le]))] sz) [(h0, .inr (4, [.ref kO, .ref nO, .ref rO, .ref mO, .int (nI mnq), .ref tO, .ref rdO, .ref lnO, .ref drO, .ref chO])), (kO, .inl (cI, 100, .inl fk2)), (rO, .inl (cI, 60, .inl fr)), (chO, .inr (0, [.ref bA, .ref xA, .ref kA, .ref aA, .ref eA, .ref gA, .ref oA, .int rd2, .int lc, .int sc, .int ln, .int le]))] t) (va_A [(h0, .inr (4, [.ref kO, .ref nO, .ref rO, .ref mO, .int (nI mnq), .ref tO, .ref rdO, .ref lnO, .ref drO, .ref chO])), (kO, .inl (cI, 100, .inl fk)), (rO, .inl (cI, 60, .inl fr)), (chO, .inr (0, [.ref bA, .ref xA, .ref kA, .ref aA, .ref eA, .ref gA, .ref oA, .int rd, .int lc, .int sc, .int ln, .int le]))] sz)) 0 0 (va_A [(h0, .inr (4, [.ref kO, .ref nO, .ref rO, .ref mO, .int (nI mnq), .ref tO, .ref rdO, .ref lnO, .ref drO, .ref chO])), (kO, .inl (cI, 100, .inl fk)), (rO, .inl (cI, 60, .inl fr)), (chO, .inr (0, [.ref bA, .ref xA, .ref kA, .ref aA, .ref eA, .ref gA, .ref oA, .int rd, .int lc, .int sc, .int ln, .int le]))] sz) := by
  refine Met.ofW (cc := cX4_kinds) (maxL := 3) (ret := (some .boolean)) (by decide) rfl ?_
  intro p e s m args below meth c s₁ B hml hv
  obtain ⟨rfl, hsz, hP, hsk, hD0⟩ := hv
  have hx := B.exec
  have hb := B.bytes
  have hr := B.returns
  have hts := atoms_spec (ws := wsX4_kinds) B.pre
  have hown : s.vm.findClass RX4 = some m.cls := findClass_of_methodNamed B.named
  have hlocks := B.notSynchronized
  have hK := hsk.1
  have i4 : ∀ w ∈ wsX40, w ∈ wsX4_kinds := by decide +kernel
  subst hsz
  have hD := hD0.self (sz := s.heap.size)
  generalize hAe : va_A [(h0, .inr (4, [.ref kO, .ref nO, .ref rO, .ref mO, .int (nI mnq), .ref tO, .ref rdO, .ref lnO, .ref drO, .ref chO])), (kO, .inl (cI, 100, .inl fk)), (rO, .inl (cI, 60, .inl fr)), (chO, .inr (0, [.ref bA, .ref xA, .ref kA, .ref aA, .ref eA, .ref gA, .ref oA, .int rd, .int lc, .int sc, .int ln, .int le]))] s.heap.size = A at hD ⊢
  have hA : ∀ q : Nat, s.heap.size ≤ q → A q := fun q h => by rw [← hAe]; exact Or.inr h
  have hS : va_S A s.heap s.heap [] := va_S.rf
  have hl := lv_entry ([.ref h0, .int p0, .int p1]) (n := 3) (Nat.le_of_ble_eq_true rfl)
  rw [lg_entry_eq]
  generalize (lg_sl ([.ref h0, .int p0, .int p1]) ++ List.replicate (3 - (lg_sl ([.ref h0, .int p0, .int p1])).length) Slot.unset).toArray = ls at hl ⊢
  have hl : lv_has ls 3 [(0, .ref h0), (1, .int p0), (2, .int p1)] := hl
  refine lv_iload_n hx hb dX4_kinds_0 rfl (lv_at hl 1 rfl) ?_
  have hPc := hP.sub (ws' := []) [] rfl
  have hDc := hD.sub (ws' := []) [] (by decide) rfl
  have hFc := va_free (wc := []) hD hS hA [] rfl
  refine va_calli (va_runS (As := [.int p0]) (rest := []) ⟨hx, hb, hml, hown, hts⟩ (k_isWord l dC dI cI cZ cC cJ s.heap.size  p0 ) (va_cwS 1 hts gX4_kinds_X4_isWord rfl rfl rfl (by decide +kernel) ⟨Nat.le_of_ble_eq_true rfl, Nat.le_of_ble_eq_true rfl⟩) ⟨sPre_blind, fun U hU hW => ⟨rfl, sPre_ok hsk hPc hDc hU hW⟩⟩ rfl rfl hl.1 rfl (lv_room (Nat.le_of_ble_eq_true rfl)) dX4_kinds_1 ⟨(show 0 + 0 ≤ 0 by omega), (show 0 + 0 ≤ 0 by omega)⟩) hS (fun q _ h => hFc q h) hFc (fun r_1 u t H1 locs ht hvm hw hB hz1 hk1 hS => ?_)
  try dsimp only at hw hB
  have hw_2 := hw
  obtain rfl : r_1 = isW p0 := hw_2
  obtain ⟨hP1, hD1⟩ := hB
  rw [ht] at hP1
  obtain ⟨hP, hD⟩ := va_join (wr := [(h0, .inr (4, [.ref kO, .ref nO, .ref rO, .ref mO, .int (nI mnq), .ref tO, .ref rdO, .ref lnO, .ref drO, .ref chO])), (kO, .inl (cI, 100, .inl fk)), (rO, .inl (cI, 60, .inl fr)), (chO, .inr (0, [.ref bA, .ref xA, .ref kA, .ref aA, .ref eA, .ref gA, .ref oA, .int rd, .int lc, .int sc, .int ln, .int le]))]) (w1 := []) hP hD [] [0, 1, 2, 3] rfl rfl (by decide) (by decide) hk1 hFc hP1 hD1
  generalize H1 = H at hP hS ⊢
  have hP : va_P (dC, dI) vwCl [(h0, .inr (4, [.ref kO, .ref nO, .ref rO, .ref mO, .int (nI mnq), .ref tO, .ref rdO, .ref lnO, .ref drO, .ref chO])), (kO, .inl (cI, 100, .inl fk)), (rO, .inl (cI, 60, .inl fr)), (chO, .inr (0, [.ref bA, .ref xA, .ref kA, .ref aA, .ref eA, .ref gA, .ref oA, .int rd, .int lc, .int sc, .int ln, .int le]))] H := hP
  have hD : va_D A [(h0, .inr (4, [.ref kO, .ref nO, .ref rO, .ref mO, .int (nI mnq), .ref tO, .ref rdO, .ref lnO, .ref drO, .ref chO])), (kO, .inl (cI, 100, .inl fk)), (rO, .inl (cI, 60, .inl fr)), (chO, .inr (0, [.ref bA, .ref xA, .ref kA, .ref aA, .ref eA, .ref gA, .ref oA, .int rd, .int lc, .int sc, .int ln, .int le]))] := hD
  refine lv_if_eq (tgt := 19) hx hb dX4_kinds_4 (by decide) (fun c_4 => ?_) (fun c_4 => ?_)
  · skip
    refine lv_iconst (v := 0) hx hb dX4_kinds_19 (by decide) ?_
    have hP9 := hP.sub (ws' := [(h0, .inr (4, [.ref kO, .ref nO, .ref rO, .ref mO, .int (nI mnq), .ref tO, .ref rdO, .ref lnO, .ref drO, .ref chO])), (kO, .inl (cI, 100, .inl fk)), (rO, .inl (cI, 60, .inl fr)), (chO, .inr (0, [.ref bA, .ref xA, .ref kA, .ref aA, .ref eA, .ref gA, .ref oA, .int rd, .int lc, .int sc, .int ln, .int le]))]) [0, 1, 2, 3] rfl
    have hD9 := hD.sub (ws' := [(h0, .inr (4, [.ref kO, .ref nO, .ref rO, .ref mO, .int (nI mnq), .ref tO, .ref rdO, .ref lnO, .ref drO, .ref chO])), (kO, .inl (cI, 100, .inl fk)), (rO, .inl (cI, 60, .inl fr)), (chO, .inr (0, [.ref bA, .ref xA, .ref kA, .ref aA, .ref eA, .ref gA, .ref oA, .int rd, .int lc, .int sc, .int ln, .int le]))]) [0, 1, 2, 3] (by decide) rfl
    have hens0 : fk = if rKinds p0 p1 = 0 then fk else upd fk p0.toNatClampNeg p1 := (by rw [show rKinds p0 p1 = 0 from (by simp only [rKinds, if_pos c_4]), if_pos rfl])
    have hens1 : rd = if rKinds p0 p1 = 0 then rd else kpR (nI (fpl fr p0 mnq 0)) rd := (by rw [show rKinds p0 p1 = 0 from (by simp only [rKinds, if_pos c_4]), if_pos rfl])
    exact W.zret (v := 0) (ty := .boolean) hx hb hr rfl (fun t ht hW => ⟨⟨0, (fk, rd), rfl, ⟨(by simp only [rKinds, if_pos c_4]), hens0, hens1⟩, by rw [ht]; exact hP9, hD9⟩, hS.F ht⟩) hS.2.2 dX4_kinds_20
  · skip
    refine lv_iload_n hx hb dX4_kinds_7 rfl (lv_at hl 2 rfl) ?_
    refine lv_iconst (v := 1) hx hb dX4_kinds_8 (by decide) ?_
    refine lv_icmp_lt (tgt := 19) hx hb dX4_kinds_9 (by decide) (fun c_9 => ?_) (fun c_9 => ?_)
    · skip
      refine lv_iconst (v := 0) hx hb dX4_kinds_19 (by decide) ?_
      have hP9 := hP.sub (ws' := [(h0, .inr (4, [.ref kO, .ref nO, .ref rO, .ref mO, .int (nI mnq), .ref tO, .ref rdO, .ref lnO, .ref drO, .ref chO])), (kO, .inl (cI, 100, .inl fk)), (rO, .inl (cI, 60, .inl fr)), (chO, .inr (0, [.ref bA, .ref xA, .ref kA, .ref aA, .ref eA, .ref gA, .ref oA, .int rd, .int lc, .int sc, .int ln, .int le]))]) [0, 1, 2, 3] rfl
      have hD9 := hD.sub (ws' := [(h0, .inr (4, [.ref kO, .ref nO, .ref rO, .ref mO, .int (nI mnq), .ref tO, .ref rdO, .ref lnO, .ref drO, .ref chO])), (kO, .inl (cI, 100, .inl fk)), (rO, .inl (cI, 60, .inl fr)), (chO, .inr (0, [.ref bA, .ref xA, .ref kA, .ref aA, .ref eA, .ref gA, .ref oA, .int rd, .int lc, .int sc, .int ln, .int le]))]) [0, 1, 2, 3] (by decide) rfl
      have hens0 : fk = if rKinds p0 p1 = 0 then fk else upd fk p0.toNatClampNeg p1 := (by rw [show rKinds p0 p1 = 0 from (by simp only [rKinds, if_neg c_4, if_pos c_9]), if_pos rfl])
      have hens1 : rd = if rKinds p0 p1 = 0 then rd else kpR (nI (fpl fr p0 mnq 0)) rd := (by rw [show rKinds p0 p1 = 0 from (by simp only [rKinds, if_neg c_4, if_pos c_9]), if_pos rfl])
      exact W.zret (v := 0) (ty := .boolean) hx hb hr rfl (fun t ht hW => ⟨⟨0, (fk, rd), rfl, ⟨(by simp only [rKinds, if_neg c_4, if_pos c_9]), hens0, hens1⟩, by rw [ht]; exact hP9, hD9⟩, hS.F ht⟩) hS.2.2 dX4_kinds_20
    · skip
      refine lv_iload_n hx hb dX4_kinds_12 rfl (lv_at hl 2 rfl) ?_
      refine lv_sipush (v := 255) hx hb dX4_kinds_13 (by decide) ?_
      refine lv_icmp_le (tgt := 21) hx hb dX4_kinds_16 (by decide) (fun c_16 => ?_) (fun c_16 => ?_)
      · skip
        refine lv_aload_n hx hb dX4_kinds_21 rfl (lv_at hl 0 rfl) ?_
        refine va_get (D := (dC, dI)) (ci := 4) (v := .ref kO) (C := RX4) (T := TX4) (N := 10) hx hb hts i4 hown hK hP 0 rfl rfl 0 (by decide) (hts (.fieldLink RX4 9 "StopSetter" "kindsOf" "[I") (by decide +kernel)) (fun _ h9 => h9) rfl dX4_kinds_22 ?_
        refine lv_iload_n hx hb dX4_kinds_25 rfl (lv_at hl 1 rfl) ?_
        refine lv_iload_n hx hb dX4_kinds_26 rfl (lv_at hl 2 rfl) ?_
        refine va_iast hx hb hK hP hD hS 1 0 rfl rfl (isW_in c_4) dX4_kinds_27 (fun H locs hP hD hS => ?_)
        have hP : va_P (dC, dI) vwCl [(h0, .inr (4, [.ref kO, .ref nO, .ref rO, .ref mO, .int (nI mnq), .ref tO, .ref rdO, .ref lnO, .ref drO, .ref chO])), (kO, .inl (cI, 100, .inl (upd fk (p0.toNatClampNeg) p1))), (rO, .inl (cI, 60, .inl fr)), (chO, .inr (0, [.ref bA, .ref xA, .ref kA, .ref aA, .ref eA, .ref gA, .ref oA, .int rd, .int lc, .int sc, .int ln, .int le]))] H := hP
        have hD : va_D A [(h0, .inr (4, [.ref kO, .ref nO, .ref rO, .ref mO, .int (nI mnq), .ref tO, .ref rdO, .ref lnO, .ref drO, .ref chO])), (kO, .inl (cI, 100, .inl (upd fk (p0.toNatClampNeg) p1))), (rO, .inl (cI, 60, .inl fr)), (chO, .inr (0, [.ref bA, .ref xA, .ref kA, .ref aA, .ref eA, .ref gA, .ref oA, .int rd, .int lc, .int sc, .int ln, .int le]))] := hD
        refine lv_aload_n hx hb dX4_kinds_28 rfl (lv_at hl 0 rfl) ?_
        refine va_get (D := (dC, dI)) (ci := 4) (v := .ref chO) (C := RX4) (T := TX4) (N := 10) hx hb hts i4 hown hK hP 0 rfl rfl 9 (by decide) (hts (.fieldLink RX4 52 "StopSetter" "chart" "LStopSetter$Chart;") (by decide +kernel)) (fun _ h9 => h9) rfl dX4_kinds_29 ?_
        refine lv_aload_n hx hb dX4_kinds_32 rfl (lv_at hl 0 rfl) ?_
        refine lv_iload_n hx hb dX4_kinds_33 rfl (lv_at hl 1 rfl) ?_
        have hPc := hP.sub (ws' := [(h0, .inr (4, [.ref kO, .ref nO, .ref rO, .ref mO, .int (nI mnq), .ref tO, .ref rdO, .ref lnO, .ref drO, .ref chO])), (rO, .inl (cI, 60, .inl fr))]) [0, 2] rfl
        have hDc := hD.sub (ws' := [(h0, .inr (4, [.ref kO, .ref nO, .ref rO, .ref mO, .int (nI mnq), .ref tO, .ref rdO, .ref lnO, .ref drO, .ref chO])), (rO, .inl (cI, 60, .inl fr))]) [0, 2] (by decide) rfl
        have hFc := va_free (wc := [(h0, .inr (4, [.ref kO, .ref nO, .ref rO, .ref mO, .int (nI mnq), .ref tO, .ref rdO, .ref lnO, .ref drO, .ref chO])), (rO, .inl (cI, 60, .inl fr))]) hD hS hA [0, 2] rfl
        refine va_calli (va_runV (As := [.int p0]) (rest := [.ref chO]) ⟨hx, hb, hml, hown, hts⟩ (k_firstPlaceOf l dC dI cI cZ cC cJ H.size  h0 kO nO rO mO mnq tO rdO lnO drO chO fr p0 (by first | assumption | decide | omega)) (cwV 1 hts gX4_kinds_X4_firstPlaceOf rfl rfl rfl (by decide +kernel) ⟨Nat.le_of_ble_eq_true rfl, Nat.le_of_ble_eq_true rfl⟩) ⟨sPre_blind, va_recv hK hPc (ci := 4) (q0 := 0) rfl rfl, fun U hU hW => ⟨rfl, sPre_ok hsk hPc hDc hU hW⟩⟩ rfl rfl hl.1 rfl (lv_room (Nat.le_of_ble_eq_true rfl)) dX4_kinds_34 ⟨(show 0 + 0 ≤ 0 by omega), (show 0 + 0 ≤ 0 by omega)⟩) hS (fun q _ h => hFc q h) hFc (fun r_3 u t H1 locs ht hvm hw hB hz1 hk1 hS => ?_)
        try dsimp only at hw hB
        have hw_4 := hw
        obtain rfl : r_3 = nI (fpl fr p0 mnq 0) := hw_4
        obtain ⟨hP1, hD1⟩ := hB
        rw [ht] at hP1
        obtain ⟨hP, hD⟩ := va_join (wr := [(kO, .inl (cI, 100, .inl (upd fk (p0.toNatClampNeg) p1))), (chO, .inr (0, [.ref bA, .ref xA, .ref kA, .ref aA, .ref eA, .ref gA, .ref oA, .int rd, .int lc, .int sc, .int ln, .int le]))]) (w1 := [(h0, .inr (4, [.ref kO, .ref nO, .ref rO, .ref mO, .int (nI mnq), .ref tO, .ref rdO, .ref lnO, .ref drO, .ref chO])), (rO, .inl (cI, 60, .inl fr))]) hP hD [0, 2] [1, 3] rfl rfl (by decide) (by decide) hk1 hFc hP1 hD1
        generalize H1 = H at hP hS ⊢
        have hP : va_P (dC, dI) vwCl [(kO, .inl (cI, 100, .inl (upd fk (p0.toNatClampNeg) p1))), (chO, .inr (0, [.ref bA, .ref xA, .ref kA, .ref aA, .ref eA, .ref gA, .ref oA, .int rd, .int lc, .int sc, .int ln, .int le])), (h0, .inr (4, [.ref kO, .ref nO, .ref rO, .ref mO, .int (nI mnq), .ref tO, .ref rdO, .ref lnO, .ref drO, .ref chO])), (rO, .inl (cI, 60, .inl fr))] H := hP
        have hD : va_D A [(kO, .inl (cI, 100, .inl (upd fk (p0.toNatClampNeg) p1))), (chO, .inr (0, [.ref bA, .ref xA, .ref kA, .ref aA, .ref eA, .ref gA, .ref oA, .int rd, .int lc, .int sc, .int ln, .int le])), (h0, .inr (4, [.ref kO, .ref nO, .ref rO, .ref mO, .int (nI mnq), .ref tO, .ref rdO, .ref lnO, .ref drO, .ref chO])), (rO, .inl (cI, 60, .inl fr))] := hD
        have hPc := hP.sub (ws' := [(chO, .inr (0, [.ref bA, .ref xA, .ref kA, .ref aA, .ref eA, .ref gA, .ref oA, .int rd, .int lc, .int sc, .int ln, .int le]))]) [1] rfl
        have hDc := hD.sub (ws' := [(chO, .inr (0, [.ref bA, .ref xA, .ref kA, .ref aA, .ref eA, .ref gA, .ref oA, .int rd, .int lc, .int sc, .int ln, .int le]))]) [1] (by decide) rfl
        have hFc := va_free (wc := [(chO, .inr (0, [.ref bA, .ref xA, .ref kA, .ref aA, .ref eA, .ref gA, .ref oA, .int rd, .int lc, .int sc, .int ln, .int le]))]) hD hS hA [1] rfl
        refine va_callv (va_runV (As := [.int (nI (fpl fr p0 mnq 0))]) (rest := []) ⟨hx, hb, hml, hown, hts⟩ (k_keep l dC dI cI cZ cC cJ H.size  chO bA xA kA aA eA gA oA rd lc sc ln le (nI (fpl fr p0 mnq 0)) ) (cwV 1 hts gX4_kinds_X0_keep rfl rfl rfl (by decide +kernel) ⟨Nat.le_of_ble_eq_true rfl, Nat.le_of_ble_eq_true rfl⟩) ⟨sPre_blind, va_recv hK hPc (ci := 0) (q0 := 0) rfl rfl, fun U hU hW => ⟨rfl, sPre_ok hsk hPc hDc hU hW⟩⟩ rfl rfl hl.1 rfl (lv_room (Nat.le_of_ble_eq_true rfl)) dX4_kinds_37 ⟨(show 0 + 0 ≤ 0 by omega), (show 0 + 0 ≤ 0 by omega)⟩) hS (fun q _ h => hFc q h) hFc (fun u t H1 locs ht hvm hw hB hz1 hk1 hS => ?_)
        obtain ⟨r_6, rfl⟩ : ∃ z, z = u := ⟨_, rfl⟩
        try dsimp only at hw hB
        have he_7 := hw
        have he_7 : r_6 = kpR (nI (fpl fr p0 mnq 0)) rd := he_7
        obtain ⟨hP1, hD1⟩ := hB
        rw [ht] at hP1
        obtain ⟨hP, hD⟩ := va_join (wr := [(kO, .inl (cI, 100, .inl (upd fk (p0.toNatClampNeg) p1))), (h0, .inr (4, [.ref kO, .ref nO, .ref rO, .ref mO, .int (nI mnq), .ref tO, .ref rdO, .ref lnO, .ref drO, .ref chO])), (rO, .inl (cI, 60, .inl fr))]) (w1 := [(chO, .inr (0, [.ref bA, .ref xA, .ref kA, .ref aA, .ref eA, .ref gA, .ref oA, .int r_6, .int lc, .int sc, .int ln, .int le]))]) hP hD [1] [0, 2, 3] rfl rfl (by decide) (by decide) hk1 hFc hP1 hD1
        generalize H1 = H at hP hS ⊢
        have hP : va_P (dC, dI) vwCl [(kO, .inl (cI, 100, .inl (upd fk (p0.toNatClampNeg) p1))), (h0, .inr (4, [.ref kO, .ref nO, .ref rO, .ref mO, .int (nI mnq), .ref tO, .ref rdO, .ref lnO, .ref drO, .ref chO])), (rO, .inl (cI, 60, .inl fr)), (chO, .inr (0, [.ref bA, .ref xA, .ref kA, .ref aA, .ref eA, .ref gA, .ref oA, .int r_6, .int lc, .int sc, .int ln, .int le]))] H := hP
        have hD : va_D A [(kO, .inl (cI, 100, .inl (upd fk (p0.toNatClampNeg) p1))), (h0, .inr (4, [.ref kO, .ref nO, .ref rO, .ref mO, .int (nI mnq), .ref tO, .ref rdO, .ref lnO, .ref drO, .ref chO])), (rO, .inl (cI, 60, .inl fr)), (chO, .inr (0, [.ref bA, .ref xA, .ref kA, .ref aA, .ref eA, .ref gA, .ref oA, .int r_6, .int lc, .int sc, .int ln, .int le]))] := hD
        refine lv_iconst (v := 1) hx hb dX4_kinds_40 (by decide) ?_
        have hP9 := hP.sub (ws' := [(h0, .inr (4, [.ref kO, .ref nO, .ref rO, .ref mO, .int (nI mnq), .ref tO, .ref rdO, .ref lnO, .ref drO, .ref chO])), (kO, .inl (cI, 100, .inl (upd fk (p0.toNatClampNeg) p1))), (rO, .inl (cI, 60, .inl fr)), (chO, .inr (0, [.ref bA, .ref xA, .ref kA, .ref aA, .ref eA, .ref gA, .ref oA, .int r_6, .int lc, .int sc, .int ln, .int le]))]) [1, 0, 2, 3] rfl
        have hD9 := hD.sub (ws' := [(h0, .inr (4, [.ref kO, .ref nO, .ref rO, .ref mO, .int (nI mnq), .ref tO, .ref rdO, .ref lnO, .ref drO, .ref chO])), (kO, .inl (cI, 100, .inl (upd fk (p0.toNatClampNeg) p1))), (rO, .inl (cI, 60, .inl fr)), (chO, .inr (0, [.ref bA, .ref xA, .ref kA, .ref aA, .ref eA, .ref gA, .ref oA, .int r_6, .int lc, .int sc, .int ln, .int le]))]) [1, 0, 2, 3] (by decide) rfl
        have hens0 : (upd fk (p0.toNatClampNeg) p1) = if rKinds p0 p1 = 0 then fk else upd fk p0.toNatClampNeg p1 := (by rw [show rKinds p0 p1 = 1 from (by simp only [rKinds, if_neg c_4, if_neg c_9, if_pos c_16]), if_neg (by decide)])
        have hens1 : r_6 = if rKinds p0 p1 = 0 then rd else kpR (nI (fpl fr p0 mnq 0)) rd := (by rw [show rKinds p0 p1 = 1 from (by simp only [rKinds, if_neg c_4, if_neg c_9, if_pos c_16]), if_neg (by decide)]; exact he_7)
        exact W.zret (v := 1) (ty := .boolean) hx hb hr rfl (fun t ht hW => ⟨⟨1, ((upd fk (p0.toNatClampNeg) p1), r_6), rfl, ⟨(by simp only [rKinds, if_neg c_4, if_neg c_9, if_pos c_16]), hens0, hens1⟩, by rw [ht]; exact hP9, hD9⟩, hS.F ht⟩) hS.2.2 dX4_kinds_41
      · skip
        refine lv_iconst (v := 0) hx hb dX4_kinds_19 (by decide) ?_
        have hP9 := hP.sub (ws' := [(h0, .inr (4, [.ref kO, .ref nO, .ref rO, .ref mO, .int (nI mnq), .ref tO, .ref rdO, .ref lnO, .ref drO, .ref chO])), (kO, .inl (cI, 100, .inl fk)), (rO, .inl (cI, 60, .inl fr)), (chO, .inr (0, [.ref bA, .ref xA, .ref kA, .ref aA, .ref eA, .ref gA, .ref oA, .int rd, .int lc, .int sc, .int ln, .int le]))]) [0, 1, 2, 3] rfl
        have hD9 := hD.sub (ws' := [(h0, .inr (4, [.ref kO, .ref nO, .ref rO, .ref mO, .int (nI mnq), .ref tO, .ref rdO, .ref lnO, .ref drO, .ref chO])), (kO, .inl (cI, 100, .inl fk)), (rO, .inl (cI, 60, .inl fr)), (chO, .inr (0, [.ref bA, .ref xA, .ref kA, .ref aA, .ref eA, .ref gA, .ref oA, .int rd, .int lc, .int sc, .int ln, .int le]))]) [0, 1, 2, 3] (by decide) rfl
        have hens0 : fk = if rKinds p0 p1 = 0 then fk else upd fk p0.toNatClampNeg p1 := (by rw [show rKinds p0 p1 = 0 from (by simp only [rKinds, if_neg c_4, if_neg c_9, if_neg c_16]), if_pos rfl])
        have hens1 : rd = if rKinds p0 p1 = 0 then rd else kpR (nI (fpl fr p0 mnq 0)) rd := (by rw [show rKinds p0 p1 = 0 from (by simp only [rKinds, if_neg c_4, if_neg c_9, if_neg c_16]), if_pos rfl])
        exact W.zret (v := 0) (ty := .boolean) hx hb hr rfl (fun t ht hW => ⟨⟨0, (fk, rd), rfl, ⟨(by simp only [rKinds, if_neg c_4, if_neg c_9, if_neg c_16]), hens0, hens1⟩, by rw [ht]; exact hP9, hD9⟩, hS.F ht⟩) hS.2.2 dX4_kinds_20
set_option maxHeartbeats 4000000 in
set_option maxRecDepth 100000 in
theorem k_drop (l : Launch) (dC : Nat → ClassId) (dI : Nat → Nat → Nat) (cI cZ cC cJ : ClassId) (sz : Nat) (h0 : Nat) (kO : Nat) (nO : Nat) (rO : Nat) (mO : Nat) (zs : Int32) (tO : Nat) (rdO : Nat) (lnO : Nat) (drO : Nat) (chO : Nat) (bA : Nat) (xA : Nat) (kA : Nat) (aA : Nat) (eA : Nat) (gA : Nat) (oA : Nat) (rd : Int32) (lc : Int32) (sc : Int32) (ln : Int32) (le : Int32)  : Met l yX4_drop wsX4_drop ({ frames := 1, cells := 0, slots := 0, locals := 21 }) (va_Pc [.ref h0] (sPre dC dI cI cZ cC cJ [(h0, .inr (4, [.ref kO, .ref nO, .ref rO, .ref mO, .int zs, .ref tO, .ref rdO, .ref lnO, .ref drO, .ref chO])), (chO, .inr (0, [.ref bA, .ref xA, .ref kA, .ref aA, .ref eA, .ref gA, .ref oA, .int rd, .int lc, .int sc, .int ln, .int le]))] sz)) (va_Qi (fun (r : Int32) (u : (Int32) × (Int32)) => match u with | (zs2, rd2) => r = drR zs ∧ (zs2 = drZ zs) ∧ (rd2 = if 0 < zs then kpR (zs - 1) rd else rd)) (fun (u : (Int32) × (Int32)) t => match u with | (zs2, rd2) => sB dC dI (va_A [(h0, .inr (4, [.ref kO, .ref nO, .ref rO, .ref mO, .int zs, .ref tO, .ref rdO, .ref lnO, .ref drO, .ref chO])), (chO, .inr (0, [.ref bA, .ref xA, .ref kA, .ref aA, .ref eA, .ref gA, .ref oA, .int rd, .int lc, .int sc, .int ln, .int le]))] sz) [(h0, .inr (4, [.ref kO, .ref nO, .ref rO, .ref mO, .int zs2, .ref tO, .ref rdO, .ref lnO, .ref drO, .ref chO])), (chO, .inr (0, [.ref bA, .ref xA, .ref kA, .ref aA, .ref eA, .ref gA, .ref oA, .int rd2, .int lc, .int sc, .int ln, .int le]))] t) (va_A [(h0, .inr (4, [.ref kO, .ref nO, .ref rO, .ref mO, .int zs, .ref tO, .ref rdO, .ref lnO, .ref drO, .ref chO])), (chO, .inr (0, [.ref bA, .ref xA, .ref kA, .ref aA, .ref eA, .ref gA, .ref oA, .int rd, .int lc, .int sc, .int ln, .int le]))] sz)) 0 0 (va_A [(h0, .inr (4, [.ref kO, .ref nO, .ref rO, .ref mO, .int zs, .ref tO, .ref rdO, .ref lnO, .ref drO, .ref chO])), (chO, .inr (0, [.ref bA, .ref xA, .ref kA, .ref aA, .ref eA, .ref gA, .ref oA, .int rd, .int lc, .int sc, .int ln, .int le]))] sz) := by
  refine Met.ofW (cc := cX4_drop) (maxL := 1) (ret := (some .int)) (by decide) rfl ?_
  intro p e s m args below meth c s₁ B hml hv
  obtain ⟨rfl, hsz, hP, hsk, hD0⟩ := hv
  have hx := B.exec
  have hb := B.bytes
  have hr := B.returns
  have hts := atoms_spec (ws := wsX4_drop) B.pre
  have hown : s.vm.findClass RX4 = some m.cls := findClass_of_methodNamed B.named
  have hlocks := B.notSynchronized
  have hK := hsk.1
  have i4 : ∀ w ∈ wsX40, w ∈ wsX4_drop := by decide +kernel
  subst hsz
  have hD := hD0.self (sz := s.heap.size)
  generalize hAe : va_A [(h0, .inr (4, [.ref kO, .ref nO, .ref rO, .ref mO, .int zs, .ref tO, .ref rdO, .ref lnO, .ref drO, .ref chO])), (chO, .inr (0, [.ref bA, .ref xA, .ref kA, .ref aA, .ref eA, .ref gA, .ref oA, .int rd, .int lc, .int sc, .int ln, .int le]))] s.heap.size = A at hD ⊢
  have hA : ∀ q : Nat, s.heap.size ≤ q → A q := fun q h => by rw [← hAe]; exact Or.inr h
  have hS : va_S A s.heap s.heap [] := va_S.rf
  have hl := lv_entry ([.ref h0]) (n := 1) (Nat.le_of_ble_eq_true rfl)
  rw [lg_entry_eq]
  generalize (lg_sl ([.ref h0]) ++ List.replicate (1 - (lg_sl ([.ref h0])).length) Slot.unset).toArray = ls at hl ⊢
  have hl : lv_has ls 1 [(0, .ref h0)] := hl
  refine lv_aload_n hx hb dX4_drop_0 rfl (lv_at hl 0 rfl) ?_
  refine va_get (D := (dC, dI)) (ci := 4) (v := .int zs) (C := RX4) (T := TX4) (N := 10) hx hb hts i4 hown hK hP 0 rfl rfl 4 (by decide) (hts (.fieldLink RX4 74 "StopSetter" "size" "I") (by decide +kernel)) (fun _ h9 => h9) rfl dX4_drop_1 ?_
  refine lv_if_gt (tgt := 9) hx hb dX4_drop_4 (by decide) (fun c_4 => ?_) (fun c_4 => ?_)
  · skip
    refine lv_aload_n hx hb dX4_drop_9 rfl (lv_at hl 0 rfl) ?_
    refine lv_dup hx hb dX4_drop_10 rfl ?_
    refine va_get (D := (dC, dI)) (ci := 4) (v := .int zs) (C := RX4) (T := TX4) (N := 10) hx hb hts i4 hown hK hP 0 rfl rfl 4 (by decide) (hts (.fieldLink RX4 74 "StopSetter" "size" "I") (by decide +kernel)) (fun _ h9 => h9) rfl dX4_drop_11 ?_
    refine lv_iconst (v := 1) hx hb dX4_drop_14 (by decide) ?_
    refine lv_isub hx hb dX4_drop_15 ?_
    refine lv_topi (fun v_ ev_ => ?_)
    obtain rfl : v_ = (zs - 1) := ev_.trans (rfl)
    refine va_put (D := (dC, dI)) (ci := 4) (v := .int (zs - 1)) (ty := tyX4 4) (C := RX4) (T := TX4) (N := 10) hx hb hts i4 tyX4 tyX4_ok nmX4 hown hK hP hD hS 0 rfl rfl 4 (by decide) (hts (.fieldLink RX4 74 "StopSetter" "size" "I") (by decide +kernel)) (fun _ h9 => h9) rfl (by decide +kernel) rfl rfl (Nat.le_of_ble_eq_true rfl) dX4_drop_16 (fun H locs hP hD hS => ?_)
    have hP : va_P (dC, dI) vwCl [(h0, .inr (4, [.ref kO, .ref nO, .ref rO, .ref mO, .int (zs - 1), .ref tO, .ref rdO, .ref lnO, .ref drO, .ref chO])), (chO, .inr (0, [.ref bA, .ref xA, .ref kA, .ref aA, .ref eA, .ref gA, .ref oA, .int rd, .int lc, .int sc, .int ln, .int le]))] H := hP
    have hD : va_D A [(h0, .inr (4, [.ref kO, .ref nO, .ref rO, .ref mO, .int (zs - 1), .ref tO, .ref rdO, .ref lnO, .ref drO, .ref chO])), (chO, .inr (0, [.ref bA, .ref xA, .ref kA, .ref aA, .ref eA, .ref gA, .ref oA, .int rd, .int lc, .int sc, .int ln, .int le]))] := hD
    refine lv_aload_n hx hb dX4_drop_19 rfl (lv_at hl 0 rfl) ?_
    refine va_get (D := (dC, dI)) (ci := 4) (v := .ref chO) (C := RX4) (T := TX4) (N := 10) hx hb hts i4 hown hK hP 0 rfl rfl 9 (by decide) (hts (.fieldLink RX4 52 "StopSetter" "chart" "LStopSetter$Chart;") (by decide +kernel)) (fun _ h9 => h9) rfl dX4_drop_20 ?_
    refine lv_aload_n hx hb dX4_drop_23 rfl (lv_at hl 0 rfl) ?_
    refine va_get (D := (dC, dI)) (ci := 4) (v := .int (zs - 1)) (C := RX4) (T := TX4) (N := 10) hx hb hts i4 hown hK hP 0 rfl rfl 4 (by decide) (hts (.fieldLink RX4 74 "StopSetter" "size" "I") (by decide +kernel)) (fun _ h9 => h9) rfl dX4_drop_24 ?_
    have hPc := hP.sub (ws' := [(chO, .inr (0, [.ref bA, .ref xA, .ref kA, .ref aA, .ref eA, .ref gA, .ref oA, .int rd, .int lc, .int sc, .int ln, .int le]))]) [1] rfl
    have hDc := hD.sub (ws' := [(chO, .inr (0, [.ref bA, .ref xA, .ref kA, .ref aA, .ref eA, .ref gA, .ref oA, .int rd, .int lc, .int sc, .int ln, .int le]))]) [1] (by decide) rfl
    have hFc := va_free (wc := [(chO, .inr (0, [.ref bA, .ref xA, .ref kA, .ref aA, .ref eA, .ref gA, .ref oA, .int rd, .int lc, .int sc, .int ln, .int le]))]) hD hS hA [1] rfl
    refine va_callv (va_runV (As := [.int (zs - 1)]) (rest := []) ⟨hx, hb, hml, hown, hts⟩ (k_keep l dC dI cI cZ cC cJ H.size  chO bA xA kA aA eA gA oA rd lc sc ln le (zs - 1) ) (cwV 1 hts gX4_drop_X0_keep rfl rfl rfl (by decide +kernel) ⟨Nat.le_of_ble_eq_true rfl, Nat.le_of_ble_eq_true rfl⟩) ⟨sPre_blind, va_recv hK hPc (ci := 0) (q0 := 0) rfl rfl, fun U hU hW => ⟨rfl, sPre_ok hsk hPc hDc hU hW⟩⟩ rfl rfl hl.1 rfl (lv_room (Nat.le_of_ble_eq_true rfl)) dX4_drop_27 ⟨(show 0 + 0 ≤ 0 by omega), (show 0 + 0 ≤ 0 by omega)⟩) hS (fun q _ h => hFc q h) hFc (fun u t H1 locs ht hvm hw hB hz1 hk1 hS => ?_)
    obtain ⟨r_2, rfl⟩ : ∃ z, z = u := ⟨_, rfl⟩
    try dsimp only at hw hB
    have he_3 := hw
    have he_3 : r_2 = kpR (zs - 1) rd := he_3
    obtain ⟨hP1, hD1⟩ := hB
    rw [ht] at hP1
    obtain ⟨hP, hD⟩ := va_join (wr := [(h0, .inr (4, [.ref kO, .ref nO, .ref rO, .ref mO, .int (zs - 1), .ref tO, .ref rdO, .ref lnO, .ref drO, .ref chO]))]) (w1 := [(chO, .inr (0, [.ref bA, .ref xA, .ref kA, .ref aA, .ref eA, .ref gA, .ref oA, .int r_2, .int lc, .int sc, .int ln, .int le]))]) hP hD [1] [0] rfl rfl (by decide) (by decide) hk1 hFc hP1 hD1
    generalize H1 = H at hP hS ⊢
    have hP : va_P (dC, dI) vwCl [(h0, .inr (4, [.ref kO, .ref nO, .ref rO, .ref mO, .int (zs - 1), .ref tO, .ref rdO, .ref lnO, .ref drO, .ref chO])), (chO, .inr (0, [.ref bA, .ref xA, .ref kA, .ref aA, .ref eA, .ref gA, .ref oA, .int r_2, .int lc, .int sc, .int ln, .int le]))] H := hP
    have hD : va_D A [(h0, .inr (4, [.ref kO, .ref nO, .ref rO, .ref mO, .int (zs - 1), .ref tO, .ref rdO, .ref lnO, .ref drO, .ref chO])), (chO, .inr (0, [.ref bA, .ref xA, .ref kA, .ref aA, .ref eA, .ref gA, .ref oA, .int r_2, .int lc, .int sc, .int ln, .int le]))] := hD
    refine lv_aload_n hx hb dX4_drop_30 rfl (lv_at hl 0 rfl) ?_
    refine va_get (D := (dC, dI)) (ci := 4) (v := .int (zs - 1)) (C := RX4) (T := TX4) (N := 10) hx hb hts i4 hown hK hP 0 rfl rfl 4 (by decide) (hts (.fieldLink RX4 74 "StopSetter" "size" "I") (by decide +kernel)) (fun _ h9 => h9) rfl dX4_drop_31 ?_
    have hP9 := hP.sub (ws' := [(h0, .inr (4, [.ref kO, .ref nO, .ref rO, .ref mO, .int (zs - 1), .ref tO, .ref rdO, .ref lnO, .ref drO, .ref chO])), (chO, .inr (0, [.ref bA, .ref xA, .ref kA, .ref aA, .ref eA, .ref gA, .ref oA, .int r_2, .int lc, .int sc, .int ln, .int le]))]) [0, 1] rfl
    have hD9 := hD.sub (ws' := [(h0, .inr (4, [.ref kO, .ref nO, .ref rO, .ref mO, .int (zs - 1), .ref tO, .ref rdO, .ref lnO, .ref drO, .ref chO])), (chO, .inr (0, [.ref bA, .ref xA, .ref kA, .ref aA, .ref eA, .ref gA, .ref oA, .int r_2, .int lc, .int sc, .int ln, .int le]))]) [0, 1] (by decide) rfl
    have hens0 : (zs - 1) = drZ zs := (by simp only [drZ, if_pos c_4])
    have hens1 : r_2 = if 0 < zs then kpR (zs - 1) rd else rd := (by rw [if_pos c_4]; exact he_3)
    exact W.iret (v := (zs - 1)) hx hb hr (fun t ht hW => ⟨⟨(zs - 1), ((zs - 1), r_2), rfl, ⟨(by simp only [drR, if_pos c_4]), hens0, hens1⟩, by rw [ht]; exact hP9, hD9⟩, hS.F ht⟩) hS.2.2 dX4_drop_34
  · skip
    refine lv_iconst (v := (-1)) hx hb dX4_drop_7 (by decide) ?_
    have hP9 := hP.sub (ws' := [(h0, .inr (4, [.ref kO, .ref nO, .ref rO, .ref mO, .int zs, .ref tO, .ref rdO, .ref lnO, .ref drO, .ref chO])), (chO, .inr (0, [.ref bA, .ref xA, .ref kA, .ref aA, .ref eA, .ref gA, .ref oA, .int rd, .int lc, .int sc, .int ln, .int le]))]) [0, 1] rfl
    have hD9 := hD.sub (ws' := [(h0, .inr (4, [.ref kO, .ref nO, .ref rO, .ref mO, .int zs, .ref tO, .ref rdO, .ref lnO, .ref drO, .ref chO])), (chO, .inr (0, [.ref bA, .ref xA, .ref kA, .ref aA, .ref eA, .ref gA, .ref oA, .int rd, .int lc, .int sc, .int ln, .int le]))]) [0, 1] (by decide) rfl
    have hens0 : zs = drZ zs := (by simp only [drZ, if_neg c_4])
    have hens1 : rd = if 0 < zs then kpR (zs - 1) rd else rd := (by rw [if_neg c_4])
    exact W.iret (v := (-1)) hx hb hr (fun t ht hW => ⟨⟨(-1), (zs, rd), rfl, ⟨(by simp only [drR, if_neg c_4]), hens0, hens1⟩, by rw [ht]; exact hP9, hD9⟩, hS.F ht⟩) hS.2.2 dX4_drop_8
set_option maxHeartbeats 4000000 in
set_option maxRecDepth 100000 in
theorem k_hand (l : Launch) (dC : Nat → ClassId) (dI : Nat → Nat → Nat) (cI cZ cC cJ : ClassId) (sz : Nat) (h0 : Nat) (kO : Nat) (nO : Nat) (rO : Nat) (mO : Nat) (zs : Int32) (tO : Nat) (rdO : Nat) (lnO : Nat) (drO : Nat) (chO : Nat) (fm : Nat → Int32) (bA : Nat) (xA : Nat) (kA : Nat) (aA : Nat) (eA : Nat) (gA : Nat) (oA : Nat) (rd : Int32) (lc : Int32) (sc : Int32) (ln : Int32) (le : Int32) (p0 : Int32) (p1 : Int32)  : Met l yX4_hand wsX4_hand ({ frames := 1, cells := 0, slots := 0, locals := 21 }) (va_Pc [.ref h0, .int p0, .int p1] (sPre dC dI cI cZ cC cJ [(h0, .inr (4, [.ref kO, .ref nO, .ref rO, .ref mO, .int zs, .ref tO, .ref rdO, .ref lnO, .ref drO, .ref chO])), (mO, .inl (cI, 60, .inl fm)), (chO, .inr (0, [.ref bA, .ref xA, .ref kA, .ref aA, .ref eA, .ref gA, .ref oA, .int rd, .int lc, .int sc, .int ln, .int le]))] sz)) (va_Qi (fun (r : Int32) (u : (Nat → Int32) × (Int32)) => match u with | (fm2, rd2) => r = haR p0 p1 zs ∧ (fm2 = if haR p0 p1 zs = 0 then fm else upd fm p0.toNatClampNeg p1) ∧ (rd2 = if haR p0 p1 zs = 0 then rd else kpR p0 rd)) (fun (u : (Nat → Int32) × (Int32)) t => match u with | (fm2, rd2) => sB dC dI (va_A [(h0, .inr (4, [.ref kO, .ref nO, .ref rO, .ref mO, .int zs, .ref tO, .ref rdO, .ref lnO, .ref drO, .ref chO])), (mO, .inl (cI, 60, .inl fm)), (chO, .inr (0, [.ref bA, .ref xA, .ref kA, .ref aA, .ref eA, .ref gA, .ref oA, .int rd, .int lc, .int sc, .int ln, .int le]))] sz) [(h0, .inr (4, [.ref kO, .ref nO, .ref rO, .ref mO, .int zs, .ref tO, .ref rdO, .ref lnO, .ref drO, .ref chO])), (mO, .inl (cI, 60, .inl fm2)), (chO, .inr (0, [.ref bA, .ref xA, .ref kA, .ref aA, .ref eA, .ref gA, .ref oA, .int rd2, .int lc, .int sc, .int ln, .int le]))] t) (va_A [(h0, .inr (4, [.ref kO, .ref nO, .ref rO, .ref mO, .int zs, .ref tO, .ref rdO, .ref lnO, .ref drO, .ref chO])), (mO, .inl (cI, 60, .inl fm)), (chO, .inr (0, [.ref bA, .ref xA, .ref kA, .ref aA, .ref eA, .ref gA, .ref oA, .int rd, .int lc, .int sc, .int ln, .int le]))] sz)) 0 0 (va_A [(h0, .inr (4, [.ref kO, .ref nO, .ref rO, .ref mO, .int zs, .ref tO, .ref rdO, .ref lnO, .ref drO, .ref chO])), (mO, .inl (cI, 60, .inl fm)), (chO, .inr (0, [.ref bA, .ref xA, .ref kA, .ref aA, .ref eA, .ref gA, .ref oA, .int rd, .int lc, .int sc, .int ln, .int le]))] sz) := by
  refine Met.ofW (cc := cX4_hand) (maxL := 3) (ret := (some .boolean)) (by decide) rfl ?_
  intro p e s m args below meth c s₁ B hml hv
  obtain ⟨rfl, hsz, hP, hsk, hD0⟩ := hv
  have hx := B.exec
  have hb := B.bytes
  have hr := B.returns
  have hts := atoms_spec (ws := wsX4_hand) B.pre
  have hown : s.vm.findClass RX4 = some m.cls := findClass_of_methodNamed B.named
  have hlocks := B.notSynchronized
  have hK := hsk.1
  have i4 : ∀ w ∈ wsX40, w ∈ wsX4_hand := by decide +kernel
  subst hsz
  have hD := hD0.self (sz := s.heap.size)
  generalize hAe : va_A [(h0, .inr (4, [.ref kO, .ref nO, .ref rO, .ref mO, .int zs, .ref tO, .ref rdO, .ref lnO, .ref drO, .ref chO])), (mO, .inl (cI, 60, .inl fm)), (chO, .inr (0, [.ref bA, .ref xA, .ref kA, .ref aA, .ref eA, .ref gA, .ref oA, .int rd, .int lc, .int sc, .int ln, .int le]))] s.heap.size = A at hD ⊢
  have hA : ∀ q : Nat, s.heap.size ≤ q → A q := fun q h => by rw [← hAe]; exact Or.inr h
  have hS : va_S A s.heap s.heap [] := va_S.rf
  have hl := lv_entry ([.ref h0, .int p0, .int p1]) (n := 3) (Nat.le_of_ble_eq_true rfl)
  rw [lg_entry_eq]
  generalize (lg_sl ([.ref h0, .int p0, .int p1]) ++ List.replicate (3 - (lg_sl ([.ref h0, .int p0, .int p1])).length) Slot.unset).toArray = ls at hl ⊢
  have hl : lv_has ls 3 [(0, .ref h0), (1, .int p0), (2, .int p1)] := hl
  refine lv_aload_n hx hb dX4_hand_0 rfl (lv_at hl 0 rfl) ?_
  refine lv_iload_n hx hb dX4_hand_1 rfl (lv_at hl 1 rfl) ?_
  have hPc := hP.sub (ws' := [(h0, .inr (4, [.ref kO, .ref nO, .ref rO, .ref mO, .int zs, .ref tO, .ref rdO, .ref lnO, .ref drO, .ref chO]))]) [0] rfl
  have hDc := hD.sub (ws' := [(h0, .inr (4, [.ref kO, .ref nO, .ref rO, .ref mO, .int zs, .ref tO, .ref rdO, .ref lnO, .ref drO, .ref chO]))]) [0] (by decide) rfl
  have hFc := va_free (wc := [(h0, .inr (4, [.ref kO, .ref nO, .ref rO, .ref mO, .int zs, .ref tO, .ref rdO, .ref lnO, .ref drO, .ref chO]))]) hD hS hA [0] rfl
  refine va_calli (va_runV (As := [.int p0]) (rest := []) ⟨hx, hb, hml, hown, hts⟩ (k_hasPlace l dC dI cI cZ cC cJ s.heap.size  h0 kO nO rO mO zs tO rdO lnO drO chO p0 ) (cwV 1 hts gX4_hand_X4_hasPlace rfl rfl rfl (by decide +kernel) ⟨Nat.le_of_ble_eq_true rfl, Nat.le_of_ble_eq_true rfl⟩) ⟨sPre_blind, va_recv hK hPc (ci := 4) (q0 := 0) rfl rfl, fun U hU hW => ⟨rfl, sPre_ok hsk hPc hDc hU hW⟩⟩ rfl rfl hl.1 rfl (lv_room (Nat.le_of_ble_eq_true rfl)) dX4_hand_2 ⟨(show 0 + 0 ≤ 0 by omega), (show 0 + 0 ≤ 0 by omega)⟩) hS (fun q _ h => hFc q h) hFc (fun r_1 u t H1 locs ht hvm hw hB hz1 hk1 hS => ?_)
  try dsimp only at hw hB
  have hw_2 := hw
  obtain rfl : r_1 = bnd 60 p0 zs := hw_2
  obtain ⟨hP1, hD1⟩ := hB
  rw [ht] at hP1
  obtain ⟨hP, hD⟩ := va_join (wr := [(mO, .inl (cI, 60, .inl fm)), (chO, .inr (0, [.ref bA, .ref xA, .ref kA, .ref aA, .ref eA, .ref gA, .ref oA, .int rd, .int lc, .int sc, .int ln, .int le]))]) (w1 := [(h0, .inr (4, [.ref kO, .ref nO, .ref rO, .ref mO, .int zs, .ref tO, .ref rdO, .ref lnO, .ref drO, .ref chO]))]) hP hD [0] [1, 2] rfl rfl (by decide) (by decide) hk1 hFc hP1 hD1
  generalize H1 = H at hP hS ⊢
  have hP : va_P (dC, dI) vwCl [(mO, .inl (cI, 60, .inl fm)), (chO, .inr (0, [.ref bA, .ref xA, .ref kA, .ref aA, .ref eA, .ref gA, .ref oA, .int rd, .int lc, .int sc, .int ln, .int le])), (h0, .inr (4, [.ref kO, .ref nO, .ref rO, .ref mO, .int zs, .ref tO, .ref rdO, .ref lnO, .ref drO, .ref chO]))] H := hP
  have hD : va_D A [(mO, .inl (cI, 60, .inl fm)), (chO, .inr (0, [.ref bA, .ref xA, .ref kA, .ref aA, .ref eA, .ref gA, .ref oA, .int rd, .int lc, .int sc, .int ln, .int le])), (h0, .inr (4, [.ref kO, .ref nO, .ref rO, .ref mO, .int zs, .ref tO, .ref rdO, .ref lnO, .ref drO, .ref chO]))] := hD
  refine lv_if_eq (tgt := 28) hx hb dX4_hand_5 (by decide) (fun c_5 => ?_) (fun c_5 => ?_)
  · skip
    refine lv_iconst (v := 0) hx hb dX4_hand_28 (by decide) ?_
    have hP9 := hP.sub (ws' := [(h0, .inr (4, [.ref kO, .ref nO, .ref rO, .ref mO, .int zs, .ref tO, .ref rdO, .ref lnO, .ref drO, .ref chO])), (mO, .inl (cI, 60, .inl fm)), (chO, .inr (0, [.ref bA, .ref xA, .ref kA, .ref aA, .ref eA, .ref gA, .ref oA, .int rd, .int lc, .int sc, .int ln, .int le]))]) [2, 0, 1] rfl
    have hD9 := hD.sub (ws' := [(h0, .inr (4, [.ref kO, .ref nO, .ref rO, .ref mO, .int zs, .ref tO, .ref rdO, .ref lnO, .ref drO, .ref chO])), (mO, .inl (cI, 60, .inl fm)), (chO, .inr (0, [.ref bA, .ref xA, .ref kA, .ref aA, .ref eA, .ref gA, .ref oA, .int rd, .int lc, .int sc, .int ln, .int le]))]) [2, 0, 1] (by decide) rfl
    have hens0 : fm = if haR p0 p1 zs = 0 then fm else upd fm p0.toNatClampNeg p1 := (by rw [show haR p0 p1 zs = 0 from (by simp only [haR, if_pos c_5]), if_pos rfl])
    have hens1 : rd = if haR p0 p1 zs = 0 then rd else kpR p0 rd := (by rw [show haR p0 p1 zs = 0 from (by simp only [haR, if_pos c_5]), if_pos rfl])
    exact W.zret (v := 0) (ty := .boolean) hx hb hr rfl (fun t ht hW => ⟨⟨0, (fm, rd), rfl, ⟨(by simp only [haR, if_pos c_5]), hens0, hens1⟩, by rw [ht]; exact hP9, hD9⟩, hS.F ht⟩) hS.2.2 dX4_hand_29
  · skip
    refine lv_iload_n hx hb dX4_hand_8 rfl (lv_at hl 2 rfl) ?_
    refine lv_iconst (v := (-1)) hx hb dX4_hand_9 (by decide) ?_
    refine lv_icmp_lt (tgt := 28) hx hb dX4_hand_10 (by decide) (fun c_10 => ?_) (fun c_10 => ?_)
    · skip
      refine lv_iconst (v := 0) hx hb dX4_hand_28 (by decide) ?_
      have hP9 := hP.sub (ws' := [(h0, .inr (4, [.ref kO, .ref nO, .ref rO, .ref mO, .int zs, .ref tO, .ref rdO, .ref lnO, .ref drO, .ref chO])), (mO, .inl (cI, 60, .inl fm)), (chO, .inr (0, [.ref bA, .ref xA, .ref kA, .ref aA, .ref eA, .ref gA, .ref oA, .int rd, .int lc, .int sc, .int ln, .int le]))]) [2, 0, 1] rfl
      have hD9 := hD.sub (ws' := [(h0, .inr (4, [.ref kO, .ref nO, .ref rO, .ref mO, .int zs, .ref tO, .ref rdO, .ref lnO, .ref drO, .ref chO])), (mO, .inl (cI, 60, .inl fm)), (chO, .inr (0, [.ref bA, .ref xA, .ref kA, .ref aA, .ref eA, .ref gA, .ref oA, .int rd, .int lc, .int sc, .int ln, .int le]))]) [2, 0, 1] (by decide) rfl
      have hens0 : fm = if haR p0 p1 zs = 0 then fm else upd fm p0.toNatClampNeg p1 := (by rw [show haR p0 p1 zs = 0 from (by simp only [haR, if_neg c_5, if_pos c_10]), if_pos rfl])
      have hens1 : rd = if haR p0 p1 zs = 0 then rd else kpR p0 rd := (by rw [show haR p0 p1 zs = 0 from (by simp only [haR, if_neg c_5, if_pos c_10]), if_pos rfl])
      exact W.zret (v := 0) (ty := .boolean) hx hb hr rfl (fun t ht hW => ⟨⟨0, (fm, rd), rfl, ⟨(by simp only [haR, if_neg c_5, if_pos c_10]), hens0, hens1⟩, by rw [ht]; exact hP9, hD9⟩, hS.F ht⟩) hS.2.2 dX4_hand_29
    · skip
      refine lv_iload_n hx hb dX4_hand_13 rfl (lv_at hl 2 rfl) ?_
      refine lv_bipush (v := 6) hx hb dX4_hand_14 (by decide) ?_
      refine lv_icmp_gt (tgt := 28) hx hb dX4_hand_16 (by decide) (fun c_16 => ?_) (fun c_16 => ?_)
      · skip
        refine lv_iconst (v := 0) hx hb dX4_hand_28 (by decide) ?_
        have hP9 := hP.sub (ws' := [(h0, .inr (4, [.ref kO, .ref nO, .ref rO, .ref mO, .int zs, .ref tO, .ref rdO, .ref lnO, .ref drO, .ref chO])), (mO, .inl (cI, 60, .inl fm)), (chO, .inr (0, [.ref bA, .ref xA, .ref kA, .ref aA, .ref eA, .ref gA, .ref oA, .int rd, .int lc, .int sc, .int ln, .int le]))]) [2, 0, 1] rfl
        have hD9 := hD.sub (ws' := [(h0, .inr (4, [.ref kO, .ref nO, .ref rO, .ref mO, .int zs, .ref tO, .ref rdO, .ref lnO, .ref drO, .ref chO])), (mO, .inl (cI, 60, .inl fm)), (chO, .inr (0, [.ref bA, .ref xA, .ref kA, .ref aA, .ref eA, .ref gA, .ref oA, .int rd, .int lc, .int sc, .int ln, .int le]))]) [2, 0, 1] (by decide) rfl
        have hens0 : fm = if haR p0 p1 zs = 0 then fm else upd fm p0.toNatClampNeg p1 := (by rw [show haR p0 p1 zs = 0 from (by simp only [haR, if_neg c_5, if_neg c_10, if_pos c_16]), if_pos rfl])
        have hens1 : rd = if haR p0 p1 zs = 0 then rd else kpR p0 rd := (by rw [show haR p0 p1 zs = 0 from (by simp only [haR, if_neg c_5, if_neg c_10, if_pos c_16]), if_pos rfl])
        exact W.zret (v := 0) (ty := .boolean) hx hb hr rfl (fun t ht hW => ⟨⟨0, (fm, rd), rfl, ⟨(by simp only [haR, if_neg c_5, if_neg c_10, if_pos c_16]), hens0, hens1⟩, by rw [ht]; exact hP9, hD9⟩, hS.F ht⟩) hS.2.2 dX4_hand_29
      · skip
        refine lv_iload_n hx hb dX4_hand_19 rfl (lv_at hl 1 rfl) ?_
        refine lv_if_ne (tgt := 30) hx hb dX4_hand_20 (by decide) (fun c_20 => ?_) (fun c_20 => ?_)
        · skip
          refine lv_aload_n hx hb dX4_hand_30 rfl (lv_at hl 0 rfl) ?_
          refine va_get (D := (dC, dI)) (ci := 4) (v := .ref mO) (C := RX4) (T := TX4) (N := 10) hx hb hts i4 hown hK hP 2 rfl rfl 3 (by decide) (hts (.fieldLink RX4 20 "StopSetter" "marks" "[I") (by decide +kernel)) (fun _ h9 => h9) rfl dX4_hand_31 ?_
          refine lv_iload_n hx hb dX4_hand_34 rfl (lv_at hl 1 rfl) ?_
          refine lv_iload_n hx hb dX4_hand_35 rfl (lv_at hl 2 rfl) ?_
          refine va_iast hx hb hK hP hD hS 0 0 rfl rfl (bnd_in (M := 60) rfl c_5) dX4_hand_36 (fun H locs hP hD hS => ?_)
          have hP : va_P (dC, dI) vwCl [(mO, .inl (cI, 60, .inl (upd fm (p0.toNatClampNeg) p1))), (chO, .inr (0, [.ref bA, .ref xA, .ref kA, .ref aA, .ref eA, .ref gA, .ref oA, .int rd, .int lc, .int sc, .int ln, .int le])), (h0, .inr (4, [.ref kO, .ref nO, .ref rO, .ref mO, .int zs, .ref tO, .ref rdO, .ref lnO, .ref drO, .ref chO]))] H := hP
          have hD : va_D A [(mO, .inl (cI, 60, .inl (upd fm (p0.toNatClampNeg) p1))), (chO, .inr (0, [.ref bA, .ref xA, .ref kA, .ref aA, .ref eA, .ref gA, .ref oA, .int rd, .int lc, .int sc, .int ln, .int le])), (h0, .inr (4, [.ref kO, .ref nO, .ref rO, .ref mO, .int zs, .ref tO, .ref rdO, .ref lnO, .ref drO, .ref chO]))] := hD
          refine lv_aload_n hx hb dX4_hand_37 rfl (lv_at hl 0 rfl) ?_
          refine va_get (D := (dC, dI)) (ci := 4) (v := .ref chO) (C := RX4) (T := TX4) (N := 10) hx hb hts i4 hown hK hP 2 rfl rfl 9 (by decide) (hts (.fieldLink RX4 52 "StopSetter" "chart" "LStopSetter$Chart;") (by decide +kernel)) (fun _ h9 => h9) rfl dX4_hand_38 ?_
          refine lv_iload_n hx hb dX4_hand_41 rfl (lv_at hl 1 rfl) ?_
          have hPc := hP.sub (ws' := [(chO, .inr (0, [.ref bA, .ref xA, .ref kA, .ref aA, .ref eA, .ref gA, .ref oA, .int rd, .int lc, .int sc, .int ln, .int le]))]) [1] rfl
          have hDc := hD.sub (ws' := [(chO, .inr (0, [.ref bA, .ref xA, .ref kA, .ref aA, .ref eA, .ref gA, .ref oA, .int rd, .int lc, .int sc, .int ln, .int le]))]) [1] (by decide) rfl
          have hFc := va_free (wc := [(chO, .inr (0, [.ref bA, .ref xA, .ref kA, .ref aA, .ref eA, .ref gA, .ref oA, .int rd, .int lc, .int sc, .int ln, .int le]))]) hD hS hA [1] rfl
          refine va_callv (va_runV (As := [.int p0]) (rest := []) ⟨hx, hb, hml, hown, hts⟩ (k_keep l dC dI cI cZ cC cJ H.size  chO bA xA kA aA eA gA oA rd lc sc ln le p0 ) (cwV 1 hts gX4_hand_X0_keep rfl rfl rfl (by decide +kernel) ⟨Nat.le_of_ble_eq_true rfl, Nat.le_of_ble_eq_true rfl⟩) ⟨sPre_blind, va_recv hK hPc (ci := 0) (q0 := 0) rfl rfl, fun U hU hW => ⟨rfl, sPre_ok hsk hPc hDc hU hW⟩⟩ rfl rfl hl.1 rfl (lv_room (Nat.le_of_ble_eq_true rfl)) dX4_hand_42 ⟨(show 0 + 0 ≤ 0 by omega), (show 0 + 0 ≤ 0 by omega)⟩) hS (fun q _ h => hFc q h) hFc (fun u t H1 locs ht hvm hw hB hz1 hk1 hS => ?_)
          obtain ⟨r_4, rfl⟩ : ∃ z, z = u := ⟨_, rfl⟩
          try dsimp only at hw hB
          have he_5 := hw
          have he_5 : r_4 = kpR p0 rd := he_5
          obtain ⟨hP1, hD1⟩ := hB
          rw [ht] at hP1
          obtain ⟨hP, hD⟩ := va_join (wr := [(mO, .inl (cI, 60, .inl (upd fm (p0.toNatClampNeg) p1))), (h0, .inr (4, [.ref kO, .ref nO, .ref rO, .ref mO, .int zs, .ref tO, .ref rdO, .ref lnO, .ref drO, .ref chO]))]) (w1 := [(chO, .inr (0, [.ref bA, .ref xA, .ref kA, .ref aA, .ref eA, .ref gA, .ref oA, .int r_4, .int lc, .int sc, .int ln, .int le]))]) hP hD [1] [0, 2] rfl rfl (by decide) (by decide) hk1 hFc hP1 hD1
          generalize H1 = H at hP hS ⊢
          have hP : va_P (dC, dI) vwCl [(mO, .inl (cI, 60, .inl (upd fm (p0.toNatClampNeg) p1))), (h0, .inr (4, [.ref kO, .ref nO, .ref rO, .ref mO, .int zs, .ref tO, .ref rdO, .ref lnO, .ref drO, .ref chO])), (chO, .inr (0, [.ref bA, .ref xA, .ref kA, .ref aA, .ref eA, .ref gA, .ref oA, .int r_4, .int lc, .int sc, .int ln, .int le]))] H := hP
          have hD : va_D A [(mO, .inl (cI, 60, .inl (upd fm (p0.toNatClampNeg) p1))), (h0, .inr (4, [.ref kO, .ref nO, .ref rO, .ref mO, .int zs, .ref tO, .ref rdO, .ref lnO, .ref drO, .ref chO])), (chO, .inr (0, [.ref bA, .ref xA, .ref kA, .ref aA, .ref eA, .ref gA, .ref oA, .int r_4, .int lc, .int sc, .int ln, .int le]))] := hD
          refine lv_iconst (v := 1) hx hb dX4_hand_45 (by decide) ?_
          have hP9 := hP.sub (ws' := [(h0, .inr (4, [.ref kO, .ref nO, .ref rO, .ref mO, .int zs, .ref tO, .ref rdO, .ref lnO, .ref drO, .ref chO])), (mO, .inl (cI, 60, .inl (upd fm (p0.toNatClampNeg) p1))), (chO, .inr (0, [.ref bA, .ref xA, .ref kA, .ref aA, .ref eA, .ref gA, .ref oA, .int r_4, .int lc, .int sc, .int ln, .int le]))]) [1, 0, 2] rfl
          have hD9 := hD.sub (ws' := [(h0, .inr (4, [.ref kO, .ref nO, .ref rO, .ref mO, .int zs, .ref tO, .ref rdO, .ref lnO, .ref drO, .ref chO])), (mO, .inl (cI, 60, .inl (upd fm (p0.toNatClampNeg) p1))), (chO, .inr (0, [.ref bA, .ref xA, .ref kA, .ref aA, .ref eA, .ref gA, .ref oA, .int r_4, .int lc, .int sc, .int ln, .int le]))]) [1, 0, 2] (by decide) rfl
          have hens0 : (upd fm (p0.toNatClampNeg) p1) = if haR p0 p1 zs = 0 then fm else upd fm p0.toNatClampNeg p1 := (by rw [show haR p0 p1 zs = 1 from (by simp only [haR, if_neg c_5, if_neg c_10, if_neg c_16, if_neg c_20]), if_neg (by decide)])
          have hens1 : r_4 = if haR p0 p1 zs = 0 then rd else kpR p0 rd := (by rw [show haR p0 p1 zs = 1 from (by simp only [haR, if_neg c_5, if_neg c_10, if_neg c_16, if_neg c_20]), if_neg (by decide)]; exact he_5)
          exact W.zret (v := 1) (ty := .boolean) hx hb hr rfl (fun t ht hW => ⟨⟨1, ((upd fm (p0.toNatClampNeg) p1), r_4), rfl, ⟨(by simp only [haR, if_neg c_5, if_neg c_10, if_neg c_16, if_neg c_20]), hens0, hens1⟩, by rw [ht]; exact hP9, hD9⟩, hS.F ht⟩) hS.2.2 dX4_hand_46
        · skip
          refine lv_iload_n hx hb dX4_hand_23 rfl (lv_at hl 2 rfl) ?_
          refine lv_iconst (v := 4) hx hb dX4_hand_24 (by decide) ?_
          refine lv_icmp_lt (tgt := 30) hx hb dX4_hand_25 (by decide) (fun c_25 => ?_) (fun c_25 => ?_)
          · skip
            refine lv_aload_n hx hb dX4_hand_30 rfl (lv_at hl 0 rfl) ?_
            refine va_get (D := (dC, dI)) (ci := 4) (v := .ref mO) (C := RX4) (T := TX4) (N := 10) hx hb hts i4 hown hK hP 2 rfl rfl 3 (by decide) (hts (.fieldLink RX4 20 "StopSetter" "marks" "[I") (by decide +kernel)) (fun _ h9 => h9) rfl dX4_hand_31 ?_
            refine lv_iload_n hx hb dX4_hand_34 rfl (lv_at hl 1 rfl) ?_
            refine lv_iload_n hx hb dX4_hand_35 rfl (lv_at hl 2 rfl) ?_
            refine va_iast hx hb hK hP hD hS 0 0 rfl rfl (bnd_in (M := 60) rfl c_5) dX4_hand_36 (fun H locs hP hD hS => ?_)
            have hP : va_P (dC, dI) vwCl [(mO, .inl (cI, 60, .inl (upd fm (p0.toNatClampNeg) p1))), (chO, .inr (0, [.ref bA, .ref xA, .ref kA, .ref aA, .ref eA, .ref gA, .ref oA, .int rd, .int lc, .int sc, .int ln, .int le])), (h0, .inr (4, [.ref kO, .ref nO, .ref rO, .ref mO, .int zs, .ref tO, .ref rdO, .ref lnO, .ref drO, .ref chO]))] H := hP
            have hD : va_D A [(mO, .inl (cI, 60, .inl (upd fm (p0.toNatClampNeg) p1))), (chO, .inr (0, [.ref bA, .ref xA, .ref kA, .ref aA, .ref eA, .ref gA, .ref oA, .int rd, .int lc, .int sc, .int ln, .int le])), (h0, .inr (4, [.ref kO, .ref nO, .ref rO, .ref mO, .int zs, .ref tO, .ref rdO, .ref lnO, .ref drO, .ref chO]))] := hD
            refine lv_aload_n hx hb dX4_hand_37 rfl (lv_at hl 0 rfl) ?_
            refine va_get (D := (dC, dI)) (ci := 4) (v := .ref chO) (C := RX4) (T := TX4) (N := 10) hx hb hts i4 hown hK hP 2 rfl rfl 9 (by decide) (hts (.fieldLink RX4 52 "StopSetter" "chart" "LStopSetter$Chart;") (by decide +kernel)) (fun _ h9 => h9) rfl dX4_hand_38 ?_
            refine lv_iload_n hx hb dX4_hand_41 rfl (lv_at hl 1 rfl) ?_
            have hPc := hP.sub (ws' := [(chO, .inr (0, [.ref bA, .ref xA, .ref kA, .ref aA, .ref eA, .ref gA, .ref oA, .int rd, .int lc, .int sc, .int ln, .int le]))]) [1] rfl
            have hDc := hD.sub (ws' := [(chO, .inr (0, [.ref bA, .ref xA, .ref kA, .ref aA, .ref eA, .ref gA, .ref oA, .int rd, .int lc, .int sc, .int ln, .int le]))]) [1] (by decide) rfl
            have hFc := va_free (wc := [(chO, .inr (0, [.ref bA, .ref xA, .ref kA, .ref aA, .ref eA, .ref gA, .ref oA, .int rd, .int lc, .int sc, .int ln, .int le]))]) hD hS hA [1] rfl
            refine va_callv (va_runV (As := [.int p0]) (rest := []) ⟨hx, hb, hml, hown, hts⟩ (k_keep l dC dI cI cZ cC cJ H.size  chO bA xA kA aA eA gA oA rd lc sc ln le p0 ) (cwV 1 hts gX4_hand_X0_keep rfl rfl rfl (by decide +kernel) ⟨Nat.le_of_ble_eq_true rfl, Nat.le_of_ble_eq_true rfl⟩) ⟨sPre_blind, va_recv hK hPc (ci := 0) (q0 := 0) rfl rfl, fun U hU hW => ⟨rfl, sPre_ok hsk hPc hDc hU hW⟩⟩ rfl rfl hl.1 rfl (lv_room (Nat.le_of_ble_eq_true rfl)) dX4_hand_42 ⟨(show 0 + 0 ≤ 0 by omega), (show 0 + 0 ≤ 0 by omega)⟩) hS (fun q _ h => hFc q h) hFc (fun u t H1 locs ht hvm hw hB hz1 hk1 hS => ?_)
            obtain ⟨r_7, rfl⟩ : ∃ z, z = u := ⟨_, rfl⟩
            try dsimp only at hw hB
            have he_8 := hw
            have he_8 : r_7 = kpR p0 rd := he_8
            obtain ⟨hP1, hD1⟩ := hB
            rw [ht] at hP1
            obtain ⟨hP, hD⟩ := va_join (wr := [(mO, .inl (cI, 60, .inl (upd fm (p0.toNatClampNeg) p1))), (h0, .inr (4, [.ref kO, .ref nO, .ref rO, .ref mO, .int zs, .ref tO, .ref rdO, .ref lnO, .ref drO, .ref chO]))]) (w1 := [(chO, .inr (0, [.ref bA, .ref xA, .ref kA, .ref aA, .ref eA, .ref gA, .ref oA, .int r_7, .int lc, .int sc, .int ln, .int le]))]) hP hD [1] [0, 2] rfl rfl (by decide) (by decide) hk1 hFc hP1 hD1
            generalize H1 = H at hP hS ⊢
            have hP : va_P (dC, dI) vwCl [(mO, .inl (cI, 60, .inl (upd fm (p0.toNatClampNeg) p1))), (h0, .inr (4, [.ref kO, .ref nO, .ref rO, .ref mO, .int zs, .ref tO, .ref rdO, .ref lnO, .ref drO, .ref chO])), (chO, .inr (0, [.ref bA, .ref xA, .ref kA, .ref aA, .ref eA, .ref gA, .ref oA, .int r_7, .int lc, .int sc, .int ln, .int le]))] H := hP
            have hD : va_D A [(mO, .inl (cI, 60, .inl (upd fm (p0.toNatClampNeg) p1))), (h0, .inr (4, [.ref kO, .ref nO, .ref rO, .ref mO, .int zs, .ref tO, .ref rdO, .ref lnO, .ref drO, .ref chO])), (chO, .inr (0, [.ref bA, .ref xA, .ref kA, .ref aA, .ref eA, .ref gA, .ref oA, .int r_7, .int lc, .int sc, .int ln, .int le]))] := hD
            refine lv_iconst (v := 1) hx hb dX4_hand_45 (by decide) ?_
            have hP9 := hP.sub (ws' := [(h0, .inr (4, [.ref kO, .ref nO, .ref rO, .ref mO, .int zs, .ref tO, .ref rdO, .ref lnO, .ref drO, .ref chO])), (mO, .inl (cI, 60, .inl (upd fm (p0.toNatClampNeg) p1))), (chO, .inr (0, [.ref bA, .ref xA, .ref kA, .ref aA, .ref eA, .ref gA, .ref oA, .int r_7, .int lc, .int sc, .int ln, .int le]))]) [1, 0, 2] rfl
            have hD9 := hD.sub (ws' := [(h0, .inr (4, [.ref kO, .ref nO, .ref rO, .ref mO, .int zs, .ref tO, .ref rdO, .ref lnO, .ref drO, .ref chO])), (mO, .inl (cI, 60, .inl (upd fm (p0.toNatClampNeg) p1))), (chO, .inr (0, [.ref bA, .ref xA, .ref kA, .ref aA, .ref eA, .ref gA, .ref oA, .int r_7, .int lc, .int sc, .int ln, .int le]))]) [1, 0, 2] (by decide) rfl
            have hens0 : (upd fm (p0.toNatClampNeg) p1) = if haR p0 p1 zs = 0 then fm else upd fm p0.toNatClampNeg p1 := (by rw [show haR p0 p1 zs = 1 from (by simp only [haR, if_neg c_5, if_neg c_10, if_neg c_16, if_pos c_20, if_pos c_25]), if_neg (by decide)])
            have hens1 : r_7 = if haR p0 p1 zs = 0 then rd else kpR p0 rd := (by rw [show haR p0 p1 zs = 1 from (by simp only [haR, if_neg c_5, if_neg c_10, if_neg c_16, if_pos c_20, if_pos c_25]), if_neg (by decide)]; exact he_8)
            exact W.zret (v := 1) (ty := .boolean) hx hb hr rfl (fun t ht hW => ⟨⟨1, ((upd fm (p0.toNatClampNeg) p1), r_7), rfl, ⟨(by simp only [haR, if_neg c_5, if_neg c_10, if_neg c_16, if_pos c_20, if_pos c_25]), hens0, hens1⟩, by rw [ht]; exact hP9, hD9⟩, hS.F ht⟩) hS.2.2 dX4_hand_46
          · skip
            refine lv_iconst (v := 0) hx hb dX4_hand_28 (by decide) ?_
            have hP9 := hP.sub (ws' := [(h0, .inr (4, [.ref kO, .ref nO, .ref rO, .ref mO, .int zs, .ref tO, .ref rdO, .ref lnO, .ref drO, .ref chO])), (mO, .inl (cI, 60, .inl fm)), (chO, .inr (0, [.ref bA, .ref xA, .ref kA, .ref aA, .ref eA, .ref gA, .ref oA, .int rd, .int lc, .int sc, .int ln, .int le]))]) [2, 0, 1] rfl
            have hD9 := hD.sub (ws' := [(h0, .inr (4, [.ref kO, .ref nO, .ref rO, .ref mO, .int zs, .ref tO, .ref rdO, .ref lnO, .ref drO, .ref chO])), (mO, .inl (cI, 60, .inl fm)), (chO, .inr (0, [.ref bA, .ref xA, .ref kA, .ref aA, .ref eA, .ref gA, .ref oA, .int rd, .int lc, .int sc, .int ln, .int le]))]) [2, 0, 1] (by decide) rfl
            have hens0 : fm = if haR p0 p1 zs = 0 then fm else upd fm p0.toNatClampNeg p1 := (by rw [show haR p0 p1 zs = 0 from (by simp only [haR, if_neg c_5, if_neg c_10, if_neg c_16, if_pos c_20, if_neg c_25]), if_pos rfl])
            have hens1 : rd = if haR p0 p1 zs = 0 then rd else kpR p0 rd := (by rw [show haR p0 p1 zs = 0 from (by simp only [haR, if_neg c_5, if_neg c_10, if_neg c_16, if_pos c_20, if_neg c_25]), if_pos rfl])
            exact W.zret (v := 0) (ty := .boolean) hx hb hr rfl (fun t ht hW => ⟨⟨0, (fm, rd), rfl, ⟨(by simp only [haR, if_neg c_5, if_neg c_10, if_neg c_16, if_pos c_20, if_neg c_25]), hens0, hens1⟩, by rw [ht]; exact hP9, hD9⟩, hS.F ht⟩) hS.2.2 dX4_hand_29
set_option maxHeartbeats 4000000 in
set_option maxRecDepth 100000 in
theorem k_name (l : Launch) (dC : Nat → ClassId) (dI : Nat → Nat → Nat) (cI cZ cC cJ : ClassId) (sz : Nat) (h0 : Nat) (kO : Nat) (nO : Nat) (rO : Nat) (mO : Nat) (zs : Int32) (tO : Nat) (rdO : Nat) (lnO : Nat) (drO : Nat) (chO : Nat) (fn : Nat → Int32) (p0 : Int32) (p1 : Int32)  : Met l yX4_name wsX4_name ({ frames := 1, cells := 0, slots := 0, locals := 20 }) (va_Pc [.ref h0, .int p0, .int p1] (sPre dC dI cI cZ cC cJ [(h0, .inr (4, [.ref kO, .ref nO, .ref rO, .ref mO, .int zs, .ref tO, .ref rdO, .ref lnO, .ref drO, .ref chO])), (nO, .inl (cZ, 100, .inl fn))] sz)) (va_Qi (fun (r : Int32) (u : (Nat → Int32)) => match u with | fn2 => r = rName p0) (fun (u : (Nat → Int32)) t => match u with | fn2 => sB dC dI (va_A [(h0, .inr (4, [.ref kO, .ref nO, .ref rO, .ref mO, .int zs, .ref tO, .ref rdO, .ref lnO, .ref drO, .ref chO])), (nO, .inl (cZ, 100, .inl fn))] sz) [(h0, .inr (4, [.ref kO, .ref nO, .ref rO, .ref mO, .int zs, .ref tO, .ref rdO, .ref lnO, .ref drO, .ref chO])), (nO, .inl (cZ, 100, .inl fn2))] t) (va_A [(h0, .inr (4, [.ref kO, .ref nO, .ref rO, .ref mO, .int zs, .ref tO, .ref rdO, .ref lnO, .ref drO, .ref chO])), (nO, .inl (cZ, 100, .inl fn))] sz)) 0 0 (va_A [(h0, .inr (4, [.ref kO, .ref nO, .ref rO, .ref mO, .int zs, .ref tO, .ref rdO, .ref lnO, .ref drO, .ref chO])), (nO, .inl (cZ, 100, .inl fn))] sz) := by
  refine Met.ofW (cc := cX4_name) (maxL := 3) (ret := (some .boolean)) (by decide) rfl ?_
  intro p e s m args below meth c s₁ B hml hv
  obtain ⟨rfl, hsz, hP, hsk, hD0⟩ := hv
  have hx := B.exec
  have hb := B.bytes
  have hr := B.returns
  have hts := atoms_spec (ws := wsX4_name) B.pre
  have hown : s.vm.findClass RX4 = some m.cls := findClass_of_methodNamed B.named
  have hlocks := B.notSynchronized
  have hK := hsk.1
  have i4 : ∀ w ∈ wsX40, w ∈ wsX4_name := by decide +kernel
  subst hsz
  have hD := hD0.self (sz := s.heap.size)
  generalize hAe : va_A [(h0, .inr (4, [.ref kO, .ref nO, .ref rO, .ref mO, .int zs, .ref tO, .ref rdO, .ref lnO, .ref drO, .ref chO])), (nO, .inl (cZ, 100, .inl fn))] s.heap.size = A at hD ⊢
  have hA : ∀ q : Nat, s.heap.size ≤ q → A q := fun q h => by rw [← hAe]; exact Or.inr h
  have hS : va_S A s.heap s.heap [] := va_S.rf
  have hl := lv_entry ([.ref h0, .int p0, .int p1]) (n := 3) (Nat.le_of_ble_eq_true rfl)
  rw [lg_entry_eq]
  generalize (lg_sl ([.ref h0, .int p0, .int p1]) ++ List.replicate (3 - (lg_sl ([.ref h0, .int p0, .int p1])).length) Slot.unset).toArray = ls at hl ⊢
  have hl : lv_has ls 3 [(0, .ref h0), (1, .int p0), (2, .int p1)] := hl
  refine lv_iload_n hx hb dX4_name_0 rfl (lv_at hl 1 rfl) ?_
  have hPc := hP.sub (ws' := []) [] rfl
  have hDc := hD.sub (ws' := []) [] (by decide) rfl
  have hFc := va_free (wc := []) hD hS hA [] rfl
  refine va_calli (va_runS (As := [.int p0]) (rest := []) ⟨hx, hb, hml, hown, hts⟩ (k_isWord l dC dI cI cZ cC cJ s.heap.size  p0 ) (va_cwS 1 hts gX4_name_X4_isWord rfl rfl rfl (by decide +kernel) ⟨Nat.le_of_ble_eq_true rfl, Nat.le_of_ble_eq_true rfl⟩) ⟨sPre_blind, fun U hU hW => ⟨rfl, sPre_ok hsk hPc hDc hU hW⟩⟩ rfl rfl hl.1 rfl (lv_room (Nat.le_of_ble_eq_true rfl)) dX4_name_1 ⟨(show 0 + 0 ≤ 0 by omega), (show 0 + 0 ≤ 0 by omega)⟩) hS (fun q _ h => hFc q h) hFc (fun r_1 u t H1 locs ht hvm hw hB hz1 hk1 hS => ?_)
  try dsimp only at hw hB
  have hw_2 := hw
  obtain rfl : r_1 = isW p0 := hw_2
  obtain ⟨hP1, hD1⟩ := hB
  rw [ht] at hP1
  obtain ⟨hP, hD⟩ := va_join (wr := [(h0, .inr (4, [.ref kO, .ref nO, .ref rO, .ref mO, .int zs, .ref tO, .ref rdO, .ref lnO, .ref drO, .ref chO])), (nO, .inl (cZ, 100, .inl fn))]) (w1 := []) hP hD [] [0, 1] rfl rfl (by decide) (by decide) hk1 hFc hP1 hD1
  generalize H1 = H at hP hS ⊢
  have hP : va_P (dC, dI) vwCl [(h0, .inr (4, [.ref kO, .ref nO, .ref rO, .ref mO, .int zs, .ref tO, .ref rdO, .ref lnO, .ref drO, .ref chO])), (nO, .inl (cZ, 100, .inl fn))] H := hP
  have hD : va_D A [(h0, .inr (4, [.ref kO, .ref nO, .ref rO, .ref mO, .int zs, .ref tO, .ref rdO, .ref lnO, .ref drO, .ref chO])), (nO, .inl (cZ, 100, .inl fn))] := hD
  refine lv_if_ne (tgt := 9) hx hb dX4_name_4 (by decide) (fun c_4 => ?_) (fun c_4 => ?_)
  · skip
    refine lv_aload_n hx hb dX4_name_9 rfl (lv_at hl 0 rfl) ?_
    refine va_get (D := (dC, dI)) (ci := 4) (v := .ref nO) (C := RX4) (T := TX4) (N := 10) hx hb hts i4 hown hK hP 0 rfl rfl 1 (by decide) (hts (.fieldLink RX4 13 "StopSetter" "isName" "[Z") (by decide +kernel)) (fun _ h9 => h9) rfl dX4_name_10 ?_
    refine lv_iload_n hx hb dX4_name_13 rfl (lv_at hl 1 rfl) ?_
    refine lv_iload_n hx hb dX4_name_14 rfl (lv_at hl 2 rfl) ?_
    refine va_zast hx hb hK hP hD hS 1 1 rfl rfl (isW_in c_4) dX4_name_15 (fun H locs hP hD hS => ?_)
    have hP : va_P (dC, dI) vwCl [(h0, .inr (4, [.ref kO, .ref nO, .ref rO, .ref mO, .int zs, .ref tO, .ref rdO, .ref lnO, .ref drO, .ref chO])), (nO, .inl (cZ, 100, .inl (upd fn (p0.toNatClampNeg) (vp_nar .boolean p1))))] H := hP
    have hD : va_D A [(h0, .inr (4, [.ref kO, .ref nO, .ref rO, .ref mO, .int zs, .ref tO, .ref rdO, .ref lnO, .ref drO, .ref chO])), (nO, .inl (cZ, 100, .inl (upd fn (p0.toNatClampNeg) (vp_nar .boolean p1))))] := hD
    obtain ⟨f_3, ef_3⟩ : ∃ f9, f9 = (upd fn (p0.toNatClampNeg) (vp_nar .boolean p1)) := ⟨_, rfl⟩
    rw [← ef_3] at hP hD
    have hP : va_P (dC, dI) vwCl [(h0, .inr (4, [.ref kO, .ref nO, .ref rO, .ref mO, .int zs, .ref tO, .ref rdO, .ref lnO, .ref drO, .ref chO])), (nO, .inl (cZ, 100, .inl f_3))] H := hP
    have hD : va_D A [(h0, .inr (4, [.ref kO, .ref nO, .ref rO, .ref mO, .int zs, .ref tO, .ref rdO, .ref lnO, .ref drO, .ref chO])), (nO, .inl (cZ, 100, .inl f_3))] := hD
    refine lv_iconst (v := 1) hx hb dX4_name_16 (by decide) ?_
    have hP9 := hP.sub (ws' := [(h0, .inr (4, [.ref kO, .ref nO, .ref rO, .ref mO, .int zs, .ref tO, .ref rdO, .ref lnO, .ref drO, .ref chO])), (nO, .inl (cZ, 100, .inl f_3))]) [0, 1] rfl
    have hD9 := hD.sub (ws' := [(h0, .inr (4, [.ref kO, .ref nO, .ref rO, .ref mO, .int zs, .ref tO, .ref rdO, .ref lnO, .ref drO, .ref chO])), (nO, .inl (cZ, 100, .inl f_3))]) [0, 1] (by decide) rfl
    exact W.zret (v := 1) (ty := .boolean) hx hb hr rfl (fun t ht hW => ⟨⟨1, (f_3), rfl, (by simp only [rName, if_neg c_4]), by rw [ht]; exact hP9, hD9⟩, hS.F ht⟩) hS.2.2 dX4_name_17
  · skip
    refine lv_iconst (v := 0) hx hb dX4_name_7 (by decide) ?_
    have hP9 := hP.sub (ws' := [(h0, .inr (4, [.ref kO, .ref nO, .ref rO, .ref mO, .int zs, .ref tO, .ref rdO, .ref lnO, .ref drO, .ref chO])), (nO, .inl (cZ, 100, .inl fn))]) [0, 1] rfl
    have hD9 := hD.sub (ws' := [(h0, .inr (4, [.ref kO, .ref nO, .ref rO, .ref mO, .int zs, .ref tO, .ref rdO, .ref lnO, .ref drO, .ref chO])), (nO, .inl (cZ, 100, .inl fn))]) [0, 1] (by decide) rfl
    exact W.zret (v := 0) (ty := .boolean) hx hb hr rfl (fun t ht hW => ⟨⟨0, (fn), rfl, (by simp only [rName, if_pos c_4]), by rw [ht]; exact hP9, hD9⟩, hS.F ht⟩) hS.2.2 dX4_name_8
set_option maxHeartbeats 4000000 in
set_option maxRecDepth 100000 in
theorem k_word (l : Launch) (dC : Nat → ClassId) (dI : Nat → Nat → Nat) (cI cZ cC cJ : ClassId) (sz : Nat) (h0 : Nat) (kO : Nat) (nO : Nat) (rO : Nat) (mO : Nat) (zs : Int32) (tO : Nat) (rdO : Nat) (lnO : Nat) (drO : Nat) (chO : Nat) (fr : Nat → Int32) (fm : Nat → Int32) (p0 : Int32)  : Met l yX4_word wsX4_word ({ frames := 1, cells := 0, slots := 0, locals := 20 }) (va_Pc [.ref h0, .int p0] (sPre dC dI cI cZ cC cJ [(h0, .inr (4, [.ref kO, .ref nO, .ref rO, .ref mO, .int zs, .ref tO, .ref rdO, .ref lnO, .ref drO, .ref chO])), (rO, .inl (cI, 60, .inl fr)), (mO, .inl (cI, 60, .inl fm))] sz)) (va_Qi (fun (r : Int32) (u : (Nat → Int32) × (Nat → Int32) × (Int32)) => match u with | (fr2, fm2, zs2) => r = wdR p0 zs ∧ (zs2 = wdZ p0 zs) ∧ (fm2 = if wdR p0 zs = -1 then fm else upd fm zs.toNatClampNeg (-1)) ∧ (fr2 = if wdR p0 zs = -1 then fr else upd fr zs.toNatClampNeg p0)) (fun (u : (Nat → Int32) × (Nat → Int32) × (Int32)) t => match u with | (fr2, fm2, zs2) => sB dC dI (va_A [(h0, .inr (4, [.ref kO, .ref nO, .ref rO, .ref mO, .int zs, .ref tO, .ref rdO, .ref lnO, .ref drO, .ref chO])), (rO, .inl (cI, 60, .inl fr)), (mO, .inl (cI, 60, .inl fm))] sz) [(h0, .inr (4, [.ref kO, .ref nO, .ref rO, .ref mO, .int zs2, .ref tO, .ref rdO, .ref lnO, .ref drO, .ref chO])), (rO, .inl (cI, 60, .inl fr2)), (mO, .inl (cI, 60, .inl fm2))] t) (va_A [(h0, .inr (4, [.ref kO, .ref nO, .ref rO, .ref mO, .int zs, .ref tO, .ref rdO, .ref lnO, .ref drO, .ref chO])), (rO, .inl (cI, 60, .inl fr)), (mO, .inl (cI, 60, .inl fm))] sz)) 0 0 (va_A [(h0, .inr (4, [.ref kO, .ref nO, .ref rO, .ref mO, .int zs, .ref tO, .ref rdO, .ref lnO, .ref drO, .ref chO])), (rO, .inl (cI, 60, .inl fr)), (mO, .inl (cI, 60, .inl fm))] sz) := by
  refine Met.ofW (cc := cX4_word) (maxL := 2) (ret := (some .int)) (by decide) rfl ?_
  intro p e s m args below meth c s₁ B hml hv
  obtain ⟨rfl, hsz, hP, hsk, hD0⟩ := hv
  have hx := B.exec
  have hb := B.bytes
  have hr := B.returns
  have hts := atoms_spec (ws := wsX4_word) B.pre
  have hown : s.vm.findClass RX4 = some m.cls := findClass_of_methodNamed B.named
  have hlocks := B.notSynchronized
  have hK := hsk.1
  have i4 : ∀ w ∈ wsX40, w ∈ wsX4_word := by decide +kernel
  subst hsz
  have hD := hD0.self (sz := s.heap.size)
  generalize hAe : va_A [(h0, .inr (4, [.ref kO, .ref nO, .ref rO, .ref mO, .int zs, .ref tO, .ref rdO, .ref lnO, .ref drO, .ref chO])), (rO, .inl (cI, 60, .inl fr)), (mO, .inl (cI, 60, .inl fm))] s.heap.size = A at hD ⊢
  have hA : ∀ q : Nat, s.heap.size ≤ q → A q := fun q h => by rw [← hAe]; exact Or.inr h
  have hS : va_S A s.heap s.heap [] := va_S.rf
  have hl := lv_entry ([.ref h0, .int p0]) (n := 2) (Nat.le_of_ble_eq_true rfl)
  rw [lg_entry_eq]
  generalize (lg_sl ([.ref h0, .int p0]) ++ List.replicate (2 - (lg_sl ([.ref h0, .int p0])).length) Slot.unset).toArray = ls at hl ⊢
  have hl : lv_has ls 2 [(0, .ref h0), (1, .int p0)] := hl
  refine lv_iload_n hx hb dX4_word_0 rfl (lv_at hl 1 rfl) ?_
  have hPc := hP.sub (ws' := []) [] rfl
  have hDc := hD.sub (ws' := []) [] (by decide) rfl
  have hFc := va_free (wc := []) hD hS hA [] rfl
  refine va_calli (va_runS (As := [.int p0]) (rest := []) ⟨hx, hb, hml, hown, hts⟩ (k_isWord l dC dI cI cZ cC cJ s.heap.size  p0 ) (va_cwS 1 hts gX4_word_X4_isWord rfl rfl rfl (by decide +kernel) ⟨Nat.le_of_ble_eq_true rfl, Nat.le_of_ble_eq_true rfl⟩) ⟨sPre_blind, fun U hU hW => ⟨rfl, sPre_ok hsk hPc hDc hU hW⟩⟩ rfl rfl hl.1 rfl (lv_room (Nat.le_of_ble_eq_true rfl)) dX4_word_1 ⟨(show 0 + 0 ≤ 0 by omega), (show 0 + 0 ≤ 0 by omega)⟩) hS (fun q _ h => hFc q h) hFc (fun r_1 u t H1 locs ht hvm hw hB hz1 hk1 hS => ?_)
  try dsimp only at hw hB
  have hw_2 := hw
  obtain rfl : r_1 = isW p0 := hw_2
  obtain ⟨hP1, hD1⟩ := hB
  rw [ht] at hP1
  obtain ⟨hP, hD⟩ := va_join (wr := [(h0, .inr (4, [.ref kO, .ref nO, .ref rO, .ref mO, .int zs, .ref tO, .ref rdO, .ref lnO, .ref drO, .ref chO])), (rO, .inl (cI, 60, .inl fr)), (mO, .inl (cI, 60, .inl fm))]) (w1 := []) hP hD [] [0, 1, 2] rfl rfl (by decide) (by decide) hk1 hFc hP1 hD1
  generalize H1 = H at hP hS ⊢
  have hP : va_P (dC, dI) vwCl [(h0, .inr (4, [.ref kO, .ref nO, .ref rO, .ref mO, .int zs, .ref tO, .ref rdO, .ref lnO, .ref drO, .ref chO])), (rO, .inl (cI, 60, .inl fr)), (mO, .inl (cI, 60, .inl fm))] H := hP
  have hD : va_D A [(h0, .inr (4, [.ref kO, .ref nO, .ref rO, .ref mO, .int zs, .ref tO, .ref rdO, .ref lnO, .ref drO, .ref chO])), (rO, .inl (cI, 60, .inl fr)), (mO, .inl (cI, 60, .inl fm))] := hD
  refine lv_if_eq (tgt := 23) hx hb dX4_word_4 (by decide) (fun c_4 => ?_) (fun c_4 => ?_)
  · skip
    refine lv_iconst (v := (-1)) hx hb dX4_word_23 (by decide) ?_
    have hP9 := hP.sub (ws' := [(h0, .inr (4, [.ref kO, .ref nO, .ref rO, .ref mO, .int zs, .ref tO, .ref rdO, .ref lnO, .ref drO, .ref chO])), (rO, .inl (cI, 60, .inl fr)), (mO, .inl (cI, 60, .inl fm))]) [0, 1, 2] rfl
    have hD9 := hD.sub (ws' := [(h0, .inr (4, [.ref kO, .ref nO, .ref rO, .ref mO, .int zs, .ref tO, .ref rdO, .ref lnO, .ref drO, .ref chO])), (rO, .inl (cI, 60, .inl fr)), (mO, .inl (cI, 60, .inl fm))]) [0, 1, 2] (by decide) rfl
    have hens0 : zs = wdZ p0 zs := (by simp only [wdZ, if_pos c_4])
    have hens1 : fm = if wdR p0 zs = -1 then fm else upd fm zs.toNatClampNeg (-1) := (by rw [show wdR p0 zs = -1 from (by simp only [wdR, if_pos c_4]), if_pos rfl])
    have hens2 : fr = if wdR p0 zs = -1 then fr else upd fr zs.toNatClampNeg p0 := (by rw [show wdR p0 zs = -1 from (by simp only [wdR, if_pos c_4]), if_pos rfl])
    exact W.iret (v := (-1)) hx hb hr (fun t ht hW => ⟨⟨(-1), (fr, fm, zs), rfl, ⟨(by simp only [wdR, if_pos c_4]), hens0, hens1, hens2⟩, by rw [ht]; exact hP9, hD9⟩, hS.F ht⟩) hS.2.2 dX4_word_24
  · skip
    refine lv_aload_n hx hb dX4_word_7 rfl (lv_at hl 0 rfl) ?_
    refine va_get (D := (dC, dI)) (ci := 4) (v := .int zs) (C := RX4) (T := TX4) (N := 10) hx hb hts i4 hown hK hP 0 rfl rfl 4 (by decide) (hts (.fieldLink RX4 74 "StopSetter" "size" "I") (by decide +kernel)) (fun _ h9 => h9) rfl dX4_word_8 ?_
    refine lv_if_lt (tgt := 23) hx hb dX4_word_11 (by decide) (fun c_11 => ?_) (fun c_11 => ?_)
    · skip
      refine lv_iconst (v := (-1)) hx hb dX4_word_23 (by decide) ?_
      have hP9 := hP.sub (ws' := [(h0, .inr (4, [.ref kO, .ref nO, .ref rO, .ref mO, .int zs, .ref tO, .ref rdO, .ref lnO, .ref drO, .ref chO])), (rO, .inl (cI, 60, .inl fr)), (mO, .inl (cI, 60, .inl fm))]) [0, 1, 2] rfl
      have hD9 := hD.sub (ws' := [(h0, .inr (4, [.ref kO, .ref nO, .ref rO, .ref mO, .int zs, .ref tO, .ref rdO, .ref lnO, .ref drO, .ref chO])), (rO, .inl (cI, 60, .inl fr)), (mO, .inl (cI, 60, .inl fm))]) [0, 1, 2] (by decide) rfl
      have hens0 : zs = wdZ p0 zs := (by simp only [wdZ, if_neg c_4, if_pos c_11])
      have hens1 : fm = if wdR p0 zs = -1 then fm else upd fm zs.toNatClampNeg (-1) := (by rw [show wdR p0 zs = -1 from (by simp only [wdR, if_neg c_4, if_pos c_11]), if_pos rfl])
      have hens2 : fr = if wdR p0 zs = -1 then fr else upd fr zs.toNatClampNeg p0 := (by rw [show wdR p0 zs = -1 from (by simp only [wdR, if_neg c_4, if_pos c_11]), if_pos rfl])
      exact W.iret (v := (-1)) hx hb hr (fun t ht hW => ⟨⟨(-1), (fr, fm, zs), rfl, ⟨(by simp only [wdR, if_neg c_4, if_pos c_11]), hens0, hens1, hens2⟩, by rw [ht]; exact hP9, hD9⟩, hS.F ht⟩) hS.2.2 dX4_word_24
    · skip
      refine lv_aload_n hx hb dX4_word_14 rfl (lv_at hl 0 rfl) ?_
      refine va_get (D := (dC, dI)) (ci := 4) (v := .int zs) (C := RX4) (T := TX4) (N := 10) hx hb hts i4 hown hK hP 0 rfl rfl 4 (by decide) (hts (.fieldLink RX4 74 "StopSetter" "size" "I") (by decide +kernel)) (fun _ h9 => h9) rfl dX4_word_15 ?_
      refine lv_bipush (v := 60) hx hb dX4_word_18 (by decide) ?_
      refine lv_icmp_lt (tgt := 25) hx hb dX4_word_20 (by decide) (fun c_20 => ?_) (fun c_20 => ?_)
      · skip
        refine lv_aload_n hx hb dX4_word_25 rfl (lv_at hl 0 rfl) ?_
        refine va_get (D := (dC, dI)) (ci := 4) (v := .ref rO) (C := RX4) (T := TX4) (N := 10) hx hb hts i4 hown hK hP 0 rfl rfl 2 (by decide) (hts (.fieldLink RX4 17 "StopSetter" "row" "[I") (by decide +kernel)) (fun _ h9 => h9) rfl dX4_word_26 ?_
        refine lv_aload_n hx hb dX4_word_29 rfl (lv_at hl 0 rfl) ?_
        refine va_get (D := (dC, dI)) (ci := 4) (v := .int zs) (C := RX4) (T := TX4) (N := 10) hx hb hts i4 hown hK hP 0 rfl rfl 4 (by decide) (hts (.fieldLink RX4 74 "StopSetter" "size" "I") (by decide +kernel)) (fun _ h9 => h9) rfl dX4_word_30 ?_
        refine lv_iload_n hx hb dX4_word_33 rfl (lv_at hl 1 rfl) ?_
        refine va_iast hx hb hK hP hD hS 1 0 rfl rfl (in_lt (c := 60) rfl c_11 c_20) dX4_word_34 (fun H locs hP hD hS => ?_)
        have hP : va_P (dC, dI) vwCl [(h0, .inr (4, [.ref kO, .ref nO, .ref rO, .ref mO, .int zs, .ref tO, .ref rdO, .ref lnO, .ref drO, .ref chO])), (rO, .inl (cI, 60, .inl (upd fr (zs.toNatClampNeg) p0))), (mO, .inl (cI, 60, .inl fm))] H := hP
        have hD : va_D A [(h0, .inr (4, [.ref kO, .ref nO, .ref rO, .ref mO, .int zs, .ref tO, .ref rdO, .ref lnO, .ref drO, .ref chO])), (rO, .inl (cI, 60, .inl (upd fr (zs.toNatClampNeg) p0))), (mO, .inl (cI, 60, .inl fm))] := hD
        refine lv_aload_n hx hb dX4_word_35 rfl (lv_at hl 0 rfl) ?_
        refine va_get (D := (dC, dI)) (ci := 4) (v := .ref mO) (C := RX4) (T := TX4) (N := 10) hx hb hts i4 hown hK hP 0 rfl rfl 3 (by decide) (hts (.fieldLink RX4 20 "StopSetter" "marks" "[I") (by decide +kernel)) (fun _ h9 => h9) rfl dX4_word_36 ?_
        refine lv_aload_n hx hb dX4_word_39 rfl (lv_at hl 0 rfl) ?_
        refine va_get (D := (dC, dI)) (ci := 4) (v := .int zs) (C := RX4) (T := TX4) (N := 10) hx hb hts i4 hown hK hP 0 rfl rfl 4 (by decide) (hts (.fieldLink RX4 74 "StopSetter" "size" "I") (by decide +kernel)) (fun _ h9 => h9) rfl dX4_word_40 ?_
        refine lv_iconst (v := (-1)) hx hb dX4_word_43 (by decide) ?_
        refine va_iast hx hb hK hP hD hS 2 0 rfl rfl (in_lt (c := 60) rfl c_11 c_20) dX4_word_44 (fun H locs hP hD hS => ?_)
        have hP : va_P (dC, dI) vwCl [(h0, .inr (4, [.ref kO, .ref nO, .ref rO, .ref mO, .int zs, .ref tO, .ref rdO, .ref lnO, .ref drO, .ref chO])), (rO, .inl (cI, 60, .inl (upd fr (zs.toNatClampNeg) p0))), (mO, .inl (cI, 60, .inl (upd fm (zs.toNatClampNeg) (-1))))] H := hP
        have hD : va_D A [(h0, .inr (4, [.ref kO, .ref nO, .ref rO, .ref mO, .int zs, .ref tO, .ref rdO, .ref lnO, .ref drO, .ref chO])), (rO, .inl (cI, 60, .inl (upd fr (zs.toNatClampNeg) p0))), (mO, .inl (cI, 60, .inl (upd fm (zs.toNatClampNeg) (-1))))] := hD
        refine lv_aload_n hx hb dX4_word_45 rfl (lv_at hl 0 rfl) ?_
        refine lv_dup hx hb dX4_word_46 rfl ?_
        refine va_get (D := (dC, dI)) (ci := 4) (v := .int zs) (C := RX4) (T := TX4) (N := 10) hx hb hts i4 hown hK hP 0 rfl rfl 4 (by decide) (hts (.fieldLink RX4 74 "StopSetter" "size" "I") (by decide +kernel)) (fun _ h9 => h9) rfl dX4_word_47 ?_
        refine lv_iconst (v := 1) hx hb dX4_word_50 (by decide) ?_
        refine lv_iadd hx hb dX4_word_51 ?_
        refine lv_topi (fun v_ ev_ => ?_)
        obtain rfl : v_ = (zs + 1) := ev_.trans (rfl)
        refine va_put (D := (dC, dI)) (ci := 4) (v := .int (zs + 1)) (ty := tyX4 4) (C := RX4) (T := TX4) (N := 10) hx hb hts i4 tyX4 tyX4_ok nmX4 hown hK hP hD hS 0 rfl rfl 4 (by decide) (hts (.fieldLink RX4 74 "StopSetter" "size" "I") (by decide +kernel)) (fun _ h9 => h9) rfl (by decide +kernel) rfl rfl (Nat.le_of_ble_eq_true rfl) dX4_word_52 (fun H locs hP hD hS => ?_)
        have hP : va_P (dC, dI) vwCl [(h0, .inr (4, [.ref kO, .ref nO, .ref rO, .ref mO, .int (zs + 1), .ref tO, .ref rdO, .ref lnO, .ref drO, .ref chO])), (rO, .inl (cI, 60, .inl (upd fr (zs.toNatClampNeg) p0))), (mO, .inl (cI, 60, .inl (upd fm (zs.toNatClampNeg) (-1))))] H := hP
        have hD : va_D A [(h0, .inr (4, [.ref kO, .ref nO, .ref rO, .ref mO, .int (zs + 1), .ref tO, .ref rdO, .ref lnO, .ref drO, .ref chO])), (rO, .inl (cI, 60, .inl (upd fr (zs.toNatClampNeg) p0))), (mO, .inl (cI, 60, .inl (upd fm (zs.toNatClampNeg) (-1))))] := hD
        refine lv_aload_n hx hb dX4_word_55 rfl (lv_at hl 0 rfl) ?_
        refine va_get (D := (dC, dI)) (ci := 4) (v := .int (zs + 1)) (C := RX4) (T := TX4) (N := 10) hx hb hts i4 hown hK hP 0 rfl rfl 4 (by decide) (hts (.fieldLink RX4 74 "StopSetter" "size" "I") (by decide +kernel)) (fun _ h9 => h9) rfl dX4_word_56 ?_
        have hP9 := hP.sub (ws' := [(h0, .inr (4, [.ref kO, .ref nO, .ref rO, .ref mO, .int (zs + 1), .ref tO, .ref rdO, .ref lnO, .ref drO, .ref chO])), (rO, .inl (cI, 60, .inl (upd fr (zs.toNatClampNeg) p0))), (mO, .inl (cI, 60, .inl (upd fm (zs.toNatClampNeg) (-1))))]) [0, 1, 2] rfl
        have hD9 := hD.sub (ws' := [(h0, .inr (4, [.ref kO, .ref nO, .ref rO, .ref mO, .int (zs + 1), .ref tO, .ref rdO, .ref lnO, .ref drO, .ref chO])), (rO, .inl (cI, 60, .inl (upd fr (zs.toNatClampNeg) p0))), (mO, .inl (cI, 60, .inl (upd fm (zs.toNatClampNeg) (-1))))]) [0, 1, 2] (by decide) rfl
        have hens0 : (zs + 1) = wdZ p0 zs := (by simp only [wdZ, if_neg c_4, if_neg c_11, if_pos c_20])
        have hens1 : (upd fm (zs.toNatClampNeg) (-1)) = if wdR p0 zs = -1 then fm else upd fm zs.toNatClampNeg (-1) := (by rw [if_neg (show ¬ wdR p0 zs = -1 from fun z9 => wd_ne c_11 c_20 ((show zs + 1 = wdR p0 zs from (by simp only [wdR, if_neg c_4, if_neg c_11, if_pos c_20])).trans z9))])
        have hens2 : (upd fr (zs.toNatClampNeg) p0) = if wdR p0 zs = -1 then fr else upd fr zs.toNatClampNeg p0 := (by rw [if_neg (show ¬ wdR p0 zs = -1 from fun z9 => wd_ne c_11 c_20 ((show zs + 1 = wdR p0 zs from (by simp only [wdR, if_neg c_4, if_neg c_11, if_pos c_20])).trans z9))])
        exact W.iret (v := (zs + 1)) hx hb hr (fun t ht hW => ⟨⟨(zs + 1), ((upd fr (zs.toNatClampNeg) p0), (upd fm (zs.toNatClampNeg) (-1)), (zs + 1)), rfl, ⟨(by simp only [wdR, if_neg c_4, if_neg c_11, if_pos c_20]), hens0, hens1, hens2⟩, by rw [ht]; exact hP9, hD9⟩, hS.F ht⟩) hS.2.2 dX4_word_59
      · skip
        refine lv_iconst (v := (-1)) hx hb dX4_word_23 (by decide) ?_
        have hP9 := hP.sub (ws' := [(h0, .inr (4, [.ref kO, .ref nO, .ref rO, .ref mO, .int zs, .ref tO, .ref rdO, .ref lnO, .ref drO, .ref chO])), (rO, .inl (cI, 60, .inl fr)), (mO, .inl (cI, 60, .inl fm))]) [0, 1, 2] rfl
        have hD9 := hD.sub (ws' := [(h0, .inr (4, [.ref kO, .ref nO, .ref rO, .ref mO, .int zs, .ref tO, .ref rdO, .ref lnO, .ref drO, .ref chO])), (rO, .inl (cI, 60, .inl fr)), (mO, .inl (cI, 60, .inl fm))]) [0, 1, 2] (by decide) rfl
        have hens0 : zs = wdZ p0 zs := (by simp only [wdZ, if_neg c_4, if_neg c_11, if_neg c_20])
        have hens1 : fm = if wdR p0 zs = -1 then fm else upd fm zs.toNatClampNeg (-1) := (by rw [show wdR p0 zs = -1 from (by simp only [wdR, if_neg c_4, if_neg c_11, if_neg c_20]), if_pos rfl])
        have hens2 : fr = if wdR p0 zs = -1 then fr else upd fr zs.toNatClampNeg p0 := (by rw [show wdR p0 zs = -1 from (by simp only [wdR, if_neg c_4, if_neg c_11, if_neg c_20]), if_pos rfl])
        exact W.iret (v := (-1)) hx hb hr (fun t ht hW => ⟨⟨(-1), (fr, fm, zs), rfl, ⟨(by simp only [wdR, if_neg c_4, if_neg c_11, if_neg c_20]), hens0, hens1, hens2⟩, by rw [ht]; exact hP9, hD9⟩, hS.F ht⟩) hS.2.2 dX4_word_24
set_option maxHeartbeats 4000000 in
set_option maxRecDepth 100000 in
theorem k_feed (l : Launch) (dC : Nat → ClassId) (dI : Nat → Nat → Nat) (cI cZ cC cJ : ClassId) (sz : Nat) (h0 : Nat) (kO : Nat) (nO : Nat) (rO : Nat) (mO : Nat) (zs : Int32) (tO : Nat) (rdO : Nat) (lnO : Nat) (drO : Nat) (chO : Nat) (sA : Nat) (tl : Int32) (fs : Nat → Int32) (q0 : Int64) (q1 : Int64) (q2 : Int64)  : Met l yX4_feed wsX4_feed ({ frames := 2, cells := 0, slots := 0, locals := 45 }) (va_Pc [.ref h0, .long q0, .long q1, .long q2] (sPre dC dI cI cZ cC cJ [(h0, .inr (4, [.ref kO, .ref nO, .ref rO, .ref mO, .int zs, .ref tO, .ref rdO, .ref lnO, .ref drO, .ref chO])), (tO, .inr (3, [.ref sA, .int tl])), (sA, .inl (cC, 1600, .inl fs))] sz)) (va_Qi (fun (r : Int32) (u : (Int32) × (Nat → Int32)) => match u with | (tl2, fs2) => ((r : Int32) = sgFI (byU q2) ks8 (sgFI (byU q1) ks8 (sgFI (byU q0) ks8 tl))) ∧ (tl2 = sgFI (byU q2) ks8 (sgFI (byU q1) ks8 (sgFI (byU q0) ks8 tl))) ∧ (fs2 = fdF q0 q1 q2 fs tl)) (fun (u : (Int32) × (Nat → Int32)) t => match u with | (tl2, fs2) => sB dC dI (va_A [(h0, .inr (4, [.ref kO, .ref nO, .ref rO, .ref mO, .int zs, .ref tO, .ref rdO, .ref lnO, .ref drO, .ref chO])), (tO, .inr (3, [.ref sA, .int tl])), (sA, .inl (cC, 1600, .inl fs))] sz) [(h0, .inr (4, [.ref kO, .ref nO, .ref rO, .ref mO, .int zs, .ref tO, .ref rdO, .ref lnO, .ref drO, .ref chO])), (tO, .inr (3, [.ref sA, .int tl2])), (sA, .inl (cC, 1600, .inl fs2))] t) (va_A [(h0, .inr (4, [.ref kO, .ref nO, .ref rO, .ref mO, .int zs, .ref tO, .ref rdO, .ref lnO, .ref drO, .ref chO])), (tO, .inr (3, [.ref sA, .int tl])), (sA, .inl (cC, 1600, .inl fs))] sz)) 0 0 (va_A [(h0, .inr (4, [.ref kO, .ref nO, .ref rO, .ref mO, .int zs, .ref tO, .ref rdO, .ref lnO, .ref drO, .ref chO])), (tO, .inr (3, [.ref sA, .int tl])), (sA, .inl (cC, 1600, .inl fs))] sz) := by
  refine Met.ofW (cc := cX4_feed) (maxL := 7) (ret := (some .int)) (by decide) rfl ?_
  intro p e s m args below meth c s₁ B hml hv
  obtain ⟨rfl, hsz, hP, hsk, hD0⟩ := hv
  have hx := B.exec
  have hb := B.bytes
  have hr := B.returns
  have hts := atoms_spec (ws := wsX4_feed) B.pre
  have hown : s.vm.findClass RX4 = some m.cls := findClass_of_methodNamed B.named
  have hlocks := B.notSynchronized
  have hK := hsk.1
  have i3 : ∀ w ∈ wsX30, w ∈ wsX4_feed := by decide +kernel
  have i4 : ∀ w ∈ wsX40, w ∈ wsX4_feed := by decide +kernel
  subst hsz
  have hD := hD0.self (sz := s.heap.size)
  generalize hAe : va_A [(h0, .inr (4, [.ref kO, .ref nO, .ref rO, .ref mO, .int zs, .ref tO, .ref rdO, .ref lnO, .ref drO, .ref chO])), (tO, .inr (3, [.ref sA, .int tl])), (sA, .inl (cC, 1600, .inl fs))] s.heap.size = A at hD ⊢
  have hA : ∀ q : Nat, s.heap.size ≤ q → A q := fun q h => by rw [← hAe]; exact Or.inr h
  have hS : va_S A s.heap s.heap [] := va_S.rf
  have hl := lv_entry ([.ref h0, .long q0, .long q1, .long q2]) (n := 7) (Nat.le_of_ble_eq_true rfl)
  rw [lg_entry_eq]
  generalize (lg_sl ([.ref h0, .long q0, .long q1, .long q2]) ++ List.replicate (7 - (lg_sl ([.ref h0, .long q0, .long q1, .long q2])).length) Slot.unset).toArray = ls at hl ⊢
  have hl : lv_has ls 7 [(0, .ref h0), (1, .long q0), (3, .long q1), (5, .long q2)] := hl
  refine lv_aload_n hx hb dX4_feed_0 rfl (lv_at hl 0 rfl) ?_
  refine va_get (D := (dC, dI)) (ci := 4) (v := .ref tO) (C := RX4) (T := TX4) (N := 10) hx hb hts i4 hown hK hP 0 rfl rfl 5 (by decide) (hts (.fieldLink RX4 26 "StopSetter" "tape" "LStopSetter$Tape;") (by decide +kernel)) (fun _ h9 => h9) rfl dX4_feed_1 ?_
  refine lv_lload_n hx hb dX4_feed_4 rfl (lv_at hl 1 rfl) ?_
  have hPc := hP.sub (ws' := [(tO, .inr (3, [.ref sA, .int tl])), (sA, .inl (cC, 1600, .inl fs))]) [1, 2] rfl
  have hDc := hD.sub (ws' := [(tO, .inr (3, [.ref sA, .int tl])), (sA, .inl (cC, 1600, .inl fs))]) [1, 2] (by decide) rfl
  have hFc := va_free (wc := [(tO, .inr (3, [.ref sA, .int tl])), (sA, .inl (cC, 1600, .inl fs))]) hD hS hA [1, 2] rfl
  refine va_callv (va_runV (As := [.long q0]) (rest := []) ⟨hx, hb, hml, hown, hts⟩ (k_addBytes l dC dI cI cZ cC cJ s.heap.size  tO sA tl fs q0 ) (cwV 1 hts gX4_feed_X3_addBytes rfl rfl rfl (by decide +kernel) ⟨Nat.le_of_ble_eq_true rfl, Nat.le_of_ble_eq_true rfl⟩) ⟨sPre_blind, va_recv hK hPc (ci := 3) (q0 := 0) rfl rfl, fun U hU hW => ⟨rfl, sPre_ok hsk hPc hDc hU hW⟩⟩ rfl rfl hl.1 rfl (lv_room (Nat.le_of_ble_eq_true rfl)) dX4_feed_5 ⟨(show 0 + 0 ≤ 0 by omega), (show 0 + 0 ≤ 0 by omega)⟩) hS (fun q _ h => hFc q h) hFc (fun u t H1 locs ht hvm hw hB hz1 hk1 hS => ?_)
  obtain ⟨t_2, f_3⟩ := u
  try dsimp only at hw hB
  obtain ⟨he_4, he_5⟩ := hw
  have he_4 : t_2 = sgFI (byU q0) ks8 tl := he_4
  have he_5 : f_3 = sgCF (byU q0) ks8 fs tl := he_5
  obtain ⟨hP1, hD1⟩ := hB
  rw [ht] at hP1
  obtain ⟨hP, hD⟩ := va_join (wr := [(h0, .inr (4, [.ref kO, .ref nO, .ref rO, .ref mO, .int zs, .ref tO, .ref rdO, .ref lnO, .ref drO, .ref chO]))]) (w1 := [(tO, .inr (3, [.ref sA, .int t_2])), (sA, .inl (cC, 1600, .inl f_3))]) hP hD [1, 2] [0] rfl rfl (by decide) (by decide) hk1 hFc hP1 hD1
  generalize H1 = H at hP hS ⊢
  have hP : va_P (dC, dI) vwCl [(h0, .inr (4, [.ref kO, .ref nO, .ref rO, .ref mO, .int zs, .ref tO, .ref rdO, .ref lnO, .ref drO, .ref chO])), (tO, .inr (3, [.ref sA, .int t_2])), (sA, .inl (cC, 1600, .inl f_3))] H := hP
  have hD : va_D A [(h0, .inr (4, [.ref kO, .ref nO, .ref rO, .ref mO, .int zs, .ref tO, .ref rdO, .ref lnO, .ref drO, .ref chO])), (tO, .inr (3, [.ref sA, .int t_2])), (sA, .inl (cC, 1600, .inl f_3))] := hD
  refine lv_aload_n hx hb dX4_feed_8 rfl (lv_at hl 0 rfl) ?_
  refine va_get (D := (dC, dI)) (ci := 4) (v := .ref tO) (C := RX4) (T := TX4) (N := 10) hx hb hts i4 hown hK hP 0 rfl rfl 5 (by decide) (hts (.fieldLink RX4 26 "StopSetter" "tape" "LStopSetter$Tape;") (by decide +kernel)) (fun _ h9 => h9) rfl dX4_feed_9 ?_
  refine lv_lload_n hx hb dX4_feed_12 rfl (lv_at hl 2 rfl) ?_
  have hPc := hP.sub (ws' := [(tO, .inr (3, [.ref sA, .int t_2])), (sA, .inl (cC, 1600, .inl f_3))]) [1, 2] rfl
  have hDc := hD.sub (ws' := [(tO, .inr (3, [.ref sA, .int t_2])), (sA, .inl (cC, 1600, .inl f_3))]) [1, 2] (by decide) rfl
  have hFc := va_free (wc := [(tO, .inr (3, [.ref sA, .int t_2])), (sA, .inl (cC, 1600, .inl f_3))]) hD hS hA [1, 2] rfl
  refine va_callv (va_runV (As := [.long q1]) (rest := []) ⟨hx, hb, hml, hown, hts⟩ (k_addBytes l dC dI cI cZ cC cJ H.size  tO sA t_2 f_3 q1 ) (cwV 1 hts gX4_feed_X3_addBytes rfl rfl rfl (by decide +kernel) ⟨Nat.le_of_ble_eq_true rfl, Nat.le_of_ble_eq_true rfl⟩) ⟨sPre_blind, va_recv hK hPc (ci := 3) (q0 := 0) rfl rfl, fun U hU hW => ⟨rfl, sPre_ok hsk hPc hDc hU hW⟩⟩ rfl rfl hl.1 rfl (lv_room (Nat.le_of_ble_eq_true rfl)) dX4_feed_13 ⟨(show 0 + 0 ≤ 0 by omega), (show 0 + 0 ≤ 0 by omega)⟩) hS (fun q _ h => hFc q h) hFc (fun u t H1 locs ht hvm hw hB hz1 hk1 hS => ?_)
  obtain ⟨t_7, f_8⟩ := u
  try dsimp only at hw hB
  obtain ⟨he_9, he_10⟩ := hw
  have he_9 : t_7 = sgFI (byU q1) ks8 t_2 := he_9
  have he_10 : f_8 = sgCF (byU q1) ks8 f_3 t_2 := he_10
  obtain ⟨hP1, hD1⟩ := hB
  rw [ht] at hP1
  obtain ⟨hP, hD⟩ := va_join (wr := [(h0, .inr (4, [.ref kO, .ref nO, .ref rO, .ref mO, .int zs, .ref tO, .ref rdO, .ref lnO, .ref drO, .ref chO]))]) (w1 := [(tO, .inr (3, [.ref sA, .int t_7])), (sA, .inl (cC, 1600, .inl f_8))]) hP hD [1, 2] [0] rfl rfl (by decide) (by decide) hk1 hFc hP1 hD1
  generalize H1 = H at hP hS ⊢
  have hP : va_P (dC, dI) vwCl [(h0, .inr (4, [.ref kO, .ref nO, .ref rO, .ref mO, .int zs, .ref tO, .ref rdO, .ref lnO, .ref drO, .ref chO])), (tO, .inr (3, [.ref sA, .int t_7])), (sA, .inl (cC, 1600, .inl f_8))] H := hP
  have hD : va_D A [(h0, .inr (4, [.ref kO, .ref nO, .ref rO, .ref mO, .int zs, .ref tO, .ref rdO, .ref lnO, .ref drO, .ref chO])), (tO, .inr (3, [.ref sA, .int t_7])), (sA, .inl (cC, 1600, .inl f_8))] := hD
  refine lv_aload_n hx hb dX4_feed_16 rfl (lv_at hl 0 rfl) ?_
  refine va_get (D := (dC, dI)) (ci := 4) (v := .ref tO) (C := RX4) (T := TX4) (N := 10) hx hb hts i4 hown hK hP 0 rfl rfl 5 (by decide) (hts (.fieldLink RX4 26 "StopSetter" "tape" "LStopSetter$Tape;") (by decide +kernel)) (fun _ h9 => h9) rfl dX4_feed_17 ?_
  refine lv_lload hx hb dX4_feed_20 (lv_at hl 3 rfl) ?_
  have hPc := hP.sub (ws' := [(tO, .inr (3, [.ref sA, .int t_7])), (sA, .inl (cC, 1600, .inl f_8))]) [1, 2] rfl
  have hDc := hD.sub (ws' := [(tO, .inr (3, [.ref sA, .int t_7])), (sA, .inl (cC, 1600, .inl f_8))]) [1, 2] (by decide) rfl
  have hFc := va_free (wc := [(tO, .inr (3, [.ref sA, .int t_7])), (sA, .inl (cC, 1600, .inl f_8))]) hD hS hA [1, 2] rfl
  refine va_callv (va_runV (As := [.long q2]) (rest := []) ⟨hx, hb, hml, hown, hts⟩ (k_addBytes l dC dI cI cZ cC cJ H.size  tO sA t_7 f_8 q2 ) (cwV 1 hts gX4_feed_X3_addBytes rfl rfl rfl (by decide +kernel) ⟨Nat.le_of_ble_eq_true rfl, Nat.le_of_ble_eq_true rfl⟩) ⟨sPre_blind, va_recv hK hPc (ci := 3) (q0 := 0) rfl rfl, fun U hU hW => ⟨rfl, sPre_ok hsk hPc hDc hU hW⟩⟩ rfl rfl hl.1 rfl (lv_room (Nat.le_of_ble_eq_true rfl)) dX4_feed_22 ⟨(show 0 + 0 ≤ 0 by omega), (show 0 + 0 ≤ 0 by omega)⟩) hS (fun q _ h => hFc q h) hFc (fun u t H1 locs ht hvm hw hB hz1 hk1 hS => ?_)
  obtain ⟨t_12, f_13⟩ := u
  try dsimp only at hw hB
  obtain ⟨he_14, he_15⟩ := hw
  have he_14 : t_12 = sgFI (byU q2) ks8 t_7 := he_14
  have he_15 : f_13 = sgCF (byU q2) ks8 f_8 t_7 := he_15
  obtain ⟨hP1, hD1⟩ := hB
  rw [ht] at hP1
  obtain ⟨hP, hD⟩ := va_join (wr := [(h0, .inr (4, [.ref kO, .ref nO, .ref rO, .ref mO, .int zs, .ref tO, .ref rdO, .ref lnO, .ref drO, .ref chO]))]) (w1 := [(tO, .inr (3, [.ref sA, .int t_12])), (sA, .inl (cC, 1600, .inl f_13))]) hP hD [1, 2] [0] rfl rfl (by decide) (by decide) hk1 hFc hP1 hD1
  generalize H1 = H at hP hS ⊢
  have hP : va_P (dC, dI) vwCl [(h0, .inr (4, [.ref kO, .ref nO, .ref rO, .ref mO, .int zs, .ref tO, .ref rdO, .ref lnO, .ref drO, .ref chO])), (tO, .inr (3, [.ref sA, .int t_12])), (sA, .inl (cC, 1600, .inl f_13))] H := hP
  have hD : va_D A [(h0, .inr (4, [.ref kO, .ref nO, .ref rO, .ref mO, .int zs, .ref tO, .ref rdO, .ref lnO, .ref drO, .ref chO])), (tO, .inr (3, [.ref sA, .int t_12])), (sA, .inl (cC, 1600, .inl f_13))] := hD
  refine lv_aload_n hx hb dX4_feed_25 rfl (lv_at hl 0 rfl) ?_
  refine va_get (D := (dC, dI)) (ci := 4) (v := .ref tO) (C := RX4) (T := TX4) (N := 10) hx hb hts i4 hown hK hP 0 rfl rfl 5 (by decide) (hts (.fieldLink RX4 26 "StopSetter" "tape" "LStopSetter$Tape;") (by decide +kernel)) (fun _ h9 => h9) rfl dX4_feed_26 ?_
  refine va_getN (D := (dC, dI)) (ci := 3) (v := .int t_12) (C := RX3) (T := TX3) (N := 2) hx hb hts i3 hown hK hP 1 rfl rfl 1 (by decide) (va_Nw.use rfl (hsk.2.1 ("StopSetter", 85, "StopSetter$Tape", "length", "I", "StopSetter") (by decide +kernel))) (fun _ h9 => h9) rfl dX4_feed_29 ?_
  have hP9 := hP.sub (ws' := [(h0, .inr (4, [.ref kO, .ref nO, .ref rO, .ref mO, .int zs, .ref tO, .ref rdO, .ref lnO, .ref drO, .ref chO])), (tO, .inr (3, [.ref sA, .int t_12])), (sA, .inl (cC, 1600, .inl f_13))]) [0, 1, 2] rfl
  have hD9 := hD.sub (ws' := [(h0, .inr (4, [.ref kO, .ref nO, .ref rO, .ref mO, .int zs, .ref tO, .ref rdO, .ref lnO, .ref drO, .ref chO])), (tO, .inr (3, [.ref sA, .int t_12])), (sA, .inl (cC, 1600, .inl f_13))]) [0, 1, 2] (by decide) rfl
  have hens0 : (t_12 : Int32) = sgFI (byU q2) ks8 (sgFI (byU q1) ks8 (sgFI (byU q0) ks8 tl)) := (by rw [he_14, he_9, he_4])
  have hens1 : t_12 = sgFI (byU q2) ks8 (sgFI (byU q1) ks8 (sgFI (byU q0) ks8 tl)) := (by rw [he_14, he_9, he_4])
  have hens2 : f_13 = fdF q0 q1 q2 fs tl := (by rw [he_15, he_10, he_9, he_5, he_4]; rfl)
  exact W.iret (v := t_12) hx hb hr (fun t ht hW => ⟨⟨t_12, (t_12, f_13), rfl, ⟨hens0, hens1, hens2⟩, by rw [ht]; exact hP9, hD9⟩, hS.F ht⟩) hS.2.2 dX4_feed_32
set_option maxHeartbeats 4000000 in
set_option maxRecDepth 100000 in
theorem k_go (l : Launch) (dC : Nat → ClassId) (dI : Nat → Nat → Nat) (cI cZ cC cJ : ClassId) (sz : Nat) (h0 : Nat) (kO : Nat) (nO : Nat) (rO : Nat) (mO : Nat) (zs : Int32) (tO : Nat) (rdO : Nat) (lnO : Nat) (drO : Nat) (chO : Nat) (gF : Nat) (gK : Nat) (gT : Nat) (gC : Nat) (gM : Nat) (gc : Int32) (eF : Nat) (eC : Nat) (eM : Nat) (ec : Int32) (hopA : Nat) (fgF : Nat → Int32) (fgK : Nat → Int32) (fgT : Nat → Int32) (fgC : Nat → Int32) (fgM : Nat → Int32) (p0 : Int32) (p1 : Int32)  : Met l yX4_go wsX4_go ({ frames := 1, cells := 0, slots := 0, locals := 21 }) (va_Pc [.ref h0, .int p0, .int p1] (sPre dC dI cI cZ cC cJ [(h0, .inr (4, [.ref kO, .ref nO, .ref rO, .ref mO, .int zs, .ref tO, .ref rdO, .ref lnO, .ref drO, .ref chO])), (lnO, .inr (1, [.ref gF, .ref gK, .ref gT, .ref gC, .ref gM, .int gc, .ref eF, .ref eC, .ref eM, .int ec, .ref hopA])), (gF, .inl (cI, 40, .inl fgF)), (gK, .inl (cI, 40, .inl fgK)), (gT, .inl (cI, 40, .inl fgT)), (gC, .inl (cI, 40, .inl fgC)), (gM, .inl (cI, 40, .inl fgM))] sz)) (va_Qi (fun (r : Int32) (u : Unit) => r = goC gc fgF fgK fgT fgC fgM p0 p1) (fun _ => sB dC dI (va_A [(h0, .inr (4, [.ref kO, .ref nO, .ref rO, .ref mO, .int zs, .ref tO, .ref rdO, .ref lnO, .ref drO, .ref chO])), (lnO, .inr (1, [.ref gF, .ref gK, .ref gT, .ref gC, .ref gM, .int gc, .ref eF, .ref eC, .ref eM, .int ec, .ref hopA])), (gF, .inl (cI, 40, .inl fgF)), (gK, .inl (cI, 40, .inl fgK)), (gT, .inl (cI, 40, .inl fgT)), (gC, .inl (cI, 40, .inl fgC)), (gM, .inl (cI, 40, .inl fgM))] sz) [(h0, .inr (4, [.ref kO, .ref nO, .ref rO, .ref mO, .int zs, .ref tO, .ref rdO, .ref lnO, .ref drO, .ref chO])), (lnO, .inr (1, [.ref gF, .ref gK, .ref gT, .ref gC, .ref gM, .int gc, .ref eF, .ref eC, .ref eM, .int ec, .ref hopA])), (gF, .inl (cI, 40, .inl fgF)), (gK, .inl (cI, 40, .inl fgK)), (gT, .inl (cI, 40, .inl fgT)), (gC, .inl (cI, 40, .inl fgC)), (gM, .inl (cI, 40, .inl fgM))]) (va_A [(h0, .inr (4, [.ref kO, .ref nO, .ref rO, .ref mO, .int zs, .ref tO, .ref rdO, .ref lnO, .ref drO, .ref chO])), (lnO, .inr (1, [.ref gF, .ref gK, .ref gT, .ref gC, .ref gM, .int gc, .ref eF, .ref eC, .ref eM, .int ec, .ref hopA])), (gF, .inl (cI, 40, .inl fgF)), (gK, .inl (cI, 40, .inl fgK)), (gT, .inl (cI, 40, .inl fgT)), (gC, .inl (cI, 40, .inl fgC)), (gM, .inl (cI, 40, .inl fgM))] sz)) 0 0 (va_A [(h0, .inr (4, [.ref kO, .ref nO, .ref rO, .ref mO, .int zs, .ref tO, .ref rdO, .ref lnO, .ref drO, .ref chO])), (lnO, .inr (1, [.ref gF, .ref gK, .ref gT, .ref gC, .ref gM, .int gc, .ref eF, .ref eC, .ref eM, .int ec, .ref hopA])), (gF, .inl (cI, 40, .inl fgF)), (gK, .inl (cI, 40, .inl fgK)), (gT, .inl (cI, 40, .inl fgT)), (gC, .inl (cI, 40, .inl fgC)), (gM, .inl (cI, 40, .inl fgM))] sz) := by
  refine Met.ofW (cc := cX4_go) (maxL := 3) (ret := (some .int)) (by decide) rfl ?_
  intro p e s m args below meth c s₁ B hml hv
  obtain ⟨rfl, hsz, hP, hsk, hD0⟩ := hv
  have hx := B.exec
  have hb := B.bytes
  have hr := B.returns
  have hts := atoms_spec (ws := wsX4_go) B.pre
  have hown : s.vm.findClass RX4 = some m.cls := findClass_of_methodNamed B.named
  have hlocks := B.notSynchronized
  have hK := hsk.1
  have i1 : ∀ w ∈ wsX10, w ∈ wsX4_go := by decide +kernel
  have i4 : ∀ w ∈ wsX40, w ∈ wsX4_go := by decide +kernel
  subst hsz
  have hD := hD0.self (sz := s.heap.size)
  generalize hAe : va_A [(h0, .inr (4, [.ref kO, .ref nO, .ref rO, .ref mO, .int zs, .ref tO, .ref rdO, .ref lnO, .ref drO, .ref chO])), (lnO, .inr (1, [.ref gF, .ref gK, .ref gT, .ref gC, .ref gM, .int gc, .ref eF, .ref eC, .ref eM, .int ec, .ref hopA])), (gF, .inl (cI, 40, .inl fgF)), (gK, .inl (cI, 40, .inl fgK)), (gT, .inl (cI, 40, .inl fgT)), (gC, .inl (cI, 40, .inl fgC)), (gM, .inl (cI, 40, .inl fgM))] s.heap.size = A at hD ⊢
  have hA : ∀ q : Nat, s.heap.size ≤ q → A q := fun q h => by rw [← hAe]; exact Or.inr h
  have hS : va_S A s.heap s.heap [] := va_S.rf
  have hl := lv_entry ([.ref h0, .int p0, .int p1]) (n := 3) (Nat.le_of_ble_eq_true rfl)
  rw [lg_entry_eq]
  generalize (lg_sl ([.ref h0, .int p0, .int p1]) ++ List.replicate (3 - (lg_sl ([.ref h0, .int p0, .int p1])).length) Slot.unset).toArray = ls at hl ⊢
  have hl : lv_has ls 3 [(0, .ref h0), (1, .int p0), (2, .int p1)] := hl
  refine lv_aload_n hx hb dX4_go_0 rfl (lv_at hl 0 rfl) ?_
  refine va_get (D := (dC, dI)) (ci := 4) (v := .ref lnO) (C := RX4) (T := TX4) (N := 10) hx hb hts i4 hown hK hP 0 rfl rfl 7 (by decide) (hts (.fieldLink RX4 42 "StopSetter" "lines" "LStopSetter$Grammar;") (by decide +kernel)) (fun _ h9 => h9) rfl dX4_go_1 ?_
  refine lv_iload_n hx hb dX4_go_4 rfl (lv_at hl 1 rfl) ?_
  have hPc := hP.sub (ws' := [(lnO, .inr (1, [.ref gF, .ref gK, .ref gT, .ref gC, .ref gM, .int gc, .ref eF, .ref eC, .ref eM, .int ec, .ref hopA]))]) [1] rfl
  have hDc := hD.sub (ws' := [(lnO, .inr (1, [.ref gF, .ref gK, .ref gT, .ref gC, .ref gM, .int gc, .ref eF, .ref eC, .ref eM, .int ec, .ref hopA]))]) [1] (by decide) rfl
  have hFc := va_free (wc := [(lnO, .inr (1, [.ref gF, .ref gK, .ref gT, .ref gC, .ref gM, .int gc, .ref eF, .ref eC, .ref eM, .int ec, .ref hopA]))]) hD hS hA [1] rfl
  refine va_calli (va_runV (As := [.int p0]) (rest := []) ⟨hx, hb, hml, hown, hts⟩ (k_hasGo l dC dI cI cZ cC cJ s.heap.size  lnO gF gK gT gC gM gc eF eC eM ec hopA p0 ) (cwV 1 hts gX4_go_X1_hasGo rfl rfl rfl (by decide +kernel) ⟨Nat.le_of_ble_eq_true rfl, Nat.le_of_ble_eq_true rfl⟩) ⟨sPre_blind, va_recv hK hPc (ci := 1) (q0 := 0) rfl rfl, fun U hU hW => ⟨rfl, sPre_ok hsk hPc hDc hU hW⟩⟩ rfl rfl hl.1 rfl (lv_room (Nat.le_of_ble_eq_true rfl)) dX4_go_5 ⟨(show 0 + 0 ≤ 0 by omega), (show 0 + 0 ≤ 0 by omega)⟩) hS (fun q _ h => hFc q h) hFc (fun r_1 u t H1 locs ht hvm hw hB hz1 hk1 hS => ?_)
  try dsimp only at hw hB
  have hw_2 := hw
  obtain rfl : r_1 = bnd 40 p0 gc := hw_2
  obtain ⟨hP1, hD1⟩ := hB
  rw [ht] at hP1
  obtain ⟨hP, hD⟩ := va_join (wr := [(h0, .inr (4, [.ref kO, .ref nO, .ref rO, .ref mO, .int zs, .ref tO, .ref rdO, .ref lnO, .ref drO, .ref chO])), (gF, .inl (cI, 40, .inl fgF)), (gK, .inl (cI, 40, .inl fgK)), (gT, .inl (cI, 40, .inl fgT)), (gC, .inl (cI, 40, .inl fgC)), (gM, .inl (cI, 40, .inl fgM))]) (w1 := [(lnO, .inr (1, [.ref gF, .ref gK, .ref gT, .ref gC, .ref gM, .int gc, .ref eF, .ref eC, .ref eM, .int ec, .ref hopA]))]) hP hD [1] [0, 2, 3, 4, 5, 6] rfl rfl (by decide) (by decide) hk1 hFc hP1 hD1
  generalize H1 = H at hP hS ⊢
  have hP : va_P (dC, dI) vwCl [(h0, .inr (4, [.ref kO, .ref nO, .ref rO, .ref mO, .int zs, .ref tO, .ref rdO, .ref lnO, .ref drO, .ref chO])), (gF, .inl (cI, 40, .inl fgF)), (gK, .inl (cI, 40, .inl fgK)), (gT, .inl (cI, 40, .inl fgT)), (gC, .inl (cI, 40, .inl fgC)), (gM, .inl (cI, 40, .inl fgM)), (lnO, .inr (1, [.ref gF, .ref gK, .ref gT, .ref gC, .ref gM, .int gc, .ref eF, .ref eC, .ref eM, .int ec, .ref hopA]))] H := hP
  have hD : va_D A [(h0, .inr (4, [.ref kO, .ref nO, .ref rO, .ref mO, .int zs, .ref tO, .ref rdO, .ref lnO, .ref drO, .ref chO])), (gF, .inl (cI, 40, .inl fgF)), (gK, .inl (cI, 40, .inl fgK)), (gT, .inl (cI, 40, .inl fgT)), (gC, .inl (cI, 40, .inl fgC)), (gM, .inl (cI, 40, .inl fgM)), (lnO, .inr (1, [.ref gF, .ref gK, .ref gT, .ref gC, .ref gM, .int gc, .ref eF, .ref eC, .ref eM, .int ec, .ref hopA]))] := hD
  refine lv_if_ne (tgt := 13) hx hb dX4_go_8 (by decide) (fun c_8 => ?_) (fun c_8 => ?_)
  · skip
    refine lv_iload_n hx hb dX4_go_13 rfl (lv_at hl 2 rfl) ?_
    by_cases e_14_0 : p1 = 0
    · skip
      refine lv_tableIn (off := 34) (tgt := 48) hx hb dX4_go_14 (by rw [e_14_0]; decide) (by rw [e_14_0]; decide) (by rw [e_14_0]; rfl) (by decide) ?_
      refine lv_aload_n hx hb dX4_go_48 rfl (lv_at hl 0 rfl) ?_
      refine va_get (D := (dC, dI)) (ci := 4) (v := .ref lnO) (C := RX4) (T := TX4) (N := 10) hx hb hts i4 hown hK hP 0 rfl rfl 7 (by decide) (hts (.fieldLink RX4 42 "StopSetter" "lines" "LStopSetter$Grammar;") (by decide +kernel)) (fun _ h9 => h9) rfl dX4_go_49 ?_
      refine va_getN (D := (dC, dI)) (ci := 1) (v := .ref gF) (C := RX1) (T := TX1) (N := 11) hx hb hts i1 hown hK hP 6 rfl rfl 0 (by decide) (va_Nw.use rfl (hsk.2.1 ("StopSetter", 156, "StopSetter$Grammar", "goFrom", "[I", "StopSetter") (by decide +kernel))) (fun _ h9 => h9) rfl dX4_go_52 ?_
      refine lv_iload_n hx hb dX4_go_55 rfl (lv_at hl 1 rfl) ?_
      refine va_iald hx hb hK hP 1 0 rfl rfl (bnd_in (M := 40) rfl c_8) dX4_go_56 ?_
      have hP9 := hP.sub (ws' := [(h0, .inr (4, [.ref kO, .ref nO, .ref rO, .ref mO, .int zs, .ref tO, .ref rdO, .ref lnO, .ref drO, .ref chO])), (lnO, .inr (1, [.ref gF, .ref gK, .ref gT, .ref gC, .ref gM, .int gc, .ref eF, .ref eC, .ref eM, .int ec, .ref hopA])), (gF, .inl (cI, 40, .inl fgF)), (gK, .inl (cI, 40, .inl fgK)), (gT, .inl (cI, 40, .inl fgT)), (gC, .inl (cI, 40, .inl fgC)), (gM, .inl (cI, 40, .inl fgM))]) [0, 6, 1, 2, 3, 4, 5] rfl
      have hD9 := hD.sub (ws' := [(h0, .inr (4, [.ref kO, .ref nO, .ref rO, .ref mO, .int zs, .ref tO, .ref rdO, .ref lnO, .ref drO, .ref chO])), (lnO, .inr (1, [.ref gF, .ref gK, .ref gT, .ref gC, .ref gM, .int gc, .ref eF, .ref eC, .ref eM, .int ec, .ref hopA])), (gF, .inl (cI, 40, .inl fgF)), (gK, .inl (cI, 40, .inl fgK)), (gT, .inl (cI, 40, .inl fgT)), (gC, .inl (cI, 40, .inl fgC)), (gM, .inl (cI, 40, .inl fgM))]) [0, 6, 1, 2, 3, 4, 5] (by decide) rfl
      exact W.iret (v := (fgF p0.toNatClampNeg)) hx hb hr (fun t ht hW => ⟨⟨(fgF p0.toNatClampNeg), (), rfl, (by simp only [goC, if_neg c_8, if_pos e_14_0]), by rw [ht]; exact hP9, hD9⟩, hS.F ht⟩) hS.2.2 dX4_go_57
    · skip
      by_cases e_14_1 : p1 = 1
      · skip
        refine lv_tableIn (off := 44) (tgt := 58) hx hb dX4_go_14 (by rw [e_14_1]; decide) (by rw [e_14_1]; decide) (by rw [e_14_1]; rfl) (by decide) ?_
        refine lv_aload_n hx hb dX4_go_58 rfl (lv_at hl 0 rfl) ?_
        refine va_get (D := (dC, dI)) (ci := 4) (v := .ref lnO) (C := RX4) (T := TX4) (N := 10) hx hb hts i4 hown hK hP 0 rfl rfl 7 (by decide) (hts (.fieldLink RX4 42 "StopSetter" "lines" "LStopSetter$Grammar;") (by decide +kernel)) (fun _ h9 => h9) rfl dX4_go_59 ?_
        refine va_getN (D := (dC, dI)) (ci := 1) (v := .ref gK) (C := RX1) (T := TX1) (N := 11) hx hb hts i1 hown hK hP 6 rfl rfl 1 (by decide) (va_Nw.use rfl (hsk.2.1 ("StopSetter", 159, "StopSetter$Grammar", "goKind", "[I", "StopSetter") (by decide +kernel))) (fun _ h9 => h9) rfl dX4_go_62 ?_
        refine lv_iload_n hx hb dX4_go_65 rfl (lv_at hl 1 rfl) ?_
        refine va_iald hx hb hK hP 2 0 rfl rfl (bnd_in (M := 40) rfl c_8) dX4_go_66 ?_
        have hP9 := hP.sub (ws' := [(h0, .inr (4, [.ref kO, .ref nO, .ref rO, .ref mO, .int zs, .ref tO, .ref rdO, .ref lnO, .ref drO, .ref chO])), (lnO, .inr (1, [.ref gF, .ref gK, .ref gT, .ref gC, .ref gM, .int gc, .ref eF, .ref eC, .ref eM, .int ec, .ref hopA])), (gF, .inl (cI, 40, .inl fgF)), (gK, .inl (cI, 40, .inl fgK)), (gT, .inl (cI, 40, .inl fgT)), (gC, .inl (cI, 40, .inl fgC)), (gM, .inl (cI, 40, .inl fgM))]) [0, 6, 1, 2, 3, 4, 5] rfl
        have hD9 := hD.sub (ws' := [(h0, .inr (4, [.ref kO, .ref nO, .ref rO, .ref mO, .int zs, .ref tO, .ref rdO, .ref lnO, .ref drO, .ref chO])), (lnO, .inr (1, [.ref gF, .ref gK, .ref gT, .ref gC, .ref gM, .int gc, .ref eF, .ref eC, .ref eM, .int ec, .ref hopA])), (gF, .inl (cI, 40, .inl fgF)), (gK, .inl (cI, 40, .inl fgK)), (gT, .inl (cI, 40, .inl fgT)), (gC, .inl (cI, 40, .inl fgC)), (gM, .inl (cI, 40, .inl fgM))]) [0, 6, 1, 2, 3, 4, 5] (by decide) rfl
        exact W.iret (v := (fgK p0.toNatClampNeg)) hx hb hr (fun t ht hW => ⟨⟨(fgK p0.toNatClampNeg), (), rfl, (by simp only [goC, if_neg c_8, if_neg e_14_0, if_pos e_14_1]), by rw [ht]; exact hP9, hD9⟩, hS.F ht⟩) hS.2.2 dX4_go_67
      · skip
        by_cases e_14_2 : p1 = 2
        · skip
          refine lv_tableIn (off := 54) (tgt := 68) hx hb dX4_go_14 (by rw [e_14_2]; decide) (by rw [e_14_2]; decide) (by rw [e_14_2]; rfl) (by decide) ?_
          refine lv_aload_n hx hb dX4_go_68 rfl (lv_at hl 0 rfl) ?_
          refine va_get (D := (dC, dI)) (ci := 4) (v := .ref lnO) (C := RX4) (T := TX4) (N := 10) hx hb hts i4 hown hK hP 0 rfl rfl 7 (by decide) (hts (.fieldLink RX4 42 "StopSetter" "lines" "LStopSetter$Grammar;") (by decide +kernel)) (fun _ h9 => h9) rfl dX4_go_69 ?_
          refine va_getN (D := (dC, dI)) (ci := 1) (v := .ref gT) (C := RX1) (T := TX1) (N := 11) hx hb hts i1 hown hK hP 6 rfl rfl 2 (by decide) (va_Nw.use rfl (hsk.2.1 ("StopSetter", 162, "StopSetter$Grammar", "goTo", "[I", "StopSetter") (by decide +kernel))) (fun _ h9 => h9) rfl dX4_go_72 ?_
          refine lv_iload_n hx hb dX4_go_75 rfl (lv_at hl 1 rfl) ?_
          refine va_iald hx hb hK hP 3 0 rfl rfl (bnd_in (M := 40) rfl c_8) dX4_go_76 ?_
          have hP9 := hP.sub (ws' := [(h0, .inr (4, [.ref kO, .ref nO, .ref rO, .ref mO, .int zs, .ref tO, .ref rdO, .ref lnO, .ref drO, .ref chO])), (lnO, .inr (1, [.ref gF, .ref gK, .ref gT, .ref gC, .ref gM, .int gc, .ref eF, .ref eC, .ref eM, .int ec, .ref hopA])), (gF, .inl (cI, 40, .inl fgF)), (gK, .inl (cI, 40, .inl fgK)), (gT, .inl (cI, 40, .inl fgT)), (gC, .inl (cI, 40, .inl fgC)), (gM, .inl (cI, 40, .inl fgM))]) [0, 6, 1, 2, 3, 4, 5] rfl
          have hD9 := hD.sub (ws' := [(h0, .inr (4, [.ref kO, .ref nO, .ref rO, .ref mO, .int zs, .ref tO, .ref rdO, .ref lnO, .ref drO, .ref chO])), (lnO, .inr (1, [.ref gF, .ref gK, .ref gT, .ref gC, .ref gM, .int gc, .ref eF, .ref eC, .ref eM, .int ec, .ref hopA])), (gF, .inl (cI, 40, .inl fgF)), (gK, .inl (cI, 40, .inl fgK)), (gT, .inl (cI, 40, .inl fgT)), (gC, .inl (cI, 40, .inl fgC)), (gM, .inl (cI, 40, .inl fgM))]) [0, 6, 1, 2, 3, 4, 5] (by decide) rfl
          exact W.iret (v := (fgT p0.toNatClampNeg)) hx hb hr (fun t ht hW => ⟨⟨(fgT p0.toNatClampNeg), (), rfl, (by simp only [goC, if_neg c_8, if_neg e_14_0, if_neg e_14_1, if_pos e_14_2]), by rw [ht]; exact hP9, hD9⟩, hS.F ht⟩) hS.2.2 dX4_go_77
        · skip
          by_cases e_14_3 : p1 = 3
          · skip
            refine lv_tableIn (off := 64) (tgt := 78) hx hb dX4_go_14 (by rw [e_14_3]; decide) (by rw [e_14_3]; decide) (by rw [e_14_3]; rfl) (by decide) ?_
            refine lv_aload_n hx hb dX4_go_78 rfl (lv_at hl 0 rfl) ?_
            refine va_get (D := (dC, dI)) (ci := 4) (v := .ref lnO) (C := RX4) (T := TX4) (N := 10) hx hb hts i4 hown hK hP 0 rfl rfl 7 (by decide) (hts (.fieldLink RX4 42 "StopSetter" "lines" "LStopSetter$Grammar;") (by decide +kernel)) (fun _ h9 => h9) rfl dX4_go_79 ?_
            refine va_getN (D := (dC, dI)) (ci := 1) (v := .ref gC) (C := RX1) (T := TX1) (N := 11) hx hb hts i1 hown hK hP 6 rfl rfl 3 (by decide) (va_Nw.use rfl (hsk.2.1 ("StopSetter", 165, "StopSetter$Grammar", "goCost", "[I", "StopSetter") (by decide +kernel))) (fun _ h9 => h9) rfl dX4_go_82 ?_
            refine lv_iload_n hx hb dX4_go_85 rfl (lv_at hl 1 rfl) ?_
            refine va_iald hx hb hK hP 4 0 rfl rfl (bnd_in (M := 40) rfl c_8) dX4_go_86 ?_
            have hP9 := hP.sub (ws' := [(h0, .inr (4, [.ref kO, .ref nO, .ref rO, .ref mO, .int zs, .ref tO, .ref rdO, .ref lnO, .ref drO, .ref chO])), (lnO, .inr (1, [.ref gF, .ref gK, .ref gT, .ref gC, .ref gM, .int gc, .ref eF, .ref eC, .ref eM, .int ec, .ref hopA])), (gF, .inl (cI, 40, .inl fgF)), (gK, .inl (cI, 40, .inl fgK)), (gT, .inl (cI, 40, .inl fgT)), (gC, .inl (cI, 40, .inl fgC)), (gM, .inl (cI, 40, .inl fgM))]) [0, 6, 1, 2, 3, 4, 5] rfl
            have hD9 := hD.sub (ws' := [(h0, .inr (4, [.ref kO, .ref nO, .ref rO, .ref mO, .int zs, .ref tO, .ref rdO, .ref lnO, .ref drO, .ref chO])), (lnO, .inr (1, [.ref gF, .ref gK, .ref gT, .ref gC, .ref gM, .int gc, .ref eF, .ref eC, .ref eM, .int ec, .ref hopA])), (gF, .inl (cI, 40, .inl fgF)), (gK, .inl (cI, 40, .inl fgK)), (gT, .inl (cI, 40, .inl fgT)), (gC, .inl (cI, 40, .inl fgC)), (gM, .inl (cI, 40, .inl fgM))]) [0, 6, 1, 2, 3, 4, 5] (by decide) rfl
            exact W.iret (v := (fgC p0.toNatClampNeg)) hx hb hr (fun t ht hW => ⟨⟨(fgC p0.toNatClampNeg), (), rfl, (by simp only [goC, if_neg c_8, if_neg e_14_0, if_neg e_14_1, if_neg e_14_2, if_pos e_14_3]), by rw [ht]; exact hP9, hD9⟩, hS.F ht⟩) hS.2.2 dX4_go_87
          · skip
            by_cases e_14_4 : p1 = 4
            · skip
              refine lv_tableIn (off := 74) (tgt := 88) hx hb dX4_go_14 (by rw [e_14_4]; decide) (by rw [e_14_4]; decide) (by rw [e_14_4]; rfl) (by decide) ?_
              refine lv_aload_n hx hb dX4_go_88 rfl (lv_at hl 0 rfl) ?_
              refine va_get (D := (dC, dI)) (ci := 4) (v := .ref lnO) (C := RX4) (T := TX4) (N := 10) hx hb hts i4 hown hK hP 0 rfl rfl 7 (by decide) (hts (.fieldLink RX4 42 "StopSetter" "lines" "LStopSetter$Grammar;") (by decide +kernel)) (fun _ h9 => h9) rfl dX4_go_89 ?_
              refine va_getN (D := (dC, dI)) (ci := 1) (v := .ref gM) (C := RX1) (T := TX1) (N := 11) hx hb hts i1 hown hK hP 6 rfl rfl 4 (by decide) (va_Nw.use rfl (hsk.2.1 ("StopSetter", 168, "StopSetter$Grammar", "goMark", "[I", "StopSetter") (by decide +kernel))) (fun _ h9 => h9) rfl dX4_go_92 ?_
              refine lv_iload_n hx hb dX4_go_95 rfl (lv_at hl 1 rfl) ?_
              refine va_iald hx hb hK hP 5 0 rfl rfl (bnd_in (M := 40) rfl c_8) dX4_go_96 ?_
              have hP9 := hP.sub (ws' := [(h0, .inr (4, [.ref kO, .ref nO, .ref rO, .ref mO, .int zs, .ref tO, .ref rdO, .ref lnO, .ref drO, .ref chO])), (lnO, .inr (1, [.ref gF, .ref gK, .ref gT, .ref gC, .ref gM, .int gc, .ref eF, .ref eC, .ref eM, .int ec, .ref hopA])), (gF, .inl (cI, 40, .inl fgF)), (gK, .inl (cI, 40, .inl fgK)), (gT, .inl (cI, 40, .inl fgT)), (gC, .inl (cI, 40, .inl fgC)), (gM, .inl (cI, 40, .inl fgM))]) [0, 6, 1, 2, 3, 4, 5] rfl
              have hD9 := hD.sub (ws' := [(h0, .inr (4, [.ref kO, .ref nO, .ref rO, .ref mO, .int zs, .ref tO, .ref rdO, .ref lnO, .ref drO, .ref chO])), (lnO, .inr (1, [.ref gF, .ref gK, .ref gT, .ref gC, .ref gM, .int gc, .ref eF, .ref eC, .ref eM, .int ec, .ref hopA])), (gF, .inl (cI, 40, .inl fgF)), (gK, .inl (cI, 40, .inl fgK)), (gT, .inl (cI, 40, .inl fgT)), (gC, .inl (cI, 40, .inl fgC)), (gM, .inl (cI, 40, .inl fgM))]) [0, 6, 1, 2, 3, 4, 5] (by decide) rfl
              exact W.iret (v := (fgM p0.toNatClampNeg)) hx hb hr (fun t ht hW => ⟨⟨(fgM p0.toNatClampNeg), (), rfl, (by simp only [goC, if_neg c_8, if_neg e_14_0, if_neg e_14_1, if_neg e_14_2, if_neg e_14_3, if_pos e_14_4]), by rw [ht]; exact hP9, hD9⟩, hS.F ht⟩) hS.2.2 dX4_go_97
            · skip
              refine lv_tableOut (tgt := 98) hx hb dX4_go_14 (by have _ := lv_neT e_14_0 (a := 0) (by decide); have _ := lv_neT e_14_1 (a := 1) (by decide); have _ := lv_neT e_14_2 (a := 2) (by decide); have _ := lv_neT e_14_3 (a := 3) (by decide); have _ := lv_neT e_14_4 (a := 4) (by decide); omega) (by decide) ?_
              refine lv_iconst (v := (-1)) hx hb dX4_go_98 (by decide) ?_
              have hP9 := hP.sub (ws' := [(h0, .inr (4, [.ref kO, .ref nO, .ref rO, .ref mO, .int zs, .ref tO, .ref rdO, .ref lnO, .ref drO, .ref chO])), (lnO, .inr (1, [.ref gF, .ref gK, .ref gT, .ref gC, .ref gM, .int gc, .ref eF, .ref eC, .ref eM, .int ec, .ref hopA])), (gF, .inl (cI, 40, .inl fgF)), (gK, .inl (cI, 40, .inl fgK)), (gT, .inl (cI, 40, .inl fgT)), (gC, .inl (cI, 40, .inl fgC)), (gM, .inl (cI, 40, .inl fgM))]) [0, 6, 1, 2, 3, 4, 5] rfl
              have hD9 := hD.sub (ws' := [(h0, .inr (4, [.ref kO, .ref nO, .ref rO, .ref mO, .int zs, .ref tO, .ref rdO, .ref lnO, .ref drO, .ref chO])), (lnO, .inr (1, [.ref gF, .ref gK, .ref gT, .ref gC, .ref gM, .int gc, .ref eF, .ref eC, .ref eM, .int ec, .ref hopA])), (gF, .inl (cI, 40, .inl fgF)), (gK, .inl (cI, 40, .inl fgK)), (gT, .inl (cI, 40, .inl fgT)), (gC, .inl (cI, 40, .inl fgC)), (gM, .inl (cI, 40, .inl fgM))]) [0, 6, 1, 2, 3, 4, 5] (by decide) rfl
              exact W.iret (v := (-1)) hx hb hr (fun t ht hW => ⟨⟨(-1), (), rfl, (by simp only [goC, if_neg c_8, if_neg e_14_0, if_neg e_14_1, if_neg e_14_2, if_neg e_14_3, if_neg e_14_4]), by rw [ht]; exact hP9, hD9⟩, hS.F ht⟩) hS.2.2 dX4_go_99
  · skip
    refine lv_iconst (v := (-1)) hx hb dX4_go_11 (by decide) ?_
    have hP9 := hP.sub (ws' := [(h0, .inr (4, [.ref kO, .ref nO, .ref rO, .ref mO, .int zs, .ref tO, .ref rdO, .ref lnO, .ref drO, .ref chO])), (lnO, .inr (1, [.ref gF, .ref gK, .ref gT, .ref gC, .ref gM, .int gc, .ref eF, .ref eC, .ref eM, .int ec, .ref hopA])), (gF, .inl (cI, 40, .inl fgF)), (gK, .inl (cI, 40, .inl fgK)), (gT, .inl (cI, 40, .inl fgT)), (gC, .inl (cI, 40, .inl fgC)), (gM, .inl (cI, 40, .inl fgM))]) [0, 6, 1, 2, 3, 4, 5] rfl
    have hD9 := hD.sub (ws' := [(h0, .inr (4, [.ref kO, .ref nO, .ref rO, .ref mO, .int zs, .ref tO, .ref rdO, .ref lnO, .ref drO, .ref chO])), (lnO, .inr (1, [.ref gF, .ref gK, .ref gT, .ref gC, .ref gM, .int gc, .ref eF, .ref eC, .ref eM, .int ec, .ref hopA])), (gF, .inl (cI, 40, .inl fgF)), (gK, .inl (cI, 40, .inl fgK)), (gT, .inl (cI, 40, .inl fgT)), (gC, .inl (cI, 40, .inl fgC)), (gM, .inl (cI, 40, .inl fgM))]) [0, 6, 1, 2, 3, 4, 5] (by decide) rfl
    exact W.iret (v := (-1)) hx hb hr (fun t ht hW => ⟨⟨(-1), (), rfl, (by simp only [goC, if_pos c_8]), by rw [ht]; exact hP9, hD9⟩, hS.F ht⟩) hS.2.2 dX4_go_12
set_option maxHeartbeats 4000000 in
set_option maxRecDepth 100000 in
theorem k_count (l : Launch) (dC : Nat → ClassId) (dI : Nat → Nat → Nat) (cI cZ cC cJ : ClassId) (sz : Nat) (h0 : Nat) (kO : Nat) (nO : Nat) (rO : Nat) (mO : Nat) (mnq : Nat) (tO : Nat) (rdO : Nat) (lnO : Nat) (drO : Nat) (chO : Nat) (fm : Nat → Int32) (gF : Nat) (gK : Nat) (gT : Nat) (gC : Nat) (gM : Nat) (gc : Int32) (eF : Nat) (eC : Nat) (eM : Nat) (ec : Int32) (hopA : Nat) (sA : Nat) (tl : Int32) (p0 : Int32) (hmn : mnq ≤ 60) : Met l yX4_count wsX4_count ({ frames := 1, cells := 0, slots := 0, locals := 22 }) (va_Pc [.ref h0, .int p0] (sPre dC dI cI cZ cC cJ [(h0, .inr (4, [.ref kO, .ref nO, .ref rO, .ref mO, .int (nI mnq), .ref tO, .ref rdO, .ref lnO, .ref drO, .ref chO])), (mO, .inl (cI, 60, .inl fm)), (lnO, .inr (1, [.ref gF, .ref gK, .ref gT, .ref gC, .ref gM, .int gc, .ref eF, .ref eC, .ref eM, .int ec, .ref hopA])), (tO, .inr (3, [.ref sA, .int tl]))] sz)) (va_Qi (fun (r : Int32) (u : Unit) => r = cnC p0 mnq gc ec tl fm) (fun _ => sB dC dI (va_A [(h0, .inr (4, [.ref kO, .ref nO, .ref rO, .ref mO, .int (nI mnq), .ref tO, .ref rdO, .ref lnO, .ref drO, .ref chO])), (mO, .inl (cI, 60, .inl fm)), (lnO, .inr (1, [.ref gF, .ref gK, .ref gT, .ref gC, .ref gM, .int gc, .ref eF, .ref eC, .ref eM, .int ec, .ref hopA])), (tO, .inr (3, [.ref sA, .int tl]))] sz) [(h0, .inr (4, [.ref kO, .ref nO, .ref rO, .ref mO, .int (nI mnq), .ref tO, .ref rdO, .ref lnO, .ref drO, .ref chO])), (mO, .inl (cI, 60, .inl fm)), (lnO, .inr (1, [.ref gF, .ref gK, .ref gT, .ref gC, .ref gM, .int gc, .ref eF, .ref eC, .ref eM, .int ec, .ref hopA])), (tO, .inr (3, [.ref sA, .int tl]))]) (va_A [(h0, .inr (4, [.ref kO, .ref nO, .ref rO, .ref mO, .int (nI mnq), .ref tO, .ref rdO, .ref lnO, .ref drO, .ref chO])), (mO, .inl (cI, 60, .inl fm)), (lnO, .inr (1, [.ref gF, .ref gK, .ref gT, .ref gC, .ref gM, .int gc, .ref eF, .ref eC, .ref eM, .int ec, .ref hopA])), (tO, .inr (3, [.ref sA, .int tl]))] sz)) 0 0 (va_A [(h0, .inr (4, [.ref kO, .ref nO, .ref rO, .ref mO, .int (nI mnq), .ref tO, .ref rdO, .ref lnO, .ref drO, .ref chO])), (mO, .inl (cI, 60, .inl fm)), (lnO, .inr (1, [.ref gF, .ref gK, .ref gT, .ref gC, .ref gM, .int gc, .ref eF, .ref eC, .ref eM, .int ec, .ref hopA])), (tO, .inr (3, [.ref sA, .int tl]))] sz) := by
  refine Met.ofW (cc := cX4_count) (maxL := 2) (ret := (some .int)) (by decide) rfl ?_
  intro p e s m args below meth c s₁ B hml hv
  obtain ⟨rfl, hsz, hP, hsk, hD0⟩ := hv
  have hx := B.exec
  have hb := B.bytes
  have hr := B.returns
  have hts := atoms_spec (ws := wsX4_count) B.pre
  have hown : s.vm.findClass RX4 = some m.cls := findClass_of_methodNamed B.named
  have hlocks := B.notSynchronized
  have hK := hsk.1
  have i1 : ∀ w ∈ wsX10, w ∈ wsX4_count := by decide +kernel
  have i3 : ∀ w ∈ wsX30, w ∈ wsX4_count := by decide +kernel
  have i4 : ∀ w ∈ wsX40, w ∈ wsX4_count := by decide +kernel
  subst hsz
  have hD := hD0.self (sz := s.heap.size)
  generalize hAe : va_A [(h0, .inr (4, [.ref kO, .ref nO, .ref rO, .ref mO, .int (nI mnq), .ref tO, .ref rdO, .ref lnO, .ref drO, .ref chO])), (mO, .inl (cI, 60, .inl fm)), (lnO, .inr (1, [.ref gF, .ref gK, .ref gT, .ref gC, .ref gM, .int gc, .ref eF, .ref eC, .ref eM, .int ec, .ref hopA])), (tO, .inr (3, [.ref sA, .int tl]))] s.heap.size = A at hD ⊢
  have hA : ∀ q : Nat, s.heap.size ≤ q → A q := fun q h => by rw [← hAe]; exact Or.inr h
  have hS : va_S A s.heap s.heap [] := va_S.rf
  have hl := lv_entry ([.ref h0, .int p0]) (n := 2) (Nat.le_of_ble_eq_true rfl)
  rw [lg_entry_eq]
  generalize (lg_sl ([.ref h0, .int p0]) ++ List.replicate (2 - (lg_sl ([.ref h0, .int p0])).length) Slot.unset).toArray = ls at hl ⊢
  have hl : lv_has ls 2 [(0, .ref h0), (1, .int p0)] := hl
  refine lv_iload_n hx hb dX4_count_0 rfl (lv_at hl 1 rfl) ?_
  by_cases e_1_0 : p0 = 0
  · skip
    refine lv_tableIn (off := 35) (tgt := 36) hx hb dX4_count_1 (by rw [e_1_0]; decide) (by rw [e_1_0]; decide) (by rw [e_1_0]; rfl) (by decide) ?_
    refine lv_aload_n hx hb dX4_count_36 rfl (lv_at hl 0 rfl) ?_
    refine va_get (D := (dC, dI)) (ci := 4) (v := .int (nI mnq)) (C := RX4) (T := TX4) (N := 10) hx hb hts i4 hown hK hP 0 rfl rfl 4 (by decide) (hts (.fieldLink RX4 74 "StopSetter" "size" "I") (by decide +kernel)) (fun _ h9 => h9) rfl dX4_count_37 ?_
    have hP9 := hP.sub (ws' := [(h0, .inr (4, [.ref kO, .ref nO, .ref rO, .ref mO, .int (nI mnq), .ref tO, .ref rdO, .ref lnO, .ref drO, .ref chO])), (mO, .inl (cI, 60, .inl fm)), (lnO, .inr (1, [.ref gF, .ref gK, .ref gT, .ref gC, .ref gM, .int gc, .ref eF, .ref eC, .ref eM, .int ec, .ref hopA])), (tO, .inr (3, [.ref sA, .int tl]))]) [0, 1, 2, 3] rfl
    have hD9 := hD.sub (ws' := [(h0, .inr (4, [.ref kO, .ref nO, .ref rO, .ref mO, .int (nI mnq), .ref tO, .ref rdO, .ref lnO, .ref drO, .ref chO])), (mO, .inl (cI, 60, .inl fm)), (lnO, .inr (1, [.ref gF, .ref gK, .ref gT, .ref gC, .ref gM, .int gc, .ref eF, .ref eC, .ref eM, .int ec, .ref hopA])), (tO, .inr (3, [.ref sA, .int tl]))]) [0, 1, 2, 3] (by decide) rfl
    exact W.iret (v := (nI mnq)) hx hb hr (fun t ht hW => ⟨⟨(nI mnq), (), rfl, (by simp only [cnC, if_pos e_1_0]), by rw [ht]; exact hP9, hD9⟩, hS.F ht⟩) hS.2.2 dX4_count_40
  · skip
    by_cases e_1_1 : p0 = 1
    · skip
      refine lv_tableIn (off := 40) (tgt := 41) hx hb dX4_count_1 (by rw [e_1_1]; decide) (by rw [e_1_1]; decide) (by rw [e_1_1]; rfl) (by decide) ?_
      refine lv_aload_n hx hb dX4_count_41 rfl (lv_at hl 0 rfl) ?_
      refine va_get (D := (dC, dI)) (ci := 4) (v := .ref lnO) (C := RX4) (T := TX4) (N := 10) hx hb hts i4 hown hK hP 0 rfl rfl 7 (by decide) (hts (.fieldLink RX4 42 "StopSetter" "lines" "LStopSetter$Grammar;") (by decide +kernel)) (fun _ h9 => h9) rfl dX4_count_42 ?_
      refine va_getN (D := (dC, dI)) (ci := 1) (v := .int gc) (C := RX1) (T := TX1) (N := 11) hx hb hts i1 hown hK hP 2 rfl rfl 5 (by decide) (va_Nw.use rfl (hsk.2.1 ("StopSetter", 171, "StopSetter$Grammar", "goCount", "I", "StopSetter") (by decide +kernel))) (fun _ h9 => h9) rfl dX4_count_45 ?_
      have hP9 := hP.sub (ws' := [(h0, .inr (4, [.ref kO, .ref nO, .ref rO, .ref mO, .int (nI mnq), .ref tO, .ref rdO, .ref lnO, .ref drO, .ref chO])), (mO, .inl (cI, 60, .inl fm)), (lnO, .inr (1, [.ref gF, .ref gK, .ref gT, .ref gC, .ref gM, .int gc, .ref eF, .ref eC, .ref eM, .int ec, .ref hopA])), (tO, .inr (3, [.ref sA, .int tl]))]) [0, 1, 2, 3] rfl
      have hD9 := hD.sub (ws' := [(h0, .inr (4, [.ref kO, .ref nO, .ref rO, .ref mO, .int (nI mnq), .ref tO, .ref rdO, .ref lnO, .ref drO, .ref chO])), (mO, .inl (cI, 60, .inl fm)), (lnO, .inr (1, [.ref gF, .ref gK, .ref gT, .ref gC, .ref gM, .int gc, .ref eF, .ref eC, .ref eM, .int ec, .ref hopA])), (tO, .inr (3, [.ref sA, .int tl]))]) [0, 1, 2, 3] (by decide) rfl
      exact W.iret (v := gc) hx hb hr (fun t ht hW => ⟨⟨gc, (), rfl, (by simp only [cnC, if_neg e_1_0, if_pos e_1_1]), by rw [ht]; exact hP9, hD9⟩, hS.F ht⟩) hS.2.2 dX4_count_48
    · skip
      by_cases e_1_2 : p0 = 2
      · skip
        refine lv_tableIn (off := 48) (tgt := 49) hx hb dX4_count_1 (by rw [e_1_2]; decide) (by rw [e_1_2]; decide) (by rw [e_1_2]; rfl) (by decide) ?_
        refine lv_aload_n hx hb dX4_count_49 rfl (lv_at hl 0 rfl) ?_
        refine va_get (D := (dC, dI)) (ci := 4) (v := .ref lnO) (C := RX4) (T := TX4) (N := 10) hx hb hts i4 hown hK hP 0 rfl rfl 7 (by decide) (hts (.fieldLink RX4 42 "StopSetter" "lines" "LStopSetter$Grammar;") (by decide +kernel)) (fun _ h9 => h9) rfl dX4_count_50 ?_
        refine va_getN (D := (dC, dI)) (ci := 1) (v := .int ec) (C := RX1) (T := TX1) (N := 11) hx hb hts i1 hown hK hP 2 rfl rfl 9 (by decide) (va_Nw.use rfl (hsk.2.1 ("StopSetter", 174, "StopSetter$Grammar", "endCount", "I", "StopSetter") (by decide +kernel))) (fun _ h9 => h9) rfl dX4_count_53 ?_
        have hP9 := hP.sub (ws' := [(h0, .inr (4, [.ref kO, .ref nO, .ref rO, .ref mO, .int (nI mnq), .ref tO, .ref rdO, .ref lnO, .ref drO, .ref chO])), (mO, .inl (cI, 60, .inl fm)), (lnO, .inr (1, [.ref gF, .ref gK, .ref gT, .ref gC, .ref gM, .int gc, .ref eF, .ref eC, .ref eM, .int ec, .ref hopA])), (tO, .inr (3, [.ref sA, .int tl]))]) [0, 1, 2, 3] rfl
        have hD9 := hD.sub (ws' := [(h0, .inr (4, [.ref kO, .ref nO, .ref rO, .ref mO, .int (nI mnq), .ref tO, .ref rdO, .ref lnO, .ref drO, .ref chO])), (mO, .inl (cI, 60, .inl fm)), (lnO, .inr (1, [.ref gF, .ref gK, .ref gT, .ref gC, .ref gM, .int gc, .ref eF, .ref eC, .ref eM, .int ec, .ref hopA])), (tO, .inr (3, [.ref sA, .int tl]))]) [0, 1, 2, 3] (by decide) rfl
        exact W.iret (v := ec) hx hb hr (fun t ht hW => ⟨⟨ec, (), rfl, (by simp only [cnC, if_neg e_1_0, if_neg e_1_1, if_pos e_1_2]), by rw [ht]; exact hP9, hD9⟩, hS.F ht⟩) hS.2.2 dX4_count_56
      · skip
        by_cases e_1_3 : p0 = 3
        · skip
          refine lv_tableIn (off := 56) (tgt := 57) hx hb dX4_count_1 (by rw [e_1_3]; decide) (by rw [e_1_3]; decide) (by rw [e_1_3]; rfl) (by decide) ?_
          refine lv_aload_n hx hb dX4_count_57 rfl (lv_at hl 0 rfl) ?_
          refine va_get (D := (dC, dI)) (ci := 4) (v := .ref tO) (C := RX4) (T := TX4) (N := 10) hx hb hts i4 hown hK hP 0 rfl rfl 5 (by decide) (hts (.fieldLink RX4 26 "StopSetter" "tape" "LStopSetter$Tape;") (by decide +kernel)) (fun _ h9 => h9) rfl dX4_count_58 ?_
          refine va_getN (D := (dC, dI)) (ci := 3) (v := .int tl) (C := RX3) (T := TX3) (N := 2) hx hb hts i3 hown hK hP 3 rfl rfl 1 (by decide) (va_Nw.use rfl (hsk.2.1 ("StopSetter", 85, "StopSetter$Tape", "length", "I", "StopSetter") (by decide +kernel))) (fun _ h9 => h9) rfl dX4_count_61 ?_
          have hP9 := hP.sub (ws' := [(h0, .inr (4, [.ref kO, .ref nO, .ref rO, .ref mO, .int (nI mnq), .ref tO, .ref rdO, .ref lnO, .ref drO, .ref chO])), (mO, .inl (cI, 60, .inl fm)), (lnO, .inr (1, [.ref gF, .ref gK, .ref gT, .ref gC, .ref gM, .int gc, .ref eF, .ref eC, .ref eM, .int ec, .ref hopA])), (tO, .inr (3, [.ref sA, .int tl]))]) [0, 1, 2, 3] rfl
          have hD9 := hD.sub (ws' := [(h0, .inr (4, [.ref kO, .ref nO, .ref rO, .ref mO, .int (nI mnq), .ref tO, .ref rdO, .ref lnO, .ref drO, .ref chO])), (mO, .inl (cI, 60, .inl fm)), (lnO, .inr (1, [.ref gF, .ref gK, .ref gT, .ref gC, .ref gM, .int gc, .ref eF, .ref eC, .ref eM, .int ec, .ref hopA])), (tO, .inr (3, [.ref sA, .int tl]))]) [0, 1, 2, 3] (by decide) rfl
          exact W.iret (v := tl) hx hb hr (fun t ht hW => ⟨⟨tl, (), rfl, (by simp only [cnC, if_neg e_1_0, if_neg e_1_1, if_neg e_1_2, if_pos e_1_3]), by rw [ht]; exact hP9, hD9⟩, hS.F ht⟩) hS.2.2 dX4_count_64
        · skip
          by_cases e_1_4 : p0 = 4
          · skip
            refine lv_tableIn (off := 64) (tgt := 65) hx hb dX4_count_1 (by rw [e_1_4]; decide) (by rw [e_1_4]; decide) (by rw [e_1_4]; rfl) (by decide) ?_
            refine lv_aload_n hx hb dX4_count_65 rfl (lv_at hl 0 rfl) ?_
            have hPc := hP.sub (ws' := [(h0, .inr (4, [.ref kO, .ref nO, .ref rO, .ref mO, .int (nI mnq), .ref tO, .ref rdO, .ref lnO, .ref drO, .ref chO])), (mO, .inl (cI, 60, .inl fm))]) [0, 1] rfl
            have hDc := hD.sub (ws' := [(h0, .inr (4, [.ref kO, .ref nO, .ref rO, .ref mO, .int (nI mnq), .ref tO, .ref rdO, .ref lnO, .ref drO, .ref chO])), (mO, .inl (cI, 60, .inl fm))]) [0, 1] (by decide) rfl
            have hFc := va_free (wc := [(h0, .inr (4, [.ref kO, .ref nO, .ref rO, .ref mO, .int (nI mnq), .ref tO, .ref rdO, .ref lnO, .ref drO, .ref chO])), (mO, .inl (cI, 60, .inl fm))]) hD hS hA [0, 1] rfl
            refine va_calli (va_runV (As := []) (rest := []) ⟨hx, hb, hml, hown, hts⟩ (k_handMarks l dC dI cI cZ cC cJ s.heap.size  h0 kO nO rO mO mnq tO rdO lnO drO chO fm (by first | assumption | decide | omega)) (cwV 0 hts gX4_count_X4_handMarks rfl rfl rfl (by decide +kernel) ⟨Nat.le_of_ble_eq_true rfl, Nat.le_of_ble_eq_true rfl⟩) ⟨sPre_blind, va_recv hK hPc (ci := 4) (q0 := 0) rfl rfl, fun U hU hW => ⟨rfl, sPre_ok hsk hPc hDc hU hW⟩⟩ rfl rfl hl.1 rfl (lv_room (Nat.le_of_ble_eq_true rfl)) dX4_count_66 ⟨(show 0 + 0 ≤ 0 by omega), (show 0 + 0 ≤ 0 by omega)⟩) hS (fun q _ h => hFc q h) hFc (fun r_1 u t H1 locs ht hvm hw hB hz1 hk1 hS => ?_)
            try dsimp only at hw hB
            have hw_2 := hw
            obtain rfl : r_1 = nI (cM fm mnq) := hw_2
            obtain ⟨hP1, hD1⟩ := hB
            rw [ht] at hP1
            obtain ⟨hP, hD⟩ := va_join (wr := [(lnO, .inr (1, [.ref gF, .ref gK, .ref gT, .ref gC, .ref gM, .int gc, .ref eF, .ref eC, .ref eM, .int ec, .ref hopA])), (tO, .inr (3, [.ref sA, .int tl]))]) (w1 := [(h0, .inr (4, [.ref kO, .ref nO, .ref rO, .ref mO, .int (nI mnq), .ref tO, .ref rdO, .ref lnO, .ref drO, .ref chO])), (mO, .inl (cI, 60, .inl fm))]) hP hD [0, 1] [2, 3] rfl rfl (by decide) (by decide) hk1 hFc hP1 hD1
            generalize H1 = H at hP hS ⊢
            have hP : va_P (dC, dI) vwCl [(lnO, .inr (1, [.ref gF, .ref gK, .ref gT, .ref gC, .ref gM, .int gc, .ref eF, .ref eC, .ref eM, .int ec, .ref hopA])), (tO, .inr (3, [.ref sA, .int tl])), (h0, .inr (4, [.ref kO, .ref nO, .ref rO, .ref mO, .int (nI mnq), .ref tO, .ref rdO, .ref lnO, .ref drO, .ref chO])), (mO, .inl (cI, 60, .inl fm))] H := hP
            have hD : va_D A [(lnO, .inr (1, [.ref gF, .ref gK, .ref gT, .ref gC, .ref gM, .int gc, .ref eF, .ref eC, .ref eM, .int ec, .ref hopA])), (tO, .inr (3, [.ref sA, .int tl])), (h0, .inr (4, [.ref kO, .ref nO, .ref rO, .ref mO, .int (nI mnq), .ref tO, .ref rdO, .ref lnO, .ref drO, .ref chO])), (mO, .inl (cI, 60, .inl fm))] := hD
            have hP9 := hP.sub (ws' := [(h0, .inr (4, [.ref kO, .ref nO, .ref rO, .ref mO, .int (nI mnq), .ref tO, .ref rdO, .ref lnO, .ref drO, .ref chO])), (mO, .inl (cI, 60, .inl fm)), (lnO, .inr (1, [.ref gF, .ref gK, .ref gT, .ref gC, .ref gM, .int gc, .ref eF, .ref eC, .ref eM, .int ec, .ref hopA])), (tO, .inr (3, [.ref sA, .int tl]))]) [2, 3, 0, 1] rfl
            have hD9 := hD.sub (ws' := [(h0, .inr (4, [.ref kO, .ref nO, .ref rO, .ref mO, .int (nI mnq), .ref tO, .ref rdO, .ref lnO, .ref drO, .ref chO])), (mO, .inl (cI, 60, .inl fm)), (lnO, .inr (1, [.ref gF, .ref gK, .ref gT, .ref gC, .ref gM, .int gc, .ref eF, .ref eC, .ref eM, .int ec, .ref hopA])), (tO, .inr (3, [.ref sA, .int tl]))]) [2, 3, 0, 1] (by decide) rfl
            exact W.iret (v := nI (cM fm mnq)) hx hb hr (fun t ht hW => ⟨⟨nI (cM fm mnq), (), rfl, (by simp only [cnC, if_neg e_1_0, if_neg e_1_1, if_neg e_1_2, if_neg e_1_3, if_pos e_1_4]), by rw [ht]; exact hP9, hD9⟩, hS.F ht⟩) hS.2.2 dX4_count_69
          · skip
            refine lv_tableOut (tgt := 70) hx hb dX4_count_1 (by have _ := lv_neT e_1_0 (a := 0) (by decide); have _ := lv_neT e_1_1 (a := 1) (by decide); have _ := lv_neT e_1_2 (a := 2) (by decide); have _ := lv_neT e_1_3 (a := 3) (by decide); have _ := lv_neT e_1_4 (a := 4) (by decide); omega) (by decide) ?_
            refine lv_iconst (v := (-1)) hx hb dX4_count_70 (by decide) ?_
            have hP9 := hP.sub (ws' := [(h0, .inr (4, [.ref kO, .ref nO, .ref rO, .ref mO, .int (nI mnq), .ref tO, .ref rdO, .ref lnO, .ref drO, .ref chO])), (mO, .inl (cI, 60, .inl fm)), (lnO, .inr (1, [.ref gF, .ref gK, .ref gT, .ref gC, .ref gM, .int gc, .ref eF, .ref eC, .ref eM, .int ec, .ref hopA])), (tO, .inr (3, [.ref sA, .int tl]))]) [0, 1, 2, 3] rfl
            have hD9 := hD.sub (ws' := [(h0, .inr (4, [.ref kO, .ref nO, .ref rO, .ref mO, .int (nI mnq), .ref tO, .ref rdO, .ref lnO, .ref drO, .ref chO])), (mO, .inl (cI, 60, .inl fm)), (lnO, .inr (1, [.ref gF, .ref gK, .ref gT, .ref gC, .ref gM, .int gc, .ref eF, .ref eC, .ref eM, .int ec, .ref hopA])), (tO, .inr (3, [.ref sA, .int tl]))]) [0, 1, 2, 3] (by decide) rfl
            exact W.iret (v := (-1)) hx hb hr (fun t ht hW => ⟨⟨(-1), (), rfl, (by simp only [cnC, if_neg e_1_0, if_neg e_1_1, if_neg e_1_2, if_neg e_1_3, if_neg e_1_4]), by rw [ht]; exact hP9, hD9⟩, hS.F ht⟩) hS.2.2 dX4_count_71

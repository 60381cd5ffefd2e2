set_option maxHeartbeats 4000000 in
set_option maxRecDepth 100000 in
theorem k_finish0 (l : Launch) (dC : Nat → ClassId) (dI : Nat → Nat → Nat) (cI cZ cC cJ : ClassId) (sz : Nat) (h0 : Nat) (bA : Nat) (xA : Nat) (kA : Nat) (aA : Nat) (eA : Nat) (gA : Nat) (oA : Nat) (g0 : Nat) (lc : Int32) (sc : Int32) (ln : Int32) (le : Int32)  : Met l yX0_finish wsX0_finish ({ frames := 0, cells := 0, slots := 0, locals := 0 }) (va_Pc [.ref h0, .ref g0] (sPre dC dI cI cZ cC cJ [(h0, .inr (0, [.ref bA, .ref xA, .ref kA, .ref aA, .ref eA, .ref gA, .ref oA, .int 0, .int lc, .int sc, .int ln, .int le]))] sz)) (va_Qv (fun (u : Unit) => True) (fun _ => sB dC dI (va_A [(h0, .inr (0, [.ref bA, .ref xA, .ref kA, .ref aA, .ref eA, .ref gA, .ref oA, .int 0, .int lc, .int sc, .int ln, .int le]))] sz) [(h0, .inr (0, [.ref bA, .ref xA, .ref kA, .ref aA, .ref eA, .ref gA, .ref oA, .int 0, .int 1000000000, .int 1000000000, .int 0, .int (-1)]))]) (va_A [(h0, .inr (0, [.ref bA, .ref xA, .ref kA, .ref aA, .ref eA, .ref gA, .ref oA, .int 0, .int lc, .int sc, .int ln, .int le]))] sz)) 0 0 (va_A [(h0, .inr (0, [.ref bA, .ref xA, .ref kA, .ref aA, .ref eA, .ref gA, .ref oA, .int 0, .int lc, .int sc, .int ln, .int le]))] sz) := by
  refine Met.ofW (cc := cX0_finish) (maxL := 5) (ret := none) (by decide) rfl ?_
  intro p e s m args below meth c s₁ B hml hv
  obtain ⟨rfl, hsz, hP, hsk, hD0⟩ := hv
  have hx := B.exec
  have hb := B.bytes
  have hr := B.returns
  have hts := atoms_spec (ws := wsX0_finish) B.pre
  have hown : s.vm.findClass RX0 = some m.cls := findClass_of_methodNamed B.named
  have hlocks := B.notSynchronized
  have hK := hsk.1
  have i0 : ∀ w ∈ wsX00, w ∈ wsX0_finish := by decide +kernel
  subst hsz
  have hD := hD0.self (sz := s.heap.size)
  generalize hAe : va_A [(h0, .inr (0, [.ref bA, .ref xA, .ref kA, .ref aA, .ref eA, .ref gA, .ref oA, .int 0, .int lc, .int sc, .int ln, .int le]))] s.heap.size = A at hD ⊢
  have hA : ∀ q : Nat, s.heap.size ≤ q → A q := fun q h => by rw [← hAe]; exact Or.inr h
  have hS : va_S A s.heap s.heap [] := va_S.rf
  have hl := lv_entry ([.ref h0, .ref g0]) (n := 5) (Nat.le_of_ble_eq_true rfl)
  rw [lg_entry_eq]
  generalize (lg_sl ([.ref h0, .ref g0]) ++ List.replicate (5 - (lg_sl ([.ref h0, .ref g0])).length) Slot.unset).toArray = ls at hl ⊢
  have hl : lv_has ls 5 [(0, .ref h0), (1, .ref g0)] := hl
  refine lv_aload_n hx hb dX0_finish_0 rfl (lv_at hl 0 rfl) ?_
  refine lv_ldc (v := 1000000000) hx hb hown (hts (.constant RX0 33 (1000000000)) (by decide +kernel)) dX0_finish_1 ?_
  refine va_put (D := (dC, dI)) (ci := 0) (v := .int 1000000000) (ty := tyX0 8) (C := RX0) (T := TX0) (N := 12) hx hb hts i0 tyX0 tyX0_ok nmX0 hown hK hP hD hS 0 rfl rfl 8 (by decide) (hts (.fieldLink RX0 34 "StopSetter$Chart" "leastCost" "I") (by decide +kernel)) (fun _ h9 => h9) rfl (by decide +kernel) rfl rfl (Nat.le_of_ble_eq_true rfl) dX0_finish_3 (fun H locs hP hD hS => ?_)
  have hP : va_P (dC, dI) vwCl [(h0, .inr (0, [.ref bA, .ref xA, .ref kA, .ref aA, .ref eA, .ref gA, .ref oA, .int 0, .int 1000000000, .int sc, .int ln, .int le]))] H := hP
  have hD : va_D A [(h0, .inr (0, [.ref bA, .ref xA, .ref kA, .ref aA, .ref eA, .ref gA, .ref oA, .int 0, .int 1000000000, .int sc, .int ln, .int le]))] := hD
  refine lv_aload_n hx hb dX0_finish_6 rfl (lv_at hl 0 rfl) ?_
  refine lv_ldc (v := 1000000000) hx hb hown (hts (.constant RX0 33 (1000000000)) (by decide +kernel)) dX0_finish_7 ?_
  refine va_put (D := (dC, dI)) (ci := 0) (v := .int 1000000000) (ty := tyX0 9) (C := RX0) (T := TX0) (N := 12) hx hb hts i0 tyX0 tyX0_ok nmX0 hown hK hP hD hS 0 rfl rfl 9 (by decide) (hts (.fieldLink RX0 38 "StopSetter$Chart" "secondCost" "I") (by decide +kernel)) (fun _ h9 => h9) rfl (by decide +kernel) rfl rfl (Nat.le_of_ble_eq_true rfl) dX0_finish_9 (fun H locs hP hD hS => ?_)
  have hP : va_P (dC, dI) vwCl [(h0, .inr (0, [.ref bA, .ref xA, .ref kA, .ref aA, .ref eA, .ref gA, .ref oA, .int 0, .int 1000000000, .int 1000000000, .int ln, .int le]))] H := hP
  have hD : va_D A [(h0, .inr (0, [.ref bA, .ref xA, .ref kA, .ref aA, .ref eA, .ref gA, .ref oA, .int 0, .int 1000000000, .int 1000000000, .int ln, .int le]))] := hD
  refine lv_aload_n hx hb dX0_finish_12 rfl (lv_at hl 0 rfl) ?_
  refine lv_iconst (v := 0) hx hb dX0_finish_13 (by decide) ?_
  refine va_put (D := (dC, dI)) (ci := 0) (v := .int 0) (ty := tyX0 10) (C := RX0) (T := TX0) (N := 12) hx hb hts i0 tyX0 tyX0_ok nmX0 hown hK hP hD hS 0 rfl rfl 10 (by decide) (hts (.fieldLink RX0 113 "StopSetter$Chart" "lastNode" "I") (by decide +kernel)) (fun _ h9 => h9) rfl (by decide +kernel) rfl rfl (Nat.le_of_ble_eq_true rfl) dX0_finish_14 (fun H locs hP hD hS => ?_)
  have hP : va_P (dC, dI) vwCl [(h0, .inr (0, [.ref bA, .ref xA, .ref kA, .ref aA, .ref eA, .ref gA, .ref oA, .int 0, .int 1000000000, .int 1000000000, .int 0, .int le]))] H := hP
  have hD : va_D A [(h0, .inr (0, [.ref bA, .ref xA, .ref kA, .ref aA, .ref eA, .ref gA, .ref oA, .int 0, .int 1000000000, .int 1000000000, .int 0, .int le]))] := hD
  refine lv_aload_n hx hb dX0_finish_17 rfl (lv_at hl 0 rfl) ?_
  refine lv_iconst (v := (-1)) hx hb dX0_finish_18 (by decide) ?_
  refine va_put (D := (dC, dI)) (ci := 0) (v := .int (-1)) (ty := tyX0 11) (C := RX0) (T := TX0) (N := 12) hx hb hts i0 tyX0 tyX0_ok nmX0 hown hK hP hD hS 0 rfl rfl 11 (by decide) (hts (.fieldLink RX0 116 "StopSetter$Chart" "lastEnd" "I") (by decide +kernel)) (fun _ h9 => h9) rfl (by decide +kernel) rfl rfl (Nat.le_of_ble_eq_true rfl) dX0_finish_19 (fun H locs hP hD hS => ?_)
  have hP : va_P (dC, dI) vwCl [(h0, .inr (0, [.ref bA, .ref xA, .ref kA, .ref aA, .ref eA, .ref gA, .ref oA, .int 0, .int 1000000000, .int 1000000000, .int 0, .int (-1)]))] H := hP
  have hD : va_D A [(h0, .inr (0, [.ref bA, .ref xA, .ref kA, .ref aA, .ref eA, .ref gA, .ref oA, .int 0, .int 1000000000, .int 1000000000, .int 0, .int (-1)]))] := hD
  refine lv_aload_n hx hb dX0_finish_22 rfl (lv_at hl 0 rfl) ?_
  refine va_get (D := (dC, dI)) (ci := 0) (v := .int 0) (C := RX0) (T := TX0) (N := 12) hx hb hts i0 hown hK hP 0 rfl rfl 7 (by decide) (hts (.fieldLink RX0 47 "StopSetter$Chart" "ready" "I") (by decide +kernel)) (fun _ h9 => h9) rfl dX0_finish_23 ?_
  refine lv_if_gt (tgt := 30) hx hb dX0_finish_26 (by decide) (fun h9 => absurd h9 (by decide)) (fun _ => ?_)
  have hP9 := hP.sub (ws' := [(h0, .inr (0, [.ref bA, .ref xA, .ref kA, .ref aA, .ref eA, .ref gA, .ref oA, .int 0, .int 1000000000, .int 1000000000, .int 0, .int (-1)]))]) [0] rfl
  have hD9 := hD.sub (ws' := [(h0, .inr (0, [.ref bA, .ref xA, .ref kA, .ref aA, .ref eA, .ref gA, .ref oA, .int 0, .int 1000000000, .int 1000000000, .int 0, .int (-1)]))]) [0] (by decide) rfl
  exact W.vret hx hb hr (fun t ht hW => ⟨⟨(), rfl, trivial, by rw [ht]; exact hP9, hD9⟩, hS.F ht⟩) hS.2.2 dX0_finish_29
set_option maxHeartbeats 4000000 in
set_option maxRecDepth 100000 in
theorem k_solve0 (l : Launch) (dC : Nat → ClassId) (dI : Nat → Nat → Nat) (cI cZ cC cJ : ClassId) (sz : Nat) (h0 : Nat) (kO : Nat) (nO : Nat) (rO : Nat) (mO : Nat) (tO : Nat) (rdO : Nat) (lnO : Nat) (drO : Nat) (chO : Nat) (bA : Nat) (xA : Nat) (kA : Nat) (aA : Nat) (eA : Nat) (gA : Nat) (oA : Nat) (lc : Int32) (sc : Int32) (ln : Int32) (le : Int32)  : Met l yX4_solve wsX4_solve ({ frames := 1, cells := 0, slots := 0, locals := 24 }) (va_Pc [.ref h0] (sPre dC dI cI cZ cC cJ [(h0, .inr (4, [.ref kO, .ref nO, .ref rO, .ref mO, .int 0, .ref tO, .ref rdO, .ref lnO, .ref drO, .ref chO])), (chO, .inr (0, [.ref bA, .ref xA, .ref kA, .ref aA, .ref eA, .ref gA, .ref oA, .int 0, .int lc, .int sc, .int ln, .int le]))] sz)) (va_Qv (fun (u : Unit) => True) (fun _ => sB dC dI (va_A [(h0, .inr (4, [.ref kO, .ref nO, .ref rO, .ref mO, .int 0, .ref tO, .ref rdO, .ref lnO, .ref drO, .ref chO])), (chO, .inr (0, [.ref bA, .ref xA, .ref kA, .ref aA, .ref eA, .ref gA, .ref oA, .int 0, .int lc, .int sc, .int ln, .int le]))] sz) [(h0, .inr (4, [.ref kO, .ref nO, .ref rO, .ref mO, .int 0, .ref tO, .ref rdO, .ref lnO, .ref drO, .ref chO])), (chO, .inr (0, [.ref bA, .ref xA, .ref kA, .ref aA, .ref eA, .ref gA, .ref oA, .int 0, .int 1000000000, .int 1000000000, .int 0, .int (-1)]))]) (va_A [(h0, .inr (4, [.ref kO, .ref nO, .ref rO, .ref mO, .int 0, .ref tO, .ref rdO, .ref lnO, .ref drO, .ref chO])), (chO, .inr (0, [.ref bA, .ref xA, .ref kA, .ref aA, .ref eA, .ref gA, .ref oA, .int 0, .int lc, .int sc, .int ln, .int le]))] sz)) 0 0 (va_A [(h0, .inr (4, [.ref kO, .ref nO, .ref rO, .ref mO, .int 0, .ref tO, .ref rdO, .ref lnO, .ref drO, .ref chO])), (chO, .inr (0, [.ref bA, .ref xA, .ref kA, .ref aA, .ref eA, .ref gA, .ref oA, .int 0, .int lc, .int sc, .int ln, .int le]))] sz) := by
  refine Met.ofW (cc := cX4_solve) (maxL := 3) (ret := none) (by decide) rfl ?_
  intro p e s m args below meth c s₁ B hml hv
  obtain ⟨rfl, hsz, hP, hsk, hD0⟩ := hv
  have hx := B.exec
  have hb := B.bytes
  have hr := B.returns
  have hts := atoms_spec (ws := wsX4_solve) B.pre
  have hown : s.vm.findClass RX4 = some m.cls := findClass_of_methodNamed B.named
  have hlocks := B.notSynchronized
  have hK := hsk.1
  have i0 : ∀ w ∈ wsX00, w ∈ wsX4_solve := by decide +kernel
  have i4 : ∀ w ∈ wsX40, w ∈ wsX4_solve := by decide +kernel
  subst hsz
  have hD := hD0.self (sz := s.heap.size)
  generalize hAe : va_A [(h0, .inr (4, [.ref kO, .ref nO, .ref rO, .ref mO, .int 0, .ref tO, .ref rdO, .ref lnO, .ref drO, .ref chO])), (chO, .inr (0, [.ref bA, .ref xA, .ref kA, .ref aA, .ref eA, .ref gA, .ref oA, .int 0, .int lc, .int sc, .int ln, .int le]))] s.heap.size = A at hD ⊢
  have hA : ∀ q : Nat, s.heap.size ≤ q → A q := fun q h => by rw [← hAe]; exact Or.inr h
  have hS : va_S A s.heap s.heap [] := va_S.rf
  have hl := lv_entry ([.ref h0]) (n := 3) (Nat.le_of_ble_eq_true rfl)
  rw [lg_entry_eq]
  generalize (lg_sl ([.ref h0]) ++ List.replicate (3 - (lg_sl ([.ref h0])).length) Slot.unset).toArray = ls at hl ⊢
  have hl : lv_has ls 3 [(0, .ref h0)] := hl
  refine lv_aload_n hx hb dX4_solve_0 rfl (lv_at hl 0 rfl) ?_
  refine va_get (D := (dC, dI)) (ci := 4) (v := .ref chO) (C := RX4) (T := TX4) (N := 10) hx hb hts i4 hown hK hP 0 rfl rfl 9 (by decide) (hts (.fieldLink RX4 52 "StopSetter" "chart" "LStopSetter$Chart;") (by decide +kernel)) (fun _ h9 => h9) rfl dX4_solve_1 ?_
  refine va_getN (D := (dC, dI)) (ci := 0) (v := .int 0) (C := RX0) (T := TX0) (N := 12) hx hb hts i0 hown hK hP 1 rfl rfl 7 (by decide) (va_Nw.use rfl (hsk.2.1 ("StopSetter", 183, "StopSetter$Chart", "ready", "I", "StopSetter") (by decide +kernel))) (fun _ h9 => h9) rfl dX4_solve_4 ?_
  refine lv_istore_n (lv' := [(1, .int 0), (0, .ref h0)]) hx hb dX4_solve_7 rfl hl (by decide) rfl (fun ls hl => ?_)
  refine lv_iload_n hx hb dX4_solve_8 rfl (lv_at hl 0 rfl) ?_
  refine lv_aload_n hx hb dX4_solve_9 rfl (lv_at hl 1 rfl) ?_
  refine va_get (D := (dC, dI)) (ci := 4) (v := .int 0) (C := RX4) (T := TX4) (N := 10) hx hb hts i4 hown hK hP 0 rfl rfl 4 (by decide) (hts (.fieldLink RX4 74 "StopSetter" "size" "I") (by decide +kernel)) (fun _ h9 => h9) rfl dX4_solve_10 ?_
  refine lv_icmp_ge (tgt := 68) hx hb dX4_solve_13 (by decide) (fun _ => ?_) (fun h9 => absurd (by decide) h9)
  refine lv_aload_n hx hb dX4_solve_68 rfl (lv_at hl 1 rfl) ?_
  refine va_get (D := (dC, dI)) (ci := 4) (v := .ref chO) (C := RX4) (T := TX4) (N := 10) hx hb hts i4 hown hK hP 0 rfl rfl 9 (by decide) (hts (.fieldLink RX4 52 "StopSetter" "chart" "LStopSetter$Chart;") (by decide +kernel)) (fun _ h9 => h9) rfl dX4_solve_69 ?_
  refine lv_aload_n hx hb dX4_solve_72 rfl (lv_at hl 1 rfl) ?_
  refine va_get (D := (dC, dI)) (ci := 4) (v := .ref lnO) (C := RX4) (T := TX4) (N := 10) hx hb hts i4 hown hK hP 0 rfl rfl 7 (by decide) (hts (.fieldLink RX4 42 "StopSetter" "lines" "LStopSetter$Grammar;") (by decide +kernel)) (fun _ h9 => h9) rfl dX4_solve_73 ?_
  have hPc := hP.sub (ws' := [(chO, .inr (0, [.ref bA, .ref xA, .ref kA, .ref aA, .ref eA, .ref gA, .ref oA, .int 0, .int lc, .int sc, .int ln, .int le]))]) [1] rfl
  have hDc := hD.sub (ws' := [(chO, .inr (0, [.ref bA, .ref xA, .ref kA, .ref aA, .ref eA, .ref gA, .ref oA, .int 0, .int lc, .int sc, .int ln, .int le]))]) [1] (by decide) rfl
  have hFc := va_free (wc := [(chO, .inr (0, [.ref bA, .ref xA, .ref kA, .ref aA, .ref eA, .ref gA, .ref oA, .int 0, .int lc, .int sc, .int ln, .int le]))]) hD hS hA [1] rfl
  refine va_callv (va_runV (As := [.ref lnO]) (rest := []) ⟨hx, hb, hml, hown, hts⟩ (k_finish0 l dC dI cI cZ cC cJ s.heap.size chO bA xA kA aA eA gA oA lnO lc sc ln le ) (cwV 1 hts gX4_solve_X0_finish rfl rfl rfl (by decide +kernel) ⟨Nat.le_of_ble_eq_true rfl, Nat.le_of_ble_eq_true rfl⟩) ⟨sPre_blind, va_recv hK hPc (ci := 0) (q0 := 0) rfl rfl, fun U hU hW => ⟨rfl, sPre_ok hsk hPc hDc hU hW⟩⟩ rfl rfl hl.1 rfl (lv_room (Nat.le_of_ble_eq_true rfl)) dX4_solve_76 ⟨(show 0 + 0 ≤ 0 by omega), (show 0 + 0 ≤ 0 by omega)⟩) hS (fun q _ h => hFc q h) hFc (fun u t H1 locs ht hvm hw hB hz1 hk1 hS => ?_)
  try dsimp only at hw hB
  obtain ⟨hP1, hD1⟩ := hB
  rw [ht] at hP1
  obtain ⟨hP, hD⟩ := va_join (wr := [(h0, .inr (4, [.ref kO, .ref nO, .ref rO, .ref mO, .int 0, .ref tO, .ref rdO, .ref lnO, .ref drO, .ref chO]))]) (w1 := [(chO, .inr (0, [.ref bA, .ref xA, .ref kA, .ref aA, .ref eA, .ref gA, .ref oA, .int 0, .int 1000000000, .int 1000000000, .int 0, .int (-1)]))]) hP hD [1] [0] rfl rfl (by decide) (by decide) hk1 hFc hP1 hD1
  generalize H1 = H at hP hS ⊢
  have hP : va_P (dC, dI) vwCl [(h0, .inr (4, [.ref kO, .ref nO, .ref rO, .ref mO, .int 0, .ref tO, .ref rdO, .ref lnO, .ref drO, .ref chO])), (chO, .inr (0, [.ref bA, .ref xA, .ref kA, .ref aA, .ref eA, .ref gA, .ref oA, .int 0, .int 1000000000, .int 1000000000, .int 0, .int (-1)]))] H := hP
  have hD : va_D A [(h0, .inr (4, [.ref kO, .ref nO, .ref rO, .ref mO, .int 0, .ref tO, .ref rdO, .ref lnO, .ref drO, .ref chO])), (chO, .inr (0, [.ref bA, .ref xA, .ref kA, .ref aA, .ref eA, .ref gA, .ref oA, .int 0, .int 1000000000, .int 1000000000, .int 0, .int (-1)]))] := hD
  have hP9 := hP.sub (ws' := [(h0, .inr (4, [.ref kO, .ref nO, .ref rO, .ref mO, .int 0, .ref tO, .ref rdO, .ref lnO, .ref drO, .ref chO])), (chO, .inr (0, [.ref bA, .ref xA, .ref kA, .ref aA, .ref eA, .ref gA, .ref oA, .int 0, .int 1000000000, .int 1000000000, .int 0, .int (-1)]))]) [0, 1] rfl
  have hD9 := hD.sub (ws' := [(h0, .inr (4, [.ref kO, .ref nO, .ref rO, .ref mO, .int 0, .ref tO, .ref rdO, .ref lnO, .ref drO, .ref chO])), (chO, .inr (0, [.ref bA, .ref xA, .ref kA, .ref aA, .ref eA, .ref gA, .ref oA, .int 0, .int 1000000000, .int 1000000000, .int 0, .int (-1)]))]) [0, 1] (by decide) rfl
  exact W.vret hx hb hr (fun t ht hW => ⟨⟨(), rfl, trivial, by rw [ht]; exact hP9, hD9⟩, hS.F ht⟩) hS.2.2 dX4_solve_79
set_option maxHeartbeats 4000000 in
set_option maxRecDepth 100000 in
theorem k_isParted0 (l : Launch) (dC : Nat → ClassId) (dI : Nat → Nat → Nat) (cI cZ cC cJ : ClassId) (sz : Nat) (h0 : Nat) (bA : Nat) (xA : Nat) (kA : Nat) (aA : Nat) (eA : Nat) (gA : Nat) (oA : Nat) (le : Int32)  : Met l yX0_isParted wsX0_isParted ({ frames := 0, cells := 0, slots := 0, locals := 0 }) (va_Pc [.ref h0] (sPre dC dI cI cZ cC cJ [(h0, .inr (0, [.ref bA, .ref xA, .ref kA, .ref aA, .ref eA, .ref gA, .ref oA, .int 0, .int 1000000000, .int 1000000000, .int 0, .int le]))] sz)) (va_Qi (fun (r : Int32) (u : Unit) => r = 0) (fun _ => sB dC dI (va_A [(h0, .inr (0, [.ref bA, .ref xA, .ref kA, .ref aA, .ref eA, .ref gA, .ref oA, .int 0, .int 1000000000, .int 1000000000, .int 0, .int le]))] sz) [(h0, .inr (0, [.ref bA, .ref xA, .ref kA, .ref aA, .ref eA, .ref gA, .ref oA, .int 0, .int 1000000000, .int 1000000000, .int 0, .int le]))]) (va_A [(h0, .inr (0, [.ref bA, .ref xA, .ref kA, .ref aA, .ref eA, .ref gA, .ref oA, .int 0, .int 1000000000, .int 1000000000, .int 0, .int le]))] sz)) 0 0 (va_A [(h0, .inr (0, [.ref bA, .ref xA, .ref kA, .ref aA, .ref eA, .ref gA, .ref oA, .int 0, .int 1000000000, .int 1000000000, .int 0, .int le]))] sz) := by
  refine Met.ofW (cc := cX0_isParted) (maxL := 1) (ret := (some .boolean)) (by decide) rfl ?_
  intro p e s m args below meth c s₁ B hml hv
  obtain ⟨rfl, hsz, hP, hsk, hD0⟩ := hv
  have hx := B.exec
  have hb := B.bytes
  have hr := B.returns
  have hts := atoms_spec (ws := wsX0_isParted) B.pre
  have hown : s.vm.findClass RX0 = some m.cls := findClass_of_methodNamed B.named
  have hlocks := B.notSynchronized
  have hK := hsk.1
  have i0 : ∀ w ∈ wsX00, w ∈ wsX0_isParted := by decide +kernel
  subst hsz
  have hD := hD0.self (sz := s.heap.size)
  generalize hAe : va_A [(h0, .inr (0, [.ref bA, .ref xA, .ref kA, .ref aA, .ref eA, .ref gA, .ref oA, .int 0, .int 1000000000, .int 1000000000, .int 0, .int le]))] s.heap.size = A at hD ⊢
  have hA : ∀ q : Nat, s.heap.size ≤ q → A q := fun q h => by rw [← hAe]; exact Or.inr h
  have hS : va_S A s.heap s.heap [] := va_S.rf
  have hl := lv_entry ([.ref h0]) (n := 1) (Nat.le_of_ble_eq_true rfl)
  rw [lg_entry_eq]
  generalize (lg_sl ([.ref h0]) ++ List.replicate (1 - (lg_sl ([.ref h0])).length) Slot.unset).toArray = ls at hl ⊢
  have hl : lv_has ls 1 [(0, .ref h0)] := hl
  refine lv_aload_n hx hb dX0_isParted_0 rfl (lv_at hl 0 rfl) ?_
  refine va_get (D := (dC, dI)) (ci := 0) (v := .int 1000000000) (C := RX0) (T := TX0) (N := 12) hx hb hts i0 hown hK hP 0 rfl rfl 8 (by decide) (hts (.fieldLink RX0 34 "StopSetter$Chart" "leastCost" "I") (by decide +kernel)) (fun _ h9 => h9) rfl dX0_isParted_1 ?_
  refine lv_ldc (v := 1000000000) hx hb hown (hts (.constant RX0 33 (1000000000)) (by decide +kernel)) dX0_isParted_4 ?_
  refine lv_icmp_ge (tgt := 13) hx hb dX0_isParted_6 (by decide) (fun _ => ?_) (fun h9 => absurd (by decide) h9)
  refine lv_iconst (v := 0) hx hb dX0_isParted_13 (by decide) ?_
  have hP9 := hP.sub (ws' := [(h0, .inr (0, [.ref bA, .ref xA, .ref kA, .ref aA, .ref eA, .ref gA, .ref oA, .int 0, .int 1000000000, .int 1000000000, .int 0, .int le]))]) [0] rfl
  have hD9 := hD.sub (ws' := [(h0, .inr (0, [.ref bA, .ref xA, .ref kA, .ref aA, .ref eA, .ref gA, .ref oA, .int 0, .int 1000000000, .int 1000000000, .int 0, .int le]))]) [0] (by decide) rfl
  exact W.zret (v := 0) (ty := .boolean) hx hb hr rfl (fun t ht hW => ⟨⟨0, (), rfl, rfl, by rw [ht]; exact hP9, hD9⟩, hS.F ht⟩) hS.2.2 dX0_isParted_14
set_option maxHeartbeats 4000000 in
set_option maxRecDepth 100000 in
theorem k_isPartedTwice0 (l : Launch) (dC : Nat → ClassId) (dI : Nat → Nat → Nat) (cI cZ cC cJ : ClassId) (sz : Nat) (h0 : Nat) (bA : Nat) (xA : Nat) (kA : Nat) (aA : Nat) (eA : Nat) (gA : Nat) (oA : Nat) (le : Int32)  : Met l yX0_isPartedTwice wsX0_isPartedTwice ({ frames := 0, cells := 0, slots := 0, locals := 0 }) (va_Pc [.ref h0] (sPre dC dI cI cZ cC cJ [(h0, .inr (0, [.ref bA, .ref xA, .ref kA, .ref aA, .ref eA, .ref gA, .ref oA, .int 0, .int 1000000000, .int 1000000000, .int 0, .int le]))] sz)) (va_Qi (fun (r : Int32) (u : Unit) => r = 0) (fun _ => sB dC dI (va_A [(h0, .inr (0, [.ref bA, .ref xA, .ref kA, .ref aA, .ref eA, .ref gA, .ref oA, .int 0, .int 1000000000, .int 1000000000, .int 0, .int le]))] sz) [(h0, .inr (0, [.ref bA, .ref xA, .ref kA, .ref aA, .ref eA, .ref gA, .ref oA, .int 0, .int 1000000000, .int 1000000000, .int 0, .int le]))]) (va_A [(h0, .inr (0, [.ref bA, .ref xA, .ref kA, .ref aA, .ref eA, .ref gA, .ref oA, .int 0, .int 1000000000, .int 1000000000, .int 0, .int le]))] sz)) 0 0 (va_A [(h0, .inr (0, [.ref bA, .ref xA, .ref kA, .ref aA, .ref eA, .ref gA, .ref oA, .int 0, .int 1000000000, .int 1000000000, .int 0, .int le]))] sz) := by
  refine Met.ofW (cc := cX0_isPartedTwice) (maxL := 1) (ret := (some .boolean)) (by decide) rfl ?_
  intro p e s m args below meth c s₁ B hml hv
  obtain ⟨rfl, hsz, hP, hsk, hD0⟩ := hv
  have hx := B.exec
  have hb := B.bytes
  have hr := B.returns
  have hts := atoms_spec (ws := wsX0_isPartedTwice) B.pre
  have hown : s.vm.findClass RX0 = some m.cls := findClass_of_methodNamed B.named
  have hlocks := B.notSynchronized
  have hK := hsk.1
  have i0 : ∀ w ∈ wsX00, w ∈ wsX0_isPartedTwice := by decide +kernel
  subst hsz
  have hD := hD0.self (sz := s.heap.size)
  generalize hAe : va_A [(h0, .inr (0, [.ref bA, .ref xA, .ref kA, .ref aA, .ref eA, .ref gA, .ref oA, .int 0, .int 1000000000, .int 1000000000, .int 0, .int le]))] s.heap.size = A at hD ⊢
  have hA : ∀ q : Nat, s.heap.size ≤ q → A q := fun q h => by rw [← hAe]; exact Or.inr h
  have hS : va_S A s.heap s.heap [] := va_S.rf
  have hl := lv_entry ([.ref h0]) (n := 1) (Nat.le_of_ble_eq_true rfl)
  rw [lg_entry_eq]
  generalize (lg_sl ([.ref h0]) ++ List.replicate (1 - (lg_sl ([.ref h0])).length) Slot.unset).toArray = ls at hl ⊢
  have hl : lv_has ls 1 [(0, .ref h0)] := hl
  refine lv_aload_n hx hb dX0_isPartedTwice_0 rfl (lv_at hl 0 rfl) ?_
  refine va_get (D := (dC, dI)) (ci := 0) (v := .int 1000000000) (C := RX0) (T := TX0) (N := 12) hx hb hts i0 hown hK hP 0 rfl rfl 9 (by decide) (hts (.fieldLink RX0 38 "StopSetter$Chart" "secondCost" "I") (by decide +kernel)) (fun _ h9 => h9) rfl dX0_isPartedTwice_1 ?_
  refine lv_ldc (v := 1000000000) hx hb hown (hts (.constant RX0 33 (1000000000)) (by decide +kernel)) dX0_isPartedTwice_4 ?_
  refine lv_icmp_ge (tgt := 13) hx hb dX0_isPartedTwice_6 (by decide) (fun _ => ?_) (fun h9 => absurd (by decide) h9)
  refine lv_iconst (v := 0) hx hb dX0_isPartedTwice_13 (by decide) ?_
  have hP9 := hP.sub (ws' := [(h0, .inr (0, [.ref bA, .ref xA, .ref kA, .ref aA, .ref eA, .ref gA, .ref oA, .int 0, .int 1000000000, .int 1000000000, .int 0, .int le]))]) [0] rfl
  have hD9 := hD.sub (ws' := [(h0, .inr (0, [.ref bA, .ref xA, .ref kA, .ref aA, .ref eA, .ref gA, .ref oA, .int 0, .int 1000000000, .int 1000000000, .int 0, .int le]))]) [0] (by decide) rfl
  exact W.zret (v := 0) (ty := .boolean) hx hb hr rfl (fun t ht hW => ⟨⟨0, (), rfl, rfl, by rw [ht]; exact hP9, hD9⟩, hS.F ht⟩) hS.2.2 dX0_isPartedTwice_14
set_option maxHeartbeats 4000000 in
set_option maxRecDepth 100000 in
theorem k_cost (l : Launch) (dC : Nat → ClassId) (dI : Nat → Nat → Nat) (cI cZ cC cJ : ClassId) (sz : Nat) (h0 : Nat) (kO : Nat) (nO : Nat) (rO : Nat) (mO : Nat) (tO : Nat) (rdO : Nat) (lnO : Nat) (drO : Nat) (chO : Nat) (bA : Nat) (xA : Nat) (kA : Nat) (aA : Nat) (eA : Nat) (gA : Nat) (oA : Nat)  : Met l yX4_cost wsX4_cost ({ frames := 2, cells := 0, slots := 0, locals := 46 }) (va_Pc [.ref h0] (sPre dC dI cI cZ cC cJ [(h0, .inr (4, [.ref kO, .ref nO, .ref rO, .ref mO, .int 0, .ref tO, .ref rdO, .ref lnO, .ref drO, .ref chO])), (chO, .inr (0, [.ref bA, .ref xA, .ref kA, .ref aA, .ref eA, .ref gA, .ref oA, .int 0, .int 1000000000, .int 1000000000, .int 0, .int 0]))] sz)) (va_Qi (fun (r : Int32) (u : Unit) => r = (-1)) (fun _ => sB dC dI (va_A [(h0, .inr (4, [.ref kO, .ref nO, .ref rO, .ref mO, .int 0, .ref tO, .ref rdO, .ref lnO, .ref drO, .ref chO])), (chO, .inr (0, [.ref bA, .ref xA, .ref kA, .ref aA, .ref eA, .ref gA, .ref oA, .int 0, .int 1000000000, .int 1000000000, .int 0, .int 0]))] sz) []) (va_A [(h0, .inr (4, [.ref kO, .ref nO, .ref rO, .ref mO, .int 0, .ref tO, .ref rdO, .ref lnO, .ref drO, .ref chO])), (chO, .inr (0, [.ref bA, .ref xA, .ref kA, .ref aA, .ref eA, .ref gA, .ref oA, .int 0, .int 1000000000, .int 1000000000, .int 0, .int 0]))] sz)) 0 0 (va_A [(h0, .inr (4, [.ref kO, .ref nO, .ref rO, .ref mO, .int 0, .ref tO, .ref rdO, .ref lnO, .ref drO, .ref chO])), (chO, .inr (0, [.ref bA, .ref xA, .ref kA, .ref aA, .ref eA, .ref gA, .ref oA, .int 0, .int 1000000000, .int 1000000000, .int 0, .int 0]))] sz) := by
  refine Met.ofW (cc := cX4_cost) (maxL := 1) (ret := (some .int)) (by decide) rfl ?_
  intro p e s m args below meth c s₁ B hml hv
  obtain ⟨rfl, hsz, hP, hsk, hD0⟩ := hv
  have hx := B.exec
  have hb := B.bytes
  have hr := B.returns
  have hts := atoms_spec (ws := wsX4_cost) B.pre
  have hown : s.vm.findClass RX4 = some m.cls := findClass_of_methodNamed B.named
  have hlocks := B.notSynchronized
  have hK := hsk.1
  have i4 : ∀ w ∈ wsX40, w ∈ wsX4_cost := by decide +kernel
  subst hsz
  have hD := hD0.self (sz := s.heap.size)
  generalize hAe : va_A [(h0, .inr (4, [.ref kO, .ref nO, .ref rO, .ref mO, .int 0, .ref tO, .ref rdO, .ref lnO, .ref drO, .ref chO])), (chO, .inr (0, [.ref bA, .ref xA, .ref kA, .ref aA, .ref eA, .ref gA, .ref oA, .int 0, .int 1000000000, .int 1000000000, .int 0, .int 0]))] s.heap.size = A at hD ⊢
  have hA : ∀ q : Nat, s.heap.size ≤ q → A q := fun q h => by rw [← hAe]; exact Or.inr h
  have hS : va_S A s.heap s.heap [] := va_S.rf
  have hl := lv_entry ([.ref h0]) (n := 1) (Nat.le_of_ble_eq_true rfl)
  rw [lg_entry_eq]
  generalize (lg_sl ([.ref h0]) ++ List.replicate (1 - (lg_sl ([.ref h0])).length) Slot.unset).toArray = ls at hl ⊢
  have hl : lv_has ls 1 [(0, .ref h0)] := hl
  refine lv_aload_n hx hb dX4_cost_0 rfl (lv_at hl 0 rfl) ?_
  have hPc := hP.sub (ws' := [(h0, .inr (4, [.ref kO, .ref nO, .ref rO, .ref mO, .int 0, .ref tO, .ref rdO, .ref lnO, .ref drO, .ref chO])), (chO, .inr (0, [.ref bA, .ref xA, .ref kA, .ref aA, .ref eA, .ref gA, .ref oA, .int 0, .int 1000000000, .int 1000000000, .int 0, .int 0]))]) [0, 1] rfl
  have hDc := hD.sub (ws' := [(h0, .inr (4, [.ref kO, .ref nO, .ref rO, .ref mO, .int 0, .ref tO, .ref rdO, .ref lnO, .ref drO, .ref chO])), (chO, .inr (0, [.ref bA, .ref xA, .ref kA, .ref aA, .ref eA, .ref gA, .ref oA, .int 0, .int 1000000000, .int 1000000000, .int 0, .int 0]))]) [0, 1] (by decide) rfl
  have hFc := va_free (wc := [(h0, .inr (4, [.ref kO, .ref nO, .ref rO, .ref mO, .int 0, .ref tO, .ref rdO, .ref lnO, .ref drO, .ref chO])), (chO, .inr (0, [.ref bA, .ref xA, .ref kA, .ref aA, .ref eA, .ref gA, .ref oA, .int 0, .int 1000000000, .int 1000000000, .int 0, .int 0]))]) hD hS hA [0, 1] rfl
  refine va_callv (va_runV (As := []) (rest := []) ⟨hx, hb, hml, hown, hts⟩ (k_solve0 l dC dI cI cZ cC cJ s.heap.size h0 kO nO rO mO tO rdO lnO drO chO bA xA kA aA eA gA oA 1000000000 1000000000 0 0 ) (cwV 0 hts gX4_cost_X4_solve rfl rfl rfl (by decide +kernel) ⟨Nat.le_of_ble_eq_true rfl, Nat.le_of_ble_eq_true rfl⟩) ⟨sPre_blind, va_recv hK hPc (ci := 4) (q0 := 0) rfl rfl, fun U hU hW => ⟨rfl, sPre_ok hsk hPc hDc hU hW⟩⟩ rfl rfl hl.1 rfl (lv_room (Nat.le_of_ble_eq_true rfl)) dX4_cost_1 ⟨(show 0 + 0 ≤ 0 by omega), (show 0 + 0 ≤ 0 by omega)⟩) hS (fun q _ h => hFc q h) hFc (fun u t H1 locs ht hvm hw hB hz1 hk1 hS => ?_)
  try dsimp only at hw hB
  obtain ⟨hP1, hD1⟩ := hB
  rw [ht] at hP1
  obtain ⟨hP, hD⟩ := va_join (wr := []) (w1 := [(h0, .inr (4, [.ref kO, .ref nO, .ref rO, .ref mO, .int 0, .ref tO, .ref rdO, .ref lnO, .ref drO, .ref chO])), (chO, .inr (0, [.ref bA, .ref xA, .ref kA, .ref aA, .ref eA, .ref gA, .ref oA, .int 0, .int 1000000000, .int 1000000000, .int 0, .int (-1)]))]) hP hD [0, 1] [] rfl rfl (by decide) (by decide) hk1 hFc hP1 hD1
  generalize H1 = H at hP hS ⊢
  have hP : va_P (dC, dI) vwCl [(h0, .inr (4, [.ref kO, .ref nO, .ref rO, .ref mO, .int 0, .ref tO, .ref rdO, .ref lnO, .ref drO, .ref chO])), (chO, .inr (0, [.ref bA, .ref xA, .ref kA, .ref aA, .ref eA, .ref gA, .ref oA, .int 0, .int 1000000000, .int 1000000000, .int 0, .int (-1)]))] H := hP
  have hD : va_D A [(h0, .inr (4, [.ref kO, .ref nO, .ref rO, .ref mO, .int 0, .ref tO, .ref rdO, .ref lnO, .ref drO, .ref chO])), (chO, .inr (0, [.ref bA, .ref xA, .ref kA, .ref aA, .ref eA, .ref gA, .ref oA, .int 0, .int 1000000000, .int 1000000000, .int 0, .int (-1)]))] := hD
  refine lv_aload_n hx hb dX4_cost_4 rfl (lv_at hl 0 rfl) ?_
  refine va_get (D := (dC, dI)) (ci := 4) (v := .ref chO) (C := RX4) (T := TX4) (N := 10) hx hb hts i4 hown hK hP 0 rfl rfl 9 (by decide) (hts (.fieldLink RX4 52 "StopSetter" "chart" "LStopSetter$Chart;") (by decide +kernel)) (fun _ h9 => h9) rfl dX4_cost_5 ?_
  have hPc := hP.sub (ws' := [(chO, .inr (0, [.ref bA, .ref xA, .ref kA, .ref aA, .ref eA, .ref gA, .ref oA, .int 0, .int 1000000000, .int 1000000000, .int 0, .int (-1)]))]) [1] rfl
  have hDc := hD.sub (ws' := [(chO, .inr (0, [.ref bA, .ref xA, .ref kA, .ref aA, .ref eA, .ref gA, .ref oA, .int 0, .int 1000000000, .int 1000000000, .int 0, .int (-1)]))]) [1] (by decide) rfl
  have hFc := va_free (wc := [(chO, .inr (0, [.ref bA, .ref xA, .ref kA, .ref aA, .ref eA, .ref gA, .ref oA, .int 0, .int 1000000000, .int 1000000000, .int 0, .int (-1)]))]) hD hS hA [1] rfl
  refine va_calli (va_runV (As := []) (rest := []) ⟨hx, hb, hml, hown, hts⟩ (k_isParted0 l dC dI cI cZ cC cJ H.size chO bA xA kA aA eA gA oA (-1) ) (cwV 0 hts gX4_cost_X0_isParted rfl rfl rfl (by decide +kernel) ⟨Nat.le_of_ble_eq_true rfl, Nat.le_of_ble_eq_true rfl⟩) ⟨sPre_blind, va_recv hK hPc (ci := 0) (q0 := 0) rfl rfl, fun U hU hW => ⟨rfl, sPre_ok hsk hPc hDc hU hW⟩⟩ rfl rfl hl.1 rfl (lv_room (Nat.le_of_ble_eq_true rfl)) dX4_cost_8 ⟨(show 0 + 0 ≤ 0 by omega), (show 0 + 0 ≤ 0 by omega)⟩) hS (fun q _ h => hFc q h) hFc (fun r_2 u t H1 locs ht hvm hw hB hz1 hk1 hS => ?_)
  try dsimp only at hw hB
  have hw_3 := hw
  obtain rfl : r_2 = 0 := hw_3
  obtain ⟨hP1, hD1⟩ := hB
  rw [ht] at hP1
  obtain ⟨hP, hD⟩ := va_join (wr := [(h0, .inr (4, [.ref kO, .ref nO, .ref rO, .ref mO, .int 0, .ref tO, .ref rdO, .ref lnO, .ref drO, .ref chO]))]) (w1 := [(chO, .inr (0, [.ref bA, .ref xA, .ref kA, .ref aA, .ref eA, .ref gA, .ref oA, .int 0, .int 1000000000, .int 1000000000, .int 0, .int (-1)]))]) hP hD [1] [0] rfl rfl (by decide) (by decide) hk1 hFc hP1 hD1
  generalize H1 = H at hP hS ⊢
  have hP : va_P (dC, dI) vwCl [(h0, .inr (4, [.ref kO, .ref nO, .ref rO, .ref mO, .int 0, .ref tO, .ref rdO, .ref lnO, .ref drO, .ref chO])), (chO, .inr (0, [.ref bA, .ref xA, .ref kA, .ref aA, .ref eA, .ref gA, .ref oA, .int 0, .int 1000000000, .int 1000000000, .int 0, .int (-1)]))] H := hP
  have hD : va_D A [(h0, .inr (4, [.ref kO, .ref nO, .ref rO, .ref mO, .int 0, .ref tO, .ref rdO, .ref lnO, .ref drO, .ref chO])), (chO, .inr (0, [.ref bA, .ref xA, .ref kA, .ref aA, .ref eA, .ref gA, .ref oA, .int 0, .int 1000000000, .int 1000000000, .int 0, .int (-1)]))] := hD
  refine lv_if_eq (tgt := 24) hx hb dX4_cost_11 (by decide) (fun _ => ?_) (fun h9 => absurd (by decide) h9)
  refine lv_iconst (v := (-1)) hx hb dX4_cost_24 (by decide) ?_
  have hP9 := hP.sub (ws' := []) [] rfl
  have hD9 := hD.sub (ws' := []) [] (by decide) rfl
  exact W.iret (v := (-1)) hx hb hr (fun t ht hW => ⟨⟨(-1), (), rfl, rfl, by rw [ht]; exact hP9, hD9⟩, hS.F ht⟩) hS.2.2 dX4_cost_25
set_option maxHeartbeats 4000000 in
set_option maxRecDepth 100000 in
theorem k_second (l : Launch) (dC : Nat → ClassId) (dI : Nat → Nat → Nat) (cI cZ cC cJ : ClassId) (sz : Nat) (h0 : Nat) (kO : Nat) (nO : Nat) (rO : Nat) (mO : Nat) (tO : Nat) (rdO : Nat) (lnO : Nat) (drO : Nat) (chO : Nat) (bA : Nat) (xA : Nat) (kA : Nat) (aA : Nat) (eA : Nat) (gA : Nat) (oA : Nat)  : Met l yX4_second wsX4_second ({ frames := 2, cells := 0, slots := 0, locals := 46 }) (va_Pc [.ref h0] (sPre dC dI cI cZ cC cJ [(h0, .inr (4, [.ref kO, .ref nO, .ref rO, .ref mO, .int 0, .ref tO, .ref rdO, .ref lnO, .ref drO, .ref chO])), (chO, .inr (0, [.ref bA, .ref xA, .ref kA, .ref aA, .ref eA, .ref gA, .ref oA, .int 0, .int 1000000000, .int 1000000000, .int 0, .int 0]))] sz)) (va_Qi (fun (r : Int32) (u : Unit) => r = (-1)) (fun _ => sB dC dI (va_A [(h0, .inr (4, [.ref kO, .ref nO, .ref rO, .ref mO, .int 0, .ref tO, .ref rdO, .ref lnO, .ref drO, .ref chO])), (chO, .inr (0, [.ref bA, .ref xA, .ref kA, .ref aA, .ref eA, .ref gA, .ref oA, .int 0, .int 1000000000, .int 1000000000, .int 0, .int 0]))] sz) []) (va_A [(h0, .inr (4, [.ref kO, .ref nO, .ref rO, .ref mO, .int 0, .ref tO, .ref rdO, .ref lnO, .ref drO, .ref chO])), (chO, .inr (0, [.ref bA, .ref xA, .ref kA, .ref aA, .ref eA, .ref gA, .ref oA, .int 0, .int 1000000000, .int 1000000000, .int 0, .int 0]))] sz)) 0 0 (va_A [(h0, .inr (4, [.ref kO, .ref nO, .ref rO, .ref mO, .int 0, .ref tO, .ref rdO, .ref lnO, .ref drO, .ref chO])), (chO, .inr (0, [.ref bA, .ref xA, .ref kA, .ref aA, .ref eA, .ref gA, .ref oA, .int 0, .int 1000000000, .int 1000000000, .int 0, .int 0]))] sz) := by
  refine Met.ofW (cc := cX4_second) (maxL := 1) (ret := (some .int)) (by decide) rfl ?_
  intro p e s m args below meth c s₁ B hml hv
  obtain ⟨rfl, hsz, hP, hsk, hD0⟩ := hv
  have hx := B.exec
  have hb := B.bytes
  have hr := B.returns
  have hts := atoms_spec (ws := wsX4_second) B.pre
  have hown : s.vm.findClass RX4 = some m.cls := findClass_of_methodNamed B.named
  have hlocks := B.notSynchronized
  have hK := hsk.1
  have i4 : ∀ w ∈ wsX40, w ∈ wsX4_second := by decide +kernel
  subst hsz
  have hD := hD0.self (sz := s.heap.size)
  generalize hAe : va_A [(h0, .inr (4, [.ref kO, .ref nO, .ref rO, .ref mO, .int 0, .ref tO, .ref rdO, .ref lnO, .ref drO, .ref chO])), (chO, .inr (0, [.ref bA, .ref xA, .ref kA, .ref aA, .ref eA, .ref gA, .ref oA, .int 0, .int 1000000000, .int 1000000000, .int 0, .int 0]))] s.heap.size = A at hD ⊢
  have hA : ∀ q : Nat, s.heap.size ≤ q → A q := fun q h => by rw [← hAe]; exact Or.inr h
  have hS : va_S A s.heap s.heap [] := va_S.rf
  have hl := lv_entry ([.ref h0]) (n := 1) (Nat.le_of_ble_eq_true rfl)
  rw [lg_entry_eq]
  generalize (lg_sl ([.ref h0]) ++ List.replicate (1 - (lg_sl ([.ref h0])).length) Slot.unset).toArray = ls at hl ⊢
  have hl : lv_has ls 1 [(0, .ref h0)] := hl
  refine lv_aload_n hx hb dX4_second_0 rfl (lv_at hl 0 rfl) ?_
  have hPc := hP.sub (ws' := [(h0, .inr (4, [.ref kO, .ref nO, .ref rO, .ref mO, .int 0, .ref tO, .ref rdO, .ref lnO, .ref drO, .ref chO])), (chO, .inr (0, [.ref bA, .ref xA, .ref kA, .ref aA, .ref eA, .ref gA, .ref oA, .int 0, .int 1000000000, .int 1000000000, .int 0, .int 0]))]) [0, 1] rfl
  have hDc := hD.sub (ws' := [(h0, .inr (4, [.ref kO, .ref nO, .ref rO, .ref mO, .int 0, .ref tO, .ref rdO, .ref lnO, .ref drO, .ref chO])), (chO, .inr (0, [.ref bA, .ref xA, .ref kA, .ref aA, .ref eA, .ref gA, .ref oA, .int 0, .int 1000000000, .int 1000000000, .int 0, .int 0]))]) [0, 1] (by decide) rfl
  have hFc := va_free (wc := [(h0, .inr (4, [.ref kO, .ref nO, .ref rO, .ref mO, .int 0, .ref tO, .ref rdO, .ref lnO, .ref drO, .ref chO])), (chO, .inr (0, [.ref bA, .ref xA, .ref kA, .ref aA, .ref eA, .ref gA, .ref oA, .int 0, .int 1000000000, .int 1000000000, .int 0, .int 0]))]) hD hS hA [0, 1] rfl
  refine va_callv (va_runV (As := []) (rest := []) ⟨hx, hb, hml, hown, hts⟩ (k_solve0 l dC dI cI cZ cC cJ s.heap.size h0 kO nO rO mO tO rdO lnO drO chO bA xA kA aA eA gA oA 1000000000 1000000000 0 0 ) (cwV 0 hts gX4_second_X4_solve rfl rfl rfl (by decide +kernel) ⟨Nat.le_of_ble_eq_true rfl, Nat.le_of_ble_eq_true rfl⟩) ⟨sPre_blind, va_recv hK hPc (ci := 4) (q0 := 0) rfl rfl, fun U hU hW => ⟨rfl, sPre_ok hsk hPc hDc hU hW⟩⟩ rfl rfl hl.1 rfl (lv_room (Nat.le_of_ble_eq_true rfl)) dX4_second_1 ⟨(show 0 + 0 ≤ 0 by omega), (show 0 + 0 ≤ 0 by omega)⟩) hS (fun q _ h => hFc q h) hFc (fun u t H1 locs ht hvm hw hB hz1 hk1 hS => ?_)
  try dsimp only at hw hB
  obtain ⟨hP1, hD1⟩ := hB
  rw [ht] at hP1
  obtain ⟨hP, hD⟩ := va_join (wr := []) (w1 := [(h0, .inr (4, [.ref kO, .ref nO, .ref rO, .ref mO, .int 0, .ref tO, .ref rdO, .ref lnO, .ref drO, .ref chO])), (chO, .inr (0, [.ref bA, .ref xA, .ref kA, .ref aA, .ref eA, .ref gA, .ref oA, .int 0, .int 1000000000, .int 1000000000, .int 0, .int (-1)]))]) hP hD [0, 1] [] rfl rfl (by decide) (by decide) hk1 hFc hP1 hD1
  generalize H1 = H at hP hS ⊢
  have hP : va_P (dC, dI) vwCl [(h0, .inr (4, [.ref kO, .ref nO, .ref rO, .ref mO, .int 0, .ref tO, .ref rdO, .ref lnO, .ref drO, .ref chO])), (chO, .inr (0, [.ref bA, .ref xA, .ref kA, .ref aA, .ref eA, .ref gA, .ref oA, .int 0, .int 1000000000, .int 1000000000, .int 0, .int (-1)]))] H := hP
  have hD : va_D A [(h0, .inr (4, [.ref kO, .ref nO, .ref rO, .ref mO, .int 0, .ref tO, .ref rdO, .ref lnO, .ref drO, .ref chO])), (chO, .inr (0, [.ref bA, .ref xA, .ref kA, .ref aA, .ref eA, .ref gA, .ref oA, .int 0, .int 1000000000, .int 1000000000, .int 0, .int (-1)]))] := hD
  refine lv_aload_n hx hb dX4_second_4 rfl (lv_at hl 0 rfl) ?_
  refine va_get (D := (dC, dI)) (ci := 4) (v := .ref chO) (C := RX4) (T := TX4) (N := 10) hx hb hts i4 hown hK hP 0 rfl rfl 9 (by decide) (hts (.fieldLink RX4 52 "StopSetter" "chart" "LStopSetter$Chart;") (by decide +kernel)) (fun _ h9 => h9) rfl dX4_second_5 ?_
  have hPc := hP.sub (ws' := [(chO, .inr (0, [.ref bA, .ref xA, .ref kA, .ref aA, .ref eA, .ref gA, .ref oA, .int 0, .int 1000000000, .int 1000000000, .int 0, .int (-1)]))]) [1] rfl
  have hDc := hD.sub (ws' := [(chO, .inr (0, [.ref bA, .ref xA, .ref kA, .ref aA, .ref eA, .ref gA, .ref oA, .int 0, .int 1000000000, .int 1000000000, .int 0, .int (-1)]))]) [1] (by decide) rfl
  have hFc := va_free (wc := [(chO, .inr (0, [.ref bA, .ref xA, .ref kA, .ref aA, .ref eA, .ref gA, .ref oA, .int 0, .int 1000000000, .int 1000000000, .int 0, .int (-1)]))]) hD hS hA [1] rfl
  refine va_calli (va_runV (As := []) (rest := []) ⟨hx, hb, hml, hown, hts⟩ (k_isPartedTwice0 l dC dI cI cZ cC cJ H.size chO bA xA kA aA eA gA oA (-1) ) (cwV 0 hts gX4_second_X0_isPartedTwice rfl rfl rfl (by decide +kernel) ⟨Nat.le_of_ble_eq_true rfl, Nat.le_of_ble_eq_true rfl⟩) ⟨sPre_blind, va_recv hK hPc (ci := 0) (q0 := 0) rfl rfl, fun U hU hW => ⟨rfl, sPre_ok hsk hPc hDc hU hW⟩⟩ rfl rfl hl.1 rfl (lv_room (Nat.le_of_ble_eq_true rfl)) dX4_second_8 ⟨(show 0 + 0 ≤ 0 by omega), (show 0 + 0 ≤ 0 by omega)⟩) hS (fun q _ h => hFc q h) hFc (fun r_2 u t H1 locs ht hvm hw hB hz1 hk1 hS => ?_)
  try dsimp only at hw hB
  have hw_3 := hw
  obtain rfl : r_2 = 0 := hw_3
  obtain ⟨hP1, hD1⟩ := hB
  rw [ht] at hP1
  obtain ⟨hP, hD⟩ := va_join (wr := [(h0, .inr (4, [.ref kO, .ref nO, .ref rO, .ref mO, .int 0, .ref tO, .ref rdO, .ref lnO, .ref drO, .ref chO]))]) (w1 := [(chO, .inr (0, [.ref bA, .ref xA, .ref kA, .ref aA, .ref eA, .ref gA, .ref oA, .int 0, .int 1000000000, .int 1000000000, .int 0, .int (-1)]))]) hP hD [1] [0] rfl rfl (by decide) (by decide) hk1 hFc hP1 hD1
  generalize H1 = H at hP hS ⊢
  have hP : va_P (dC, dI) vwCl [(h0, .inr (4, [.ref kO, .ref nO, .ref rO, .ref mO, .int 0, .ref tO, .ref rdO, .ref lnO, .ref drO, .ref chO])), (chO, .inr (0, [.ref bA, .ref xA, .ref kA, .ref aA, .ref eA, .ref gA, .ref oA, .int 0, .int 1000000000, .int 1000000000, .int 0, .int (-1)]))] H := hP
  have hD : va_D A [(h0, .inr (4, [.ref kO, .ref nO, .ref rO, .ref mO, .int 0, .ref tO, .ref rdO, .ref lnO, .ref drO, .ref chO])), (chO, .inr (0, [.ref bA, .ref xA, .ref kA, .ref aA, .ref eA, .ref gA, .ref oA, .int 0, .int 1000000000, .int 1000000000, .int 0, .int (-1)]))] := hD
  refine lv_if_eq (tgt := 24) hx hb dX4_second_11 (by decide) (fun _ => ?_) (fun h9 => absurd (by decide) h9)
  refine lv_iconst (v := (-1)) hx hb dX4_second_24 (by decide) ?_
  have hP9 := hP.sub (ws' := []) [] rfl
  have hD9 := hD.sub (ws' := []) [] (by decide) rfl
  exact W.iret (v := (-1)) hx hb hr (fun t ht hW => ⟨⟨(-1), (), rfl, rfl, by rw [ht]; exact hP9, hD9⟩, hS.F ht⟩) hS.2.2 dX4_second_25
set_option maxHeartbeats 4000000 in
set_option maxRecDepth 100000 in
theorem k_last (l : Launch) (dC : Nat → ClassId) (dI : Nat → Nat → Nat) (cI cZ cC cJ : ClassId) (sz : Nat) (h0 : Nat) (kO : Nat) (nO : Nat) (rO : Nat) (mO : Nat) (tO : Nat) (rdO : Nat) (lnO : Nat) (drO : Nat) (chO : Nat) (bA : Nat) (xA : Nat) (kA : Nat) (aA : Nat) (eA : Nat) (gA : Nat) (oA : Nat)  : Met l yX4_last wsX4_last ({ frames := 2, cells := 0, slots := 0, locals := 46 }) (va_Pc [.ref h0] (sPre dC dI cI cZ cC cJ [(h0, .inr (4, [.ref kO, .ref nO, .ref rO, .ref mO, .int 0, .ref tO, .ref rdO, .ref lnO, .ref drO, .ref chO])), (chO, .inr (0, [.ref bA, .ref xA, .ref kA, .ref aA, .ref eA, .ref gA, .ref oA, .int 0, .int 1000000000, .int 1000000000, .int 0, .int 0]))] sz)) (va_Qi (fun (r : Int32) (u : Unit) => r = (-1)) (fun _ => sB dC dI (va_A [(h0, .inr (4, [.ref kO, .ref nO, .ref rO, .ref mO, .int 0, .ref tO, .ref rdO, .ref lnO, .ref drO, .ref chO])), (chO, .inr (0, [.ref bA, .ref xA, .ref kA, .ref aA, .ref eA, .ref gA, .ref oA, .int 0, .int 1000000000, .int 1000000000, .int 0, .int 0]))] sz) []) (va_A [(h0, .inr (4, [.ref kO, .ref nO, .ref rO, .ref mO, .int 0, .ref tO, .ref rdO, .ref lnO, .ref drO, .ref chO])), (chO, .inr (0, [.ref bA, .ref xA, .ref kA, .ref aA, .ref eA, .ref gA, .ref oA, .int 0, .int 1000000000, .int 1000000000, .int 0, .int 0]))] sz)) 0 0 (va_A [(h0, .inr (4, [.ref kO, .ref nO, .ref rO, .ref mO, .int 0, .ref tO, .ref rdO, .ref lnO, .ref drO, .ref chO])), (chO, .inr (0, [.ref bA, .ref xA, .ref kA, .ref aA, .ref eA, .ref gA, .ref oA, .int 0, .int 1000000000, .int 1000000000, .int 0, .int 0]))] sz) := by
  refine Met.ofW (cc := cX4_last) (maxL := 1) (ret := (some .int)) (by decide) rfl ?_
  intro p e s m args below meth c s₁ B hml hv
  obtain ⟨rfl, hsz, hP, hsk, hD0⟩ := hv
  have hx := B.exec
  have hb := B.bytes
  have hr := B.returns
  have hts := atoms_spec (ws := wsX4_last) B.pre
  have hown : s.vm.findClass RX4 = some m.cls := findClass_of_methodNamed B.named
  have hlocks := B.notSynchronized
  have hK := hsk.1
  have i4 : ∀ w ∈ wsX40, w ∈ wsX4_last := by decide +kernel
  subst hsz
  have hD := hD0.self (sz := s.heap.size)
  generalize hAe : va_A [(h0, .inr (4, [.ref kO, .ref nO, .ref rO, .ref mO, .int 0, .ref tO, .ref rdO, .ref lnO, .ref drO, .ref chO])), (chO, .inr (0, [.ref bA, .ref xA, .ref kA, .ref aA, .ref eA, .ref gA, .ref oA, .int 0, .int 1000000000, .int 1000000000, .int 0, .int 0]))] s.heap.size = A at hD ⊢
  have hA : ∀ q : Nat, s.heap.size ≤ q → A q := fun q h => by rw [← hAe]; exact Or.inr h
  have hS : va_S A s.heap s.heap [] := va_S.rf
  have hl := lv_entry ([.ref h0]) (n := 1) (Nat.le_of_ble_eq_true rfl)
  rw [lg_entry_eq]
  generalize (lg_sl ([.ref h0]) ++ List.replicate (1 - (lg_sl ([.ref h0])).length) Slot.unset).toArray = ls at hl ⊢
  have hl : lv_has ls 1 [(0, .ref h0)] := hl
  refine lv_aload_n hx hb dX4_last_0 rfl (lv_at hl 0 rfl) ?_
  have hPc := hP.sub (ws' := [(h0, .inr (4, [.ref kO, .ref nO, .ref rO, .ref mO, .int 0, .ref tO, .ref rdO, .ref lnO, .ref drO, .ref chO])), (chO, .inr (0, [.ref bA, .ref xA, .ref kA, .ref aA, .ref eA, .ref gA, .ref oA, .int 0, .int 1000000000, .int 1000000000, .int 0, .int 0]))]) [0, 1] rfl
  have hDc := hD.sub (ws' := [(h0, .inr (4, [.ref kO, .ref nO, .ref rO, .ref mO, .int 0, .ref tO, .ref rdO, .ref lnO, .ref drO, .ref chO])), (chO, .inr (0, [.ref bA, .ref xA, .ref kA, .ref aA, .ref eA, .ref gA, .ref oA, .int 0, .int 1000000000, .int 1000000000, .int 0, .int 0]))]) [0, 1] (by decide) rfl
  have hFc := va_free (wc := [(h0, .inr (4, [.ref kO, .ref nO, .ref rO, .ref mO, .int 0, .ref tO, .ref rdO, .ref lnO, .ref drO, .ref chO])), (chO, .inr (0, [.ref bA, .ref xA, .ref kA, .ref aA, .ref eA, .ref gA, .ref oA, .int 0, .int 1000000000, .int 1000000000, .int 0, .int 0]))]) hD hS hA [0, 1] rfl
  refine va_callv (va_runV (As := []) (rest := []) ⟨hx, hb, hml, hown, hts⟩ (k_solve0 l dC dI cI cZ cC cJ s.heap.size h0 kO nO rO mO tO rdO lnO drO chO bA xA kA aA eA gA oA 1000000000 1000000000 0 0 ) (cwV 0 hts gX4_last_X4_solve rfl rfl rfl (by decide +kernel) ⟨Nat.le_of_ble_eq_true rfl, Nat.le_of_ble_eq_true rfl⟩) ⟨sPre_blind, va_recv hK hPc (ci := 4) (q0 := 0) rfl rfl, fun U hU hW => ⟨rfl, sPre_ok hsk hPc hDc hU hW⟩⟩ rfl rfl hl.1 rfl (lv_room (Nat.le_of_ble_eq_true rfl)) dX4_last_1 ⟨(show 0 + 0 ≤ 0 by omega), (show 0 + 0 ≤ 0 by omega)⟩) hS (fun q _ h => hFc q h) hFc (fun u t H1 locs ht hvm hw hB hz1 hk1 hS => ?_)
  try dsimp only at hw hB
  obtain ⟨hP1, hD1⟩ := hB
  rw [ht] at hP1
  obtain ⟨hP, hD⟩ := va_join (wr := []) (w1 := [(h0, .inr (4, [.ref kO, .ref nO, .ref rO, .ref mO, .int 0, .ref tO, .ref rdO, .ref lnO, .ref drO, .ref chO])), (chO, .inr (0, [.ref bA, .ref xA, .ref kA, .ref aA, .ref eA, .ref gA, .ref oA, .int 0, .int 1000000000, .int 1000000000, .int 0, .int (-1)]))]) hP hD [0, 1] [] rfl rfl (by decide) (by decide) hk1 hFc hP1 hD1
  generalize H1 = H at hP hS ⊢
  have hP : va_P (dC, dI) vwCl [(h0, .inr (4, [.ref kO, .ref nO, .ref rO, .ref mO, .int 0, .ref tO, .ref rdO, .ref lnO, .ref drO, .ref chO])), (chO, .inr (0, [.ref bA, .ref xA, .ref kA, .ref aA, .ref eA, .ref gA, .ref oA, .int 0, .int 1000000000, .int 1000000000, .int 0, .int (-1)]))] H := hP
  have hD : va_D A [(h0, .inr (4, [.ref kO, .ref nO, .ref rO, .ref mO, .int 0, .ref tO, .ref rdO, .ref lnO, .ref drO, .ref chO])), (chO, .inr (0, [.ref bA, .ref xA, .ref kA, .ref aA, .ref eA, .ref gA, .ref oA, .int 0, .int 1000000000, .int 1000000000, .int 0, .int (-1)]))] := hD
  refine lv_aload_n hx hb dX4_last_4 rfl (lv_at hl 0 rfl) ?_
  refine va_get (D := (dC, dI)) (ci := 4) (v := .ref chO) (C := RX4) (T := TX4) (N := 10) hx hb hts i4 hown hK hP 0 rfl rfl 9 (by decide) (hts (.fieldLink RX4 52 "StopSetter" "chart" "LStopSetter$Chart;") (by decide +kernel)) (fun _ h9 => h9) rfl dX4_last_5 ?_
  have hPc := hP.sub (ws' := [(chO, .inr (0, [.ref bA, .ref xA, .ref kA, .ref aA, .ref eA, .ref gA, .ref oA, .int 0, .int 1000000000, .int 1000000000, .int 0, .int (-1)]))]) [1] rfl
  have hDc := hD.sub (ws' := [(chO, .inr (0, [.ref bA, .ref xA, .ref kA, .ref aA, .ref eA, .ref gA, .ref oA, .int 0, .int 1000000000, .int 1000000000, .int 0, .int (-1)]))]) [1] (by decide) rfl
  have hFc := va_free (wc := [(chO, .inr (0, [.ref bA, .ref xA, .ref kA, .ref aA, .ref eA, .ref gA, .ref oA, .int 0, .int 1000000000, .int 1000000000, .int 0, .int (-1)]))]) hD hS hA [1] rfl
  refine va_calli (va_runV (As := []) (rest := []) ⟨hx, hb, hml, hown, hts⟩ (k_isParted0 l dC dI cI cZ cC cJ H.size chO bA xA kA aA eA gA oA (-1) ) (cwV 0 hts gX4_last_X0_isParted rfl rfl rfl (by decide +kernel) ⟨Nat.le_of_ble_eq_true rfl, Nat.le_of_ble_eq_true rfl⟩) ⟨sPre_blind, va_recv hK hPc (ci := 0) (q0 := 0) rfl rfl, fun U hU hW => ⟨rfl, sPre_ok hsk hPc hDc hU hW⟩⟩ rfl rfl hl.1 rfl (lv_room (Nat.le_of_ble_eq_true rfl)) dX4_last_8 ⟨(show 0 + 0 ≤ 0 by omega), (show 0 + 0 ≤ 0 by omega)⟩) hS (fun q _ h => hFc q h) hFc (fun r_2 u t H1 locs ht hvm hw hB hz1 hk1 hS => ?_)
  try dsimp only at hw hB
  have hw_3 := hw
  obtain rfl : r_2 = 0 := hw_3
  obtain ⟨hP1, hD1⟩ := hB
  rw [ht] at hP1
  obtain ⟨hP, hD⟩ := va_join (wr := [(h0, .inr (4, [.ref kO, .ref nO, .ref rO, .ref mO, .int 0, .ref tO, .ref rdO, .ref lnO, .ref drO, .ref chO]))]) (w1 := [(chO, .inr (0, [.ref bA, .ref xA, .ref kA, .ref aA, .ref eA, .ref gA, .ref oA, .int 0, .int 1000000000, .int 1000000000, .int 0, .int (-1)]))]) hP hD [1] [0] rfl rfl (by decide) (by decide) hk1 hFc hP1 hD1
  generalize H1 = H at hP hS ⊢
  have hP : va_P (dC, dI) vwCl [(h0, .inr (4, [.ref kO, .ref nO, .ref rO, .ref mO, .int 0, .ref tO, .ref rdO, .ref lnO, .ref drO, .ref chO])), (chO, .inr (0, [.ref bA, .ref xA, .ref kA, .ref aA, .ref eA, .ref gA, .ref oA, .int 0, .int 1000000000, .int 1000000000, .int 0, .int (-1)]))] H := hP
  have hD : va_D A [(h0, .inr (4, [.ref kO, .ref nO, .ref rO, .ref mO, .int 0, .ref tO, .ref rdO, .ref lnO, .ref drO, .ref chO])), (chO, .inr (0, [.ref bA, .ref xA, .ref kA, .ref aA, .ref eA, .ref gA, .ref oA, .int 0, .int 1000000000, .int 1000000000, .int 0, .int (-1)]))] := hD
  refine lv_if_eq (tgt := 24) hx hb dX4_last_11 (by decide) (fun _ => ?_) (fun h9 => absurd (by decide) h9)
  refine lv_iconst (v := (-1)) hx hb dX4_last_24 (by decide) ?_
  have hP9 := hP.sub (ws' := []) [] rfl
  have hD9 := hD.sub (ws' := []) [] (by decide) rfl
  exact W.iret (v := (-1)) hx hb hr (fun t ht hW => ⟨⟨(-1), (), rfl, rfl, by rw [ht]; exact hP9, hD9⟩, hS.F ht⟩) hS.2.2 dX4_last_25
set_option maxHeartbeats 4000000 in
set_option maxRecDepth 100000 in
theorem k_sentences (l : Launch) (dC : Nat → ClassId) (dI : Nat → Nat → Nat) (cI cZ cC cJ : ClassId) (sz : Nat) (h0 : Nat) (kO : Nat) (nO : Nat) (rO : Nat) (mO : Nat) (tO : Nat) (rdO : Nat) (lnO : Nat) (drO : Nat) (chO : Nat) (bA : Nat) (xA : Nat) (kA : Nat) (aA : Nat) (eA : Nat) (gA : Nat) (oA : Nat)  : Met l yX4_sentences wsX4_sentences ({ frames := 2, cells := 0, slots := 0, locals := 46 }) (va_Pc [.ref h0] (sPre dC dI cI cZ cC cJ [(h0, .inr (4, [.ref kO, .ref nO, .ref rO, .ref mO, .int 0, .ref tO, .ref rdO, .ref lnO, .ref drO, .ref chO])), (chO, .inr (0, [.ref bA, .ref xA, .ref kA, .ref aA, .ref eA, .ref gA, .ref oA, .int 0, .int 1000000000, .int 1000000000, .int 0, .int 0]))] sz)) (va_Qi (fun (r : Int32) (u : Unit) => r = (-1)) (fun _ => sB dC dI (va_A [(h0, .inr (4, [.ref kO, .ref nO, .ref rO, .ref mO, .int 0, .ref tO, .ref rdO, .ref lnO, .ref drO, .ref chO])), (chO, .inr (0, [.ref bA, .ref xA, .ref kA, .ref aA, .ref eA, .ref gA, .ref oA, .int 0, .int 1000000000, .int 1000000000, .int 0, .int 0]))] sz) []) (va_A [(h0, .inr (4, [.ref kO, .ref nO, .ref rO, .ref mO, .int 0, .ref tO, .ref rdO, .ref lnO, .ref drO, .ref chO])), (chO, .inr (0, [.ref bA, .ref xA, .ref kA, .ref aA, .ref eA, .ref gA, .ref oA, .int 0, .int 1000000000, .int 1000000000, .int 0, .int 0]))] sz)) 0 0 (va_A [(h0, .inr (4, [.ref kO, .ref nO, .ref rO, .ref mO, .int 0, .ref tO, .ref rdO, .ref lnO, .ref drO, .ref chO])), (chO, .inr (0, [.ref bA, .ref xA, .ref kA, .ref aA, .ref eA, .ref gA, .ref oA, .int 0, .int 1000000000, .int 1000000000, .int 0, .int 0]))] sz) := by
  refine Met.ofW (cc := cX4_sentences) (maxL := 1) (ret := (some .int)) (by decide) rfl ?_
  intro p e s m args below meth c s₁ B hml hv
  obtain ⟨rfl, hsz, hP, hsk, hD0⟩ := hv
  have hx := B.exec
  have hb := B.bytes
  have hr := B.returns
  have hts := atoms_spec (ws := wsX4_sentences) B.pre
  have hown : s.vm.findClass RX4 = some m.cls := findClass_of_methodNamed B.named
  have hlocks := B.notSynchronized
  have hK := hsk.1
  have i4 : ∀ w ∈ wsX40, w ∈ wsX4_sentences := by decide +kernel
  subst hsz
  have hD := hD0.self (sz := s.heap.size)
  generalize hAe : va_A [(h0, .inr (4, [.ref kO, .ref nO, .ref rO, .ref mO, .int 0, .ref tO, .ref rdO, .ref lnO, .ref drO, .ref chO])), (chO, .inr (0, [.ref bA, .ref xA, .ref kA, .ref aA, .ref eA, .ref gA, .ref oA, .int 0, .int 1000000000, .int 1000000000, .int 0, .int 0]))] s.heap.size = A at hD ⊢
  have hA : ∀ q : Nat, s.heap.size ≤ q → A q := fun q h => by rw [← hAe]; exact Or.inr h
  have hS : va_S A s.heap s.heap [] := va_S.rf
  have hl := lv_entry ([.ref h0]) (n := 1) (Nat.le_of_ble_eq_true rfl)
  rw [lg_entry_eq]
  generalize (lg_sl ([.ref h0]) ++ List.replicate (1 - (lg_sl ([.ref h0])).length) Slot.unset).toArray = ls at hl ⊢
  have hl : lv_has ls 1 [(0, .ref h0)] := hl
  refine lv_aload_n hx hb dX4_sentences_0 rfl (lv_at hl 0 rfl) ?_
  have hPc := hP.sub (ws' := [(h0, .inr (4, [.ref kO, .ref nO, .ref rO, .ref mO, .int 0, .ref tO, .ref rdO, .ref lnO, .ref drO, .ref chO])), (chO, .inr (0, [.ref bA, .ref xA, .ref kA, .ref aA, .ref eA, .ref gA, .ref oA, .int 0, .int 1000000000, .int 1000000000, .int 0, .int 0]))]) [0, 1] rfl
  have hDc := hD.sub (ws' := [(h0, .inr (4, [.ref kO, .ref nO, .ref rO, .ref mO, .int 0, .ref tO, .ref rdO, .ref lnO, .ref drO, .ref chO])), (chO, .inr (0, [.ref bA, .ref xA, .ref kA, .ref aA, .ref eA, .ref gA, .ref oA, .int 0, .int 1000000000, .int 1000000000, .int 0, .int 0]))]) [0, 1] (by decide) rfl
  have hFc := va_free (wc := [(h0, .inr (4, [.ref kO, .ref nO, .ref rO, .ref mO, .int 0, .ref tO, .ref rdO, .ref lnO, .ref drO, .ref chO])), (chO, .inr (0, [.ref bA, .ref xA, .ref kA, .ref aA, .ref eA, .ref gA, .ref oA, .int 0, .int 1000000000, .int 1000000000, .int 0, .int 0]))]) hD hS hA [0, 1] rfl
  refine va_callv (va_runV (As := []) (rest := []) ⟨hx, hb, hml, hown, hts⟩ (k_solve0 l dC dI cI cZ cC cJ s.heap.size h0 kO nO rO mO tO rdO lnO drO chO bA xA kA aA eA gA oA 1000000000 1000000000 0 0 ) (cwV 0 hts gX4_sentences_X4_solve rfl rfl rfl (by decide +kernel) ⟨Nat.le_of_ble_eq_true rfl, Nat.le_of_ble_eq_true rfl⟩) ⟨sPre_blind, va_recv hK hPc (ci := 4) (q0 := 0) rfl rfl, fun U hU hW => ⟨rfl, sPre_ok hsk hPc hDc hU hW⟩⟩ rfl rfl hl.1 rfl (lv_room (Nat.le_of_ble_eq_true rfl)) dX4_sentences_1 ⟨(show 0 + 0 ≤ 0 by omega), (show 0 + 0 ≤ 0 by omega)⟩) hS (fun q _ h => hFc q h) hFc (fun u t H1 locs ht hvm hw hB hz1 hk1 hS => ?_)
  try dsimp only at hw hB
  obtain ⟨hP1, hD1⟩ := hB
  rw [ht] at hP1
  obtain ⟨hP, hD⟩ := va_join (wr := []) (w1 := [(h0, .inr (4, [.ref kO, .ref nO, .ref rO, .ref mO, .int 0, .ref tO, .ref rdO, .ref lnO, .ref drO, .ref chO])), (chO, .inr (0, [.ref bA, .ref xA, .ref kA, .ref aA, .ref eA, .ref gA, .ref oA, .int 0, .int 1000000000, .int 1000000000, .int 0, .int (-1)]))]) hP hD [0, 1] [] rfl rfl (by decide) (by decide) hk1 hFc hP1 hD1
  generalize H1 = H at hP hS ⊢
  have hP : va_P (dC, dI) vwCl [(h0, .inr (4, [.ref kO, .ref nO, .ref rO, .ref mO, .int 0, .ref tO, .ref rdO, .ref lnO, .ref drO, .ref chO])), (chO, .inr (0, [.ref bA, .ref xA, .ref kA, .ref aA, .ref eA, .ref gA, .ref oA, .int 0, .int 1000000000, .int 1000000000, .int 0, .int (-1)]))] H := hP
  have hD : va_D A [(h0, .inr (4, [.ref kO, .ref nO, .ref rO, .ref mO, .int 0, .ref tO, .ref rdO, .ref lnO, .ref drO, .ref chO])), (chO, .inr (0, [.ref bA, .ref xA, .ref kA, .ref aA, .ref eA, .ref gA, .ref oA, .int 0, .int 1000000000, .int 1000000000, .int 0, .int (-1)]))] := hD
  refine lv_aload_n hx hb dX4_sentences_4 rfl (lv_at hl 0 rfl) ?_
  refine va_get (D := (dC, dI)) (ci := 4) (v := .ref chO) (C := RX4) (T := TX4) (N := 10) hx hb hts i4 hown hK hP 0 rfl rfl 9 (by decide) (hts (.fieldLink RX4 52 "StopSetter" "chart" "LStopSetter$Chart;") (by decide +kernel)) (fun _ h9 => h9) rfl dX4_sentences_5 ?_
  have hPc := hP.sub (ws' := [(chO, .inr (0, [.ref bA, .ref xA, .ref kA, .ref aA, .ref eA, .ref gA, .ref oA, .int 0, .int 1000000000, .int 1000000000, .int 0, .int (-1)]))]) [1] rfl
  have hDc := hD.sub (ws' := [(chO, .inr (0, [.ref bA, .ref xA, .ref kA, .ref aA, .ref eA, .ref gA, .ref oA, .int 0, .int 1000000000, .int 1000000000, .int 0, .int (-1)]))]) [1] (by decide) rfl
  have hFc := va_free (wc := [(chO, .inr (0, [.ref bA, .ref xA, .ref kA, .ref aA, .ref eA, .ref gA, .ref oA, .int 0, .int 1000000000, .int 1000000000, .int 0, .int (-1)]))]) hD hS hA [1] rfl
  refine va_calli (va_runV (As := []) (rest := []) ⟨hx, hb, hml, hown, hts⟩ (k_isParted0 l dC dI cI cZ cC cJ H.size chO bA xA kA aA eA gA oA (-1) ) (cwV 0 hts gX4_sentences_X0_isParted rfl rfl rfl (by decide +kernel) ⟨Nat.le_of_ble_eq_true rfl, Nat.le_of_ble_eq_true rfl⟩) ⟨sPre_blind, va_recv hK hPc (ci := 0) (q0 := 0) rfl rfl, fun U hU hW => ⟨rfl, sPre_ok hsk hPc hDc hU hW⟩⟩ rfl rfl hl.1 rfl (lv_room (Nat.le_of_ble_eq_true rfl)) dX4_sentences_8 ⟨(show 0 + 0 ≤ 0 by omega), (show 0 + 0 ≤ 0 by omega)⟩) hS (fun q _ h => hFc q h) hFc (fun r_2 u t H1 locs ht hvm hw hB hz1 hk1 hS => ?_)
  try dsimp only at hw hB
  have hw_3 := hw
  obtain rfl : r_2 = 0 := hw_3
  obtain ⟨hP1, hD1⟩ := hB
  rw [ht] at hP1
  obtain ⟨hP, hD⟩ := va_join (wr := [(h0, .inr (4, [.ref kO, .ref nO, .ref rO, .ref mO, .int 0, .ref tO, .ref rdO, .ref lnO, .ref drO, .ref chO]))]) (w1 := [(chO, .inr (0, [.ref bA, .ref xA, .ref kA, .ref aA, .ref eA, .ref gA, .ref oA, .int 0, .int 1000000000, .int 1000000000, .int 0, .int (-1)]))]) hP hD [1] [0] rfl rfl (by decide) (by decide) hk1 hFc hP1 hD1
  generalize H1 = H at hP hS ⊢
  have hP : va_P (dC, dI) vwCl [(h0, .inr (4, [.ref kO, .ref nO, .ref rO, .ref mO, .int 0, .ref tO, .ref rdO, .ref lnO, .ref drO, .ref chO])), (chO, .inr (0, [.ref bA, .ref xA, .ref kA, .ref aA, .ref eA, .ref gA, .ref oA, .int 0, .int 1000000000, .int 1000000000, .int 0, .int (-1)]))] H := hP
  have hD : va_D A [(h0, .inr (4, [.ref kO, .ref nO, .ref rO, .ref mO, .int 0, .ref tO, .ref rdO, .ref lnO, .ref drO, .ref chO])), (chO, .inr (0, [.ref bA, .ref xA, .ref kA, .ref aA, .ref eA, .ref gA, .ref oA, .int 0, .int 1000000000, .int 1000000000, .int 0, .int (-1)]))] := hD
  refine lv_if_eq (tgt := 26) hx hb dX4_sentences_11 (by decide) (fun _ => ?_) (fun h9 => absurd (by decide) h9)
  refine lv_iconst (v := (-1)) hx hb dX4_sentences_26 (by decide) ?_
  have hP9 := hP.sub (ws' := []) [] rfl
  have hD9 := hD.sub (ws' := []) [] (by decide) rfl
  exact W.iret (v := (-1)) hx hb hr (fun t ht hW => ⟨⟨(-1), (), rfl, rfl, by rw [ht]; exact hP9, hD9⟩, hS.F ht⟩) hS.2.2 dX4_sentences_27
set_option maxHeartbeats 4000000 in
set_option maxRecDepth 100000 in
theorem k_cell0 (l : Launch) (dC : Nat → ClassId) (dI : Nat → Nat → Nat) (cI cZ cC cJ : ClassId) (sz : Nat) (k : Nat) (hk : k < 20) : Met l yX0_cell wsX0_cell ({ frames := 0, cells := 0, slots := 0, locals := 0 }) (va_Pc [.int 0, .int (nI k)] (sPre dC dI cI cZ cC cJ [] sz)) (va_Qi (fun (r : Int32) (u : Unit) => r = nI k) (fun _ => sB dC dI (va_A [] sz) []) (va_A [] sz)) 0 0 (va_A [] sz) := by
  refine Met.ofW (cc := cX0_cell) (maxL := 3) (ret := (some .int)) (by decide) rfl ?_
  intro p e s m args below meth c s₁ B hml hv
  obtain ⟨rfl, hsz, hP, hsk, hD0⟩ := hv
  have hx := B.exec
  have hb := B.bytes
  have hr := B.returns
  have hts := atoms_spec (ws := wsX0_cell) B.pre
  have hown : s.vm.findClass RX0 = some m.cls := findClass_of_methodNamed B.named
  have hlocks := B.notSynchronized
  have hK := hsk.1
  subst hsz
  have hD := hD0.self (sz := s.heap.size)
  generalize hAe : va_A [] s.heap.size = A at hD ⊢
  have hA : ∀ q : Nat, s.heap.size ≤ q → A q := fun q h => by rw [← hAe]; exact Or.inr h
  have hS : va_S A s.heap s.heap [] := va_S.rf
  have hl := lv_entry ([.int 0, .int (nI k)]) (n := 3) (Nat.le_of_ble_eq_true rfl)
  rw [lg_entry_eq]
  generalize (lg_sl ([.int 0, .int (nI k)]) ++ List.replicate (3 - (lg_sl ([.int 0, .int (nI k)])).length) Slot.unset).toArray = ls at hl ⊢
  have hl : lv_has ls 3 [(0, .int 0), (1, .int (nI k))] := hl
  refine lv_iload_n hx hb dX0_cell_0 rfl (lv_at hl 0 rfl) ?_
  refine lv_if_lt (tgt := 24) hx hb dX0_cell_1 (by decide) (fun h9 => absurd h9 (by decide)) (fun _ => ?_)
  refine lv_iload_n hx hb dX0_cell_4 rfl (lv_at hl 0 rfl) ?_
  refine lv_bipush (v := 60) hx hb dX0_cell_5 (by decide) ?_
  refine lv_icmp_gt (tgt := 24) hx hb dX0_cell_7 (by decide) (fun h9 => absurd h9 (by decide)) (fun _ => ?_)
  refine lv_iload_n hx hb dX0_cell_10 rfl (lv_at hl 1 rfl) ?_
  refine lv_if_lt (tgt := 24) hx hb dX0_cell_11 (by decide) (fun h9 => absurd h9 (nI_pos (by omega))) (fun _ => ?_)
  refine lv_iload_n hx hb dX0_cell_14 rfl (lv_at hl 1 rfl) ?_
  refine lv_bipush (v := 20) hx hb dX0_cell_15 (by decide) ?_
  refine lv_icmp_ge (tgt := 24) hx hb dX0_cell_17 (by decide) (fun h9 => absurd h9 (nI_ge hk (by decide))) (fun _ => ?_)
  refine lv_iconst (v := 1) hx hb dX0_cell_20 (by decide) ?_
  refine lv_goto (tgt := 25) hx hb dX0_cell_21 (by decide) ?_
  refine lv_istore_n (lv' := [(2, .int 1), (0, .int 0), (1, .int (nI k))]) hx hb dX0_cell_25 rfl hl (by decide) rfl (fun ls hl => ?_)
  refine lv_iload_n hx hb dX0_cell_26 rfl (lv_at hl 0 rfl) ?_
  refine lv_if_eq (tgt := 39) hx hb dX0_cell_27 (by decide) (fun h9 => absurd h9 (by decide)) (fun _ => ?_)
  refine lv_iload_n hx hb dX0_cell_30 rfl (lv_at hl 1 rfl) ?_
  refine lv_bipush (v := 20) hx hb dX0_cell_31 (by decide) ?_
  refine lv_imul hx hb dX0_cell_33 ?_
  refine lv_topi (fun v_ ev_ => ?_)
  obtain rfl : v_ = 0 := ev_.trans (by decide)
  refine lv_iload_n hx hb dX0_cell_34 rfl (lv_at hl 2 rfl) ?_
  refine lv_iadd hx hb dX0_cell_35 ?_
  refine lv_topi (fun v_ ev_ => ?_)
  obtain rfl : v_ = nI k := ev_.trans (Int32.zero_add _)
  refine lv_goto (tgt := 40) hx hb dX0_cell_36 (by decide) ?_
  have hP9 := hP.sub (ws' := []) [] rfl
  have hD9 := hD.sub (ws' := []) [] (by decide) rfl
  exact W.iret (v := nI k) hx hb hr (fun t ht hW => ⟨⟨nI k, (), rfl, rfl, by rw [ht]; exact hP9, hD9⟩, hS.F ht⟩) hS.2.2 dX0_cell_40
set_option maxHeartbeats 4000000 in
set_option maxRecDepth 100000 in
theorem k_isReached0 (l : Launch) (dC : Nat → ClassId) (dI : Nat → Nat → Nat) (cI cZ cC cJ : ClassId) (sz : Nat) (h0 : Nat) (bA : Nat) (xA : Nat) (kA : Nat) (aA : Nat) (eA : Nat) (gA : Nat) (oA : Nat) (k : Nat) (fb : Nat → Int32) (hk : k < 20) : Met l yX0_isReached wsX0_isReached ({ frames := 1, cells := 0, slots := 0, locals := 22 }) (va_Pc [.ref h0, .int (nI k)] (sPre dC dI cI cZ cC cJ [(h0, .inr (0, [.ref bA, .ref xA, .ref kA, .ref aA, .ref eA, .ref gA, .ref oA, .int 0, .int 1000000000, .int 1000000000, .int 0, .int (-1)])), (bA, .inl (cI, 1220, .inl fb))] sz)) (va_Qi (fun (r : Int32) (u : Unit) => True) (fun _ => sB dC dI (va_A [(h0, .inr (0, [.ref bA, .ref xA, .ref kA, .ref aA, .ref eA, .ref gA, .ref oA, .int 0, .int 1000000000, .int 1000000000, .int 0, .int (-1)])), (bA, .inl (cI, 1220, .inl fb))] sz) [(h0, .inr (0, [.ref bA, .ref xA, .ref kA, .ref aA, .ref eA, .ref gA, .ref oA, .int 0, .int 1000000000, .int 1000000000, .int 0, .int (-1)])), (bA, .inl (cI, 1220, .inl fb))]) (va_A [(h0, .inr (0, [.ref bA, .ref xA, .ref kA, .ref aA, .ref eA, .ref gA, .ref oA, .int 0, .int 1000000000, .int 1000000000, .int 0, .int (-1)])), (bA, .inl (cI, 1220, .inl fb))] sz)) 0 0 (va_A [(h0, .inr (0, [.ref bA, .ref xA, .ref kA, .ref aA, .ref eA, .ref gA, .ref oA, .int 0, .int 1000000000, .int 1000000000, .int 0, .int (-1)])), (bA, .inl (cI, 1220, .inl fb))] sz) := by
  refine Met.ofW (cc := cX0_isReached) (maxL := 2) (ret := (some .boolean)) (by decide) rfl ?_
  intro p e s m args below meth c s₁ B hml hv
  obtain ⟨rfl, hsz, hP, hsk, hD0⟩ := hv
  have hx := B.exec
  have hb := B.bytes
  have hr := B.returns
  have hts := atoms_spec (ws := wsX0_isReached) B.pre
  have hown : s.vm.findClass RX0 = some m.cls := findClass_of_methodNamed B.named
  have hlocks := B.notSynchronized
  have hK := hsk.1
  have i0 : ∀ w ∈ wsX00, w ∈ wsX0_isReached := by decide +kernel
  subst hsz
  have hD := hD0.self (sz := s.heap.size)
  generalize hAe : va_A [(h0, .inr (0, [.ref bA, .ref xA, .ref kA, .ref aA, .ref eA, .ref gA, .ref oA, .int 0, .int 1000000000, .int 1000000000, .int 0, .int (-1)])), (bA, .inl (cI, 1220, .inl fb))] s.heap.size = A at hD ⊢
  have hA : ∀ q : Nat, s.heap.size ≤ q → A q := fun q h => by rw [← hAe]; exact Or.inr h
  have hS : va_S A s.heap s.heap [] := va_S.rf
  have hl := lv_entry ([.ref h0, .int (nI k)]) (n := 2) (Nat.le_of_ble_eq_true rfl)
  rw [lg_entry_eq]
  generalize (lg_sl ([.ref h0, .int (nI k)]) ++ List.replicate (2 - (lg_sl ([.ref h0, .int (nI k)])).length) Slot.unset).toArray = ls at hl ⊢
  have hl : lv_has ls 2 [(0, .ref h0), (1, .int (nI k))] := hl
  refine lv_aload_n hx hb dX0_isReached_0 rfl (lv_at hl 0 rfl) ?_
  refine va_get (D := (dC, dI)) (ci := 0) (v := .ref bA) (C := RX0) (T := TX0) (N := 12) hx hb hts i0 hown hK hP 0 rfl rfl 0 (by decide) (hts (.fieldLink RX0 11 "StopSetter$Chart" "best" "[I") (by decide +kernel)) (fun _ h9 => h9) rfl dX0_isReached_1 ?_
  refine lv_aload_n hx hb dX0_isReached_4 rfl (lv_at hl 0 rfl) ?_
  refine va_get (D := (dC, dI)) (ci := 0) (v := .int 0) (C := RX0) (T := TX0) (N := 12) hx hb hts i0 hown hK hP 0 rfl rfl 7 (by decide) (hts (.fieldLink RX0 47 "StopSetter$Chart" "ready" "I") (by decide +kernel)) (fun _ h9 => h9) rfl dX0_isReached_5 ?_
  refine lv_iload_n hx hb dX0_isReached_8 rfl (lv_at hl 1 rfl) ?_
  have hPc := hP.sub (ws' := []) [] rfl
  have hDc := hD.sub (ws' := []) [] (by decide) rfl
  have hFc := va_free (wc := []) hD hS hA [] rfl
  refine va_calli (va_runS (As := [.int 0, .int (nI k)]) (rest := [.ref bA]) ⟨hx, hb, hml, hown, hts⟩ (k_cell0 l dC dI cI cZ cC cJ s.heap.size k hk) (va_cwS 2 hts gX0_isReached_X0_cell rfl rfl rfl (by decide +kernel) ⟨Nat.le_of_ble_eq_true rfl, Nat.le_of_ble_eq_true rfl⟩) ⟨sPre_blind, fun U hU hW => ⟨rfl, sPre_ok hsk hPc hDc hU hW⟩⟩ rfl rfl hl.1 rfl (lv_room (Nat.le_of_ble_eq_true rfl)) dX0_isReached_9 ⟨(show 0 + 0 ≤ 0 by omega), (show 0 + 0 ≤ 0 by omega)⟩) hS (fun q _ h => hFc q h) hFc (fun r_1 u t H1 locs ht hvm hw hB hz1 hk1 hS => ?_)
  try dsimp only at hw hB
  have hw_2 := hw
  obtain rfl : r_1 = nI k := hw_2
  obtain ⟨hP1, hD1⟩ := hB
  rw [ht] at hP1
  obtain ⟨hP, hD⟩ := va_join (wr := [(h0, .inr (0, [.ref bA, .ref xA, .ref kA, .ref aA, .ref eA, .ref gA, .ref oA, .int 0, .int 1000000000, .int 1000000000, .int 0, .int (-1)])), (bA, .inl (cI, 1220, .inl fb))]) (w1 := []) hP hD [] [0, 1] rfl rfl (by decide) (by decide) hk1 hFc hP1 hD1
  generalize H1 = H at hP hS ⊢
  have hP : va_P (dC, dI) vwCl [(h0, .inr (0, [.ref bA, .ref xA, .ref kA, .ref aA, .ref eA, .ref gA, .ref oA, .int 0, .int 1000000000, .int 1000000000, .int 0, .int (-1)])), (bA, .inl (cI, 1220, .inl fb))] H := hP
  have hD : va_D A [(h0, .inr (0, [.ref bA, .ref xA, .ref kA, .ref aA, .ref eA, .ref gA, .ref oA, .int 0, .int 1000000000, .int 1000000000, .int 0, .int (-1)])), (bA, .inl (cI, 1220, .inl fb))] := hD
  refine va_iald hx hb hK hP 1 0 rfl rfl (vp_in_nI (by omega) (by decide)) dX0_isReached_12 ?_
  refine lv_ldc (v := 1000000000) hx hb hown (hts (.constant RX0 33 (1000000000)) (by decide +kernel)) dX0_isReached_13 ?_
  refine lv_icmp_ge (tgt := 22) hx hb dX0_isReached_15 (by decide) (fun c_15 => ?_) (fun c_15 => ?_)
  · skip
    refine lv_iconst (v := 0) hx hb dX0_isReached_22 (by decide) ?_
    have hP9 := hP.sub (ws' := [(h0, .inr (0, [.ref bA, .ref xA, .ref kA, .ref aA, .ref eA, .ref gA, .ref oA, .int 0, .int 1000000000, .int 1000000000, .int 0, .int (-1)])), (bA, .inl (cI, 1220, .inl fb))]) [0, 1] rfl
    have hD9 := hD.sub (ws' := [(h0, .inr (0, [.ref bA, .ref xA, .ref kA, .ref aA, .ref eA, .ref gA, .ref oA, .int 0, .int 1000000000, .int 1000000000, .int 0, .int (-1)])), (bA, .inl (cI, 1220, .inl fb))]) [0, 1] (by decide) rfl
    exact W.zret (v := 0) (ty := .boolean) hx hb hr rfl (fun t ht hW => ⟨⟨0, (), rfl, trivial, by rw [ht]; exact hP9, hD9⟩, hS.F ht⟩) hS.2.2 dX0_isReached_23
  · skip
    refine lv_iconst (v := 1) hx hb dX0_isReached_18 (by decide) ?_
    refine lv_goto (tgt := 23) hx hb dX0_isReached_19 (by decide) ?_
    have hP9 := hP.sub (ws' := [(h0, .inr (0, [.ref bA, .ref xA, .ref kA, .ref aA, .ref eA, .ref gA, .ref oA, .int 0, .int 1000000000, .int 1000000000, .int 0, .int (-1)])), (bA, .inl (cI, 1220, .inl fb))]) [0, 1] rfl
    have hD9 := hD.sub (ws' := [(h0, .inr (0, [.ref bA, .ref xA, .ref kA, .ref aA, .ref eA, .ref gA, .ref oA, .int 0, .int 1000000000, .int 1000000000, .int 0, .int (-1)])), (bA, .inl (cI, 1220, .inl fb))]) [0, 1] (by decide) rfl
    exact W.zret (v := 1) (ty := .boolean) hx hb hr rfl (fun t ht hW => ⟨⟨1, (), rfl, trivial, by rw [ht]; exact hP9, hD9⟩, hS.F ht⟩) hS.2.2 dX0_isReached_23
set_option maxHeartbeats 4000000 in
set_option maxRecDepth 100000 in
theorem k_isHopeful0 (l : Launch) (dC : Nat → ClassId) (dI : Nat → Nat → Nat) (cI cZ cC cJ : ClassId) (sz : Nat) (h0 : Nat) (gF : Nat) (gK : Nat) (gT : Nat) (gC : Nat) (gM : Nat) (eF : Nat) (eC : Nat) (eM : Nat) (hopA : Nat) (k : Nat) (hk : k < 20) : Met l yX1_isHopeful wsX1_isHopeful ({ frames := 0, cells := 0, slots := 0, locals := 0 }) (va_Pc [.ref h0, .int (nI k)] (sPre dC dI cI cZ cC cJ [(h0, .inr (1, [.ref gF, .ref gK, .ref gT, .ref gC, .ref gM, .int 0, .ref eF, .ref eC, .ref eM, .int 0, .ref hopA])), (hopA, .inl (cZ, 20, .inl (fun _ => 0)))] sz)) (va_Qi (fun (r : Int32) (u : Unit) => r = 0) (fun _ => sB dC dI (va_A [(h0, .inr (1, [.ref gF, .ref gK, .ref gT, .ref gC, .ref gM, .int 0, .ref eF, .ref eC, .ref eM, .int 0, .ref hopA])), (hopA, .inl (cZ, 20, .inl (fun _ => 0)))] sz) [(h0, .inr (1, [.ref gF, .ref gK, .ref gT, .ref gC, .ref gM, .int 0, .ref eF, .ref eC, .ref eM, .int 0, .ref hopA])), (hopA, .inl (cZ, 20, .inl (fun _ => 0)))]) (va_A [(h0, .inr (1, [.ref gF, .ref gK, .ref gT, .ref gC, .ref gM, .int 0, .ref eF, .ref eC, .ref eM, .int 0, .ref hopA])), (hopA, .inl (cZ, 20, .inl (fun _ => 0)))] sz)) 0 0 (va_A [(h0, .inr (1, [.ref gF, .ref gK, .ref gT, .ref gC, .ref gM, .int 0, .ref eF, .ref eC, .ref eM, .int 0, .ref hopA])), (hopA, .inl (cZ, 20, .inl (fun _ => 0)))] sz) := by
  refine Met.ofW (cc := cX1_isHopeful) (maxL := 2) (ret := (some .boolean)) (by decide) rfl ?_
  intro p e s m args below meth c s₁ B hml hv
  obtain ⟨rfl, hsz, hP, hsk, hD0⟩ := hv
  have hx := B.exec
  have hb := B.bytes
  have hr := B.returns
  have hts := atoms_spec (ws := wsX1_isHopeful) B.pre
  have hown : s.vm.findClass RX1 = some m.cls := findClass_of_methodNamed B.named
  have hlocks := B.notSynchronized
  have hK := hsk.1
  have i1 : ∀ w ∈ wsX10, w ∈ wsX1_isHopeful := by decide +kernel
  subst hsz
  have hD := hD0.self (sz := s.heap.size)
  generalize hAe : va_A [(h0, .inr (1, [.ref gF, .ref gK, .ref gT, .ref gC, .ref gM, .int 0, .ref eF, .ref eC, .ref eM, .int 0, .ref hopA])), (hopA, .inl (cZ, 20, .inl (fun _ => 0)))] s.heap.size = A at hD ⊢
  have hA : ∀ q : Nat, s.heap.size ≤ q → A q := fun q h => by rw [← hAe]; exact Or.inr h
  have hS : va_S A s.heap s.heap [] := va_S.rf
  have hl := lv_entry ([.ref h0, .int (nI k)]) (n := 2) (Nat.le_of_ble_eq_true rfl)
  rw [lg_entry_eq]
  generalize (lg_sl ([.ref h0, .int (nI k)]) ++ List.replicate (2 - (lg_sl ([.ref h0, .int (nI k)])).length) Slot.unset).toArray = ls at hl ⊢
  have hl : lv_has ls 2 [(0, .ref h0), (1, .int (nI k))] := hl
  refine lv_iload_n hx hb dX1_isHopeful_0 rfl (lv_at hl 1 rfl) ?_
  refine lv_if_lt (tgt := 23) hx hb dX1_isHopeful_1 (by decide) (fun h9 => absurd h9 (nI_pos (by omega))) (fun _ => ?_)
  refine lv_iload_n hx hb dX1_isHopeful_4 rfl (lv_at hl 1 rfl) ?_
  refine lv_bipush (v := 20) hx hb dX1_isHopeful_5 (by decide) ?_
  refine lv_icmp_ge (tgt := 23) hx hb dX1_isHopeful_7 (by decide) (fun h9 => absurd h9 (nI_ge hk (by decide))) (fun _ => ?_)
  refine lv_aload_n hx hb dX1_isHopeful_10 rfl (lv_at hl 0 rfl) ?_
  refine va_get (D := (dC, dI)) (ci := 1) (v := .ref hopA) (C := RX1) (T := TX1) (N := 11) hx hb hts i1 hown hK hP 0 rfl rfl 10 (by decide) (hts (.fieldLink RX1 38 "StopSetter$Grammar" "hopeful" "[Z") (by decide +kernel)) (fun _ h9 => h9) rfl dX1_isHopeful_11 ?_
  refine lv_iload_n hx hb dX1_isHopeful_14 rfl (lv_at hl 1 rfl) ?_
  refine va_zald hx hb hK hP 1 1 rfl rfl (vp_in_nI hk (by decide)) dX1_isHopeful_15 ?_
  refine lv_topi (fun v_ ev_ => ?_)
  obtain rfl : v_ = 0 := ev_.trans (rfl)
  refine lv_if_eq (tgt := 23) hx hb dX1_isHopeful_16 (by decide) (fun _ => ?_) (fun h9 => absurd (by decide) h9)
  refine lv_iconst (v := 0) hx hb dX1_isHopeful_23 (by decide) ?_
  have hP9 := hP.sub (ws' := [(h0, .inr (1, [.ref gF, .ref gK, .ref gT, .ref gC, .ref gM, .int 0, .ref eF, .ref eC, .ref eM, .int 0, .ref hopA])), (hopA, .inl (cZ, 20, .inl (fun _ => 0)))]) [0, 1] rfl
  have hD9 := hD.sub (ws' := [(h0, .inr (1, [.ref gF, .ref gK, .ref gT, .ref gC, .ref gM, .int 0, .ref eF, .ref eC, .ref eM, .int 0, .ref hopA])), (hopA, .inl (cZ, 20, .inl (fun _ => 0)))]) [0, 1] (by decide) rfl
  exact W.zret (v := 0) (ty := .boolean) hx hb hr rfl (fun t ht hW => ⟨⟨0, (), rfl, rfl, by rw [ht]; exact hP9, hD9⟩, hS.F ht⟩) hS.2.2 dX1_isHopeful_24
set_option maxHeartbeats 4000000 in
set_option maxRecDepth 100000 in
theorem k_sharedSteps0 (l : Launch) (dC : Nat → ClassId) (dI : Nat → Nat → Nat) (cI cZ cC cJ : ClassId) (sz : Nat) (h0 : Nat) (bA : Nat) (xA : Nat) (kA : Nat) (aA : Nat) (eA : Nat) (gA : Nat) (oA : Nat) (fb : Nat → Int32) (g0 : Nat) (gF : Nat) (gK : Nat) (gT : Nat) (gC : Nat) (gM : Nat) (eF : Nat) (eC : Nat) (eM : Nat) (hopA : Nat)  : Met l yX0_sharedSteps wsX0_sharedSteps ({ frames := 2, cells := 0, slots := 0, locals := 43 }) (va_Pc [.ref h0, .ref g0] (sPre dC dI cI cZ cC cJ [(h0, .inr (0, [.ref bA, .ref xA, .ref kA, .ref aA, .ref eA, .ref gA, .ref oA, .int 0, .int 1000000000, .int 1000000000, .int 0, .int (-1)])), (bA, .inl (cI, 1220, .inl fb)), (g0, .inr (1, [.ref gF, .ref gK, .ref gT, .ref gC, .ref gM, .int 0, .ref eF, .ref eC, .ref eM, .int 0, .ref hopA])), (hopA, .inl (cZ, 20, .inl (fun _ => 0)))] sz)) (va_Qi (fun (r : Int32) (u : Unit) => r = 0) (fun _ => sB dC dI (va_A [(h0, .inr (0, [.ref bA, .ref xA, .ref kA, .ref aA, .ref eA, .ref gA, .ref oA, .int 0, .int 1000000000, .int 1000000000, .int 0, .int (-1)])), (bA, .inl (cI, 1220, .inl fb)), (g0, .inr (1, [.ref gF, .ref gK, .ref gT, .ref gC, .ref gM, .int 0, .ref eF, .ref eC, .ref eM, .int 0, .ref hopA])), (hopA, .inl (cZ, 20, .inl (fun _ => 0)))] sz) [(h0, .inr (0, [.ref bA, .ref xA, .ref kA, .ref aA, .ref eA, .ref gA, .ref oA, .int 0, .int 1000000000, .int 1000000000, .int 0, .int (-1)])), (bA, .inl (cI, 1220, .inl fb)), (g0, .inr (1, [.ref gF, .ref gK, .ref gT, .ref gC, .ref gM, .int 0, .ref eF, .ref eC, .ref eM, .int 0, .ref hopA])), (hopA, .inl (cZ, 20, .inl (fun _ => 0)))]) (va_A [(h0, .inr (0, [.ref bA, .ref xA, .ref kA, .ref aA, .ref eA, .ref gA, .ref oA, .int 0, .int 1000000000, .int 1000000000, .int 0, .int (-1)])), (bA, .inl (cI, 1220, .inl fb)), (g0, .inr (1, [.ref gF, .ref gK, .ref gT, .ref gC, .ref gM, .int 0, .ref eF, .ref eC, .ref eM, .int 0, .ref hopA])), (hopA, .inl (cZ, 20, .inl (fun _ => 0)))] sz)) 0 0 (va_A [(h0, .inr (0, [.ref bA, .ref xA, .ref kA, .ref aA, .ref eA, .ref gA, .ref oA, .int 0, .int 1000000000, .int 1000000000, .int 0, .int (-1)])), (bA, .inl (cI, 1220, .inl fb)), (g0, .inr (1, [.ref gF, .ref gK, .ref gT, .ref gC, .ref gM, .int 0, .ref eF, .ref eC, .ref eM, .int 0, .ref hopA])), (hopA, .inl (cZ, 20, .inl (fun _ => 0)))] sz) := by
  refine Met.ofW (cc := cX0_sharedSteps) (maxL := 5) (ret := (some .int)) (by decide) rfl ?_
  intro p e s m args below meth c s₁ B hml hv
  obtain ⟨rfl, hsz, hP, hsk, hD0⟩ := hv
  have hx := B.exec
  have hb := B.bytes
  have hr := B.returns
  have hts := atoms_spec (ws := wsX0_sharedSteps) B.pre
  have hown : s.vm.findClass RX0 = some m.cls := findClass_of_methodNamed B.named
  have hlocks := B.notSynchronized
  have hK := hsk.1
  subst hsz
  have hD := hD0.self (sz := s.heap.size)
  generalize hAe : va_A [(h0, .inr (0, [.ref bA, .ref xA, .ref kA, .ref aA, .ref eA, .ref gA, .ref oA, .int 0, .int 1000000000, .int 1000000000, .int 0, .int (-1)])), (bA, .inl (cI, 1220, .inl fb)), (g0, .inr (1, [.ref gF, .ref gK, .ref gT, .ref gC, .ref gM, .int 0, .ref eF, .ref eC, .ref eM, .int 0, .ref hopA])), (hopA, .inl (cZ, 20, .inl (fun _ => 0)))] s.heap.size = A at hD ⊢
  have hA : ∀ q : Nat, s.heap.size ≤ q → A q := fun q h => by rw [← hAe]; exact Or.inr h
  have hS : va_S A s.heap s.heap [] := va_S.rf
  have hl := lv_entry ([.ref h0, .ref g0]) (n := 5) (Nat.le_of_ble_eq_true rfl)
  rw [lg_entry_eq]
  generalize (lg_sl ([.ref h0, .ref g0]) ++ List.replicate (5 - (lg_sl ([.ref h0, .ref g0])).length) Slot.unset).toArray = ls at hl ⊢
  have hl : lv_has ls 5 [(0, .ref h0), (1, .ref g0)] := hl
  refine lv_iconst (v := (-1)) hx hb dX0_sharedSteps_0 (by decide) ?_
  refine lv_istore_n (lv' := [(2, .int (-1)), (0, .ref h0), (1, .ref g0)]) hx hb dX0_sharedSteps_1 rfl hl (by decide) rfl (fun ls hl => ?_)
  refine lv_iconst (v := 0) hx hb dX0_sharedSteps_2 (by decide) ?_
  refine lv_istore_n (lv' := [(3, .int 0), (2, .int (-1)), (0, .ref h0), (1, .ref g0)]) hx hb dX0_sharedSteps_3 rfl hl (by decide) rfl (fun ls hl => ?_)
  refine lv_iconst (v := 0) hx hb dX0_sharedSteps_4 (by decide) ?_
  refine lv_istore (lv' := [(4, .int 0), (3, .int 0), (2, .int (-1)), (0, .ref h0), (1, .ref g0)]) hx hb dX0_sharedSteps_5 hl (by decide) rfl (fun ls hl => ?_)
  have lp_7 : ∀ (n_7 : Nat) (k : Nat), 21 ≤ k + n_7 → k ≤ 20 → ∀ (H : Heap) (locs : List Loc) (ls : Array Slot), va_P (dC, dI) vwCl [(h0, .inr (0, [.ref bA, .ref xA, .ref kA, .ref aA, .ref eA, .ref gA, .ref oA, .int 0, .int 1000000000, .int 1000000000, .int 0, .int (-1)])), (bA, .inl (cI, 1220, .inl fb)), (g0, .inr (1, [.ref gF, .ref gK, .ref gT, .ref gC, .ref gM, .int 0, .ref eF, .ref eC, .ref eM, .int 0, .ref hopA])), (hopA, .inl (cZ, 20, .inl (fun _ => 0)))] H → va_D A [(h0, .inr (0, [.ref bA, .ref xA, .ref kA, .ref aA, .ref eA, .ref gA, .ref oA, .int 0, .int 1000000000, .int 1000000000, .int 0, .int (-1)])), (bA, .inl (cI, 1220, .inl fb)), (g0, .inr (1, [.ref gF, .ref gK, .ref gT, .ref gC, .ref gM, .int 0, .ref eF, .ref eC, .ref eM, .int 0, .ref hopA])), (hopA, .inl (cZ, 20, .inl (fun _ => 0)))] → va_S A s.heap H locs → lv_has ls 5 [(4, .int (nI k)), (3, .int 0), (2, .int (-1)), (0, .ref h0), (1, .ref g0)] → W p l e (headSpec wsX0_sharedSteps ({ frames := 2, cells := 0, slots := 0, locals := 43 })).room s m ([.ref h0, .ref g0]).toArray below meth c H locs 0 0 (MQ below (va_Qi (fun (r : Int32) (u : Unit) => r = 0) (fun _ => sB dC dI A [(h0, .inr (0, [.ref bA, .ref xA, .ref kA, .ref aA, .ref eA, .ref gA, .ref oA, .int 0, .int 1000000000, .int 1000000000, .int 0, .int (-1)])), (bA, .inl (cI, 1220, .inl fb)), (g0, .inr (1, [.ref gF, .ref gK, .ref gT, .ref gC, .ref gM, .int 0, .ref eF, .ref eC, .ref eM, .int 0, .ref hopA])), (hopA, .inl (cZ, 20, .inl (fun _ => 0)))]) A) ([.ref h0, .ref g0]).toArray s 0 0 A) (F0 m 7 ls []) := by
    intro n_7
    induction n_7 with
    | zero =>
      intro k fuel_7 hk
      exact absurd fuel_7 (by omega)
    | succ n_7 ih_7 =>
      intro k fuel_7 hk H locs ls hP hD hS hl
      refine lv_iload hx hb dX0_sharedSteps_7 (lv_at hl 0 rfl) ?_
      refine lv_bipush (v := 20) hx hb dX0_sharedSteps_9 (by decide) ?_
      refine lv_icmp_ge (tgt := 74) hx hb dX0_sharedSteps_11 (by decide) (fun c_11 => ?_) (fun c_11 => ?_)
      · skip
        refine lv_iload_n hx hb dX0_sharedSteps_74 rfl (lv_at hl 1 rfl) ?_
        have hP9 := hP.sub (ws' := [(h0, .inr (0, [.ref bA, .ref xA, .ref kA, .ref aA, .ref eA, .ref gA, .ref oA, .int 0, .int 1000000000, .int 1000000000, .int 0, .int (-1)])), (bA, .inl (cI, 1220, .inl fb)), (g0, .inr (1, [.ref gF, .ref gK, .ref gT, .ref gC, .ref gM, .int 0, .ref eF, .ref eC, .ref eM, .int 0, .ref hopA])), (hopA, .inl (cZ, 20, .inl (fun _ => 0)))]) [0, 1, 2, 3] rfl
        have hD9 := hD.sub (ws' := [(h0, .inr (0, [.ref bA, .ref xA, .ref kA, .ref aA, .ref eA, .ref gA, .ref oA, .int 0, .int 1000000000, .int 1000000000, .int 0, .int (-1)])), (bA, .inl (cI, 1220, .inl fb)), (g0, .inr (1, [.ref gF, .ref gK, .ref gT, .ref gC, .ref gM, .int 0, .ref eF, .ref eC, .ref eM, .int 0, .ref hopA])), (hopA, .inl (cZ, 20, .inl (fun _ => 0)))]) [0, 1, 2, 3] (by decide) rfl
        exact W.iret (v := 0) hx hb hr (fun t ht hW => ⟨⟨0, (), rfl, rfl, by rw [ht]; exact hP9, hD9⟩, hS.F ht⟩) hS.2.2 dX0_sharedSteps_75
      · skip
        have hk3 : k < 20 := nk_lt (N := 20) rfl c_11 (by omega)
        refine lv_aload_n hx hb dX0_sharedSteps_14 rfl (lv_at hl 3 rfl) ?_
        refine lv_iload hx hb dX0_sharedSteps_15 (lv_at hl 0 rfl) ?_
        have hPc := hP.sub (ws' := [(h0, .inr (0, [.ref bA, .ref xA, .ref kA, .ref aA, .ref eA, .ref gA, .ref oA, .int 0, .int 1000000000, .int 1000000000, .int 0, .int (-1)])), (bA, .inl (cI, 1220, .inl fb))]) [0, 1] rfl
        have hDc := hD.sub (ws' := [(h0, .inr (0, [.ref bA, .ref xA, .ref kA, .ref aA, .ref eA, .ref gA, .ref oA, .int 0, .int 1000000000, .int 1000000000, .int 0, .int (-1)])), (bA, .inl (cI, 1220, .inl fb))]) [0, 1] (by decide) rfl
        have hFc := va_free (wc := [(h0, .inr (0, [.ref bA, .ref xA, .ref kA, .ref aA, .ref eA, .ref gA, .ref oA, .int 0, .int 1000000000, .int 1000000000, .int 0, .int (-1)])), (bA, .inl (cI, 1220, .inl fb))]) hD hS hA [0, 1] rfl
        refine va_calli (va_runV (As := [.int (nI k)]) (rest := []) ⟨hx, hb, hml, hown, hts⟩ (k_isReached0 l dC dI cI cZ cC cJ H.size h0 bA xA kA aA eA gA oA k fb hk3) (cwV 1 hts gX0_sharedSteps_X0_isReached rfl rfl rfl (by decide +kernel) ⟨Nat.le_of_ble_eq_true rfl, Nat.le_of_ble_eq_true rfl⟩) ⟨sPre_blind, va_recv hK hPc (ci := 0) (q0 := 0) rfl rfl, fun U hU hW => ⟨rfl, sPre_ok hsk hPc hDc hU hW⟩⟩ rfl rfl hl.1 rfl (lv_room (Nat.le_of_ble_eq_true rfl)) dX0_sharedSteps_17 ⟨(show 0 + 0 ≤ 0 by omega), (show 0 + 0 ≤ 0 by omega)⟩) hS (fun q _ h => hFc q h) hFc (fun r_1 u t H1 locs ht hvm hw hB hz1 hk1 hS => ?_)
        try dsimp only at hw hB
        obtain ⟨hP1, hD1⟩ := hB
        rw [ht] at hP1
        obtain ⟨hP, hD⟩ := va_join (wr := [(g0, .inr (1, [.ref gF, .ref gK, .ref gT, .ref gC, .ref gM, .int 0, .ref eF, .ref eC, .ref eM, .int 0, .ref hopA])), (hopA, .inl (cZ, 20, .inl (fun _ => 0)))]) (w1 := [(h0, .inr (0, [.ref bA, .ref xA, .ref kA, .ref aA, .ref eA, .ref gA, .ref oA, .int 0, .int 1000000000, .int 1000000000, .int 0, .int (-1)])), (bA, .inl (cI, 1220, .inl fb))]) hP hD [0, 1] [2, 3] rfl rfl (by decide) (by decide) hk1 hFc hP1 hD1
        generalize H1 = H at hP hS ⊢
        have hP : va_P (dC, dI) vwCl [(g0, .inr (1, [.ref gF, .ref gK, .ref gT, .ref gC, .ref gM, .int 0, .ref eF, .ref eC, .ref eM, .int 0, .ref hopA])), (hopA, .inl (cZ, 20, .inl (fun _ => 0))), (h0, .inr (0, [.ref bA, .ref xA, .ref kA, .ref aA, .ref eA, .ref gA, .ref oA, .int 0, .int 1000000000, .int 1000000000, .int 0, .int (-1)])), (bA, .inl (cI, 1220, .inl fb))] H := hP
        have hD : va_D A [(g0, .inr (1, [.ref gF, .ref gK, .ref gT, .ref gC, .ref gM, .int 0, .ref eF, .ref eC, .ref eM, .int 0, .ref hopA])), (hopA, .inl (cZ, 20, .inl (fun _ => 0))), (h0, .inr (0, [.ref bA, .ref xA, .ref kA, .ref aA, .ref eA, .ref gA, .ref oA, .int 0, .int 1000000000, .int 1000000000, .int 0, .int (-1)])), (bA, .inl (cI, 1220, .inl fb))] := hD
        have hw_r_1 := hw
        refine lv_if_eq (tgt := 68) hx hb dX0_sharedSteps_20 (by decide) (fun c_20 => ?_) (fun c_20 => ?_)
        · skip
          refine lv_iinc (v := (nI (k + 1))) (lv' := [(4, .int (nI (k + 1))), (3, .int 0), (2, .int (-1)), (0, .ref h0), (1, .ref g0)]) hx hb dX0_sharedSteps_68 hl (k := 0) rfl (nI_1 k) (by decide) rfl (fun ls hl => ?_)
          refine lv_goto (tgt := 7) hx hb dX0_sharedSteps_71 (by decide) ?_
          exact ih_7  (k + 1) (by omega) (by omega) _ _ _ (hP.sub [2, 3, 0, 1] rfl) (hD.sub [2, 3, 0, 1] (by decide) rfl) hS (lv_sub hl [0, 1, 2, 3, 4] rfl)
        · skip
          refine lv_aload_n hx hb dX0_sharedSteps_23 rfl (lv_at hl 4 rfl) ?_
          refine lv_iload hx hb dX0_sharedSteps_24 (lv_at hl 0 rfl) ?_
          have hPc := hP.sub (ws' := [(g0, .inr (1, [.ref gF, .ref gK, .ref gT, .ref gC, .ref gM, .int 0, .ref eF, .ref eC, .ref eM, .int 0, .ref hopA])), (hopA, .inl (cZ, 20, .inl (fun _ => 0)))]) [0, 1] rfl
          have hDc := hD.sub (ws' := [(g0, .inr (1, [.ref gF, .ref gK, .ref gT, .ref gC, .ref gM, .int 0, .ref eF, .ref eC, .ref eM, .int 0, .ref hopA])), (hopA, .inl (cZ, 20, .inl (fun _ => 0)))]) [0, 1] (by decide) rfl
          have hFc := va_free (wc := [(g0, .inr (1, [.ref gF, .ref gK, .ref gT, .ref gC, .ref gM, .int 0, .ref eF, .ref eC, .ref eM, .int 0, .ref hopA])), (hopA, .inl (cZ, 20, .inl (fun _ => 0)))]) hD hS hA [0, 1] rfl
          refine va_calli (va_runV (As := [.int (nI k)]) (rest := []) ⟨hx, hb, hml, hown, hts⟩ (k_isHopeful0 l dC dI cI cZ cC cJ H.size g0 gF gK gT gC gM eF eC eM hopA k hk3) (cwV 1 hts gX0_sharedSteps_X1_isHopeful rfl rfl rfl (by decide +kernel) ⟨Nat.le_of_ble_eq_true rfl, Nat.le_of_ble_eq_true rfl⟩) ⟨sPre_blind, va_recv hK hPc (ci := 1) (q0 := 0) rfl rfl, fun U hU hW => ⟨rfl, sPre_ok hsk hPc hDc hU hW⟩⟩ rfl rfl hl.1 rfl (lv_room (Nat.le_of_ble_eq_true rfl)) dX0_sharedSteps_26 ⟨(show 0 + 0 ≤ 0 by omega), (show 0 + 0 ≤ 0 by omega)⟩) hS (fun q _ h => hFc q h) hFc (fun r_2 u t H1 locs ht hvm hw hB hz1 hk1 hS => ?_)
          try dsimp only at hw hB
          have hw_3 := hw
          obtain rfl : r_2 = 0 := hw_3
          obtain ⟨hP1, hD1⟩ := hB
          rw [ht] at hP1
          obtain ⟨hP, hD⟩ := va_join (wr := [(h0, .inr (0, [.ref bA, .ref xA, .ref kA, .ref aA, .ref eA, .ref gA, .ref oA, .int 0, .int 1000000000, .int 1000000000, .int 0, .int (-1)])), (bA, .inl (cI, 1220, .inl fb))]) (w1 := [(g0, .inr (1, [.ref gF, .ref gK, .ref gT, .ref gC, .ref gM, .int 0, .ref eF, .ref eC, .ref eM, .int 0, .ref hopA])), (hopA, .inl (cZ, 20, .inl (fun _ => 0)))]) hP hD [0, 1] [2, 3] rfl rfl (by decide) (by decide) hk1 hFc hP1 hD1
          generalize H1 = H at hP hS ⊢
          have hP : va_P (dC, dI) vwCl [(h0, .inr (0, [.ref bA, .ref xA, .ref kA, .ref aA, .ref eA, .ref gA, .ref oA, .int 0, .int 1000000000, .int 1000000000, .int 0, .int (-1)])), (bA, .inl (cI, 1220, .inl fb)), (g0, .inr (1, [.ref gF, .ref gK, .ref gT, .ref gC, .ref gM, .int 0, .ref eF, .ref eC, .ref eM, .int 0, .ref hopA])), (hopA, .inl (cZ, 20, .inl (fun _ => 0)))] H := hP
          have hD : va_D A [(h0, .inr (0, [.ref bA, .ref xA, .ref kA, .ref aA, .ref eA, .ref gA, .ref oA, .int 0, .int 1000000000, .int 1000000000, .int 0, .int (-1)])), (bA, .inl (cI, 1220, .inl fb)), (g0, .inr (1, [.ref gF, .ref gK, .ref gT, .ref gC, .ref gM, .int 0, .ref eF, .ref eC, .ref eM, .int 0, .ref hopA])), (hopA, .inl (cZ, 20, .inl (fun _ => 0)))] := hD
          refine lv_if_eq (tgt := 68) hx hb dX0_sharedSteps_29 (by decide) (fun _ => ?_) (fun h9 => absurd (by decide) h9)
          refine lv_iinc (v := (nI (k + 1))) (lv' := [(4, .int (nI (k + 1))), (3, .int 0), (2, .int (-1)), (0, .ref h0), (1, .ref g0)]) hx hb dX0_sharedSteps_68 hl (k := 0) rfl (nI_1 k) (by decide) rfl (fun ls hl => ?_)
          refine lv_goto (tgt := 7) hx hb dX0_sharedSteps_71 (by decide) ?_
          exact ih_7  (k + 1) (by omega) (by omega) _ _ _ hP hD hS (lv_sub hl [0, 1, 2, 3, 4] rfl)
  exact lp_7 21 0 (by omega) (by omega) _ _ _ hP hD hS (lv_sub hl [0, 1, 2, 3, 4] rfl)
set_option maxHeartbeats 4000000 in
set_option maxRecDepth 100000 in
theorem k_settled (l : Launch) (dC : Nat → ClassId) (dI : Nat → Nat → Nat) (cI cZ cC cJ : ClassId) (sz : Nat) (h0 : Nat) (kO : Nat) (nO : Nat) (rO : Nat) (mO : Nat) (tO : Nat) (rdO : Nat) (lnO : Nat) (drO : Nat) (chO : Nat) (bA : Nat) (xA : Nat) (kA : Nat) (aA : Nat) (eA : Nat) (gA : Nat) (oA : Nat) (gF : Nat) (gK : Nat) (gT : Nat) (gC : Nat) (gM : Nat) (eF : Nat) (eC : Nat) (eM : Nat) (hopA : Nat) (fb : Nat → Int32)  : Met l yX4_settled wsX4_settled ({ frames := 3, cells := 0, slots := 0, locals := 67 }) (va_Pc [.ref h0] (sPre dC dI cI cZ cC cJ [(h0, .inr (4, [.ref kO, .ref nO, .ref rO, .ref mO, .int 0, .ref tO, .ref rdO, .ref lnO, .ref drO, .ref chO])), (chO, .inr (0, [.ref bA, .ref xA, .ref kA, .ref aA, .ref eA, .ref gA, .ref oA, .int 0, .int 1000000000, .int 1000000000, .int 0, .int 0])), (bA, .inl (cI, 1220, .inl fb)), (lnO, .inr (1, [.ref gF, .ref gK, .ref gT, .ref gC, .ref gM, .int 0, .ref eF, .ref eC, .ref eM, .int 0, .ref hopA])), (hopA, .inl (cZ, 20, .inl (fun _ => 0)))] sz)) (va_Qi (fun (r : Int32) (u : Unit) => r = 0) (fun _ => sB dC dI (va_A [(h0, .inr (4, [.ref kO, .ref nO, .ref rO, .ref mO, .int 0, .ref tO, .ref rdO, .ref lnO, .ref drO, .ref chO])), (chO, .inr (0, [.ref bA, .ref xA, .ref kA, .ref aA, .ref eA, .ref gA, .ref oA, .int 0, .int 1000000000, .int 1000000000, .int 0, .int 0])), (bA, .inl (cI, 1220, .inl fb)), (lnO, .inr (1, [.ref gF, .ref gK, .ref gT, .ref gC, .ref gM, .int 0, .ref eF, .ref eC, .ref eM, .int 0, .ref hopA])), (hopA, .inl (cZ, 20, .inl (fun _ => 0)))] sz) []) (va_A [(h0, .inr (4, [.ref kO, .ref nO, .ref rO, .ref mO, .int 0, .ref tO, .ref rdO, .ref lnO, .ref drO, .ref chO])), (chO, .inr (0, [.ref bA, .ref xA, .ref kA, .ref aA, .ref eA, .ref gA, .ref oA, .int 0, .int 1000000000, .int 1000000000, .int 0, .int 0])), (bA, .inl (cI, 1220, .inl fb)), (lnO, .inr (1, [.ref gF, .ref gK, .ref gT, .ref gC, .ref gM, .int 0, .ref eF, .ref eC, .ref eM, .int 0, .ref hopA])), (hopA, .inl (cZ, 20, .inl (fun _ => 0)))] sz)) 0 0 (va_A [(h0, .inr (4, [.ref kO, .ref nO, .ref rO, .ref mO, .int 0, .ref tO, .ref rdO, .ref lnO, .ref drO, .ref chO])), (chO, .inr (0, [.ref bA, .ref xA, .ref kA, .ref aA, .ref eA, .ref gA, .ref oA, .int 0, .int 1000000000, .int 1000000000, .int 0, .int 0])), (bA, .inl (cI, 1220, .inl fb)), (lnO, .inr (1, [.ref gF, .ref gK, .ref gT, .ref gC, .ref gM, .int 0, .ref eF, .ref eC, .ref eM, .int 0, .ref hopA])), (hopA, .inl (cZ, 20, .inl (fun _ => 0)))] sz) := by
  refine Met.ofW (cc := cX4_settled) (maxL := 1) (ret := (some .int)) (by decide) rfl ?_
  intro p e s m args below meth c s₁ B hml hv
  obtain ⟨rfl, hsz, hP, hsk, hD0⟩ := hv
  have hx := B.exec
  have hb := B.bytes
  have hr := B.returns
  have hts := atoms_spec (ws := wsX4_settled) B.pre
  have hown : s.vm.findClass RX4 = some m.cls := findClass_of_methodNamed B.named
  have hlocks := B.notSynchronized
  have hK := hsk.1
  have i4 : ∀ w ∈ wsX40, w ∈ wsX4_settled := by decide +kernel
  subst hsz
  have hD := hD0.self (sz := s.heap.size)
  generalize hAe : va_A [(h0, .inr (4, [.ref kO, .ref nO, .ref rO, .ref mO, .int 0, .ref tO, .ref rdO, .ref lnO, .ref drO, .ref chO])), (chO, .inr (0, [.ref bA, .ref xA, .ref kA, .ref aA, .ref eA, .ref gA, .ref oA, .int 0, .int 1000000000, .int 1000000000, .int 0, .int 0])), (bA, .inl (cI, 1220, .inl fb)), (lnO, .inr (1, [.ref gF, .ref gK, .ref gT, .ref gC, .ref gM, .int 0, .ref eF, .ref eC, .ref eM, .int 0, .ref hopA])), (hopA, .inl (cZ, 20, .inl (fun _ => 0)))] s.heap.size = A at hD ⊢
  have hA : ∀ q : Nat, s.heap.size ≤ q → A q := fun q h => by rw [← hAe]; exact Or.inr h
  have hS : va_S A s.heap s.heap [] := va_S.rf
  have hl := lv_entry ([.ref h0]) (n := 1) (Nat.le_of_ble_eq_true rfl)
  rw [lg_entry_eq]
  generalize (lg_sl ([.ref h0]) ++ List.replicate (1 - (lg_sl ([.ref h0])).length) Slot.unset).toArray = ls at hl ⊢
  have hl : lv_has ls 1 [(0, .ref h0)] := hl
  refine lv_aload_n hx hb dX4_settled_0 rfl (lv_at hl 0 rfl) ?_
  have hPc := hP.sub (ws' := [(h0, .inr (4, [.ref kO, .ref nO, .ref rO, .ref mO, .int 0, .ref tO, .ref rdO, .ref lnO, .ref drO, .ref chO])), (chO, .inr (0, [.ref bA, .ref xA, .ref kA, .ref aA, .ref eA, .ref gA, .ref oA, .int 0, .int 1000000000, .int 1000000000, .int 0, .int 0]))]) [0, 1] rfl
  have hDc := hD.sub (ws' := [(h0, .inr (4, [.ref kO, .ref nO, .ref rO, .ref mO, .int 0, .ref tO, .ref rdO, .ref lnO, .ref drO, .ref chO])), (chO, .inr (0, [.ref bA, .ref xA, .ref kA, .ref aA, .ref eA, .ref gA, .ref oA, .int 0, .int 1000000000, .int 1000000000, .int 0, .int 0]))]) [0, 1] (by decide) rfl
  have hFc := va_free (wc := [(h0, .inr (4, [.ref kO, .ref nO, .ref rO, .ref mO, .int 0, .ref tO, .ref rdO, .ref lnO, .ref drO, .ref chO])), (chO, .inr (0, [.ref bA, .ref xA, .ref kA, .ref aA, .ref eA, .ref gA, .ref oA, .int 0, .int 1000000000, .int 1000000000, .int 0, .int 0]))]) hD hS hA [0, 1] rfl
  refine va_callv (va_runV (As := []) (rest := []) ⟨hx, hb, hml, hown, hts⟩ (k_solve0 l dC dI cI cZ cC cJ s.heap.size h0 kO nO rO mO tO rdO lnO drO chO bA xA kA aA eA gA oA 1000000000 1000000000 0 0 ) (cwV 0 hts gX4_settled_X4_solve rfl rfl rfl (by decide +kernel) ⟨Nat.le_of_ble_eq_true rfl, Nat.le_of_ble_eq_true rfl⟩) ⟨sPre_blind, va_recv hK hPc (ci := 4) (q0 := 0) rfl rfl, fun U hU hW => ⟨rfl, sPre_ok hsk hPc hDc hU hW⟩⟩ rfl rfl hl.1 rfl (lv_room (Nat.le_of_ble_eq_true rfl)) dX4_settled_1 ⟨(show 0 + 0 ≤ 0 by omega), (show 0 + 0 ≤ 0 by omega)⟩) hS (fun q _ h => hFc q h) hFc (fun u t H1 locs ht hvm hw hB hz1 hk1 hS => ?_)
  try dsimp only at hw hB
  obtain ⟨hP1, hD1⟩ := hB
  rw [ht] at hP1
  obtain ⟨hP, hD⟩ := va_join (wr := [(bA, .inl (cI, 1220, .inl fb)), (lnO, .inr (1, [.ref gF, .ref gK, .ref gT, .ref gC, .ref gM, .int 0, .ref eF, .ref eC, .ref eM, .int 0, .ref hopA])), (hopA, .inl (cZ, 20, .inl (fun _ => 0)))]) (w1 := [(h0, .inr (4, [.ref kO, .ref nO, .ref rO, .ref mO, .int 0, .ref tO, .ref rdO, .ref lnO, .ref drO, .ref chO])), (chO, .inr (0, [.ref bA, .ref xA, .ref kA, .ref aA, .ref eA, .ref gA, .ref oA, .int 0, .int 1000000000, .int 1000000000, .int 0, .int (-1)]))]) hP hD [0, 1] [2, 3, 4] rfl rfl (by decide) (by decide) hk1 hFc hP1 hD1
  generalize H1 = H at hP hS ⊢
  have hP : va_P (dC, dI) vwCl [(bA, .inl (cI, 1220, .inl fb)), (lnO, .inr (1, [.ref gF, .ref gK, .ref gT, .ref gC, .ref gM, .int 0, .ref eF, .ref eC, .ref eM, .int 0, .ref hopA])), (hopA, .inl (cZ, 20, .inl (fun _ => 0))), (h0, .inr (4, [.ref kO, .ref nO, .ref rO, .ref mO, .int 0, .ref tO, .ref rdO, .ref lnO, .ref drO, .ref chO])), (chO, .inr (0, [.ref bA, .ref xA, .ref kA, .ref aA, .ref eA, .ref gA, .ref oA, .int 0, .int 1000000000, .int 1000000000, .int 0, .int (-1)]))] H := hP
  have hD : va_D A [(bA, .inl (cI, 1220, .inl fb)), (lnO, .inr (1, [.ref gF, .ref gK, .ref gT, .ref gC, .ref gM, .int 0, .ref eF, .ref eC, .ref eM, .int 0, .ref hopA])), (hopA, .inl (cZ, 20, .inl (fun _ => 0))), (h0, .inr (4, [.ref kO, .ref nO, .ref rO, .ref mO, .int 0, .ref tO, .ref rdO, .ref lnO, .ref drO, .ref chO])), (chO, .inr (0, [.ref bA, .ref xA, .ref kA, .ref aA, .ref eA, .ref gA, .ref oA, .int 0, .int 1000000000, .int 1000000000, .int 0, .int (-1)]))] := hD
  refine lv_aload_n hx hb dX4_settled_4 rfl (lv_at hl 0 rfl) ?_
  refine va_get (D := (dC, dI)) (ci := 4) (v := .ref chO) (C := RX4) (T := TX4) (N := 10) hx hb hts i4 hown hK hP 3 rfl rfl 9 (by decide) (hts (.fieldLink RX4 52 "StopSetter" "chart" "LStopSetter$Chart;") (by decide +kernel)) (fun _ h9 => h9) rfl dX4_settled_5 ?_
  refine lv_aload_n hx hb dX4_settled_8 rfl (lv_at hl 0 rfl) ?_
  refine va_get (D := (dC, dI)) (ci := 4) (v := .ref lnO) (C := RX4) (T := TX4) (N := 10) hx hb hts i4 hown hK hP 3 rfl rfl 7 (by decide) (hts (.fieldLink RX4 42 "StopSetter" "lines" "LStopSetter$Grammar;") (by decide +kernel)) (fun _ h9 => h9) rfl dX4_settled_9 ?_
  have hPc := hP.sub (ws' := [(chO, .inr (0, [.ref bA, .ref xA, .ref kA, .ref aA, .ref eA, .ref gA, .ref oA, .int 0, .int 1000000000, .int 1000000000, .int 0, .int (-1)])), (bA, .inl (cI, 1220, .inl fb)), (lnO, .inr (1, [.ref gF, .ref gK, .ref gT, .ref gC, .ref gM, .int 0, .ref eF, .ref eC, .ref eM, .int 0, .ref hopA])), (hopA, .inl (cZ, 20, .inl (fun _ => 0)))]) [4, 0, 1, 2] rfl
  have hDc := hD.sub (ws' := [(chO, .inr (0, [.ref bA, .ref xA, .ref kA, .ref aA, .ref eA, .ref gA, .ref oA, .int 0, .int 1000000000, .int 1000000000, .int 0, .int (-1)])), (bA, .inl (cI, 1220, .inl fb)), (lnO, .inr (1, [.ref gF, .ref gK, .ref gT, .ref gC, .ref gM, .int 0, .ref eF, .ref eC, .ref eM, .int 0, .ref hopA])), (hopA, .inl (cZ, 20, .inl (fun _ => 0)))]) [4, 0, 1, 2] (by decide) rfl
  have hFc := va_free (wc := [(chO, .inr (0, [.ref bA, .ref xA, .ref kA, .ref aA, .ref eA, .ref gA, .ref oA, .int 0, .int 1000000000, .int 1000000000, .int 0, .int (-1)])), (bA, .inl (cI, 1220, .inl fb)), (lnO, .inr (1, [.ref gF, .ref gK, .ref gT, .ref gC, .ref gM, .int 0, .ref eF, .ref eC, .ref eM, .int 0, .ref hopA])), (hopA, .inl (cZ, 20, .inl (fun _ => 0)))]) hD hS hA [4, 0, 1, 2] rfl
  refine va_calli (va_runV (As := [.ref lnO]) (rest := []) ⟨hx, hb, hml, hown, hts⟩ (k_sharedSteps0 l dC dI cI cZ cC cJ H.size chO bA xA kA aA eA gA oA fb lnO gF gK gT gC gM eF eC eM hopA ) (cwV 1 hts gX4_settled_X0_sharedSteps rfl rfl rfl (by decide +kernel) ⟨Nat.le_of_ble_eq_true rfl, Nat.le_of_ble_eq_true rfl⟩) ⟨sPre_blind, va_recv hK hPc (ci := 0) (q0 := 0) rfl rfl, fun U hU hW => ⟨rfl, sPre_ok hsk hPc hDc hU hW⟩⟩ rfl rfl hl.1 rfl (lv_room (Nat.le_of_ble_eq_true rfl)) dX4_settled_12 ⟨(show 0 + 0 ≤ 0 by omega), (show 0 + 0 ≤ 0 by omega)⟩) hS (fun q _ h => hFc q h) hFc (fun r_2 u t H1 locs ht hvm hw hB hz1 hk1 hS => ?_)
  try dsimp only at hw hB
  have hw_3 := hw
  obtain rfl : r_2 = 0 := hw_3
  obtain ⟨hP1, hD1⟩ := hB
  rw [ht] at hP1
  obtain ⟨hP, hD⟩ := va_join (wr := [(h0, .inr (4, [.ref kO, .ref nO, .ref rO, .ref mO, .int 0, .ref tO, .ref rdO, .ref lnO, .ref drO, .ref chO]))]) (w1 := [(chO, .inr (0, [.ref bA, .ref xA, .ref kA, .ref aA, .ref eA, .ref gA, .ref oA, .int 0, .int 1000000000, .int 1000000000, .int 0, .int (-1)])), (bA, .inl (cI, 1220, .inl fb)), (lnO, .inr (1, [.ref gF, .ref gK, .ref gT, .ref gC, .ref gM, .int 0, .ref eF, .ref eC, .ref eM, .int 0, .ref hopA])), (hopA, .inl (cZ, 20, .inl (fun _ => 0)))]) hP hD [4, 0, 1, 2] [3] rfl rfl (by decide) (by decide) hk1 hFc hP1 hD1
  generalize H1 = H at hP hS ⊢
  have hP : va_P (dC, dI) vwCl [(h0, .inr (4, [.ref kO, .ref nO, .ref rO, .ref mO, .int 0, .ref tO, .ref rdO, .ref lnO, .ref drO, .ref chO])), (chO, .inr (0, [.ref bA, .ref xA, .ref kA, .ref aA, .ref eA, .ref gA, .ref oA, .int 0, .int 1000000000, .int 1000000000, .int 0, .int (-1)])), (bA, .inl (cI, 1220, .inl fb)), (lnO, .inr (1, [.ref gF, .ref gK, .ref gT, .ref gC, .ref gM, .int 0, .ref eF, .ref eC, .ref eM, .int 0, .ref hopA])), (hopA, .inl (cZ, 20, .inl (fun _ => 0)))] H := hP
  have hD : va_D A [(h0, .inr (4, [.ref kO, .ref nO, .ref rO, .ref mO, .int 0, .ref tO, .ref rdO, .ref lnO, .ref drO, .ref chO])), (chO, .inr (0, [.ref bA, .ref xA, .ref kA, .ref aA, .ref eA, .ref gA, .ref oA, .int 0, .int 1000000000, .int 1000000000, .int 0, .int (-1)])), (bA, .inl (cI, 1220, .inl fb)), (lnO, .inr (1, [.ref gF, .ref gK, .ref gT, .ref gC, .ref gM, .int 0, .ref eF, .ref eC, .ref eM, .int 0, .ref hopA])), (hopA, .inl (cZ, 20, .inl (fun _ => 0)))] := hD
  have hP9 := hP.sub (ws' := []) [] rfl
  have hD9 := hD.sub (ws' := []) [] (by decide) rfl
  exact W.iret (v := 0) hx hb hr (fun t ht hW => ⟨⟨0, (), rfl, rfl, by rw [ht]; exact hP9, hD9⟩, hS.F ht⟩) hS.2.2 dX4_settled_15

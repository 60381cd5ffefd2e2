set_option maxHeartbeats 4000000 in
set_option maxRecDepth 100000 in
theorem lc_116 {p : Program} {l : Launch} {e : Env} {s : State} {m : MethodId} {below : List Frame} {meth : Method} {c : Code} {b : Nat} {xs : Nat → Int32} {A : Nat → Prop} (dC : Nat → ClassId) (dI : Nat → Nat → Nat) (cI cZ cC cJ : ClassId) (hx : p.tables.exec = Jvm.exec) (hb : c.code = cL_law) (hr : meth.sig.returnType = ret) (hml : c.maxLocals = 7) (hown : s.vm.findClass RL = some m.cls) (hts : ∀ w ∈ wsL_law, w.before #[Value.ref b] s = true) (hX : va_X b 7 xs s s.heap) (hbl : b < s.heap.size) (hlocks : meth.locks = false) (hsk : sk dC dI cI cZ cC cJ s) (hA : ∀ q : Nat, s.heap.size ≤ q → A q) (hAf : ∀ q : Nat, A q → s.heap.size ≤ q) (hbA : ¬ A b) (h0 kO nO rO mO tO rdO lnO drO chO bA xA kA aA eA gA oA m0 Mtape Msort Mplace Mvalue Mwords Mgoes MgoLine Mends MendLine Mkinds MisName Mrow MbyHand Mleast Msecond MendAt MgoAt MnodeBehind MisOut MfirstEnd MfirstGo o0 : Nat) (fk : Nat → Int32) (gk : Nat → Int32) : ∀ (H : Heap) (locs : List Loc) (ls : Array Slot), va_P (dC, dI) vwCl [(h0, .inr (4, [.ref kO, .ref nO, .ref rO, .ref mO, .int 0, .ref tO, .ref rdO, .ref lnO, .ref drO, .ref chO])), (kO, .inl (cI, 100, .inl fk)), (chO, .inr (0, [.ref bA, .ref xA, .ref kA, .ref aA, .ref eA, .ref gA, .ref oA, .int 0, .int 1000000000, .int 1000000000, .int 0, .int 0])), (m0, .inr (5, [.int 0, .ref Mtape, .int 0, .int 0, .ref Msort, .ref Mplace, .ref Mvalue, .int 0, .int 0, .ref Mwords, .int 0, .int 0, .ref Mgoes, .ref MgoLine, .ref Mends, .ref MendLine, .ref Mkinds, .ref MisName, .int 0, .ref Mrow, .ref MbyHand, .ref Mleast, .ref Msecond, .ref MendAt, .ref MgoAt, .ref MnodeBehind, .int 0, .ref MisOut, .ref MfirstEnd, .ref MfirstGo])), (Mkinds, .inl (cI, 100, .inl gk))] H → va_D A [(h0, .inr (4, [.ref kO, .ref nO, .ref rO, .ref mO, .int 0, .ref tO, .ref rdO, .ref lnO, .ref drO, .ref chO])), (kO, .inl (cI, 100, .inl fk)), (chO, .inr (0, [.ref bA, .ref xA, .ref kA, .ref aA, .ref eA, .ref gA, .ref oA, .int 0, .int 1000000000, .int 1000000000, .int 0, .int 0])), (m0, .inr (5, [.int 0, .ref Mtape, .int 0, .int 0, .ref Msort, .ref Mplace, .ref Mvalue, .int 0, .int 0, .ref Mwords, .int 0, .int 0, .ref Mgoes, .ref MgoLine, .ref Mends, .ref MendLine, .ref Mkinds, .ref MisName, .int 0, .ref Mrow, .ref MbyHand, .ref Mleast, .ref Msecond, .ref MendAt, .ref MgoAt, .ref MnodeBehind, .int 0, .ref MisOut, .ref MfirstEnd, .ref MfirstGo])), (Mkinds, .inl (cI, 100, .inl gk))] → va_S A s.heap H locs → lv_has ls 7 [(0, .ref b), (1, .ref h0), (2, .ref m0), (3, .ref o0), (4, .int 0)] → W p l e room_1 s m #[Value.ref b] below meth c H locs 59 19804 (lw_Z below #[Value.ref b] s) (F0 m 116 ls []) := by
  intro H locs ls hP hD hS hl
  have hK := hsk.1
  refine lv_aload_n hx hb dL_law_116 rfl (lv_at hl 1 rfl) ?_
  refine lv_aload_n hx hb dL_law_117 rfl (lv_at hl 0 rfl) ?_
  refine lv_iload hx hb dL_law_118 (lv_at hl 4 rfl) ?_
  refine lv_iconst (v := 1) hx hb dL_law_120 (by decide) ?_
  refine lv_iadd hx hb dL_law_121 ?_
  refine lv_topi (fun v_ ev_ => ?_)
  obtain rfl : v_ = 1 := ev_.trans (by decide)
  refine va_sld hx hb hX hbl hbA hS (by unfold vp_in; decide) dL_law_122 ?_
  refine lv_aload_n hx hb dL_law_123 rfl (lv_at hl 0 rfl) ?_
  refine lv_iload hx hb dL_law_124 (lv_at hl 4 rfl) ?_
  refine lv_iconst (v := 2) hx hb dL_law_126 (by decide) ?_
  refine lv_iadd hx hb dL_law_127 ?_
  refine lv_topi (fun v_ ev_ => ?_)
  obtain rfl : v_ = 2 := ev_.trans (by decide)
  refine va_sld hx hb hX hbl hbA hS (by unfold vp_in; decide) dL_law_128 ?_
  have hPc := hP.sub (ws' := [(h0, .inr (4, [.ref kO, .ref nO, .ref rO, .ref mO, .int 0, .ref tO, .ref rdO, .ref lnO, .ref drO, .ref chO])), (kO, .inl (cI, 100, .inl fk)), (chO, .inr (0, [.ref bA, .ref xA, .ref kA, .ref aA, .ref eA, .ref gA, .ref oA, .int 0, .int 1000000000, .int 1000000000, .int 0, .int 0]))]) [0, 1, 2] rfl
  have hDc := hD.sub (ws' := [(h0, .inr (4, [.ref kO, .ref nO, .ref rO, .ref mO, .int 0, .ref tO, .ref rdO, .ref lnO, .ref drO, .ref chO])), (kO, .inl (cI, 100, .inl fk)), (chO, .inr (0, [.ref bA, .ref xA, .ref kA, .ref aA, .ref eA, .ref gA, .ref oA, .int 0, .int 1000000000, .int 1000000000, .int 0, .int 0]))]) [0, 1, 2] (by decide) rfl
  have hFc := va_free (wc := [(h0, .inr (4, [.ref kO, .ref nO, .ref rO, .ref mO, .int 0, .ref tO, .ref rdO, .ref lnO, .ref drO, .ref chO])), (kO, .inl (cI, 100, .inl fk)), (chO, .inr (0, [.ref bA, .ref xA, .ref kA, .ref aA, .ref eA, .ref gA, .ref oA, .int 0, .int 1000000000, .int 1000000000, .int 0, .int 0]))]) hD hS hA [0, 1, 2] rfl
  refine va_calli (va_runV (As := [.int (xs (1 : Int32).toNatClampNeg), .int (xs (2 : Int32).toNatClampNeg)]) (rest := []) ⟨hx, hb, hml, hown, hts⟩ (k_kinds l dC dI cI cZ cC cJ H.size h0 kO nO rO mO tO rdO lnO drO chO bA xA kA aA eA gA oA fk (xs (1 : Int32).toNatClampNeg) (xs (2 : Int32).toNatClampNeg) ) (cwV 2 hts gL_law_X4_kinds rfl rfl rfl (by decide +kernel) ⟨Nat.le_of_ble_eq_true rfl, Nat.le_of_ble_eq_true rfl⟩) ⟨sPre_blind, va_recv hK hPc (ci := 4) (q0 := 0) rfl rfl, fun U hU hW => ⟨rfl, sPre_ok hsk hPc hDc hU hW⟩⟩ rfl rfl hl.1 rfl (lv_room (Nat.le_of_ble_eq_true rfl)) dL_law_129 ⟨(show 59 + 0 ≤ 62 by omega), (show 19804 + 0 ≤ 19826 by omega)⟩) hS (fun q _ h => hFc q h) hFc (fun r_1 u t H1 locs ht hvm hw hB hz1 hk1 hS => ?_)
  try dsimp only at hw hB
  have hw_2 := hw
  obtain rfl : r_1 = rKinds (xs (1 : Int32).toNatClampNeg) (xs (2 : Int32).toNatClampNeg) := hw_2
  obtain ⟨hP1, hD1⟩ := hB
  rw [ht] at hP1
  obtain ⟨hP, hD⟩ := va_join (wr := [(m0, .inr (5, [.int 0, .ref Mtape, .int 0, .int 0, .ref Msort, .ref Mplace, .ref Mvalue, .int 0, .int 0, .ref Mwords, .int 0, .int 0, .ref Mgoes, .ref MgoLine, .ref Mends, .ref MendLine, .ref Mkinds, .ref MisName, .int 0, .ref Mrow, .ref MbyHand, .ref Mleast, .ref Msecond, .ref MendAt, .ref MgoAt, .ref MnodeBehind, .int 0, .ref MisOut, .ref MfirstEnd, .ref MfirstGo])), (Mkinds, .inl (cI, 100, .inl gk))]) (w1 := []) hP hD [0, 1, 2] [3, 4] rfl rfl (by decide) (by decide) hk1 hFc hP1 hD1
  generalize H1 = H at hP hS ⊢
  have hP : va_P (dC, dI) vwCl [(m0, .inr (5, [.int 0, .ref Mtape, .int 0, .int 0, .ref Msort, .ref Mplace, .ref Mvalue, .int 0, .int 0, .ref Mwords, .int 0, .int 0, .ref Mgoes, .ref MgoLine, .ref Mends, .ref MendLine, .ref Mkinds, .ref MisName, .int 0, .ref Mrow, .ref MbyHand, .ref Mleast, .ref Msecond, .ref MendAt, .ref MgoAt, .ref MnodeBehind, .int 0, .ref MisOut, .ref MfirstEnd, .ref MfirstGo])), (Mkinds, .inl (cI, 100, .inl gk))] H := hP
  have hD : va_D A [(m0, .inr (5, [.int 0, .ref Mtape, .int 0, .int 0, .ref Msort, .ref Mplace, .ref Mvalue, .int 0, .int 0, .ref Mwords, .int 0, .int 0, .ref Mgoes, .ref MgoLine, .ref Mends, .ref MendLine, .ref Mkinds, .ref MisName, .int 0, .ref Mrow, .ref MbyHand, .ref Mleast, .ref Msecond, .ref MendAt, .ref MgoAt, .ref MnodeBehind, .int 0, .ref MisOut, .ref MfirstEnd, .ref MfirstGo])), (Mkinds, .inl (cI, 100, .inl gk))] := hD
  refine lv_aload_n hx hb dL_law_132 rfl (lv_at hl 2 rfl) ?_
  refine lv_aload_n hx hb dL_law_133 rfl (lv_at hl 0 rfl) ?_
  refine lv_iload hx hb dL_law_134 (lv_at hl 4 rfl) ?_
  refine lv_iconst (v := 1) hx hb dL_law_136 (by decide) ?_
  refine lv_iadd hx hb dL_law_137 ?_
  refine lv_topi (fun v_ ev_ => ?_)
  obtain rfl : v_ = 1 := ev_.trans (by decide)
  refine va_sld hx hb hX hbl hbA hS (by unfold vp_in; decide) dL_law_138 ?_
  refine lv_aload_n hx hb dL_law_139 rfl (lv_at hl 0 rfl) ?_
  refine lv_iload hx hb dL_law_140 (lv_at hl 4 rfl) ?_
  refine lv_iconst (v := 2) hx hb dL_law_142 (by decide) ?_
  refine lv_iadd hx hb dL_law_143 ?_
  refine lv_topi (fun v_ ev_ => ?_)
  obtain rfl : v_ = 2 := ev_.trans (by decide)
  refine va_sld hx hb hX hbl hbA hS (by unfold vp_in; decide) dL_law_144 ?_
  have hPc := hP.sub (ws' := [(m0, .inr (5, [.int 0, .ref Mtape, .int 0, .int 0, .ref Msort, .ref Mplace, .ref Mvalue, .int 0, .int 0, .ref Mwords, .int 0, .int 0, .ref Mgoes, .ref MgoLine, .ref Mends, .ref MendLine, .ref Mkinds, .ref MisName, .int 0, .ref Mrow, .ref MbyHand, .ref Mleast, .ref Msecond, .ref MendAt, .ref MgoAt, .ref MnodeBehind, .int 0, .ref MisOut, .ref MfirstEnd, .ref MfirstGo])), (Mkinds, .inl (cI, 100, .inl gk))]) [0, 1] rfl
  have hDc := hD.sub (ws' := [(m0, .inr (5, [.int 0, .ref Mtape, .int 0, .int 0, .ref Msort, .ref Mplace, .ref Mvalue, .int 0, .int 0, .ref Mwords, .int 0, .int 0, .ref Mgoes, .ref MgoLine, .ref Mends, .ref MendLine, .ref Mkinds, .ref MisName, .int 0, .ref Mrow, .ref MbyHand, .ref Mleast, .ref Msecond, .ref MendAt, .ref MgoAt, .ref MnodeBehind, .int 0, .ref MisOut, .ref MfirstEnd, .ref MfirstGo])), (Mkinds, .inl (cI, 100, .inl gk))]) [0, 1] (by decide) rfl
  have hFc := va_free (wc := [(m0, .inr (5, [.int 0, .ref Mtape, .int 0, .int 0, .ref Msort, .ref Mplace, .ref Mvalue, .int 0, .int 0, .ref Mwords, .int 0, .int 0, .ref Mgoes, .ref MgoLine, .ref Mends, .ref MendLine, .ref Mkinds, .ref MisName, .int 0, .ref Mrow, .ref MbyHand, .ref Mleast, .ref Msecond, .ref MendAt, .ref MgoAt, .ref MnodeBehind, .int 0, .ref MisOut, .ref MfirstEnd, .ref MfirstGo])), (Mkinds, .inl (cI, 100, .inl gk))]) hD hS hA [0, 1] rfl
  refine va_calli (va_runV (As := [.int (xs (1 : Int32).toNatClampNeg), .int (xs (2 : Int32).toNatClampNeg)]) (rest := [.int (rKinds (xs (1 : Int32).toNatClampNeg) (xs (2 : Int32).toNatClampNeg))]) ⟨hx, hb, hml, hown, hts⟩ (k_mkinds l dC dI cI cZ cC cJ H.size m0 Mtape Msort Mplace Mvalue Mwords Mgoes MgoLine Mends MendLine Mkinds MisName Mrow MbyHand Mleast Msecond MendAt MgoAt MnodeBehind MisOut MfirstEnd MfirstGo gk (xs (1 : Int32).toNatClampNeg) (xs (2 : Int32).toNatClampNeg) ) (cwV 2 hts gL_law_X5_kinds rfl rfl rfl (by decide +kernel) ⟨Nat.le_of_ble_eq_true rfl, Nat.le_of_ble_eq_true rfl⟩) ⟨sPre_blind, va_recv hK hPc (ci := 5) (q0 := 0) rfl rfl, fun U hU hW => ⟨rfl, sPre_ok hsk hPc hDc hU hW⟩⟩ rfl rfl hl.1 rfl (lv_room (Nat.le_of_ble_eq_true rfl)) dL_law_145 ⟨(show 59 + 0 ≤ 62 by omega), (show 19804 + 0 ≤ 19826 by omega)⟩) hS (fun q _ h => hFc q h) hFc (fun r_3 u t H1 locs ht hvm hw hB hz1 hk1 hS => ?_)
  try dsimp only at hw hB
  have hw_4 := hw
  obtain rfl : r_3 = rKinds (xs (1 : Int32).toNatClampNeg) (xs (2 : Int32).toNatClampNeg) := hw_4
  obtain ⟨hP1, hD1⟩ := hB
  rw [ht] at hP1
  obtain ⟨hP, hD⟩ := va_join (wr := []) (w1 := []) hP hD [0, 1] [] rfl rfl (by decide) (by decide) hk1 hFc hP1 hD1
  generalize H1 = H at hP hS ⊢
  have hP : va_P (dC, dI) vwCl [] H := hP
  have hD : va_D A [] := hD
  refine lv_icmp_eq (tgt := 636) hx hb dL_law_148 (by decide) (fun _ => ?_) (fun h9 => absurd rfl h9)
  refine lv_iinc (v := 7) (lv' := [(4, .int 7), (0, .ref b), (1, .ref h0), (2, .ref m0), (3, .ref o0)]) hx hb dL_law_636 hl (k := 4) rfl (by decide) (by decide) rfl (fun ls hl => ?_)
  refine lv_goto (tgt := 23) hx hb dL_law_639 (by decide) ?_
  refine lv_iload hx hb dL_law_23 (lv_at hl 0 rfl) ?_
  refine lv_aload_n hx hb dL_law_25 rfl (lv_at hl 1 rfl) ?_
  refine va_slen hx hb hX hbl hbA hS dL_law_26 ?_
  refine lv_topi (fun v_ ev_ => ?_)
  obtain rfl : v_ = 7 := ev_.trans (by decide)
  refine lv_bipush (v := 7) hx hb dL_law_27 (by decide) ?_
  refine lv_isub hx hb dL_law_29 ?_
  refine lv_topi (fun v_ ev_ => ?_)
  obtain rfl : v_ = 0 := ev_.trans (by decide)
  refine lv_icmp_gt (tgt := 642) hx hb dL_law_30 (by decide) (fun _ => ?_) (fun h9 => absurd (by decide) h9)
  refine lv_iconst (v := 1) hx hb dL_law_642 (by decide) ?_
  refine va_forget (fun q hq => hAf _ (hS.2.2 q hq)) ?_
  refine W.widen (k := 62) (n := 19826) (by omega) (by omega) ?_
  exact lw_ret hx hb hr hlocks dL_law_643
set_option maxHeartbeats 4000000 in
set_option maxRecDepth 100000 in
theorem lc_153 {p : Program} {l : Launch} {e : Env} {s : State} {m : MethodId} {below : List Frame} {meth : Method} {c : Code} {b : Nat} {xs : Nat → Int32} {A : Nat → Prop} (dC : Nat → ClassId) (dI : Nat → Nat → Nat) (cI cZ cC cJ : ClassId) (hx : p.tables.exec = Jvm.exec) (hb : c.code = cL_law) (hr : meth.sig.returnType = ret) (hml : c.maxLocals = 7) (hown : s.vm.findClass RL = some m.cls) (hts : ∀ w ∈ wsL_law, w.before #[Value.ref b] s = true) (hX : va_X b 7 xs s s.heap) (hbl : b < s.heap.size) (hlocks : meth.locks = false) (hsk : sk dC dI cI cZ cC cJ s) (hA : ∀ q : Nat, s.heap.size ≤ q → A q) (hAf : ∀ q : Nat, A q → s.heap.size ≤ q) (hbA : ¬ A b) (h0 kO nO rO mO tO rdO lnO drO chO m0 Mtape Msort Mplace Mvalue Mwords Mgoes MgoLine Mends MendLine Mkinds MisName Mrow MbyHand Mleast Msecond MendAt MgoAt MnodeBehind MisOut MfirstEnd MfirstGo o0 : Nat)  : ∀ (H : Heap) (locs : List Loc) (ls : Array Slot), va_P (dC, dI) vwCl [(h0, .inr (4, [.ref kO, .ref nO, .ref rO, .ref mO, .int 0, .ref tO, .ref rdO, .ref lnO, .ref drO, .ref chO])), (nO, .inl (cZ, 100, .inl (fun _ => 0))), (m0, .inr (5, [.int 0, .ref Mtape, .int 0, .int 0, .ref Msort, .ref Mplace, .ref Mvalue, .int 0, .int 0, .ref Mwords, .int 0, .int 0, .ref Mgoes, .ref MgoLine, .ref Mends, .ref MendLine, .ref Mkinds, .ref MisName, .int 0, .ref Mrow, .ref MbyHand, .ref Mleast, .ref Msecond, .ref MendAt, .ref MgoAt, .ref MnodeBehind, .int 0, .ref MisOut, .ref MfirstEnd, .ref MfirstGo])), (MisName, .inl (cZ, 100, .inl (fun _ => 0)))] H → va_D A [(h0, .inr (4, [.ref kO, .ref nO, .ref rO, .ref mO, .int 0, .ref tO, .ref rdO, .ref lnO, .ref drO, .ref chO])), (nO, .inl (cZ, 100, .inl (fun _ => 0))), (m0, .inr (5, [.int 0, .ref Mtape, .int 0, .int 0, .ref Msort, .ref Mplace, .ref Mvalue, .int 0, .int 0, .ref Mwords, .int 0, .int 0, .ref Mgoes, .ref MgoLine, .ref Mends, .ref MendLine, .ref Mkinds, .ref MisName, .int 0, .ref Mrow, .ref MbyHand, .ref Mleast, .ref Msecond, .ref MendAt, .ref MgoAt, .ref MnodeBehind, .int 0, .ref MisOut, .ref MfirstEnd, .ref MfirstGo])), (MisName, .inl (cZ, 100, .inl (fun _ => 0)))] → va_S A s.heap H locs → lv_has ls 7 [(0, .ref b), (1, .ref h0), (2, .ref m0), (3, .ref o0), (4, .int 0)] → W p l e room_1 s m #[Value.ref b] below meth c H locs 59 19804 (lw_Z below #[Value.ref b] s) (F0 m 153 ls []) := by
  intro H locs ls hP hD hS hl
  have hK := hsk.1
  refine lv_aload_n hx hb dL_law_153 rfl (lv_at hl 1 rfl) ?_
  refine lv_aload_n hx hb dL_law_154 rfl (lv_at hl 0 rfl) ?_
  refine lv_iload hx hb dL_law_155 (lv_at hl 4 rfl) ?_
  refine lv_iconst (v := 1) hx hb dL_law_157 (by decide) ?_
  refine lv_iadd hx hb dL_law_158 ?_
  refine lv_topi (fun v_ ev_ => ?_)
  obtain rfl : v_ = 1 := ev_.trans (by decide)
  refine va_sld hx hb hX hbl hbA hS (by unfold vp_in; decide) dL_law_159 ?_
  refine lv_aload_n hx hb dL_law_160 rfl (lv_at hl 0 rfl) ?_
  refine lv_iload hx hb dL_law_161 (lv_at hl 4 rfl) ?_
  refine lv_iconst (v := 2) hx hb dL_law_163 (by decide) ?_
  refine lv_iadd hx hb dL_law_164 ?_
  refine lv_topi (fun v_ ev_ => ?_)
  obtain rfl : v_ = 2 := ev_.trans (by decide)
  refine va_sld hx hb hX hbl hbA hS (by unfold vp_in; decide) dL_law_165 ?_
  refine lv_if_eq (tgt := 173) hx hb dL_law_166 (by decide) (fun c_166 => ?_) (fun c_166 => ?_)
  · skip
    refine lv_iconst (v := 0) hx hb dL_law_173 (by decide) ?_
    have hPc := hP.sub (ws' := [(h0, .inr (4, [.ref kO, .ref nO, .ref rO, .ref mO, .int 0, .ref tO, .ref rdO, .ref lnO, .ref drO, .ref chO])), (nO, .inl (cZ, 100, .inl (fun _ => 0)))]) [0, 1] rfl
    have hDc := hD.sub (ws' := [(h0, .inr (4, [.ref kO, .ref nO, .ref rO, .ref mO, .int 0, .ref tO, .ref rdO, .ref lnO, .ref drO, .ref chO])), (nO, .inl (cZ, 100, .inl (fun _ => 0)))]) [0, 1] (by decide) rfl
    have hFc := va_free (wc := [(h0, .inr (4, [.ref kO, .ref nO, .ref rO, .ref mO, .int 0, .ref tO, .ref rdO, .ref lnO, .ref drO, .ref chO])), (nO, .inl (cZ, 100, .inl (fun _ => 0)))]) hD hS hA [0, 1] rfl
    refine va_calli (va_runV (As := [.int (xs (1 : Int32).toNatClampNeg), .int 0]) (rest := []) ⟨hx, hb, hml, hown, hts⟩ (k_name l dC dI cI cZ cC cJ H.size h0 kO nO rO mO tO rdO lnO drO chO (fun _ => 0) (xs (1 : Int32).toNatClampNeg) 0 ) (cwV 2 hts gL_law_X4_name rfl rfl rfl (by decide +kernel) ⟨Nat.le_of_ble_eq_true rfl, Nat.le_of_ble_eq_true rfl⟩) ⟨sPre_blind, va_recv hK hPc (ci := 4) (q0 := 0) rfl rfl, fun U hU hW => ⟨rfl, sPre_ok hsk hPc hDc hU hW⟩⟩ rfl rfl hl.1 rfl (lv_room (Nat.le_of_ble_eq_true rfl)) dL_law_174 ⟨(show 59 + 0 ≤ 62 by omega), (show 19804 + 0 ≤ 19826 by omega)⟩) hS (fun q _ h => hFc q h) hFc (fun r_1 u t H1 locs ht hvm hw hB hz1 hk1 hS => ?_)
    try dsimp only at hw hB
    have hw_2 := hw
    obtain rfl : r_1 = rName (xs (1 : Int32).toNatClampNeg) := hw_2
    obtain ⟨hP1, hD1⟩ := hB
    rw [ht] at hP1
    obtain ⟨hP, hD⟩ := va_join (wr := [(m0, .inr (5, [.int 0, .ref Mtape, .int 0, .int 0, .ref Msort, .ref Mplace, .ref Mvalue, .int 0, .int 0, .ref Mwords, .int 0, .int 0, .ref Mgoes, .ref MgoLine, .ref Mends, .ref MendLine, .ref Mkinds, .ref MisName, .int 0, .ref Mrow, .ref MbyHand, .ref Mleast, .ref Msecond, .ref MendAt, .ref MgoAt, .ref MnodeBehind, .int 0, .ref MisOut, .ref MfirstEnd, .ref MfirstGo])), (MisName, .inl (cZ, 100, .inl (fun _ => 0)))]) (w1 := []) hP hD [0, 1] [2, 3] rfl rfl (by decide) (by decide) hk1 hFc hP1 hD1
    generalize H1 = H at hP hS ⊢
    have hP : va_P (dC, dI) vwCl [(m0, .inr (5, [.int 0, .ref Mtape, .int 0, .int 0, .ref Msort, .ref Mplace, .ref Mvalue, .int 0, .int 0, .ref Mwords, .int 0, .int 0, .ref Mgoes, .ref MgoLine, .ref Mends, .ref MendLine, .ref Mkinds, .ref MisName, .int 0, .ref Mrow, .ref MbyHand, .ref Mleast, .ref Msecond, .ref MendAt, .ref MgoAt, .ref MnodeBehind, .int 0, .ref MisOut, .ref MfirstEnd, .ref MfirstGo])), (MisName, .inl (cZ, 100, .inl (fun _ => 0)))] H := hP
    have hD : va_D A [(m0, .inr (5, [.int 0, .ref Mtape, .int 0, .int 0, .ref Msort, .ref Mplace, .ref Mvalue, .int 0, .int 0, .ref Mwords, .int 0, .int 0, .ref Mgoes, .ref MgoLine, .ref Mends, .ref MendLine, .ref Mkinds, .ref MisName, .int 0, .ref Mrow, .ref MbyHand, .ref Mleast, .ref Msecond, .ref MendAt, .ref MgoAt, .ref MnodeBehind, .int 0, .ref MisOut, .ref MfirstEnd, .ref MfirstGo])), (MisName, .inl (cZ, 100, .inl (fun _ => 0)))] := hD
    refine lv_aload_n hx hb dL_law_177 rfl (lv_at hl 2 rfl) ?_
    refine lv_aload_n hx hb dL_law_178 rfl (lv_at hl 0 rfl) ?_
    refine lv_iload hx hb dL_law_179 (lv_at hl 4 rfl) ?_
    refine lv_iconst (v := 1) hx hb dL_law_181 (by decide) ?_
    refine lv_iadd hx hb dL_law_182 ?_
    refine lv_topi (fun v_ ev_ => ?_)
    obtain rfl : v_ = 1 := ev_.trans (by decide)
    refine va_sld hx hb hX hbl hbA hS (by unfold vp_in; decide) dL_law_183 ?_
    refine lv_aload_n hx hb dL_law_184 rfl (lv_at hl 0 rfl) ?_
    refine lv_iload hx hb dL_law_185 (lv_at hl 4 rfl) ?_
    refine lv_iconst (v := 2) hx hb dL_law_187 (by decide) ?_
    refine lv_iadd hx hb dL_law_188 ?_
    refine lv_topi (fun v_ ev_ => ?_)
    obtain rfl : v_ = 2 := ev_.trans (by decide)
    refine va_sld hx hb hX hbl hbA hS (by unfold vp_in; decide) dL_law_189 ?_
    refine lv_if_eq (tgt := 197) hx hb dL_law_190 (by decide) (fun _ => ?_) (fun h9 => absurd c_166 h9)
    refine lv_iconst (v := 0) hx hb dL_law_197 (by decide) ?_
    have hPc := hP.sub (ws' := [(m0, .inr (5, [.int 0, .ref Mtape, .int 0, .int 0, .ref Msort, .ref Mplace, .ref Mvalue, .int 0, .int 0, .ref Mwords, .int 0, .int 0, .ref Mgoes, .ref MgoLine, .ref Mends, .ref MendLine, .ref Mkinds, .ref MisName, .int 0, .ref Mrow, .ref MbyHand, .ref Mleast, .ref Msecond, .ref MendAt, .ref MgoAt, .ref MnodeBehind, .int 0, .ref MisOut, .ref MfirstEnd, .ref MfirstGo])), (MisName, .inl (cZ, 100, .inl (fun _ => 0)))]) [0, 1] rfl
    have hDc := hD.sub (ws' := [(m0, .inr (5, [.int 0, .ref Mtape, .int 0, .int 0, .ref Msort, .ref Mplace, .ref Mvalue, .int 0, .int 0, .ref Mwords, .int 0, .int 0, .ref Mgoes, .ref MgoLine, .ref Mends, .ref MendLine, .ref Mkinds, .ref MisName, .int 0, .ref Mrow, .ref MbyHand, .ref Mleast, .ref Msecond, .ref MendAt, .ref MgoAt, .ref MnodeBehind, .int 0, .ref MisOut, .ref MfirstEnd, .ref MfirstGo])), (MisName, .inl (cZ, 100, .inl (fun _ => 0)))]) [0, 1] (by decide) rfl
    have hFc := va_free (wc := [(m0, .inr (5, [.int 0, .ref Mtape, .int 0, .int 0, .ref Msort, .ref Mplace, .ref Mvalue, .int 0, .int 0, .ref Mwords, .int 0, .int 0, .ref Mgoes, .ref MgoLine, .ref Mends, .ref MendLine, .ref Mkinds, .ref MisName, .int 0, .ref Mrow, .ref MbyHand, .ref Mleast, .ref Msecond, .ref MendAt, .ref MgoAt, .ref MnodeBehind, .int 0, .ref MisOut, .ref MfirstEnd, .ref MfirstGo])), (MisName, .inl (cZ, 100, .inl (fun _ => 0)))]) hD hS hA [0, 1] rfl
    refine va_calli (va_runV (As := [.int (xs (1 : Int32).toNatClampNeg), .int 0]) (rest := [.int (rName (xs (1 : Int32).toNatClampNeg))]) ⟨hx, hb, hml, hown, hts⟩ (k_mname l dC dI cI cZ cC cJ H.size m0 Mtape Msort Mplace Mvalue Mwords Mgoes MgoLine Mends MendLine Mkinds MisName Mrow MbyHand Mleast Msecond MendAt MgoAt MnodeBehind MisOut MfirstEnd MfirstGo (fun _ => 0) (xs (1 : Int32).toNatClampNeg) 0 ) (cwV 2 hts gL_law_X5_name rfl rfl rfl (by decide +kernel) ⟨Nat.le_of_ble_eq_true rfl, Nat.le_of_ble_eq_true rfl⟩) ⟨sPre_blind, va_recv hK hPc (ci := 5) (q0 := 0) rfl rfl, fun U hU hW => ⟨rfl, sPre_ok hsk hPc hDc hU hW⟩⟩ rfl rfl hl.1 rfl (lv_room (Nat.le_of_ble_eq_true rfl)) dL_law_198 ⟨(show 59 + 0 ≤ 62 by omega), (show 19804 + 0 ≤ 19826 by omega)⟩) hS (fun q _ h => hFc q h) hFc (fun r_3 u t H1 locs ht hvm hw hB hz1 hk1 hS => ?_)
    try dsimp only at hw hB
    have hw_4 := hw
    obtain rfl : r_3 = rName (xs (1 : Int32).toNatClampNeg) := hw_4
    obtain ⟨hP1, hD1⟩ := hB
    rw [ht] at hP1
    obtain ⟨hP, hD⟩ := va_join (wr := []) (w1 := []) hP hD [0, 1] [] rfl rfl (by decide) (by decide) hk1 hFc hP1 hD1
    generalize H1 = H at hP hS ⊢
    have hP : va_P (dC, dI) vwCl [] H := hP
    have hD : va_D A [] := hD
    refine lv_icmp_eq (tgt := 636) hx hb dL_law_201 (by decide) (fun _ => ?_) (fun h9 => absurd rfl h9)
    refine lv_iinc (v := 7) (lv' := [(4, .int 7), (0, .ref b), (1, .ref h0), (2, .ref m0), (3, .ref o0)]) hx hb dL_law_636 hl (k := 4) rfl (by decide) (by decide) rfl (fun ls hl => ?_)
    refine lv_goto (tgt := 23) hx hb dL_law_639 (by decide) ?_
    refine lv_iload hx hb dL_law_23 (lv_at hl 0 rfl) ?_
    refine lv_aload_n hx hb dL_law_25 rfl (lv_at hl 1 rfl) ?_
    refine va_slen hx hb hX hbl hbA hS dL_law_26 ?_
    refine lv_topi (fun v_ ev_ => ?_)
    obtain rfl : v_ = 7 := ev_.trans (by decide)
    refine lv_bipush (v := 7) hx hb dL_law_27 (by decide) ?_
    refine lv_isub hx hb dL_law_29 ?_
    refine lv_topi (fun v_ ev_ => ?_)
    obtain rfl : v_ = 0 := ev_.trans (by decide)
    refine lv_icmp_gt (tgt := 642) hx hb dL_law_30 (by decide) (fun _ => ?_) (fun h9 => absurd (by decide) h9)
    refine lv_iconst (v := 1) hx hb dL_law_642 (by decide) ?_
    refine va_forget (fun q hq => hAf _ (hS.2.2 q hq)) ?_
    refine W.widen (k := 62) (n := 19826) (by omega) (by omega) ?_
    exact lw_ret hx hb hr hlocks dL_law_643
  · skip
    refine lv_iconst (v := 1) hx hb dL_law_169 (by decide) ?_
    refine lv_goto (tgt := 174) hx hb dL_law_170 (by decide) ?_
    have hPc := hP.sub (ws' := [(h0, .inr (4, [.ref kO, .ref nO, .ref rO, .ref mO, .int 0, .ref tO, .ref rdO, .ref lnO, .ref drO, .ref chO])), (nO, .inl (cZ, 100, .inl (fun _ => 0)))]) [0, 1] rfl
    have hDc := hD.sub (ws' := [(h0, .inr (4, [.ref kO, .ref nO, .ref rO, .ref mO, .int 0, .ref tO, .ref rdO, .ref lnO, .ref drO, .ref chO])), (nO, .inl (cZ, 100, .inl (fun _ => 0)))]) [0, 1] (by decide) rfl
    have hFc := va_free (wc := [(h0, .inr (4, [.ref kO, .ref nO, .ref rO, .ref mO, .int 0, .ref tO, .ref rdO, .ref lnO, .ref drO, .ref chO])), (nO, .inl (cZ, 100, .inl (fun _ => 0)))]) hD hS hA [0, 1] rfl
    refine va_calli (va_runV (As := [.int (xs (1 : Int32).toNatClampNeg), .int 1]) (rest := []) ⟨hx, hb, hml, hown, hts⟩ (k_name l dC dI cI cZ cC cJ H.size h0 kO nO rO mO tO rdO lnO drO chO (fun _ => 0) (xs (1 : Int32).toNatClampNeg) 1 ) (cwV 2 hts gL_law_X4_name rfl rfl rfl (by decide +kernel) ⟨Nat.le_of_ble_eq_true rfl, Nat.le_of_ble_eq_true rfl⟩) ⟨sPre_blind, va_recv hK hPc (ci := 4) (q0 := 0) rfl rfl, fun U hU hW => ⟨rfl, sPre_ok hsk hPc hDc hU hW⟩⟩ rfl rfl hl.1 rfl (lv_room (Nat.le_of_ble_eq_true rfl)) dL_law_174 ⟨(show 59 + 0 ≤ 62 by omega), (show 19804 + 0 ≤ 19826 by omega)⟩) hS (fun q _ h => hFc q h) hFc (fun r_5 u t H1 locs ht hvm hw hB hz1 hk1 hS => ?_)
    try dsimp only at hw hB
    have hw_6 := hw
    obtain rfl : r_5 = rName (xs (1 : Int32).toNatClampNeg) := hw_6
    obtain ⟨hP1, hD1⟩ := hB
    rw [ht] at hP1
    obtain ⟨hP, hD⟩ := va_join (wr := [(m0, .inr (5, [.int 0, .ref Mtape, .int 0, .int 0, .ref Msort, .ref Mplace, .ref Mvalue, .int 0, .int 0, .ref Mwords, .int 0, .int 0, .ref Mgoes, .ref MgoLine, .ref Mends, .ref MendLine, .ref Mkinds, .ref MisName, .int 0, .ref Mrow, .ref MbyHand, .ref Mleast, .ref Msecond, .ref MendAt, .ref MgoAt, .ref MnodeBehind, .int 0, .ref MisOut, .ref MfirstEnd, .ref MfirstGo])), (MisName, .inl (cZ, 100, .inl (fun _ => 0)))]) (w1 := []) hP hD [0, 1] [2, 3] rfl rfl (by decide) (by decide) hk1 hFc hP1 hD1
    generalize H1 = H at hP hS ⊢
    have hP : va_P (dC, dI) vwCl [(m0, .inr (5, [.int 0, .ref Mtape, .int 0, .int 0, .ref Msort, .ref Mplace, .ref Mvalue, .int 0, .int 0, .ref Mwords, .int 0, .int 0, .ref Mgoes, .ref MgoLine, .ref Mends, .ref MendLine, .ref Mkinds, .ref MisName, .int 0, .ref Mrow, .ref MbyHand, .ref Mleast, .ref Msecond, .ref MendAt, .ref MgoAt, .ref MnodeBehind, .int 0, .ref MisOut, .ref MfirstEnd, .ref MfirstGo])), (MisName, .inl (cZ, 100, .inl (fun _ => 0)))] H := hP
    have hD : va_D A [(m0, .inr (5, [.int 0, .ref Mtape, .int 0, .int 0, .ref Msort, .ref Mplace, .ref Mvalue, .int 0, .int 0, .ref Mwords, .int 0, .int 0, .ref Mgoes, .ref MgoLine, .ref Mends, .ref MendLine, .ref Mkinds, .ref MisName, .int 0, .ref Mrow, .ref MbyHand, .ref Mleast, .ref Msecond, .ref MendAt, .ref MgoAt, .ref MnodeBehind, .int 0, .ref MisOut, .ref MfirstEnd, .ref MfirstGo])), (MisName, .inl (cZ, 100, .inl (fun _ => 0)))] := hD
    refine lv_aload_n hx hb dL_law_177 rfl (lv_at hl 2 rfl) ?_
    refine lv_aload_n hx hb dL_law_178 rfl (lv_at hl 0 rfl) ?_
    refine lv_iload hx hb dL_law_179 (lv_at hl 4 rfl) ?_
    refine lv_iconst (v := 1) hx hb dL_law_181 (by decide) ?_
    refine lv_iadd hx hb dL_law_182 ?_
    refine lv_topi (fun v_ ev_ => ?_)
    obtain rfl : v_ = 1 := ev_.trans (by decide)
    refine va_sld hx hb hX hbl hbA hS (by unfold vp_in; decide) dL_law_183 ?_
    refine lv_aload_n hx hb dL_law_184 rfl (lv_at hl 0 rfl) ?_
    refine lv_iload hx hb dL_law_185 (lv_at hl 4 rfl) ?_
    refine lv_iconst (v := 2) hx hb dL_law_187 (by decide) ?_
    refine lv_iadd hx hb dL_law_188 ?_
    refine lv_topi (fun v_ ev_ => ?_)
    obtain rfl : v_ = 2 := ev_.trans (by decide)
    refine va_sld hx hb hX hbl hbA hS (by unfold vp_in; decide) dL_law_189 ?_
    refine lv_if_eq (tgt := 197) hx hb dL_law_190 (by decide) (fun h9 => absurd h9 c_166) (fun _ => ?_)
    refine lv_iconst (v := 1) hx hb dL_law_193 (by decide) ?_
    refine lv_goto (tgt := 198) hx hb dL_law_194 (by decide) ?_
    have hPc := hP.sub (ws' := [(m0, .inr (5, [.int 0, .ref Mtape, .int 0, .int 0, .ref Msort, .ref Mplace, .ref Mvalue, .int 0, .int 0, .ref Mwords, .int 0, .int 0, .ref Mgoes, .ref MgoLine, .ref Mends, .ref MendLine, .ref Mkinds, .ref MisName, .int 0, .ref Mrow, .ref MbyHand, .ref Mleast, .ref Msecond, .ref MendAt, .ref MgoAt, .ref MnodeBehind, .int 0, .ref MisOut, .ref MfirstEnd, .ref MfirstGo])), (MisName, .inl (cZ, 100, .inl (fun _ => 0)))]) [0, 1] rfl
    have hDc := hD.sub (ws' := [(m0, .inr (5, [.int 0, .ref Mtape, .int 0, .int 0, .ref Msort, .ref Mplace, .ref Mvalue, .int 0, .int 0, .ref Mwords, .int 0, .int 0, .ref Mgoes, .ref MgoLine, .ref Mends, .ref MendLine, .ref Mkinds, .ref MisName, .int 0, .ref Mrow, .ref MbyHand, .ref Mleast, .ref Msecond, .ref MendAt, .ref MgoAt, .ref MnodeBehind, .int 0, .ref MisOut, .ref MfirstEnd, .ref MfirstGo])), (MisName, .inl (cZ, 100, .inl (fun _ => 0)))]) [0, 1] (by decide) rfl
    have hFc := va_free (wc := [(m0, .inr (5, [.int 0, .ref Mtape, .int 0, .int 0, .ref Msort, .ref Mplace, .ref Mvalue, .int 0, .int 0, .ref Mwords, .int 0, .int 0, .ref Mgoes, .ref MgoLine, .ref Mends, .ref MendLine, .ref Mkinds, .ref MisName, .int 0, .ref Mrow, .ref MbyHand, .ref Mleast, .ref Msecond, .ref MendAt, .ref MgoAt, .ref MnodeBehind, .int 0, .ref MisOut, .ref MfirstEnd, .ref MfirstGo])), (MisName, .inl (cZ, 100, .inl (fun _ => 0)))]) hD hS hA [0, 1] rfl
    refine va_calli (va_runV (As := [.int (xs (1 : Int32).toNatClampNeg), .int 1]) (rest := [.int (rName (xs (1 : Int32).toNatClampNeg))]) ⟨hx, hb, hml, hown, hts⟩ (k_mname l dC dI cI cZ cC cJ H.size m0 Mtape Msort Mplace Mvalue Mwords Mgoes MgoLine Mends MendLine Mkinds MisName Mrow MbyHand Mleast Msecond MendAt MgoAt MnodeBehind MisOut MfirstEnd MfirstGo (fun _ => 0) (xs (1 : Int32).toNatClampNeg) 1 ) (cwV 2 hts gL_law_X5_name rfl rfl rfl (by decide +kernel) ⟨Nat.le_of_ble_eq_true rfl, Nat.le_of_ble_eq_true rfl⟩) ⟨sPre_blind, va_recv hK hPc (ci := 5) (q0 := 0) rfl rfl, fun U hU hW => ⟨rfl, sPre_ok hsk hPc hDc hU hW⟩⟩ rfl rfl hl.1 rfl (lv_room (Nat.le_of_ble_eq_true rfl)) dL_law_198 ⟨(show 59 + 0 ≤ 62 by omega), (show 19804 + 0 ≤ 19826 by omega)⟩) hS (fun q _ h => hFc q h) hFc (fun r_7 u t H1 locs ht hvm hw hB hz1 hk1 hS => ?_)
    try dsimp only at hw hB
    have hw_8 := hw
    obtain rfl : r_7 = rName (xs (1 : Int32).toNatClampNeg) := hw_8
    obtain ⟨hP1, hD1⟩ := hB
    rw [ht] at hP1
    obtain ⟨hP, hD⟩ := va_join (wr := []) (w1 := []) hP hD [0, 1] [] rfl rfl (by decide) (by decide) hk1 hFc hP1 hD1
    generalize H1 = H at hP hS ⊢
    have hP : va_P (dC, dI) vwCl [] H := hP
    have hD : va_D A [] := hD
    refine lv_icmp_eq (tgt := 636) hx hb dL_law_201 (by decide) (fun _ => ?_) (fun h9 => absurd rfl h9)
    refine lv_iinc (v := 7) (lv' := [(4, .int 7), (0, .ref b), (1, .ref h0), (2, .ref m0), (3, .ref o0)]) hx hb dL_law_636 hl (k := 4) rfl (by decide) (by decide) rfl (fun ls hl => ?_)
    refine lv_goto (tgt := 23) hx hb dL_law_639 (by decide) ?_
    refine lv_iload hx hb dL_law_23 (lv_at hl 0 rfl) ?_
    refine lv_aload_n hx hb dL_law_25 rfl (lv_at hl 1 rfl) ?_
    refine va_slen hx hb hX hbl hbA hS dL_law_26 ?_
    refine lv_topi (fun v_ ev_ => ?_)
    obtain rfl : v_ = 7 := ev_.trans (by decide)
    refine lv_bipush (v := 7) hx hb dL_law_27 (by decide) ?_
    refine lv_isub hx hb dL_law_29 ?_
    refine lv_topi (fun v_ ev_ => ?_)
    obtain rfl : v_ = 0 := ev_.trans (by decide)
    refine lv_icmp_gt (tgt := 642) hx hb dL_law_30 (by decide) (fun _ => ?_) (fun h9 => absurd (by decide) h9)
    refine lv_iconst (v := 1) hx hb dL_law_642 (by decide) ?_
    refine va_forget (fun q hq => hAf _ (hS.2.2 q hq)) ?_
    refine W.widen (k := 62) (n := 19826) (by omega) (by omega) ?_
    exact lw_ret hx hb hr hlocks dL_law_643
set_option maxHeartbeats 4000000 in
set_option maxRecDepth 100000 in
theorem lc_206 {p : Program} {l : Launch} {e : Env} {s : State} {m : MethodId} {below : List Frame} {meth : Method} {c : Code} {b : Nat} {xs : Nat → Int32} {A : Nat → Prop} (dC : Nat → ClassId) (dI : Nat → Nat → Nat) (cI cZ cC cJ : ClassId) (hx : p.tables.exec = Jvm.exec) (hb : c.code = cL_law) (hr : meth.sig.returnType = ret) (hml : c.maxLocals = 7) (hown : s.vm.findClass RL = some m.cls) (hts : ∀ w ∈ wsL_law, w.before #[Value.ref b] s = true) (hX : va_X b 7 xs s s.heap) (hbl : b < s.heap.size) (hlocks : meth.locks = false) (hsk : sk dC dI cI cZ cC cJ s) (hA : ∀ q : Nat, s.heap.size ≤ q → A q) (hAf : ∀ q : Nat, A q → s.heap.size ≤ q) (hbA : ¬ A b) (h0 kO nO rO mO tO rdO lnO drO chO m0 Mtape Msort Mplace Mvalue Mwords Mgoes MgoLine Mends MendLine Mkinds MisName Mrow MbyHand Mleast Msecond MendAt MgoAt MnodeBehind MisOut MfirstEnd MfirstGo o0 : Nat)  : ∀ (H : Heap) (locs : List Loc) (ls : Array Slot), va_P (dC, dI) vwCl [(h0, .inr (4, [.ref kO, .ref nO, .ref rO, .ref mO, .int 0, .ref tO, .ref rdO, .ref lnO, .ref drO, .ref chO])), (rO, .inl (cI, 60, .inl (fun _ => 0))), (mO, .inl (cI, 60, .inl (fun _ => 0))), (m0, .inr (5, [.int 0, .ref Mtape, .int 0, .int 0, .ref Msort, .ref Mplace, .ref Mvalue, .int 0, .int 0, .ref Mwords, .int 0, .int 0, .ref Mgoes, .ref MgoLine, .ref Mends, .ref MendLine, .ref Mkinds, .ref MisName, .int 0, .ref Mrow, .ref MbyHand, .ref Mleast, .ref Msecond, .ref MendAt, .ref MgoAt, .ref MnodeBehind, .int 0, .ref MisOut, .ref MfirstEnd, .ref MfirstGo])), (Mrow, .inl (cI, 60, .inl (fun _ => 0))), (MbyHand, .inl (cI, 60, .inl (fun _ => 0)))] H → va_D A [(h0, .inr (4, [.ref kO, .ref nO, .ref rO, .ref mO, .int 0, .ref tO, .ref rdO, .ref lnO, .ref drO, .ref chO])), (rO, .inl (cI, 60, .inl (fun _ => 0))), (mO, .inl (cI, 60, .inl (fun _ => 0))), (m0, .inr (5, [.int 0, .ref Mtape, .int 0, .int 0, .ref Msort, .ref Mplace, .ref Mvalue, .int 0, .int 0, .ref Mwords, .int 0, .int 0, .ref Mgoes, .ref MgoLine, .ref Mends, .ref MendLine, .ref Mkinds, .ref MisName, .int 0, .ref Mrow, .ref MbyHand, .ref Mleast, .ref Msecond, .ref MendAt, .ref MgoAt, .ref MnodeBehind, .int 0, .ref MisOut, .ref MfirstEnd, .ref MfirstGo])), (Mrow, .inl (cI, 60, .inl (fun _ => 0))), (MbyHand, .inl (cI, 60, .inl (fun _ => 0)))] → va_S A s.heap H locs → lv_has ls 7 [(0, .ref b), (1, .ref h0), (2, .ref m0), (3, .ref o0), (4, .int 0)] → W p l e room_1 s m #[Value.ref b] below meth c H locs 59 19804 (lw_Z below #[Value.ref b] s) (F0 m 206 ls []) := by
  intro H locs ls hP hD hS hl
  have hK := hsk.1
  refine lv_aload_n hx hb dL_law_206 rfl (lv_at hl 1 rfl) ?_
  refine lv_aload_n hx hb dL_law_207 rfl (lv_at hl 0 rfl) ?_
  refine lv_iload hx hb dL_law_208 (lv_at hl 4 rfl) ?_
  refine lv_iconst (v := 1) hx hb dL_law_210 (by decide) ?_
  refine lv_iadd hx hb dL_law_211 ?_
  refine lv_topi (fun v_ ev_ => ?_)
  obtain rfl : v_ = 1 := ev_.trans (by decide)
  refine va_sld hx hb hX hbl hbA hS (by unfold vp_in; decide) dL_law_212 ?_
  have hPc := hP.sub (ws' := [(h0, .inr (4, [.ref kO, .ref nO, .ref rO, .ref mO, .int 0, .ref tO, .ref rdO, .ref lnO, .ref drO, .ref chO])), (rO, .inl (cI, 60, .inl (fun _ => 0))), (mO, .inl (cI, 60, .inl (fun _ => 0)))]) [0, 1, 2] rfl
  have hDc := hD.sub (ws' := [(h0, .inr (4, [.ref kO, .ref nO, .ref rO, .ref mO, .int 0, .ref tO, .ref rdO, .ref lnO, .ref drO, .ref chO])), (rO, .inl (cI, 60, .inl (fun _ => 0))), (mO, .inl (cI, 60, .inl (fun _ => 0)))]) [0, 1, 2] (by decide) rfl
  have hFc := va_free (wc := [(h0, .inr (4, [.ref kO, .ref nO, .ref rO, .ref mO, .int 0, .ref tO, .ref rdO, .ref lnO, .ref drO, .ref chO])), (rO, .inl (cI, 60, .inl (fun _ => 0))), (mO, .inl (cI, 60, .inl (fun _ => 0)))]) hD hS hA [0, 1, 2] rfl
  refine va_calli (va_runV (As := [.int (xs (1 : Int32).toNatClampNeg)]) (rest := []) ⟨hx, hb, hml, hown, hts⟩ (k_word l dC dI cI cZ cC cJ H.size h0 kO nO rO mO tO rdO lnO drO chO (fun _ => 0) (fun _ => 0) (xs (1 : Int32).toNatClampNeg) ) (cwV 1 hts gL_law_X4_word rfl rfl rfl (by decide +kernel) ⟨Nat.le_of_ble_eq_true rfl, Nat.le_of_ble_eq_true rfl⟩) ⟨sPre_blind, va_recv hK hPc (ci := 4) (q0 := 0) rfl rfl, fun U hU hW => ⟨rfl, sPre_ok hsk hPc hDc hU hW⟩⟩ rfl rfl hl.1 rfl (lv_room (Nat.le_of_ble_eq_true rfl)) dL_law_213 ⟨(show 59 + 0 ≤ 62 by omega), (show 19804 + 0 ≤ 19826 by omega)⟩) hS (fun q _ h => hFc q h) hFc (fun r_1 u t H1 locs ht hvm hw hB hz1 hk1 hS => ?_)
  try dsimp only at hw hB
  have hw_2 := hw
  obtain rfl : r_1 = rWord (xs (1 : Int32).toNatClampNeg) := hw_2
  obtain ⟨hP1, hD1⟩ := hB
  rw [ht] at hP1
  obtain ⟨hP, hD⟩ := va_join (wr := [(m0, .inr (5, [.int 0, .ref Mtape, .int 0, .int 0, .ref Msort, .ref Mplace, .ref Mvalue, .int 0, .int 0, .ref Mwords, .int 0, .int 0, .ref Mgoes, .ref MgoLine, .ref Mends, .ref MendLine, .ref Mkinds, .ref MisName, .int 0, .ref Mrow, .ref MbyHand, .ref Mleast, .ref Msecond, .ref MendAt, .ref MgoAt, .ref MnodeBehind, .int 0, .ref MisOut, .ref MfirstEnd, .ref MfirstGo])), (Mrow, .inl (cI, 60, .inl (fun _ => 0))), (MbyHand, .inl (cI, 60, .inl (fun _ => 0)))]) (w1 := []) hP hD [0, 1, 2] [3, 4, 5] rfl rfl (by decide) (by decide) hk1 hFc hP1 hD1
  generalize H1 = H at hP hS ⊢
  have hP : va_P (dC, dI) vwCl [(m0, .inr (5, [.int 0, .ref Mtape, .int 0, .int 0, .ref Msort, .ref Mplace, .ref Mvalue, .int 0, .int 0, .ref Mwords, .int 0, .int 0, .ref Mgoes, .ref MgoLine, .ref Mends, .ref MendLine, .ref Mkinds, .ref MisName, .int 0, .ref Mrow, .ref MbyHand, .ref Mleast, .ref Msecond, .ref MendAt, .ref MgoAt, .ref MnodeBehind, .int 0, .ref MisOut, .ref MfirstEnd, .ref MfirstGo])), (Mrow, .inl (cI, 60, .inl (fun _ => 0))), (MbyHand, .inl (cI, 60, .inl (fun _ => 0)))] H := hP
  have hD : va_D A [(m0, .inr (5, [.int 0, .ref Mtape, .int 0, .int 0, .ref Msort, .ref Mplace, .ref Mvalue, .int 0, .int 0, .ref Mwords, .int 0, .int 0, .ref Mgoes, .ref MgoLine, .ref Mends, .ref MendLine, .ref Mkinds, .ref MisName, .int 0, .ref Mrow, .ref MbyHand, .ref Mleast, .ref Msecond, .ref MendAt, .ref MgoAt, .ref MnodeBehind, .int 0, .ref MisOut, .ref MfirstEnd, .ref MfirstGo])), (Mrow, .inl (cI, 60, .inl (fun _ => 0))), (MbyHand, .inl (cI, 60, .inl (fun _ => 0)))] := hD
  refine lv_aload_n hx hb dL_law_216 rfl (lv_at hl 2 rfl) ?_
  refine lv_aload_n hx hb dL_law_217 rfl (lv_at hl 0 rfl) ?_
  refine lv_iload hx hb dL_law_218 (lv_at hl 4 rfl) ?_
  refine lv_iconst (v := 1) hx hb dL_law_220 (by decide) ?_
  refine lv_iadd hx hb dL_law_221 ?_
  refine lv_topi (fun v_ ev_ => ?_)
  obtain rfl : v_ = 1 := ev_.trans (by decide)
  refine va_sld hx hb hX hbl hbA hS (by unfold vp_in; decide) dL_law_222 ?_
  have hPc := hP.sub (ws' := [(m0, .inr (5, [.int 0, .ref Mtape, .int 0, .int 0, .ref Msort, .ref Mplace, .ref Mvalue, .int 0, .int 0, .ref Mwords, .int 0, .int 0, .ref Mgoes, .ref MgoLine, .ref Mends, .ref MendLine, .ref Mkinds, .ref MisName, .int 0, .ref Mrow, .ref MbyHand, .ref Mleast, .ref Msecond, .ref MendAt, .ref MgoAt, .ref MnodeBehind, .int 0, .ref MisOut, .ref MfirstEnd, .ref MfirstGo])), (Mrow, .inl (cI, 60, .inl (fun _ => 0))), (MbyHand, .inl (cI, 60, .inl (fun _ => 0)))]) [0, 1, 2] rfl
  have hDc := hD.sub (ws' := [(m0, .inr (5, [.int 0, .ref Mtape, .int 0, .int 0, .ref Msort, .ref Mplace, .ref Mvalue, .int 0, .int 0, .ref Mwords, .int 0, .int 0, .ref Mgoes, .ref MgoLine, .ref Mends, .ref MendLine, .ref Mkinds, .ref MisName, .int 0, .ref Mrow, .ref MbyHand, .ref Mleast, .ref Msecond, .ref MendAt, .ref MgoAt, .ref MnodeBehind, .int 0, .ref MisOut, .ref MfirstEnd, .ref MfirstGo])), (Mrow, .inl (cI, 60, .inl (fun _ => 0))), (MbyHand, .inl (cI, 60, .inl (fun _ => 0)))]) [0, 1, 2] (by decide) rfl
  have hFc := va_free (wc := [(m0, .inr (5, [.int 0, .ref Mtape, .int 0, .int 0, .ref Msort, .ref Mplace, .ref Mvalue, .int 0, .int 0, .ref Mwords, .int 0, .int 0, .ref Mgoes, .ref MgoLine, .ref Mends, .ref MendLine, .ref Mkinds, .ref MisName, .int 0, .ref Mrow, .ref MbyHand, .ref Mleast, .ref Msecond, .ref MendAt, .ref MgoAt, .ref MnodeBehind, .int 0, .ref MisOut, .ref MfirstEnd, .ref MfirstGo])), (Mrow, .inl (cI, 60, .inl (fun _ => 0))), (MbyHand, .inl (cI, 60, .inl (fun _ => 0)))]) hD hS hA [0, 1, 2] rfl
  refine va_calli (va_runV (As := [.int (xs (1 : Int32).toNatClampNeg)]) (rest := [.int (rWord (xs (1 : Int32).toNatClampNeg))]) ⟨hx, hb, hml, hown, hts⟩ (k_mword l dC dI cI cZ cC cJ H.size m0 Mtape Msort Mplace Mvalue Mwords Mgoes MgoLine Mends MendLine Mkinds MisName Mrow MbyHand Mleast Msecond MendAt MgoAt MnodeBehind MisOut MfirstEnd MfirstGo (fun _ => 0) (fun _ => 0) (xs (1 : Int32).toNatClampNeg) ) (cwV 1 hts gL_law_X5_word rfl rfl rfl (by decide +kernel) ⟨Nat.le_of_ble_eq_true rfl, Nat.le_of_ble_eq_true rfl⟩) ⟨sPre_blind, va_recv hK hPc (ci := 5) (q0 := 0) rfl rfl, fun U hU hW => ⟨rfl, sPre_ok hsk hPc hDc hU hW⟩⟩ rfl rfl hl.1 rfl (lv_room (Nat.le_of_ble_eq_true rfl)) dL_law_223 ⟨(show 59 + 0 ≤ 62 by omega), (show 19804 + 0 ≤ 19826 by omega)⟩) hS (fun q _ h => hFc q h) hFc (fun r_3 u t H1 locs ht hvm hw hB hz1 hk1 hS => ?_)
  try dsimp only at hw hB
  have hw_4 := hw
  obtain rfl : r_3 = rWord (xs (1 : Int32).toNatClampNeg) := hw_4
  obtain ⟨hP1, hD1⟩ := hB
  rw [ht] at hP1
  obtain ⟨hP, hD⟩ := va_join (wr := []) (w1 := []) hP hD [0, 1, 2] [] rfl rfl (by decide) (by decide) hk1 hFc hP1 hD1
  generalize H1 = H at hP hS ⊢
  have hP : va_P (dC, dI) vwCl [] H := hP
  have hD : va_D A [] := hD
  refine lv_icmp_eq (tgt := 636) hx hb dL_law_226 (by decide) (fun _ => ?_) (fun h9 => absurd rfl h9)
  refine lv_iinc (v := 7) (lv' := [(4, .int 7), (0, .ref b), (1, .ref h0), (2, .ref m0), (3, .ref o0)]) hx hb dL_law_636 hl (k := 4) rfl (by decide) (by decide) rfl (fun ls hl => ?_)
  refine lv_goto (tgt := 23) hx hb dL_law_639 (by decide) ?_
  refine lv_iload hx hb dL_law_23 (lv_at hl 0 rfl) ?_
  refine lv_aload_n hx hb dL_law_25 rfl (lv_at hl 1 rfl) ?_
  refine va_slen hx hb hX hbl hbA hS dL_law_26 ?_
  refine lv_topi (fun v_ ev_ => ?_)
  obtain rfl : v_ = 7 := ev_.trans (by decide)
  refine lv_bipush (v := 7) hx hb dL_law_27 (by decide) ?_
  refine lv_isub hx hb dL_law_29 ?_
  refine lv_topi (fun v_ ev_ => ?_)
  obtain rfl : v_ = 0 := ev_.trans (by decide)
  refine lv_icmp_gt (tgt := 642) hx hb dL_law_30 (by decide) (fun _ => ?_) (fun h9 => absurd (by decide) h9)
  refine lv_iconst (v := 1) hx hb dL_law_642 (by decide) ?_
  refine va_forget (fun q hq => hAf _ (hS.2.2 q hq)) ?_
  refine W.widen (k := 62) (n := 19826) (by omega) (by omega) ?_
  exact lw_ret hx hb hr hlocks dL_law_643
set_option maxHeartbeats 4000000 in
set_option maxRecDepth 100000 in
theorem lc_231 {p : Program} {l : Launch} {e : Env} {s : State} {m : MethodId} {below : List Frame} {meth : Method} {c : Code} {b : Nat} {xs : Nat → Int32} {A : Nat → Prop} (dC : Nat → ClassId) (dI : Nat → Nat → Nat) (cI cZ cC cJ : ClassId) (hx : p.tables.exec = Jvm.exec) (hb : c.code = cL_law) (hr : meth.sig.returnType = ret) (hml : c.maxLocals = 7) (hown : s.vm.findClass RL = some m.cls) (hts : ∀ w ∈ wsL_law, w.before #[Value.ref b] s = true) (hX : va_X b 7 xs s s.heap) (hbl : b < s.heap.size) (hlocks : meth.locks = false) (hsk : sk dC dI cI cZ cC cJ s) (hA : ∀ q : Nat, s.heap.size ≤ q → A q) (hAf : ∀ q : Nat, A q → s.heap.size ≤ q) (hbA : ¬ A b) (h0 kO nO rO mO tO rdO lnO drO chO m0 Mtape Msort Mplace Mvalue Mwords Mgoes MgoLine Mends MendLine Mkinds MisName Mrow MbyHand Mleast Msecond MendAt MgoAt MnodeBehind MisOut MfirstEnd MfirstGo o0 : Nat)  : ∀ (H : Heap) (locs : List Loc) (ls : Array Slot), va_P (dC, dI) vwCl [(h0, .inr (4, [.ref kO, .ref nO, .ref rO, .ref mO, .int 0, .ref tO, .ref rdO, .ref lnO, .ref drO, .ref chO])), (m0, .inr (5, [.int 0, .ref Mtape, .int 0, .int 0, .ref Msort, .ref Mplace, .ref Mvalue, .int 0, .int 0, .ref Mwords, .int 0, .int 0, .ref Mgoes, .ref MgoLine, .ref Mends, .ref MendLine, .ref Mkinds, .ref MisName, .int 0, .ref Mrow, .ref MbyHand, .ref Mleast, .ref Msecond, .ref MendAt, .ref MgoAt, .ref MnodeBehind, .int 0, .ref MisOut, .ref MfirstEnd, .ref MfirstGo]))] H → va_D A [(h0, .inr (4, [.ref kO, .ref nO, .ref rO, .ref mO, .int 0, .ref tO, .ref rdO, .ref lnO, .ref drO, .ref chO])), (m0, .inr (5, [.int 0, .ref Mtape, .int 0, .int 0, .ref Msort, .ref Mplace, .ref Mvalue, .int 0, .int 0, .ref Mwords, .int 0, .int 0, .ref Mgoes, .ref MgoLine, .ref Mends, .ref MendLine, .ref Mkinds, .ref MisName, .int 0, .ref Mrow, .ref MbyHand, .ref Mleast, .ref Msecond, .ref MendAt, .ref MgoAt, .ref MnodeBehind, .int 0, .ref MisOut, .ref MfirstEnd, .ref MfirstGo]))] → va_S A s.heap H locs → lv_has ls 7 [(0, .ref b), (1, .ref h0), (2, .ref m0), (3, .ref o0), (4, .int 0)] → W p l e room_1 s m #[Value.ref b] below meth c H locs 59 19804 (lw_Z below #[Value.ref b] s) (F0 m 231 ls []) := by
  intro H locs ls hP hD hS hl
  have hK := hsk.1
  refine lv_aload_n hx hb dL_law_231 rfl (lv_at hl 1 rfl) ?_
  have hPc := hP.sub (ws' := [(h0, .inr (4, [.ref kO, .ref nO, .ref rO, .ref mO, .int 0, .ref tO, .ref rdO, .ref lnO, .ref drO, .ref chO]))]) [0] rfl
  have hDc := hD.sub (ws' := [(h0, .inr (4, [.ref kO, .ref nO, .ref rO, .ref mO, .int 0, .ref tO, .ref rdO, .ref lnO, .ref drO, .ref chO]))]) [0] (by decide) rfl
  have hFc := va_free (wc := [(h0, .inr (4, [.ref kO, .ref nO, .ref rO, .ref mO, .int 0, .ref tO, .ref rdO, .ref lnO, .ref drO, .ref chO]))]) hD hS hA [0] rfl
  refine va_calli (va_runV (As := []) (rest := []) ⟨hx, hb, hml, hown, hts⟩ (k_drop l dC dI cI cZ cC cJ H.size h0 kO nO rO mO tO rdO lnO drO chO ) (cwV 0 hts gL_law_X4_drop rfl rfl rfl (by decide +kernel) ⟨Nat.le_of_ble_eq_true rfl, Nat.le_of_ble_eq_true rfl⟩) ⟨sPre_blind, va_recv hK hPc (ci := 4) (q0 := 0) rfl rfl, fun U hU hW => ⟨rfl, sPre_ok hsk hPc hDc hU hW⟩⟩ rfl rfl hl.1 rfl (lv_room (Nat.le_of_ble_eq_true rfl)) dL_law_232 ⟨(show 59 + 0 ≤ 62 by omega), (show 19804 + 0 ≤ 19826 by omega)⟩) hS (fun q _ h => hFc q h) hFc (fun r_1 u t H1 locs ht hvm hw hB hz1 hk1 hS => ?_)
  try dsimp only at hw hB
  have hw_2 := hw
  obtain rfl : r_1 = (-1) := hw_2
  obtain ⟨hP1, hD1⟩ := hB
  rw [ht] at hP1
  obtain ⟨hP, hD⟩ := va_join (wr := [(m0, .inr (5, [.int 0, .ref Mtape, .int 0, .int 0, .ref Msort, .ref Mplace, .ref Mvalue, .int 0, .int 0, .ref Mwords, .int 0, .int 0, .ref Mgoes, .ref MgoLine, .ref Mends, .ref MendLine, .ref Mkinds, .ref MisName, .int 0, .ref Mrow, .ref MbyHand, .ref Mleast, .ref Msecond, .ref MendAt, .ref MgoAt, .ref MnodeBehind, .int 0, .ref MisOut, .ref MfirstEnd, .ref MfirstGo]))]) (w1 := []) hP hD [0] [1] rfl rfl (by decide) (by decide) hk1 hFc hP1 hD1
  generalize H1 = H at hP hS ⊢
  have hP : va_P (dC, dI) vwCl [(m0, .inr (5, [.int 0, .ref Mtape, .int 0, .int 0, .ref Msort, .ref Mplace, .ref Mvalue, .int 0, .int 0, .ref Mwords, .int 0, .int 0, .ref Mgoes, .ref MgoLine, .ref Mends, .ref MendLine, .ref Mkinds, .ref MisName, .int 0, .ref Mrow, .ref MbyHand, .ref Mleast, .ref Msecond, .ref MendAt, .ref MgoAt, .ref MnodeBehind, .int 0, .ref MisOut, .ref MfirstEnd, .ref MfirstGo]))] H := hP
  have hD : va_D A [(m0, .inr (5, [.int 0, .ref Mtape, .int 0, .int 0, .ref Msort, .ref Mplace, .ref Mvalue, .int 0, .int 0, .ref Mwords, .int 0, .int 0, .ref Mgoes, .ref MgoLine, .ref Mends, .ref MendLine, .ref Mkinds, .ref MisName, .int 0, .ref Mrow, .ref MbyHand, .ref Mleast, .ref Msecond, .ref MendAt, .ref MgoAt, .ref MnodeBehind, .int 0, .ref MisOut, .ref MfirstEnd, .ref MfirstGo]))] := hD
  refine lv_aload_n hx hb dL_law_235 rfl (lv_at hl 2 rfl) ?_
  have hPc := hP.sub (ws' := [(m0, .inr (5, [.int 0, .ref Mtape, .int 0, .int 0, .ref Msort, .ref Mplace, .ref Mvalue, .int 0, .int 0, .ref Mwords, .int 0, .int 0, .ref Mgoes, .ref MgoLine, .ref Mends, .ref MendLine, .ref Mkinds, .ref MisName, .int 0, .ref Mrow, .ref MbyHand, .ref Mleast, .ref Msecond, .ref MendAt, .ref MgoAt, .ref MnodeBehind, .int 0, .ref MisOut, .ref MfirstEnd, .ref MfirstGo]))]) [0] rfl
  have hDc := hD.sub (ws' := [(m0, .inr (5, [.int 0, .ref Mtape, .int 0, .int 0, .ref Msort, .ref Mplace, .ref Mvalue, .int 0, .int 0, .ref Mwords, .int 0, .int 0, .ref Mgoes, .ref MgoLine, .ref Mends, .ref MendLine, .ref Mkinds, .ref MisName, .int 0, .ref Mrow, .ref MbyHand, .ref Mleast, .ref Msecond, .ref MendAt, .ref MgoAt, .ref MnodeBehind, .int 0, .ref MisOut, .ref MfirstEnd, .ref MfirstGo]))]) [0] (by decide) rfl
  have hFc := va_free (wc := [(m0, .inr (5, [.int 0, .ref Mtape, .int 0, .int 0, .ref Msort, .ref Mplace, .ref Mvalue, .int 0, .int 0, .ref Mwords, .int 0, .int 0, .ref Mgoes, .ref MgoLine, .ref Mends, .ref MendLine, .ref Mkinds, .ref MisName, .int 0, .ref Mrow, .ref MbyHand, .ref Mleast, .ref Msecond, .ref MendAt, .ref MgoAt, .ref MnodeBehind, .int 0, .ref MisOut, .ref MfirstEnd, .ref MfirstGo]))]) hD hS hA [0] rfl
  refine va_calli (va_runV (As := []) (rest := [.int (-1)]) ⟨hx, hb, hml, hown, hts⟩ (k_mdrop l dC dI cI cZ cC cJ H.size m0 Mtape Msort Mplace Mvalue Mwords Mgoes MgoLine Mends MendLine Mkinds MisName Mrow MbyHand Mleast Msecond MendAt MgoAt MnodeBehind MisOut MfirstEnd MfirstGo ) (cwV 0 hts gL_law_X5_drop rfl rfl rfl (by decide +kernel) ⟨Nat.le_of_ble_eq_true rfl, Nat.le_of_ble_eq_true rfl⟩) ⟨sPre_blind, va_recv hK hPc (ci := 5) (q0 := 0) rfl rfl, fun U hU hW => ⟨rfl, sPre_ok hsk hPc hDc hU hW⟩⟩ rfl rfl hl.1 rfl (lv_room (Nat.le_of_ble_eq_true rfl)) dL_law_236 ⟨(show 59 + 0 ≤ 62 by omega), (show 19804 + 0 ≤ 19826 by omega)⟩) hS (fun q _ h => hFc q h) hFc (fun r_3 u t H1 locs ht hvm hw hB hz1 hk1 hS => ?_)
  try dsimp only at hw hB
  have hw_4 := hw
  obtain rfl : r_3 = (-1) := hw_4
  obtain ⟨hP1, hD1⟩ := hB
  rw [ht] at hP1
  obtain ⟨hP, hD⟩ := va_join (wr := []) (w1 := []) hP hD [0] [] rfl rfl (by decide) (by decide) hk1 hFc hP1 hD1
  generalize H1 = H at hP hS ⊢
  have hP : va_P (dC, dI) vwCl [] H := hP
  have hD : va_D A [] := hD
  refine lv_icmp_eq (tgt := 636) hx hb dL_law_239 (by decide) (fun _ => ?_) (fun h9 => absurd (by decide) h9)
  refine lv_iinc (v := 7) (lv' := [(4, .int 7), (0, .ref b), (1, .ref h0), (2, .ref m0), (3, .ref o0)]) hx hb dL_law_636 hl (k := 4) rfl (by decide) (by decide) rfl (fun ls hl => ?_)
  refine lv_goto (tgt := 23) hx hb dL_law_639 (by decide) ?_
  refine lv_iload hx hb dL_law_23 (lv_at hl 0 rfl) ?_
  refine lv_aload_n hx hb dL_law_25 rfl (lv_at hl 1 rfl) ?_
  refine va_slen hx hb hX hbl hbA hS dL_law_26 ?_
  refine lv_topi (fun v_ ev_ => ?_)
  obtain rfl : v_ = 7 := ev_.trans (by decide)
  refine lv_bipush (v := 7) hx hb dL_law_27 (by decide) ?_
  refine lv_isub hx hb dL_law_29 ?_
  refine lv_topi (fun v_ ev_ => ?_)
  obtain rfl : v_ = 0 := ev_.trans (by decide)
  refine lv_icmp_gt (tgt := 642) hx hb dL_law_30 (by decide) (fun _ => ?_) (fun h9 => absurd (by decide) h9)
  refine lv_iconst (v := 1) hx hb dL_law_642 (by decide) ?_
  refine va_forget (fun q hq => hAf _ (hS.2.2 q hq)) ?_
  refine W.widen (k := 62) (n := 19826) (by omega) (by omega) ?_
  exact lw_ret hx hb hr hlocks dL_law_643
set_option maxHeartbeats 4000000 in
set_option maxRecDepth 100000 in
theorem lc_244 {p : Program} {l : Launch} {e : Env} {s : State} {m : MethodId} {below : List Frame} {meth : Method} {c : Code} {b : Nat} {xs : Nat → Int32} {A : Nat → Prop} (dC : Nat → ClassId) (dI : Nat → Nat → Nat) (cI cZ cC cJ : ClassId) (hx : p.tables.exec = Jvm.exec) (hb : c.code = cL_law) (hr : meth.sig.returnType = ret) (hml : c.maxLocals = 7) (hown : s.vm.findClass RL = some m.cls) (hts : ∀ w ∈ wsL_law, w.before #[Value.ref b] s = true) (hX : va_X b 7 xs s s.heap) (hbl : b < s.heap.size) (hlocks : meth.locks = false) (hsk : sk dC dI cI cZ cC cJ s) (hA : ∀ q : Nat, s.heap.size ≤ q → A q) (hAf : ∀ q : Nat, A q → s.heap.size ≤ q) (hbA : ¬ A b) (h0 kO nO rO mO tO rdO lnO drO chO m0 Mtape Msort Mplace Mvalue Mwords Mgoes MgoLine Mends MendLine Mkinds MisName Mrow MbyHand Mleast Msecond MendAt MgoAt MnodeBehind MisOut MfirstEnd MfirstGo o0 : Nat)  : ∀ (H : Heap) (locs : List Loc) (ls : Array Slot), va_P (dC, dI) vwCl [(h0, .inr (4, [.ref kO, .ref nO, .ref rO, .ref mO, .int 0, .ref tO, .ref rdO, .ref lnO, .ref drO, .ref chO])), (m0, .inr (5, [.int 0, .ref Mtape, .int 0, .int 0, .ref Msort, .ref Mplace, .ref Mvalue, .int 0, .int 0, .ref Mwords, .int 0, .int 0, .ref Mgoes, .ref MgoLine, .ref Mends, .ref MendLine, .ref Mkinds, .ref MisName, .int 0, .ref Mrow, .ref MbyHand, .ref Mleast, .ref Msecond, .ref MendAt, .ref MgoAt, .ref MnodeBehind, .int 0, .ref MisOut, .ref MfirstEnd, .ref MfirstGo]))] H → va_D A [(h0, .inr (4, [.ref kO, .ref nO, .ref rO, .ref mO, .int 0, .ref tO, .ref rdO, .ref lnO, .ref drO, .ref chO])), (m0, .inr (5, [.int 0, .ref Mtape, .int 0, .int 0, .ref Msort, .ref Mplace, .ref Mvalue, .int 0, .int 0, .ref Mwords, .int 0, .int 0, .ref Mgoes, .ref MgoLine, .ref Mends, .ref MendLine, .ref Mkinds, .ref MisName, .int 0, .ref Mrow, .ref MbyHand, .ref Mleast, .ref Msecond, .ref MendAt, .ref MgoAt, .ref MnodeBehind, .int 0, .ref MisOut, .ref MfirstEnd, .ref MfirstGo]))] → va_S A s.heap H locs → lv_has ls 7 [(0, .ref b), (1, .ref h0), (2, .ref m0), (3, .ref o0), (4, .int 0)] → W p l e room_1 s m #[Value.ref b] below meth c H locs 59 19804 (lw_Z below #[Value.ref b] s) (F0 m 244 ls []) := by
  intro H locs ls hP hD hS hl
  have hK := hsk.1
  refine lv_aload_n hx hb dL_law_244 rfl (lv_at hl 1 rfl) ?_
  refine lv_aload_n hx hb dL_law_245 rfl (lv_at hl 0 rfl) ?_
  refine lv_iload hx hb dL_law_246 (lv_at hl 4 rfl) ?_
  refine lv_iconst (v := 1) hx hb dL_law_248 (by decide) ?_
  refine lv_iadd hx hb dL_law_249 ?_
  refine lv_topi (fun v_ ev_ => ?_)
  obtain rfl : v_ = 1 := ev_.trans (by decide)
  refine va_sld hx hb hX hbl hbA hS (by unfold vp_in; decide) dL_law_250 ?_
  refine lv_aload_n hx hb dL_law_251 rfl (lv_at hl 0 rfl) ?_
  refine lv_iload hx hb dL_law_252 (lv_at hl 4 rfl) ?_
  refine lv_iconst (v := 2) hx hb dL_law_254 (by decide) ?_
  refine lv_iadd hx hb dL_law_255 ?_
  refine lv_topi (fun v_ ev_ => ?_)
  obtain rfl : v_ = 2 := ev_.trans (by decide)
  refine va_sld hx hb hX hbl hbA hS (by unfold vp_in; decide) dL_law_256 ?_
  have hPc := hP.sub (ws' := [(h0, .inr (4, [.ref kO, .ref nO, .ref rO, .ref mO, .int 0, .ref tO, .ref rdO, .ref lnO, .ref drO, .ref chO]))]) [0] rfl
  have hDc := hD.sub (ws' := [(h0, .inr (4, [.ref kO, .ref nO, .ref rO, .ref mO, .int 0, .ref tO, .ref rdO, .ref lnO, .ref drO, .ref chO]))]) [0] (by decide) rfl
  have hFc := va_free (wc := [(h0, .inr (4, [.ref kO, .ref nO, .ref rO, .ref mO, .int 0, .ref tO, .ref rdO, .ref lnO, .ref drO, .ref chO]))]) hD hS hA [0] rfl
  refine va_calli (va_runV (As := [.int (xs (1 : Int32).toNatClampNeg), .int (xs (2 : Int32).toNatClampNeg)]) (rest := []) ⟨hx, hb, hml, hown, hts⟩ (k_hand l dC dI cI cZ cC cJ H.size h0 kO nO rO mO tO rdO lnO drO chO (xs (1 : Int32).toNatClampNeg) (xs (2 : Int32).toNatClampNeg) ) (cwV 2 hts gL_law_X4_hand rfl rfl rfl (by decide +kernel) ⟨Nat.le_of_ble_eq_true rfl, Nat.le_of_ble_eq_true rfl⟩) ⟨sPre_blind, va_recv hK hPc (ci := 4) (q0 := 0) rfl rfl, fun U hU hW => ⟨rfl, sPre_ok hsk hPc hDc hU hW⟩⟩ rfl rfl hl.1 rfl (lv_room (Nat.le_of_ble_eq_true rfl)) dL_law_257 ⟨(show 59 + 0 ≤ 62 by omega), (show 19804 + 0 ≤ 19826 by omega)⟩) hS (fun q _ h => hFc q h) hFc (fun r_1 u t H1 locs ht hvm hw hB hz1 hk1 hS => ?_)
  try dsimp only at hw hB
  have hw_2 := hw
  obtain rfl : r_1 = 0 := hw_2
  obtain ⟨hP1, hD1⟩ := hB
  rw [ht] at hP1
  obtain ⟨hP, hD⟩ := va_join (wr := [(m0, .inr (5, [.int 0, .ref Mtape, .int 0, .int 0, .ref Msort, .ref Mplace, .ref Mvalue, .int 0, .int 0, .ref Mwords, .int 0, .int 0, .ref Mgoes, .ref MgoLine, .ref Mends, .ref MendLine, .ref Mkinds, .ref MisName, .int 0, .ref Mrow, .ref MbyHand, .ref Mleast, .ref Msecond, .ref MendAt, .ref MgoAt, .ref MnodeBehind, .int 0, .ref MisOut, .ref MfirstEnd, .ref MfirstGo]))]) (w1 := []) hP hD [0] [1] rfl rfl (by decide) (by decide) hk1 hFc hP1 hD1
  generalize H1 = H at hP hS ⊢
  have hP : va_P (dC, dI) vwCl [(m0, .inr (5, [.int 0, .ref Mtape, .int 0, .int 0, .ref Msort, .ref Mplace, .ref Mvalue, .int 0, .int 0, .ref Mwords, .int 0, .int 0, .ref Mgoes, .ref MgoLine, .ref Mends, .ref MendLine, .ref Mkinds, .ref MisName, .int 0, .ref Mrow, .ref MbyHand, .ref Mleast, .ref Msecond, .ref MendAt, .ref MgoAt, .ref MnodeBehind, .int 0, .ref MisOut, .ref MfirstEnd, .ref MfirstGo]))] H := hP
  have hD : va_D A [(m0, .inr (5, [.int 0, .ref Mtape, .int 0, .int 0, .ref Msort, .ref Mplace, .ref Mvalue, .int 0, .int 0, .ref Mwords, .int 0, .int 0, .ref Mgoes, .ref MgoLine, .ref Mends, .ref MendLine, .ref Mkinds, .ref MisName, .int 0, .ref Mrow, .ref MbyHand, .ref Mleast, .ref Msecond, .ref MendAt, .ref MgoAt, .ref MnodeBehind, .int 0, .ref MisOut, .ref MfirstEnd, .ref MfirstGo]))] := hD
  refine lv_aload_n hx hb dL_law_260 rfl (lv_at hl 2 rfl) ?_
  refine lv_aload_n hx hb dL_law_261 rfl (lv_at hl 0 rfl) ?_
  refine lv_iload hx hb dL_law_262 (lv_at hl 4 rfl) ?_
  refine lv_iconst (v := 1) hx hb dL_law_264 (by decide) ?_
  refine lv_iadd hx hb dL_law_265 ?_
  refine lv_topi (fun v_ ev_ => ?_)
  obtain rfl : v_ = 1 := ev_.trans (by decide)
  refine va_sld hx hb hX hbl hbA hS (by unfold vp_in; decide) dL_law_266 ?_
  refine lv_aload_n hx hb dL_law_267 rfl (lv_at hl 0 rfl) ?_
  refine lv_iload hx hb dL_law_268 (lv_at hl 4 rfl) ?_
  refine lv_iconst (v := 2) hx hb dL_law_270 (by decide) ?_
  refine lv_iadd hx hb dL_law_271 ?_
  refine lv_topi (fun v_ ev_ => ?_)
  obtain rfl : v_ = 2 := ev_.trans (by decide)
  refine va_sld hx hb hX hbl hbA hS (by unfold vp_in; decide) dL_law_272 ?_
  have hPc := hP.sub (ws' := [(m0, .inr (5, [.int 0, .ref Mtape, .int 0, .int 0, .ref Msort, .ref Mplace, .ref Mvalue, .int 0, .int 0, .ref Mwords, .int 0, .int 0, .ref Mgoes, .ref MgoLine, .ref Mends, .ref MendLine, .ref Mkinds, .ref MisName, .int 0, .ref Mrow, .ref MbyHand, .ref Mleast, .ref Msecond, .ref MendAt, .ref MgoAt, .ref MnodeBehind, .int 0, .ref MisOut, .ref MfirstEnd, .ref MfirstGo]))]) [0] rfl
  have hDc := hD.sub (ws' := [(m0, .inr (5, [.int 0, .ref Mtape, .int 0, .int 0, .ref Msort, .ref Mplace, .ref Mvalue, .int 0, .int 0, .ref Mwords, .int 0, .int 0, .ref Mgoes, .ref MgoLine, .ref Mends, .ref MendLine, .ref Mkinds, .ref MisName, .int 0, .ref Mrow, .ref MbyHand, .ref Mleast, .ref Msecond, .ref MendAt, .ref MgoAt, .ref MnodeBehind, .int 0, .ref MisOut, .ref MfirstEnd, .ref MfirstGo]))]) [0] (by decide) rfl
  have hFc := va_free (wc := [(m0, .inr (5, [.int 0, .ref Mtape, .int 0, .int 0, .ref Msort, .ref Mplace, .ref Mvalue, .int 0, .int 0, .ref Mwords, .int 0, .int 0, .ref Mgoes, .ref MgoLine, .ref Mends, .ref MendLine, .ref Mkinds, .ref MisName, .int 0, .ref Mrow, .ref MbyHand, .ref Mleast, .ref Msecond, .ref MendAt, .ref MgoAt, .ref MnodeBehind, .int 0, .ref MisOut, .ref MfirstEnd, .ref MfirstGo]))]) hD hS hA [0] rfl
  refine va_calli (va_runV (As := [.int (xs (1 : Int32).toNatClampNeg), .int (xs (2 : Int32).toNatClampNeg)]) (rest := [.int 0]) ⟨hx, hb, hml, hown, hts⟩ (k_mhand l dC dI cI cZ cC cJ H.size m0 Mtape Msort Mplace Mvalue Mwords Mgoes MgoLine Mends MendLine Mkinds MisName Mrow MbyHand Mleast Msecond MendAt MgoAt MnodeBehind MisOut MfirstEnd MfirstGo (xs (1 : Int32).toNatClampNeg) (xs (2 : Int32).toNatClampNeg) ) (cwV 2 hts gL_law_X5_hand rfl rfl rfl (by decide +kernel) ⟨Nat.le_of_ble_eq_true rfl, Nat.le_of_ble_eq_true rfl⟩) ⟨sPre_blind, va_recv hK hPc (ci := 5) (q0 := 0) rfl rfl, fun U hU hW => ⟨rfl, sPre_ok hsk hPc hDc hU hW⟩⟩ rfl rfl hl.1 rfl (lv_room (Nat.le_of_ble_eq_true rfl)) dL_law_273 ⟨(show 59 + 0 ≤ 62 by omega), (show 19804 + 0 ≤ 19826 by omega)⟩) hS (fun q _ h => hFc q h) hFc (fun r_3 u t H1 locs ht hvm hw hB hz1 hk1 hS => ?_)
  try dsimp only at hw hB
  have hw_4 := hw
  obtain rfl : r_3 = 0 := hw_4
  obtain ⟨hP1, hD1⟩ := hB
  rw [ht] at hP1
  obtain ⟨hP, hD⟩ := va_join (wr := []) (w1 := []) hP hD [0] [] rfl rfl (by decide) (by decide) hk1 hFc hP1 hD1
  generalize H1 = H at hP hS ⊢
  have hP : va_P (dC, dI) vwCl [] H := hP
  have hD : va_D A [] := hD
  refine lv_icmp_eq (tgt := 636) hx hb dL_law_276 (by decide) (fun _ => ?_) (fun h9 => absurd (by decide) h9)
  refine lv_iinc (v := 7) (lv' := [(4, .int 7), (0, .ref b), (1, .ref h0), (2, .ref m0), (3, .ref o0)]) hx hb dL_law_636 hl (k := 4) rfl (by decide) (by decide) rfl (fun ls hl => ?_)
  refine lv_goto (tgt := 23) hx hb dL_law_639 (by decide) ?_
  refine lv_iload hx hb dL_law_23 (lv_at hl 0 rfl) ?_
  refine lv_aload_n hx hb dL_law_25 rfl (lv_at hl 1 rfl) ?_
  refine va_slen hx hb hX hbl hbA hS dL_law_26 ?_
  refine lv_topi (fun v_ ev_ => ?_)
  obtain rfl : v_ = 7 := ev_.trans (by decide)
  refine lv_bipush (v := 7) hx hb dL_law_27 (by decide) ?_
  refine lv_isub hx hb dL_law_29 ?_
  refine lv_topi (fun v_ ev_ => ?_)
  obtain rfl : v_ = 0 := ev_.trans (by decide)
  refine lv_icmp_gt (tgt := 642) hx hb dL_law_30 (by decide) (fun _ => ?_) (fun h9 => absurd (by decide) h9)
  refine lv_iconst (v := 1) hx hb dL_law_642 (by decide) ?_
  refine va_forget (fun q hq => hAf _ (hS.2.2 q hq)) ?_
  refine W.widen (k := 62) (n := 19826) (by omega) (by omega) ?_
  exact lw_ret hx hb hr hlocks dL_law_643
set_option maxHeartbeats 4000000 in
set_option maxRecDepth 100000 in
theorem lc_281 {p : Program} {l : Launch} {e : Env} {s : State} {m : MethodId} {below : List Frame} {meth : Method} {c : Code} {b : Nat} {xs : Nat → Int32} {A : Nat → Prop} (dC : Nat → ClassId) (dI : Nat → Nat → Nat) (cI cZ cC cJ : ClassId) (hx : p.tables.exec = Jvm.exec) (hb : c.code = cL_law) (hr : meth.sig.returnType = ret) (hml : c.maxLocals = 7) (hown : s.vm.findClass RL = some m.cls) (hts : ∀ w ∈ wsL_law, w.before #[Value.ref b] s = true) (hX : va_X b 7 xs s s.heap) (hbl : b < s.heap.size) (hlocks : meth.locks = false) (hsk : sk dC dI cI cZ cC cJ s) (hA : ∀ q : Nat, s.heap.size ≤ q → A q) (hAf : ∀ q : Nat, A q → s.heap.size ≤ q) (hbA : ¬ A b) (h0 kO nO rO mO tO rdO lnO drO chO sA m0 Mtape Msort Mplace Mvalue Mwords Mgoes MgoLine Mends MendLine Mkinds MisName Mrow MbyHand Mleast Msecond MendAt MgoAt MnodeBehind MisOut MfirstEnd MfirstGo o0 : Nat)  : ∀ (H : Heap) (locs : List Loc) (ls : Array Slot), va_P (dC, dI) vwCl [(h0, .inr (4, [.ref kO, .ref nO, .ref rO, .ref mO, .int 0, .ref tO, .ref rdO, .ref lnO, .ref drO, .ref chO])), (tO, .inr (3, [.ref sA, .int 0])), (sA, .inl (cC, 1600, .inl (fun _ => 0))), (m0, .inr (5, [.int 0, .ref Mtape, .int 0, .int 0, .ref Msort, .ref Mplace, .ref Mvalue, .int 0, .int 0, .ref Mwords, .int 0, .int 0, .ref Mgoes, .ref MgoLine, .ref Mends, .ref MendLine, .ref Mkinds, .ref MisName, .int 0, .ref Mrow, .ref MbyHand, .ref Mleast, .ref Msecond, .ref MendAt, .ref MgoAt, .ref MnodeBehind, .int 0, .ref MisOut, .ref MfirstEnd, .ref MfirstGo])), (Mtape, .inl (cI, 1600, .inl (fun _ => 0)))] H → va_D A [(h0, .inr (4, [.ref kO, .ref nO, .ref rO, .ref mO, .int 0, .ref tO, .ref rdO, .ref lnO, .ref drO, .ref chO])), (tO, .inr (3, [.ref sA, .int 0])), (sA, .inl (cC, 1600, .inl (fun _ => 0))), (m0, .inr (5, [.int 0, .ref Mtape, .int 0, .int 0, .ref Msort, .ref Mplace, .ref Mvalue, .int 0, .int 0, .ref Mwords, .int 0, .int 0, .ref Mgoes, .ref MgoLine, .ref Mends, .ref MendLine, .ref Mkinds, .ref MisName, .int 0, .ref Mrow, .ref MbyHand, .ref Mleast, .ref Msecond, .ref MendAt, .ref MgoAt, .ref MnodeBehind, .int 0, .ref MisOut, .ref MfirstEnd, .ref MfirstGo])), (Mtape, .inl (cI, 1600, .inl (fun _ => 0)))] → va_S A s.heap H locs → lv_has ls 7 [(0, .ref b), (1, .ref h0), (2, .ref m0), (3, .ref o0), (4, .int 0)] → W p l e room_1 s m #[Value.ref b] below meth c H locs 59 19804 (lw_Z below #[Value.ref b] s) (F0 m 281 ls []) := by
  intro H locs ls hP hD hS hl
  have hK := hsk.1
  refine lv_aload_n hx hb dL_law_281 rfl (lv_at hl 1 rfl) ?_
  refine lv_aload_n hx hb dL_law_282 rfl (lv_at hl 0 rfl) ?_
  refine lv_iload hx hb dL_law_283 (lv_at hl 4 rfl) ?_
  refine lv_iconst (v := 1) hx hb dL_law_285 (by decide) ?_
  refine lv_iadd hx hb dL_law_286 ?_
  refine lv_topi (fun v_ ev_ => ?_)
  obtain rfl : v_ = 1 := ev_.trans (by decide)
  refine va_sld hx hb hX hbl hbA hS (by unfold vp_in; decide) dL_law_287 ?_
  refine lv_i2l (v := (xs (1 : Int32).toNatClampNeg).toInt64) hx hb dL_law_288 rfl ?_
  refine lv_bipush (v := 32) hx hb dL_law_289 (by decide) ?_
  refine lv_lshl (v := ((xs (1 : Int32).toNatClampNeg).toInt64 <<< ((32 : Int32).toInt64 &&& 63))) hx hb dL_law_291 rfl ?_
  refine lv_aload_n hx hb dL_law_292 rfl (lv_at hl 0 rfl) ?_
  refine lv_iload hx hb dL_law_293 (lv_at hl 4 rfl) ?_
  refine lv_iconst (v := 2) hx hb dL_law_295 (by decide) ?_
  refine lv_iadd hx hb dL_law_296 ?_
  refine lv_topi (fun v_ ev_ => ?_)
  obtain rfl : v_ = 2 := ev_.trans (by decide)
  refine va_sld hx hb hX hbl hbA hS (by unfold vp_in; decide) dL_law_297 ?_
  refine lv_i2l (v := (xs (2 : Int32).toNatClampNeg).toInt64) hx hb dL_law_298 rfl ?_
  refine lv_ldc2 (v := 4294967295) hx hb hown (hts (.constantLong RL 43 (4294967295)) (by decide +kernel)) dL_law_299 ?_
  refine lv_land hx hb dL_law_302 ?_
  refine lv_lor hx hb dL_law_303 ?_
  refine lv_aload_n hx hb dL_law_304 rfl (lv_at hl 0 rfl) ?_
  refine lv_iload hx hb dL_law_305 (lv_at hl 4 rfl) ?_
  refine lv_iconst (v := 3) hx hb dL_law_307 (by decide) ?_
  refine lv_iadd hx hb dL_law_308 ?_
  refine lv_topi (fun v_ ev_ => ?_)
  obtain rfl : v_ = 3 := ev_.trans (by decide)
  refine va_sld hx hb hX hbl hbA hS (by unfold vp_in; decide) dL_law_309 ?_
  refine lv_i2l (v := (xs (3 : Int32).toNatClampNeg).toInt64) hx hb dL_law_310 rfl ?_
  refine lv_bipush (v := 32) hx hb dL_law_311 (by decide) ?_
  refine lv_lshl (v := ((xs (3 : Int32).toNatClampNeg).toInt64 <<< ((32 : Int32).toInt64 &&& 63))) hx hb dL_law_313 rfl ?_
  refine lv_aload_n hx hb dL_law_314 rfl (lv_at hl 0 rfl) ?_
  refine lv_iload hx hb dL_law_315 (lv_at hl 4 rfl) ?_
  refine lv_iconst (v := 4) hx hb dL_law_317 (by decide) ?_
  refine lv_iadd hx hb dL_law_318 ?_
  refine lv_topi (fun v_ ev_ => ?_)
  obtain rfl : v_ = 4 := ev_.trans (by decide)
  refine va_sld hx hb hX hbl hbA hS (by unfold vp_in; decide) dL_law_319 ?_
  refine lv_i2l (v := (xs (4 : Int32).toNatClampNeg).toInt64) hx hb dL_law_320 rfl ?_
  refine lv_ldc2 (v := 4294967295) hx hb hown (hts (.constantLong RL 43 (4294967295)) (by decide +kernel)) dL_law_321 ?_
  refine lv_land hx hb dL_law_324 ?_
  refine lv_lor hx hb dL_law_325 ?_
  refine lv_aload_n hx hb dL_law_326 rfl (lv_at hl 0 rfl) ?_
  refine lv_iload hx hb dL_law_327 (lv_at hl 4 rfl) ?_
  refine lv_iconst (v := 5) hx hb dL_law_329 (by decide) ?_
  refine lv_iadd hx hb dL_law_330 ?_
  refine lv_topi (fun v_ ev_ => ?_)
  obtain rfl : v_ = 5 := ev_.trans (by decide)
  refine va_sld hx hb hX hbl hbA hS (by unfold vp_in; decide) dL_law_331 ?_
  refine lv_i2l (v := (xs (5 : Int32).toNatClampNeg).toInt64) hx hb dL_law_332 rfl ?_
  refine lv_bipush (v := 32) hx hb dL_law_333 (by decide) ?_
  refine lv_lshl (v := ((xs (5 : Int32).toNatClampNeg).toInt64 <<< ((32 : Int32).toInt64 &&& 63))) hx hb dL_law_335 rfl ?_
  refine lv_aload_n hx hb dL_law_336 rfl (lv_at hl 0 rfl) ?_
  refine lv_iload hx hb dL_law_337 (lv_at hl 4 rfl) ?_
  refine lv_bipush (v := 6) hx hb dL_law_339 (by decide) ?_
  refine lv_iadd hx hb dL_law_341 ?_
  refine lv_topi (fun v_ ev_ => ?_)
  obtain rfl : v_ = 6 := ev_.trans (by decide)
  refine va_sld hx hb hX hbl hbA hS (by unfold vp_in; decide) dL_law_342 ?_
  refine lv_i2l (v := (xs (6 : Int32).toNatClampNeg).toInt64) hx hb dL_law_343 rfl ?_
  refine lv_ldc2 (v := 4294967295) hx hb hown (hts (.constantLong RL 43 (4294967295)) (by decide +kernel)) dL_law_344 ?_
  refine lv_land hx hb dL_law_347 ?_
  refine lv_lor hx hb dL_law_348 ?_
  have hPc := hP.sub (ws' := [(h0, .inr (4, [.ref kO, .ref nO, .ref rO, .ref mO, .int 0, .ref tO, .ref rdO, .ref lnO, .ref drO, .ref chO])), (tO, .inr (3, [.ref sA, .int 0])), (sA, .inl (cC, 1600, .inl (fun _ => 0)))]) [0, 1, 2] rfl
  have hDc := hD.sub (ws' := [(h0, .inr (4, [.ref kO, .ref nO, .ref rO, .ref mO, .int 0, .ref tO, .ref rdO, .ref lnO, .ref drO, .ref chO])), (tO, .inr (3, [.ref sA, .int 0])), (sA, .inl (cC, 1600, .inl (fun _ => 0)))]) [0, 1, 2] (by decide) rfl
  have hFc := va_free (wc := [(h0, .inr (4, [.ref kO, .ref nO, .ref rO, .ref mO, .int 0, .ref tO, .ref rdO, .ref lnO, .ref drO, .ref chO])), (tO, .inr (3, [.ref sA, .int 0])), (sA, .inl (cC, 1600, .inl (fun _ => 0)))]) hD hS hA [0, 1, 2] rfl
  refine va_calli (va_runV (As := [.long (((xs (1 : Int32).toNatClampNeg).toInt64 <<< ((32 : Int32).toInt64 &&& 63)) ||| ((xs (2 : Int32).toNatClampNeg).toInt64 &&& 4294967295)), .long (((xs (3 : Int32).toNatClampNeg).toInt64 <<< ((32 : Int32).toInt64 &&& 63)) ||| ((xs (4 : Int32).toNatClampNeg).toInt64 &&& 4294967295)), .long (((xs (5 : Int32).toNatClampNeg).toInt64 <<< ((32 : Int32).toInt64 &&& 63)) ||| ((xs (6 : Int32).toNatClampNeg).toInt64 &&& 4294967295))]) (rest := []) ⟨hx, hb, hml, hown, hts⟩ (k_feed l dC dI cI cZ cC cJ H.size h0 kO nO rO mO tO rdO lnO drO chO sA 0 (fun _ => 0) (((xs (1 : Int32).toNatClampNeg).toInt64 <<< ((32 : Int32).toInt64 &&& 63)) ||| ((xs (2 : Int32).toNatClampNeg).toInt64 &&& 4294967295)) (((xs (3 : Int32).toNatClampNeg).toInt64 <<< ((32 : Int32).toInt64 &&& 63)) ||| ((xs (4 : Int32).toNatClampNeg).toInt64 &&& 4294967295)) (((xs (5 : Int32).toNatClampNeg).toInt64 <<< ((32 : Int32).toInt64 &&& 63)) ||| ((xs (6 : Int32).toNatClampNeg).toInt64 &&& 4294967295)) (by decide)) (cwV 3 hts gL_law_X4_feed rfl rfl rfl (by decide +kernel) ⟨Nat.le_of_ble_eq_true rfl, Nat.le_of_ble_eq_true rfl⟩) ⟨sPre_blind, va_recv hK hPc (ci := 4) (q0 := 0) rfl rfl, fun U hU hW => ⟨rfl, sPre_ok hsk hPc hDc hU hW⟩⟩ rfl rfl hl.1 rfl (lv_room (Nat.le_of_ble_eq_true rfl)) dL_law_349 ⟨(show 59 + 0 ≤ 62 by omega), (show 19804 + 0 ≤ 19826 by omega)⟩) hS (fun q _ h => hFc q h) hFc (fun r_1 u t H1 locs ht hvm hw hB hz1 hk1 hS => ?_)
  try dsimp only at hw hB
  have hw_2 := hw
  obtain rfl : r_1 = nI (sgF (byU (((xs (5 : Int32).toNatClampNeg).toInt64 <<< ((32 : Int32).toInt64 &&& 63)) ||| ((xs (6 : Int32).toNatClampNeg).toInt64 &&& 4294967295))) ks8 (sgF (byU (((xs (3 : Int32).toNatClampNeg).toInt64 <<< ((32 : Int32).toInt64 &&& 63)) ||| ((xs (4 : Int32).toNatClampNeg).toInt64 &&& 4294967295))) ks8 (sgF (byU (((xs (1 : Int32).toNatClampNeg).toInt64 <<< ((32 : Int32).toInt64 &&& 63)) ||| ((xs (2 : Int32).toNatClampNeg).toInt64 &&& 4294967295))) ks8 0))) := hw_2
  obtain ⟨hP1, hD1⟩ := hB
  rw [ht] at hP1
  obtain ⟨hP, hD⟩ := va_join (wr := [(m0, .inr (5, [.int 0, .ref Mtape, .int 0, .int 0, .ref Msort, .ref Mplace, .ref Mvalue, .int 0, .int 0, .ref Mwords, .int 0, .int 0, .ref Mgoes, .ref MgoLine, .ref Mends, .ref MendLine, .ref Mkinds, .ref MisName, .int 0, .ref Mrow, .ref MbyHand, .ref Mleast, .ref Msecond, .ref MendAt, .ref MgoAt, .ref MnodeBehind, .int 0, .ref MisOut, .ref MfirstEnd, .ref MfirstGo])), (Mtape, .inl (cI, 1600, .inl (fun _ => 0)))]) (w1 := []) hP hD [0, 1, 2] [3, 4] rfl rfl (by decide) (by decide) hk1 hFc hP1 hD1
  generalize H1 = H at hP hS ⊢
  have hP : va_P (dC, dI) vwCl [(m0, .inr (5, [.int 0, .ref Mtape, .int 0, .int 0, .ref Msort, .ref Mplace, .ref Mvalue, .int 0, .int 0, .ref Mwords, .int 0, .int 0, .ref Mgoes, .ref MgoLine, .ref Mends, .ref MendLine, .ref Mkinds, .ref MisName, .int 0, .ref Mrow, .ref MbyHand, .ref Mleast, .ref Msecond, .ref MendAt, .ref MgoAt, .ref MnodeBehind, .int 0, .ref MisOut, .ref MfirstEnd, .ref MfirstGo])), (Mtape, .inl (cI, 1600, .inl (fun _ => 0)))] H := hP
  have hD : va_D A [(m0, .inr (5, [.int 0, .ref Mtape, .int 0, .int 0, .ref Msort, .ref Mplace, .ref Mvalue, .int 0, .int 0, .ref Mwords, .int 0, .int 0, .ref Mgoes, .ref MgoLine, .ref Mends, .ref MendLine, .ref Mkinds, .ref MisName, .int 0, .ref Mrow, .ref MbyHand, .ref Mleast, .ref Msecond, .ref MendAt, .ref MgoAt, .ref MnodeBehind, .int 0, .ref MisOut, .ref MfirstEnd, .ref MfirstGo])), (Mtape, .inl (cI, 1600, .inl (fun _ => 0)))] := hD
  refine lv_aload_n hx hb dL_law_352 rfl (lv_at hl 2 rfl) ?_
  refine lv_aload_n hx hb dL_law_353 rfl (lv_at hl 0 rfl) ?_
  refine lv_iload hx hb dL_law_354 (lv_at hl 4 rfl) ?_
  refine lv_iconst (v := 1) hx hb dL_law_356 (by decide) ?_
  refine lv_iadd hx hb dL_law_357 ?_
  refine lv_topi (fun v_ ev_ => ?_)
  obtain rfl : v_ = 1 := ev_.trans (by decide)
  refine va_sld hx hb hX hbl hbA hS (by unfold vp_in; decide) dL_law_358 ?_
  refine lv_i2l (v := (xs (1 : Int32).toNatClampNeg).toInt64) hx hb dL_law_359 rfl ?_
  refine lv_bipush (v := 32) hx hb dL_law_360 (by decide) ?_
  refine lv_lshl (v := ((xs (1 : Int32).toNatClampNeg).toInt64 <<< ((32 : Int32).toInt64 &&& 63))) hx hb dL_law_362 rfl ?_
  refine lv_aload_n hx hb dL_law_363 rfl (lv_at hl 0 rfl) ?_
  refine lv_iload hx hb dL_law_364 (lv_at hl 4 rfl) ?_
  refine lv_iconst (v := 2) hx hb dL_law_366 (by decide) ?_
  refine lv_iadd hx hb dL_law_367 ?_
  refine lv_topi (fun v_ ev_ => ?_)
  obtain rfl : v_ = 2 := ev_.trans (by decide)
  refine va_sld hx hb hX hbl hbA hS (by unfold vp_in; decide) dL_law_368 ?_
  refine lv_i2l (v := (xs (2 : Int32).toNatClampNeg).toInt64) hx hb dL_law_369 rfl ?_
  refine lv_ldc2 (v := 4294967295) hx hb hown (hts (.constantLong RL 43 (4294967295)) (by decide +kernel)) dL_law_370 ?_
  refine lv_land hx hb dL_law_373 ?_
  refine lv_lor hx hb dL_law_374 ?_
  refine lv_aload_n hx hb dL_law_375 rfl (lv_at hl 0 rfl) ?_
  refine lv_iload hx hb dL_law_376 (lv_at hl 4 rfl) ?_
  refine lv_iconst (v := 3) hx hb dL_law_378 (by decide) ?_
  refine lv_iadd hx hb dL_law_379 ?_
  refine lv_topi (fun v_ ev_ => ?_)
  obtain rfl : v_ = 3 := ev_.trans (by decide)
  refine va_sld hx hb hX hbl hbA hS (by unfold vp_in; decide) dL_law_380 ?_
  refine lv_i2l (v := (xs (3 : Int32).toNatClampNeg).toInt64) hx hb dL_law_381 rfl ?_
  refine lv_bipush (v := 32) hx hb dL_law_382 (by decide) ?_
  refine lv_lshl (v := ((xs (3 : Int32).toNatClampNeg).toInt64 <<< ((32 : Int32).toInt64 &&& 63))) hx hb dL_law_384 rfl ?_
  refine lv_aload_n hx hb dL_law_385 rfl (lv_at hl 0 rfl) ?_
  refine lv_iload hx hb dL_law_386 (lv_at hl 4 rfl) ?_
  refine lv_iconst (v := 4) hx hb dL_law_388 (by decide) ?_
  refine lv_iadd hx hb dL_law_389 ?_
  refine lv_topi (fun v_ ev_ => ?_)
  obtain rfl : v_ = 4 := ev_.trans (by decide)
  refine va_sld hx hb hX hbl hbA hS (by unfold vp_in; decide) dL_law_390 ?_
  refine lv_i2l (v := (xs (4 : Int32).toNatClampNeg).toInt64) hx hb dL_law_391 rfl ?_
  refine lv_ldc2 (v := 4294967295) hx hb hown (hts (.constantLong RL 43 (4294967295)) (by decide +kernel)) dL_law_392 ?_
  refine lv_land hx hb dL_law_395 ?_
  refine lv_lor hx hb dL_law_396 ?_
  refine lv_aload_n hx hb dL_law_397 rfl (lv_at hl 0 rfl) ?_
  refine lv_iload hx hb dL_law_398 (lv_at hl 4 rfl) ?_
  refine lv_iconst (v := 5) hx hb dL_law_400 (by decide) ?_
  refine lv_iadd hx hb dL_law_401 ?_
  refine lv_topi (fun v_ ev_ => ?_)
  obtain rfl : v_ = 5 := ev_.trans (by decide)
  refine va_sld hx hb hX hbl hbA hS (by unfold vp_in; decide) dL_law_402 ?_
  refine lv_i2l (v := (xs (5 : Int32).toNatClampNeg).toInt64) hx hb dL_law_403 rfl ?_
  refine lv_bipush (v := 32) hx hb dL_law_404 (by decide) ?_
  refine lv_lshl (v := ((xs (5 : Int32).toNatClampNeg).toInt64 <<< ((32 : Int32).toInt64 &&& 63))) hx hb dL_law_406 rfl ?_
  refine lv_aload_n hx hb dL_law_407 rfl (lv_at hl 0 rfl) ?_
  refine lv_iload hx hb dL_law_408 (lv_at hl 4 rfl) ?_
  refine lv_bipush (v := 6) hx hb dL_law_410 (by decide) ?_
  refine lv_iadd hx hb dL_law_412 ?_
  refine lv_topi (fun v_ ev_ => ?_)
  obtain rfl : v_ = 6 := ev_.trans (by decide)
  refine va_sld hx hb hX hbl hbA hS (by unfold vp_in; decide) dL_law_413 ?_
  refine lv_i2l (v := (xs (6 : Int32).toNatClampNeg).toInt64) hx hb dL_law_414 rfl ?_
  refine lv_ldc2 (v := 4294967295) hx hb hown (hts (.constantLong RL 43 (4294967295)) (by decide +kernel)) dL_law_415 ?_
  refine lv_land hx hb dL_law_418 ?_
  refine lv_lor hx hb dL_law_419 ?_
  have hPc := hP.sub (ws' := [(m0, .inr (5, [.int 0, .ref Mtape, .int 0, .int 0, .ref Msort, .ref Mplace, .ref Mvalue, .int 0, .int 0, .ref Mwords, .int 0, .int 0, .ref Mgoes, .ref MgoLine, .ref Mends, .ref MendLine, .ref Mkinds, .ref MisName, .int 0, .ref Mrow, .ref MbyHand, .ref Mleast, .ref Msecond, .ref MendAt, .ref MgoAt, .ref MnodeBehind, .int 0, .ref MisOut, .ref MfirstEnd, .ref MfirstGo])), (Mtape, .inl (cI, 1600, .inl (fun _ => 0)))]) [0, 1] rfl
  have hDc := hD.sub (ws' := [(m0, .inr (5, [.int 0, .ref Mtape, .int 0, .int 0, .ref Msort, .ref Mplace, .ref Mvalue, .int 0, .int 0, .ref Mwords, .int 0, .int 0, .ref Mgoes, .ref MgoLine, .ref Mends, .ref MendLine, .ref Mkinds, .ref MisName, .int 0, .ref Mrow, .ref MbyHand, .ref Mleast, .ref Msecond, .ref MendAt, .ref MgoAt, .ref MnodeBehind, .int 0, .ref MisOut, .ref MfirstEnd, .ref MfirstGo])), (Mtape, .inl (cI, 1600, .inl (fun _ => 0)))]) [0, 1] (by decide) rfl
  have hFc := va_free (wc := [(m0, .inr (5, [.int 0, .ref Mtape, .int 0, .int 0, .ref Msort, .ref Mplace, .ref Mvalue, .int 0, .int 0, .ref Mwords, .int 0, .int 0, .ref Mgoes, .ref MgoLine, .ref Mends, .ref MendLine, .ref Mkinds, .ref MisName, .int 0, .ref Mrow, .ref MbyHand, .ref Mleast, .ref Msecond, .ref MendAt, .ref MgoAt, .ref MnodeBehind, .int 0, .ref MisOut, .ref MfirstEnd, .ref MfirstGo])), (Mtape, .inl (cI, 1600, .inl (fun _ => 0)))]) hD hS hA [0, 1] rfl
  refine va_calli (va_runV (As := [.long (((xs (1 : Int32).toNatClampNeg).toInt64 <<< ((32 : Int32).toInt64 &&& 63)) ||| ((xs (2 : Int32).toNatClampNeg).toInt64 &&& 4294967295)), .long (((xs (3 : Int32).toNatClampNeg).toInt64 <<< ((32 : Int32).toInt64 &&& 63)) ||| ((xs (4 : Int32).toNatClampNeg).toInt64 &&& 4294967295)), .long (((xs (5 : Int32).toNatClampNeg).toInt64 <<< ((32 : Int32).toInt64 &&& 63)) ||| ((xs (6 : Int32).toNatClampNeg).toInt64 &&& 4294967295))]) (rest := [.int (nI (sgF (byU (((xs (5 : Int32).toNatClampNeg).toInt64 <<< ((32 : Int32).toInt64 &&& 63)) ||| ((xs (6 : Int32).toNatClampNeg).toInt64 &&& 4294967295))) ks8 (sgF (byU (((xs (3 : Int32).toNatClampNeg).toInt64 <<< ((32 : Int32).toInt64 &&& 63)) ||| ((xs (4 : Int32).toNatClampNeg).toInt64 &&& 4294967295))) ks8 (sgF (byU (((xs (1 : Int32).toNatClampNeg).toInt64 <<< ((32 : Int32).toInt64 &&& 63)) ||| ((xs (2 : Int32).toNatClampNeg).toInt64 &&& 4294967295))) ks8 0))))]) ⟨hx, hb, hml, hown, hts⟩ (k_mfeed l dC dI cI cZ cC cJ H.size m0 Mtape Msort Mplace Mvalue Mwords Mgoes MgoLine Mends MendLine Mkinds MisName Mrow MbyHand Mleast Msecond MendAt MgoAt MnodeBehind MisOut MfirstEnd MfirstGo 0 (fun _ => 0) (((xs (1 : Int32).toNatClampNeg).toInt64 <<< ((32 : Int32).toInt64 &&& 63)) ||| ((xs (2 : Int32).toNatClampNeg).toInt64 &&& 4294967295)) (((xs (3 : Int32).toNatClampNeg).toInt64 <<< ((32 : Int32).toInt64 &&& 63)) ||| ((xs (4 : Int32).toNatClampNeg).toInt64 &&& 4294967295)) (((xs (5 : Int32).toNatClampNeg).toInt64 <<< ((32 : Int32).toInt64 &&& 63)) ||| ((xs (6 : Int32).toNatClampNeg).toInt64 &&& 4294967295)) (by decide)) (cwV 3 hts gL_law_X5_feed rfl rfl rfl (by decide +kernel) ⟨Nat.le_of_ble_eq_true rfl, Nat.le_of_ble_eq_true rfl⟩) ⟨sPre_blind, va_recv hK hPc (ci := 5) (q0 := 0) rfl rfl, fun U hU hW => ⟨rfl, sPre_ok hsk hPc hDc hU hW⟩⟩ rfl rfl hl.1 rfl (lv_room (Nat.le_of_ble_eq_true rfl)) dL_law_420 ⟨(show 59 + 0 ≤ 62 by omega), (show 19804 + 0 ≤ 19826 by omega)⟩) hS (fun q _ h => hFc q h) hFc (fun r_3 u t H1 locs ht hvm hw hB hz1 hk1 hS => ?_)
  try dsimp only at hw hB
  have hw_4 := hw
  obtain rfl : r_3 = nI (sgF (byM (((xs (5 : Int32).toNatClampNeg).toInt64 <<< ((32 : Int32).toInt64 &&& 63)) ||| ((xs (6 : Int32).toNatClampNeg).toInt64 &&& 4294967295))) ks8 (sgF (byM (((xs (3 : Int32).toNatClampNeg).toInt64 <<< ((32 : Int32).toInt64 &&& 63)) ||| ((xs (4 : Int32).toNatClampNeg).toInt64 &&& 4294967295))) ks8 (sgF (byM (((xs (1 : Int32).toNatClampNeg).toInt64 <<< ((32 : Int32).toInt64 &&& 63)) ||| ((xs (2 : Int32).toNatClampNeg).toInt64 &&& 4294967295))) ks8 0))) := hw_4
  obtain ⟨hP1, hD1⟩ := hB
  rw [ht] at hP1
  obtain ⟨hP, hD⟩ := va_join (wr := []) (w1 := []) hP hD [0, 1] [] rfl rfl (by decide) (by decide) hk1 hFc hP1 hD1
  generalize H1 = H at hP hS ⊢
  have hP : va_P (dC, dI) vwCl [] H := hP
  have hD : va_D A [] := hD
  refine lv_icmp_eq (tgt := 636) hx hb dL_law_423 (by decide) (fun _ => ?_) (fun h9 => absurd (by rw [sgF_UM, sgF_UM, sgF_UM]) h9)
  refine lv_iinc (v := 7) (lv' := [(4, .int 7), (0, .ref b), (1, .ref h0), (2, .ref m0), (3, .ref o0)]) hx hb dL_law_636 hl (k := 4) rfl (by decide) (by decide) rfl (fun ls hl => ?_)
  refine lv_goto (tgt := 23) hx hb dL_law_639 (by decide) ?_
  refine lv_iload hx hb dL_law_23 (lv_at hl 0 rfl) ?_
  refine lv_aload_n hx hb dL_law_25 rfl (lv_at hl 1 rfl) ?_
  refine va_slen hx hb hX hbl hbA hS dL_law_26 ?_
  refine lv_topi (fun v_ ev_ => ?_)
  obtain rfl : v_ = 7 := ev_.trans (by decide)
  refine lv_bipush (v := 7) hx hb dL_law_27 (by decide) ?_
  refine lv_isub hx hb dL_law_29 ?_
  refine lv_topi (fun v_ ev_ => ?_)
  obtain rfl : v_ = 0 := ev_.trans (by decide)
  refine lv_icmp_gt (tgt := 642) hx hb dL_law_30 (by decide) (fun _ => ?_) (fun h9 => absurd (by decide) h9)
  refine lv_iconst (v := 1) hx hb dL_law_642 (by decide) ?_
  refine va_forget (fun q hq => hAf _ (hS.2.2 q hq)) ?_
  refine W.widen (k := 62) (n := 19826) (by omega) (by omega) ?_
  exact lw_ret hx hb hr hlocks dL_law_643
set_option maxHeartbeats 4000000 in
set_option maxRecDepth 100000 in
theorem lc_428 {p : Program} {l : Launch} {e : Env} {s : State} {m : MethodId} {below : List Frame} {meth : Method} {c : Code} {b : Nat} {xs : Nat → Int32} {A : Nat → Prop} (dC : Nat → ClassId) (dI : Nat → Nat → Nat) (cI cZ cC cJ : ClassId) (hx : p.tables.exec = Jvm.exec) (hb : c.code = cL_law) (hr : meth.sig.returnType = ret) (hml : c.maxLocals = 7) (hown : s.vm.findClass RL = some m.cls) (hts : ∀ w ∈ wsL_law, w.before #[Value.ref b] s = true) (hX : va_X b 7 xs s s.heap) (hbl : b < s.heap.size) (hlocks : meth.locks = false) (hsk : sk dC dI cI cZ cC cJ s) (hA : ∀ q : Nat, s.heap.size ≤ q → A q) (hAf : ∀ q : Nat, A q → s.heap.size ≤ q) (hbA : ¬ A b) (h0 kO nO rO mO tO rdO lnO drO chO sA dgF dgK dgT dgC dgM deF deC deM dhopA bA xA kA aA eA gA oA m0 Mtape Msort Mplace Mvalue Mwords Mgoes MgoLine Mends MendLine Mkinds MisName Mrow MbyHand Mleast Msecond MendAt MgoAt MnodeBehind MisOut MfirstEnd MfirstGo o0 : Nat)  : ∀ (H : Heap) (locs : List Loc) (ls : Array Slot), va_P (dC, dI) vwCl [(h0, .inr (4, [.ref kO, .ref nO, .ref rO, .ref mO, .int 0, .ref tO, .ref rdO, .ref lnO, .ref drO, .ref chO])), (tO, .inr (3, [.ref sA, .int 0])), (rdO, .inr (2, [.ref tO, .int 0, .int 0, .int 0, .int 0])), (drO, .inr (1, [.ref dgF, .ref dgK, .ref dgT, .ref dgC, .ref dgM, .int 0, .ref deF, .ref deC, .ref deM, .int 0, .ref dhopA])), (dhopA, .inl (cZ, 20, .inl (fun _ => 0))), (chO, .inr (0, [.ref bA, .ref xA, .ref kA, .ref aA, .ref eA, .ref gA, .ref oA, .int 0, .int 1000000000, .int 1000000000, .int 0, .int 0])), (m0, .inr (5, [.int 0, .ref Mtape, .int 0, .int 0, .ref Msort, .ref Mplace, .ref Mvalue, .int 0, .int 0, .ref Mwords, .int 0, .int 0, .ref Mgoes, .ref MgoLine, .ref Mends, .ref MendLine, .ref Mkinds, .ref MisName, .int 0, .ref Mrow, .ref MbyHand, .ref Mleast, .ref Msecond, .ref MendAt, .ref MgoAt, .ref MnodeBehind, .int 0, .ref MisOut, .ref MfirstEnd, .ref MfirstGo])), (Msort, .inl (cI, 1602, .inl (fun _ => 0))), (Mplace, .inl (cI, 1602, .inl (fun _ => 0))), (Mgoes, .inl (cI, 2, .inl (fun _ => 0))), (Mends, .inl (cI, 2, .inl (fun _ => 0)))] H → va_D A [(h0, .inr (4, [.ref kO, .ref nO, .ref rO, .ref mO, .int 0, .ref tO, .ref rdO, .ref lnO, .ref drO, .ref chO])), (tO, .inr (3, [.ref sA, .int 0])), (rdO, .inr (2, [.ref tO, .int 0, .int 0, .int 0, .int 0])), (drO, .inr (1, [.ref dgF, .ref dgK, .ref dgT, .ref dgC, .ref dgM, .int 0, .ref deF, .ref deC, .ref deM, .int 0, .ref dhopA])), (dhopA, .inl (cZ, 20, .inl (fun _ => 0))), (chO, .inr (0, [.ref bA, .ref xA, .ref kA, .ref aA, .ref eA, .ref gA, .ref oA, .int 0, .int 1000000000, .int 1000000000, .int 0, .int 0])), (m0, .inr (5, [.int 0, .ref Mtape, .int 0, .int 0, .ref Msort, .ref Mplace, .ref Mvalue, .int 0, .int 0, .ref Mwords, .int 0, .int 0, .ref Mgoes, .ref MgoLine, .ref Mends, .ref MendLine, .ref Mkinds, .ref MisName, .int 0, .ref Mrow, .ref MbyHand, .ref Mleast, .ref Msecond, .ref MendAt, .ref MgoAt, .ref MnodeBehind, .int 0, .ref MisOut, .ref MfirstEnd, .ref MfirstGo])), (Msort, .inl (cI, 1602, .inl (fun _ => 0))), (Mplace, .inl (cI, 1602, .inl (fun _ => 0))), (Mgoes, .inl (cI, 2, .inl (fun _ => 0))), (Mends, .inl (cI, 2, .inl (fun _ => 0)))] → va_S A s.heap H locs → lv_has ls 7 [(0, .ref b), (1, .ref h0), (2, .ref m0), (3, .ref o0), (4, .int 0)] → W p l e room_1 s m #[Value.ref b] below meth c H locs 59 19804 (lw_Z below #[Value.ref b] s) (F0 m 428 ls []) := by
  intro H locs ls hP hD hS hl
  have hK := hsk.1
  refine lv_aload_n hx hb dL_law_428 rfl (lv_at hl 1 rfl) ?_
  have hPc := hP.sub (ws' := [(h0, .inr (4, [.ref kO, .ref nO, .ref rO, .ref mO, .int 0, .ref tO, .ref rdO, .ref lnO, .ref drO, .ref chO])), (rdO, .inr (2, [.ref tO, .int 0, .int 0, .int 0, .int 0])), (tO, .inr (3, [.ref sA, .int 0])), (drO, .inr (1, [.ref dgF, .ref dgK, .ref dgT, .ref dgC, .ref dgM, .int 0, .ref deF, .ref deC, .ref deM, .int 0, .ref dhopA])), (dhopA, .inl (cZ, 20, .inl (fun _ => 0))), (chO, .inr (0, [.ref bA, .ref xA, .ref kA, .ref aA, .ref eA, .ref gA, .ref oA, .int 0, .int 1000000000, .int 1000000000, .int 0, .int 0]))]) [0, 2, 1, 3, 4, 5] rfl
  have hDc := hD.sub (ws' := [(h0, .inr (4, [.ref kO, .ref nO, .ref rO, .ref mO, .int 0, .ref tO, .ref rdO, .ref lnO, .ref drO, .ref chO])), (rdO, .inr (2, [.ref tO, .int 0, .int 0, .int 0, .int 0])), (tO, .inr (3, [.ref sA, .int 0])), (drO, .inr (1, [.ref dgF, .ref dgK, .ref dgT, .ref dgC, .ref dgM, .int 0, .ref deF, .ref deC, .ref deM, .int 0, .ref dhopA])), (dhopA, .inl (cZ, 20, .inl (fun _ => 0))), (chO, .inr (0, [.ref bA, .ref xA, .ref kA, .ref aA, .ref eA, .ref gA, .ref oA, .int 0, .int 1000000000, .int 1000000000, .int 0, .int 0]))]) [0, 2, 1, 3, 4, 5] (by decide) rfl
  have hFc := va_free (wc := [(h0, .inr (4, [.ref kO, .ref nO, .ref rO, .ref mO, .int 0, .ref tO, .ref rdO, .ref lnO, .ref drO, .ref chO])), (rdO, .inr (2, [.ref tO, .int 0, .int 0, .int 0, .int 0])), (tO, .inr (3, [.ref sA, .int 0])), (drO, .inr (1, [.ref dgF, .ref dgK, .ref dgT, .ref dgC, .ref dgM, .int 0, .ref deF, .ref deC, .ref deM, .int 0, .ref dhopA])), (dhopA, .inl (cZ, 20, .inl (fun _ => 0))), (chO, .inr (0, [.ref bA, .ref xA, .ref kA, .ref aA, .ref eA, .ref gA, .ref oA, .int 0, .int 1000000000, .int 1000000000, .int 0, .int 0]))]) hD hS hA [0, 2, 1, 3, 4, 5] rfl
  refine va_calli (va_runV (As := []) (rest := []) ⟨hx, hb, hml, hown, hts⟩ (k_grammar l dC dI cI cZ cC cJ H.size h0 kO nO rO mO tO rdO lnO drO chO sA dgF dgK dgT dgC dgM deF deC deM dhopA (fun _ => 0) bA xA kA aA eA gA oA 0 ) (cwV 0 hts gL_law_X4_grammar rfl rfl rfl (by decide +kernel) ⟨Nat.le_of_ble_eq_true rfl, Nat.le_of_ble_eq_true rfl⟩) ⟨sPre_blind, va_recv hK hPc (ci := 4) (q0 := 0) rfl rfl, fun U hU hW => ⟨rfl, sPre_ok hsk hPc hDc hU hW⟩⟩ rfl rfl hl.1 rfl (lv_room (Nat.le_of_ble_eq_true rfl)) dL_law_429 ⟨(show 59 + 0 ≤ 62 by omega), (show 19804 + 0 ≤ 19826 by omega)⟩) hS (fun q _ h => hFc q h) hFc (fun r_1 u t H1 locs ht hvm hw hB hz1 hk1 hS => ?_)
  try dsimp only at hw hB
  have hw_2 := hw
  obtain rfl : r_1 = 0 := hw_2
  obtain ⟨hP1, hD1⟩ := hB
  rw [ht] at hP1
  obtain ⟨hP, hD⟩ := va_join (wr := [(m0, .inr (5, [.int 0, .ref Mtape, .int 0, .int 0, .ref Msort, .ref Mplace, .ref Mvalue, .int 0, .int 0, .ref Mwords, .int 0, .int 0, .ref Mgoes, .ref MgoLine, .ref Mends, .ref MendLine, .ref Mkinds, .ref MisName, .int 0, .ref Mrow, .ref MbyHand, .ref Mleast, .ref Msecond, .ref MendAt, .ref MgoAt, .ref MnodeBehind, .int 0, .ref MisOut, .ref MfirstEnd, .ref MfirstGo])), (Msort, .inl (cI, 1602, .inl (fun _ => 0))), (Mplace, .inl (cI, 1602, .inl (fun _ => 0))), (Mgoes, .inl (cI, 2, .inl (fun _ => 0))), (Mends, .inl (cI, 2, .inl (fun _ => 0)))]) (w1 := []) hP hD [0, 2, 1, 3, 4, 5] [6, 7, 8, 9, 10] rfl rfl (by decide) (by decide) hk1 hFc hP1 hD1
  generalize H1 = H at hP hS ⊢
  have hP : va_P (dC, dI) vwCl [(m0, .inr (5, [.int 0, .ref Mtape, .int 0, .int 0, .ref Msort, .ref Mplace, .ref Mvalue, .int 0, .int 0, .ref Mwords, .int 0, .int 0, .ref Mgoes, .ref MgoLine, .ref Mends, .ref MendLine, .ref Mkinds, .ref MisName, .int 0, .ref Mrow, .ref MbyHand, .ref Mleast, .ref Msecond, .ref MendAt, .ref MgoAt, .ref MnodeBehind, .int 0, .ref MisOut, .ref MfirstEnd, .ref MfirstGo])), (Msort, .inl (cI, 1602, .inl (fun _ => 0))), (Mplace, .inl (cI, 1602, .inl (fun _ => 0))), (Mgoes, .inl (cI, 2, .inl (fun _ => 0))), (Mends, .inl (cI, 2, .inl (fun _ => 0)))] H := hP
  have hD : va_D A [(m0, .inr (5, [.int 0, .ref Mtape, .int 0, .int 0, .ref Msort, .ref Mplace, .ref Mvalue, .int 0, .int 0, .ref Mwords, .int 0, .int 0, .ref Mgoes, .ref MgoLine, .ref Mends, .ref MendLine, .ref Mkinds, .ref MisName, .int 0, .ref Mrow, .ref MbyHand, .ref Mleast, .ref Msecond, .ref MendAt, .ref MgoAt, .ref MnodeBehind, .int 0, .ref MisOut, .ref MfirstEnd, .ref MfirstGo])), (Msort, .inl (cI, 1602, .inl (fun _ => 0))), (Mplace, .inl (cI, 1602, .inl (fun _ => 0))), (Mgoes, .inl (cI, 2, .inl (fun _ => 0))), (Mends, .inl (cI, 2, .inl (fun _ => 0)))] := hD
  refine lv_aload_n hx hb dL_law_432 rfl (lv_at hl 2 rfl) ?_
  have hPc := hP.sub (ws' := [(m0, .inr (5, [.int 0, .ref Mtape, .int 0, .int 0, .ref Msort, .ref Mplace, .ref Mvalue, .int 0, .int 0, .ref Mwords, .int 0, .int 0, .ref Mgoes, .ref MgoLine, .ref Mends, .ref MendLine, .ref Mkinds, .ref MisName, .int 0, .ref Mrow, .ref MbyHand, .ref Mleast, .ref Msecond, .ref MendAt, .ref MgoAt, .ref MnodeBehind, .int 0, .ref MisOut, .ref MfirstEnd, .ref MfirstGo])), (Msort, .inl (cI, 1602, .inl (fun _ => 0))), (Mplace, .inl (cI, 1602, .inl (fun _ => 0))), (Mgoes, .inl (cI, 2, .inl (fun _ => 0))), (Mends, .inl (cI, 2, .inl (fun _ => 0)))]) [0, 1, 2, 3, 4] rfl
  have hDc := hD.sub (ws' := [(m0, .inr (5, [.int 0, .ref Mtape, .int 0, .int 0, .ref Msort, .ref Mplace, .ref Mvalue, .int 0, .int 0, .ref Mwords, .int 0, .int 0, .ref Mgoes, .ref MgoLine, .ref Mends, .ref MendLine, .ref Mkinds, .ref MisName, .int 0, .ref Mrow, .ref MbyHand, .ref Mleast, .ref Msecond, .ref MendAt, .ref MgoAt, .ref MnodeBehind, .int 0, .ref MisOut, .ref MfirstEnd, .ref MfirstGo])), (Msort, .inl (cI, 1602, .inl (fun _ => 0))), (Mplace, .inl (cI, 1602, .inl (fun _ => 0))), (Mgoes, .inl (cI, 2, .inl (fun _ => 0))), (Mends, .inl (cI, 2, .inl (fun _ => 0)))]) [0, 1, 2, 3, 4] (by decide) rfl
  have hFc := va_free (wc := [(m0, .inr (5, [.int 0, .ref Mtape, .int 0, .int 0, .ref Msort, .ref Mplace, .ref Mvalue, .int 0, .int 0, .ref Mwords, .int 0, .int 0, .ref Mgoes, .ref MgoLine, .ref Mends, .ref MendLine, .ref Mkinds, .ref MisName, .int 0, .ref Mrow, .ref MbyHand, .ref Mleast, .ref Msecond, .ref MendAt, .ref MgoAt, .ref MnodeBehind, .int 0, .ref MisOut, .ref MfirstEnd, .ref MfirstGo])), (Msort, .inl (cI, 1602, .inl (fun _ => 0))), (Mplace, .inl (cI, 1602, .inl (fun _ => 0))), (Mgoes, .inl (cI, 2, .inl (fun _ => 0))), (Mends, .inl (cI, 2, .inl (fun _ => 0)))]) hD hS hA [0, 1, 2, 3, 4] rfl
  refine va_calli (va_runV (As := []) (rest := [.int 0]) ⟨hx, hb, hml, hown, hts⟩ (k_mgrammar l dC dI cI cZ cC cJ H.size m0 Mtape Msort Mplace Mvalue Mwords Mgoes MgoLine Mends MendLine Mkinds MisName Mrow MbyHand Mleast Msecond MendAt MgoAt MnodeBehind MisOut MfirstEnd MfirstGo (fun _ => 0) (fun _ => 0) (fun _ => 0) (fun _ => 0) ) (cwV 0 hts gL_law_X5_grammar rfl rfl rfl (by decide +kernel) ⟨Nat.le_of_ble_eq_true rfl, Nat.le_of_ble_eq_true rfl⟩) ⟨sPre_blind, va_recv hK hPc (ci := 5) (q0 := 0) rfl rfl, fun U hU hW => ⟨rfl, sPre_ok hsk hPc hDc hU hW⟩⟩ rfl rfl hl.1 rfl (lv_room (Nat.le_of_ble_eq_true rfl)) dL_law_433 ⟨(show 59 + 0 ≤ 62 by omega), (show 19804 + 0 ≤ 19826 by omega)⟩) hS (fun q _ h => hFc q h) hFc (fun r_3 u t H1 locs ht hvm hw hB hz1 hk1 hS => ?_)
  try dsimp only at hw hB
  have hw_4 := hw
  obtain rfl : r_3 = 0 := hw_4
  obtain ⟨hP1, hD1⟩ := hB
  rw [ht] at hP1
  obtain ⟨hP, hD⟩ := va_join (wr := []) (w1 := []) hP hD [0, 1, 2, 3, 4] [] rfl rfl (by decide) (by decide) hk1 hFc hP1 hD1
  generalize H1 = H at hP hS ⊢
  have hP : va_P (dC, dI) vwCl [] H := hP
  have hD : va_D A [] := hD
  refine lv_icmp_eq (tgt := 636) hx hb dL_law_436 (by decide) (fun _ => ?_) (fun h9 => absurd (by decide) h9)
  refine lv_iinc (v := 7) (lv' := [(4, .int 7), (0, .ref b), (1, .ref h0), (2, .ref m0), (3, .ref o0)]) hx hb dL_law_636 hl (k := 4) rfl (by decide) (by decide) rfl (fun ls hl => ?_)
  refine lv_goto (tgt := 23) hx hb dL_law_639 (by decide) ?_
  refine lv_iload hx hb dL_law_23 (lv_at hl 0 rfl) ?_
  refine lv_aload_n hx hb dL_law_25 rfl (lv_at hl 1 rfl) ?_
  refine va_slen hx hb hX hbl hbA hS dL_law_26 ?_
  refine lv_topi (fun v_ ev_ => ?_)
  obtain rfl : v_ = 7 := ev_.trans (by decide)
  refine lv_bipush (v := 7) hx hb dL_law_27 (by decide) ?_
  refine lv_isub hx hb dL_law_29 ?_
  refine lv_topi (fun v_ ev_ => ?_)
  obtain rfl : v_ = 0 := ev_.trans (by decide)
  refine lv_icmp_gt (tgt := 642) hx hb dL_law_30 (by decide) (fun _ => ?_) (fun h9 => absurd (by decide) h9)
  refine lv_iconst (v := 1) hx hb dL_law_642 (by decide) ?_
  refine va_forget (fun q hq => hAf _ (hS.2.2 q hq)) ?_
  refine W.widen (k := 62) (n := 19826) (by omega) (by omega) ?_
  exact lw_ret hx hb hr hlocks dL_law_643
set_option maxHeartbeats 4000000 in
set_option maxRecDepth 100000 in
theorem lc_441 {p : Program} {l : Launch} {e : Env} {s : State} {m : MethodId} {below : List Frame} {meth : Method} {c : Code} {b : Nat} {xs : Nat → Int32} {A : Nat → Prop} (dC : Nat → ClassId) (dI : Nat → Nat → Nat) (cI cZ cC cJ : ClassId) (hx : p.tables.exec = Jvm.exec) (hb : c.code = cL_law) (hr : meth.sig.returnType = ret) (hml : c.maxLocals = 7) (hown : s.vm.findClass RL = some m.cls) (hts : ∀ w ∈ wsL_law, w.before #[Value.ref b] s = true) (hX : va_X b 7 xs s s.heap) (hbl : b < s.heap.size) (hlocks : meth.locks = false) (hsk : sk dC dI cI cZ cC cJ s) (hA : ∀ q : Nat, s.heap.size ≤ q → A q) (hAf : ∀ q : Nat, A q → s.heap.size ≤ q) (hbA : ¬ A b) (h0 kO nO rO mO tO rdO lnO drO chO bA xA kA aA eA gA oA m0 Mtape Msort Mplace Mvalue Mwords Mgoes MgoLine Mends MendLine Mkinds MisName Mrow MbyHand Mleast Msecond MendAt MgoAt MnodeBehind MisOut MfirstEnd MfirstGo o0 : Nat)  : ∀ (H : Heap) (locs : List Loc) (ls : Array Slot), va_P (dC, dI) vwCl [(h0, .inr (4, [.ref kO, .ref nO, .ref rO, .ref mO, .int 0, .ref tO, .ref rdO, .ref lnO, .ref drO, .ref chO])), (chO, .inr (0, [.ref bA, .ref xA, .ref kA, .ref aA, .ref eA, .ref gA, .ref oA, .int 0, .int 1000000000, .int 1000000000, .int 0, .int 0])), (m0, .inr (5, [.int 0, .ref Mtape, .int 0, .int 0, .ref Msort, .ref Mplace, .ref Mvalue, .int 0, .int 0, .ref Mwords, .int 0, .int 0, .ref Mgoes, .ref MgoLine, .ref Mends, .ref MendLine, .ref Mkinds, .ref MisName, .int 0, .ref Mrow, .ref MbyHand, .ref Mleast, .ref Msecond, .ref MendAt, .ref MgoAt, .ref MnodeBehind, .int 0, .ref MisOut, .ref MfirstEnd, .ref MfirstGo])), (Mends, .inl (cI, 2, .inl (fun _ => 0))), (Mleast, .inl (cI, 1220, .inl (fun _ => 0))), (Msecond, .inl (cI, 1220, .inl (fun _ => 0)))] H → va_D A [(h0, .inr (4, [.ref kO, .ref nO, .ref rO, .ref mO, .int 0, .ref tO, .ref rdO, .ref lnO, .ref drO, .ref chO])), (chO, .inr (0, [.ref bA, .ref xA, .ref kA, .ref aA, .ref eA, .ref gA, .ref oA, .int 0, .int 1000000000, .int 1000000000, .int 0, .int 0])), (m0, .inr (5, [.int 0, .ref Mtape, .int 0, .int 0, .ref Msort, .ref Mplace, .ref Mvalue, .int 0, .int 0, .ref Mwords, .int 0, .int 0, .ref Mgoes, .ref MgoLine, .ref Mends, .ref MendLine, .ref Mkinds, .ref MisName, .int 0, .ref Mrow, .ref MbyHand, .ref Mleast, .ref Msecond, .ref MendAt, .ref MgoAt, .ref MnodeBehind, .int 0, .ref MisOut, .ref MfirstEnd, .ref MfirstGo])), (Mends, .inl (cI, 2, .inl (fun _ => 0))), (Mleast, .inl (cI, 1220, .inl (fun _ => 0))), (Msecond, .inl (cI, 1220, .inl (fun _ => 0)))] → va_S A s.heap H locs → lv_has ls 7 [(0, .ref b), (1, .ref h0), (2, .ref m0), (3, .ref o0), (4, .int 0)] → W p l e room_1 s m #[Value.ref b] below meth c H locs 59 19804 (lw_Z below #[Value.ref b] s) (F0 m 441 ls []) := by
  intro H locs ls hP hD hS hl
  have hK := hsk.1
  refine lv_aload_n hx hb dL_law_441 rfl (lv_at hl 1 rfl) ?_
  have hPc := hP.sub (ws' := [(h0, .inr (4, [.ref kO, .ref nO, .ref rO, .ref mO, .int 0, .ref tO, .ref rdO, .ref lnO, .ref drO, .ref chO])), (chO, .inr (0, [.ref bA, .ref xA, .ref kA, .ref aA, .ref eA, .ref gA, .ref oA, .int 0, .int 1000000000, .int 1000000000, .int 0, .int 0]))]) [0, 1] rfl
  have hDc := hD.sub (ws' := [(h0, .inr (4, [.ref kO, .ref nO, .ref rO, .ref mO, .int 0, .ref tO, .ref rdO, .ref lnO, .ref drO, .ref chO])), (chO, .inr (0, [.ref bA, .ref xA, .ref kA, .ref aA, .ref eA, .ref gA, .ref oA, .int 0, .int 1000000000, .int 1000000000, .int 0, .int 0]))]) [0, 1] (by decide) rfl
  have hFc := va_free (wc := [(h0, .inr (4, [.ref kO, .ref nO, .ref rO, .ref mO, .int 0, .ref tO, .ref rdO, .ref lnO, .ref drO, .ref chO])), (chO, .inr (0, [.ref bA, .ref xA, .ref kA, .ref aA, .ref eA, .ref gA, .ref oA, .int 0, .int 1000000000, .int 1000000000, .int 0, .int 0]))]) hD hS hA [0, 1] rfl
  refine va_calli (va_runV (As := []) (rest := []) ⟨hx, hb, hml, hown, hts⟩ (k_cost l dC dI cI cZ cC cJ H.size h0 kO nO rO mO tO rdO lnO drO chO bA xA kA aA eA gA oA ) (cwV 0 hts gL_law_X4_cost rfl rfl rfl (by decide +kernel) ⟨Nat.le_of_ble_eq_true rfl, Nat.le_of_ble_eq_true rfl⟩) ⟨sPre_blind, va_recv hK hPc (ci := 4) (q0 := 0) rfl rfl, fun U hU hW => ⟨rfl, sPre_ok hsk hPc hDc hU hW⟩⟩ rfl rfl hl.1 rfl (lv_room (Nat.le_of_ble_eq_true rfl)) dL_law_442 ⟨(show 59 + 0 ≤ 62 by omega), (show 19804 + 0 ≤ 19826 by omega)⟩) hS (fun q _ h => hFc q h) hFc (fun r_1 u t H1 locs ht hvm hw hB hz1 hk1 hS => ?_)
  try dsimp only at hw hB
  have hw_2 := hw
  obtain rfl : r_1 = (-1) := hw_2
  obtain ⟨hP1, hD1⟩ := hB
  rw [ht] at hP1
  obtain ⟨hP, hD⟩ := va_join (wr := [(m0, .inr (5, [.int 0, .ref Mtape, .int 0, .int 0, .ref Msort, .ref Mplace, .ref Mvalue, .int 0, .int 0, .ref Mwords, .int 0, .int 0, .ref Mgoes, .ref MgoLine, .ref Mends, .ref MendLine, .ref Mkinds, .ref MisName, .int 0, .ref Mrow, .ref MbyHand, .ref Mleast, .ref Msecond, .ref MendAt, .ref MgoAt, .ref MnodeBehind, .int 0, .ref MisOut, .ref MfirstEnd, .ref MfirstGo])), (Mends, .inl (cI, 2, .inl (fun _ => 0))), (Mleast, .inl (cI, 1220, .inl (fun _ => 0))), (Msecond, .inl (cI, 1220, .inl (fun _ => 0)))]) (w1 := []) hP hD [0, 1] [2, 3, 4, 5] rfl rfl (by decide) (by decide) hk1 hFc hP1 hD1
  generalize H1 = H at hP hS ⊢
  have hP : va_P (dC, dI) vwCl [(m0, .inr (5, [.int 0, .ref Mtape, .int 0, .int 0, .ref Msort, .ref Mplace, .ref Mvalue, .int 0, .int 0, .ref Mwords, .int 0, .int 0, .ref Mgoes, .ref MgoLine, .ref Mends, .ref MendLine, .ref Mkinds, .ref MisName, .int 0, .ref Mrow, .ref MbyHand, .ref Mleast, .ref Msecond, .ref MendAt, .ref MgoAt, .ref MnodeBehind, .int 0, .ref MisOut, .ref MfirstEnd, .ref MfirstGo])), (Mends, .inl (cI, 2, .inl (fun _ => 0))), (Mleast, .inl (cI, 1220, .inl (fun _ => 0))), (Msecond, .inl (cI, 1220, .inl (fun _ => 0)))] H := hP
  have hD : va_D A [(m0, .inr (5, [.int 0, .ref Mtape, .int 0, .int 0, .ref Msort, .ref Mplace, .ref Mvalue, .int 0, .int 0, .ref Mwords, .int 0, .int 0, .ref Mgoes, .ref MgoLine, .ref Mends, .ref MendLine, .ref Mkinds, .ref MisName, .int 0, .ref Mrow, .ref MbyHand, .ref Mleast, .ref Msecond, .ref MendAt, .ref MgoAt, .ref MnodeBehind, .int 0, .ref MisOut, .ref MfirstEnd, .ref MfirstGo])), (Mends, .inl (cI, 2, .inl (fun _ => 0))), (Mleast, .inl (cI, 1220, .inl (fun _ => 0))), (Msecond, .inl (cI, 1220, .inl (fun _ => 0)))] := hD
  refine lv_aload_n hx hb dL_law_445 rfl (lv_at hl 2 rfl) ?_
  have hPc := hP.sub (ws' := [(m0, .inr (5, [.int 0, .ref Mtape, .int 0, .int 0, .ref Msort, .ref Mplace, .ref Mvalue, .int 0, .int 0, .ref Mwords, .int 0, .int 0, .ref Mgoes, .ref MgoLine, .ref Mends, .ref MendLine, .ref Mkinds, .ref MisName, .int 0, .ref Mrow, .ref MbyHand, .ref Mleast, .ref Msecond, .ref MendAt, .ref MgoAt, .ref MnodeBehind, .int 0, .ref MisOut, .ref MfirstEnd, .ref MfirstGo])), (Mleast, .inl (cI, 1220, .inl (fun _ => 0))), (Msecond, .inl (cI, 1220, .inl (fun _ => 0))), (Mends, .inl (cI, 2, .inl (fun _ => 0)))]) [0, 2, 3, 1] rfl
  have hDc := hD.sub (ws' := [(m0, .inr (5, [.int 0, .ref Mtape, .int 0, .int 0, .ref Msort, .ref Mplace, .ref Mvalue, .int 0, .int 0, .ref Mwords, .int 0, .int 0, .ref Mgoes, .ref MgoLine, .ref Mends, .ref MendLine, .ref Mkinds, .ref MisName, .int 0, .ref Mrow, .ref MbyHand, .ref Mleast, .ref Msecond, .ref MendAt, .ref MgoAt, .ref MnodeBehind, .int 0, .ref MisOut, .ref MfirstEnd, .ref MfirstGo])), (Mleast, .inl (cI, 1220, .inl (fun _ => 0))), (Msecond, .inl (cI, 1220, .inl (fun _ => 0))), (Mends, .inl (cI, 2, .inl (fun _ => 0)))]) [0, 2, 3, 1] (by decide) rfl
  have hFc := va_free (wc := [(m0, .inr (5, [.int 0, .ref Mtape, .int 0, .int 0, .ref Msort, .ref Mplace, .ref Mvalue, .int 0, .int 0, .ref Mwords, .int 0, .int 0, .ref Mgoes, .ref MgoLine, .ref Mends, .ref MendLine, .ref Mkinds, .ref MisName, .int 0, .ref Mrow, .ref MbyHand, .ref Mleast, .ref Msecond, .ref MendAt, .ref MgoAt, .ref MnodeBehind, .int 0, .ref MisOut, .ref MfirstEnd, .ref MfirstGo])), (Mleast, .inl (cI, 1220, .inl (fun _ => 0))), (Msecond, .inl (cI, 1220, .inl (fun _ => 0))), (Mends, .inl (cI, 2, .inl (fun _ => 0)))]) hD hS hA [0, 2, 3, 1] rfl
  refine va_calli (va_runV (As := []) (rest := [.int (-1)]) ⟨hx, hb, hml, hown, hts⟩ (k_mcost l dC dI cI cZ cC cJ H.size m0 Mtape Msort Mplace Mvalue Mwords Mgoes MgoLine Mends MendLine Mkinds MisName Mrow MbyHand Mleast Msecond MendAt MgoAt MnodeBehind MisOut MfirstEnd MfirstGo 0 (fun _ => 0) (fun _ => 0) ) (cwV 0 hts gL_law_X5_cost rfl rfl rfl (by decide +kernel) ⟨Nat.le_of_ble_eq_true rfl, Nat.le_of_ble_eq_true rfl⟩) ⟨sPre_blind, va_recv hK hPc (ci := 5) (q0 := 0) rfl rfl, fun U hU hW => ⟨rfl, sPre_ok hsk hPc hDc hU hW⟩⟩ rfl rfl hl.1 rfl (lv_room (Nat.le_of_ble_eq_true rfl)) dL_law_446 ⟨(show 59 + 0 ≤ 62 by omega), (show 19804 + 0 ≤ 19826 by omega)⟩) hS (fun q _ h => hFc q h) hFc (fun r_3 u t H1 locs ht hvm hw hB hz1 hk1 hS => ?_)
  try dsimp only at hw hB
  have hw_4 := hw
  obtain rfl : r_3 = (-1) := hw_4
  obtain ⟨hP1, hD1⟩ := hB
  rw [ht] at hP1
  obtain ⟨hP, hD⟩ := va_join (wr := []) (w1 := []) hP hD [0, 2, 3, 1] [] rfl rfl (by decide) (by decide) hk1 hFc hP1 hD1
  generalize H1 = H at hP hS ⊢
  have hP : va_P (dC, dI) vwCl [] H := hP
  have hD : va_D A [] := hD
  refine lv_icmp_eq (tgt := 636) hx hb dL_law_449 (by decide) (fun _ => ?_) (fun h9 => absurd (by decide) h9)
  refine lv_iinc (v := 7) (lv' := [(4, .int 7), (0, .ref b), (1, .ref h0), (2, .ref m0), (3, .ref o0)]) hx hb dL_law_636 hl (k := 4) rfl (by decide) (by decide) rfl (fun ls hl => ?_)
  refine lv_goto (tgt := 23) hx hb dL_law_639 (by decide) ?_
  refine lv_iload hx hb dL_law_23 (lv_at hl 0 rfl) ?_
  refine lv_aload_n hx hb dL_law_25 rfl (lv_at hl 1 rfl) ?_
  refine va_slen hx hb hX hbl hbA hS dL_law_26 ?_
  refine lv_topi (fun v_ ev_ => ?_)
  obtain rfl : v_ = 7 := ev_.trans (by decide)
  refine lv_bipush (v := 7) hx hb dL_law_27 (by decide) ?_
  refine lv_isub hx hb dL_law_29 ?_
  refine lv_topi (fun v_ ev_ => ?_)
  obtain rfl : v_ = 0 := ev_.trans (by decide)
  refine lv_icmp_gt (tgt := 642) hx hb dL_law_30 (by decide) (fun _ => ?_) (fun h9 => absurd (by decide) h9)
  refine lv_iconst (v := 1) hx hb dL_law_642 (by decide) ?_
  refine va_forget (fun q hq => hAf _ (hS.2.2 q hq)) ?_
  refine W.widen (k := 62) (n := 19826) (by omega) (by omega) ?_
  exact lw_ret hx hb hr hlocks dL_law_643
set_option maxHeartbeats 4000000 in
set_option maxRecDepth 100000 in
theorem lc_454 {p : Program} {l : Launch} {e : Env} {s : State} {m : MethodId} {below : List Frame} {meth : Method} {c : Code} {b : Nat} {xs : Nat → Int32} {A : Nat → Prop} (dC : Nat → ClassId) (dI : Nat → Nat → Nat) (cI cZ cC cJ : ClassId) (hx : p.tables.exec = Jvm.exec) (hb : c.code = cL_law) (hr : meth.sig.returnType = ret) (hml : c.maxLocals = 7) (hown : s.vm.findClass RL = some m.cls) (hts : ∀ w ∈ wsL_law, w.before #[Value.ref b] s = true) (hX : va_X b 7 xs s s.heap) (hbl : b < s.heap.size) (hlocks : meth.locks = false) (hsk : sk dC dI cI cZ cC cJ s) (hA : ∀ q : Nat, s.heap.size ≤ q → A q) (hAf : ∀ q : Nat, A q → s.heap.size ≤ q) (hbA : ¬ A b) (h0 kO nO rO mO tO rdO lnO drO chO bA xA kA aA eA gA oA m0 Mtape Msort Mplace Mvalue Mwords Mgoes MgoLine Mends MendLine Mkinds MisName Mrow MbyHand Mleast Msecond MendAt MgoAt MnodeBehind MisOut MfirstEnd MfirstGo o0 : Nat)  : ∀ (H : Heap) (locs : List Loc) (ls : Array Slot), va_P (dC, dI) vwCl [(h0, .inr (4, [.ref kO, .ref nO, .ref rO, .ref mO, .int 0, .ref tO, .ref rdO, .ref lnO, .ref drO, .ref chO])), (chO, .inr (0, [.ref bA, .ref xA, .ref kA, .ref aA, .ref eA, .ref gA, .ref oA, .int 0, .int 1000000000, .int 1000000000, .int 0, .int 0])), (m0, .inr (5, [.int 0, .ref Mtape, .int 0, .int 0, .ref Msort, .ref Mplace, .ref Mvalue, .int 0, .int 0, .ref Mwords, .int 0, .int 0, .ref Mgoes, .ref MgoLine, .ref Mends, .ref MendLine, .ref Mkinds, .ref MisName, .int 0, .ref Mrow, .ref MbyHand, .ref Mleast, .ref Msecond, .ref MendAt, .ref MgoAt, .ref MnodeBehind, .int 0, .ref MisOut, .ref MfirstEnd, .ref MfirstGo])), (Mends, .inl (cI, 2, .inl (fun _ => 0))), (Mleast, .inl (cI, 1220, .inl (fun _ => 0))), (Msecond, .inl (cI, 1220, .inl (fun _ => 0)))] H → va_D A [(h0, .inr (4, [.ref kO, .ref nO, .ref rO, .ref mO, .int 0, .ref tO, .ref rdO, .ref lnO, .ref drO, .ref chO])), (chO, .inr (0, [.ref bA, .ref xA, .ref kA, .ref aA, .ref eA, .ref gA, .ref oA, .int 0, .int 1000000000, .int 1000000000, .int 0, .int 0])), (m0, .inr (5, [.int 0, .ref Mtape, .int 0, .int 0, .ref Msort, .ref Mplace, .ref Mvalue, .int 0, .int 0, .ref Mwords, .int 0, .int 0, .ref Mgoes, .ref MgoLine, .ref Mends, .ref MendLine, .ref Mkinds, .ref MisName, .int 0, .ref Mrow, .ref MbyHand, .ref Mleast, .ref Msecond, .ref MendAt, .ref MgoAt, .ref MnodeBehind, .int 0, .ref MisOut, .ref MfirstEnd, .ref MfirstGo])), (Mends, .inl (cI, 2, .inl (fun _ => 0))), (Mleast, .inl (cI, 1220, .inl (fun _ => 0))), (Msecond, .inl (cI, 1220, .inl (fun _ => 0)))] → va_S A s.heap H locs → lv_has ls 7 [(0, .ref b), (1, .ref h0), (2, .ref m0), (3, .ref o0), (4, .int 0)] → W p l e room_1 s m #[Value.ref b] below meth c H locs 59 19804 (lw_Z below #[Value.ref b] s) (F0 m 454 ls []) := by
  intro H locs ls hP hD hS hl
  have hK := hsk.1
  refine lv_aload_n hx hb dL_law_454 rfl (lv_at hl 1 rfl) ?_
  have hPc := hP.sub (ws' := [(h0, .inr (4, [.ref kO, .ref nO, .ref rO, .ref mO, .int 0, .ref tO, .ref rdO, .ref lnO, .ref drO, .ref chO])), (chO, .inr (0, [.ref bA, .ref xA, .ref kA, .ref aA, .ref eA, .ref gA, .ref oA, .int 0, .int 1000000000, .int 1000000000, .int 0, .int 0]))]) [0, 1] rfl
  have hDc := hD.sub (ws' := [(h0, .inr (4, [.ref kO, .ref nO, .ref rO, .ref mO, .int 0, .ref tO, .ref rdO, .ref lnO, .ref drO, .ref chO])), (chO, .inr (0, [.ref bA, .ref xA, .ref kA, .ref aA, .ref eA, .ref gA, .ref oA, .int 0, .int 1000000000, .int 1000000000, .int 0, .int 0]))]) [0, 1] (by decide) rfl
  have hFc := va_free (wc := [(h0, .inr (4, [.ref kO, .ref nO, .ref rO, .ref mO, .int 0, .ref tO, .ref rdO, .ref lnO, .ref drO, .ref chO])), (chO, .inr (0, [.ref bA, .ref xA, .ref kA, .ref aA, .ref eA, .ref gA, .ref oA, .int 0, .int 1000000000, .int 1000000000, .int 0, .int 0]))]) hD hS hA [0, 1] rfl
  refine va_calli (va_runV (As := []) (rest := []) ⟨hx, hb, hml, hown, hts⟩ (k_second l dC dI cI cZ cC cJ H.size h0 kO nO rO mO tO rdO lnO drO chO bA xA kA aA eA gA oA ) (cwV 0 hts gL_law_X4_second rfl rfl rfl (by decide +kernel) ⟨Nat.le_of_ble_eq_true rfl, Nat.le_of_ble_eq_true rfl⟩) ⟨sPre_blind, va_recv hK hPc (ci := 4) (q0 := 0) rfl rfl, fun U hU hW => ⟨rfl, sPre_ok hsk hPc hDc hU hW⟩⟩ rfl rfl hl.1 rfl (lv_room (Nat.le_of_ble_eq_true rfl)) dL_law_455 ⟨(show 59 + 0 ≤ 62 by omega), (show 19804 + 0 ≤ 19826 by omega)⟩) hS (fun q _ h => hFc q h) hFc (fun r_1 u t H1 locs ht hvm hw hB hz1 hk1 hS => ?_)
  try dsimp only at hw hB
  have hw_2 := hw
  obtain rfl : r_1 = (-1) := hw_2
  obtain ⟨hP1, hD1⟩ := hB
  rw [ht] at hP1
  obtain ⟨hP, hD⟩ := va_join (wr := [(m0, .inr (5, [.int 0, .ref Mtape, .int 0, .int 0, .ref Msort, .ref Mplace, .ref Mvalue, .int 0, .int 0, .ref Mwords, .int 0, .int 0, .ref Mgoes, .ref MgoLine, .ref Mends, .ref MendLine, .ref Mkinds, .ref MisName, .int 0, .ref Mrow, .ref MbyHand, .ref Mleast, .ref Msecond, .ref MendAt, .ref MgoAt, .ref MnodeBehind, .int 0, .ref MisOut, .ref MfirstEnd, .ref MfirstGo])), (Mends, .inl (cI, 2, .inl (fun _ => 0))), (Mleast, .inl (cI, 1220, .inl (fun _ => 0))), (Msecond, .inl (cI, 1220, .inl (fun _ => 0)))]) (w1 := []) hP hD [0, 1] [2, 3, 4, 5] rfl rfl (by decide) (by decide) hk1 hFc hP1 hD1
  generalize H1 = H at hP hS ⊢
  have hP : va_P (dC, dI) vwCl [(m0, .inr (5, [.int 0, .ref Mtape, .int 0, .int 0, .ref Msort, .ref Mplace, .ref Mvalue, .int 0, .int 0, .ref Mwords, .int 0, .int 0, .ref Mgoes, .ref MgoLine, .ref Mends, .ref MendLine, .ref Mkinds, .ref MisName, .int 0, .ref Mrow, .ref MbyHand, .ref Mleast, .ref Msecond, .ref MendAt, .ref MgoAt, .ref MnodeBehind, .int 0, .ref MisOut, .ref MfirstEnd, .ref MfirstGo])), (Mends, .inl (cI, 2, .inl (fun _ => 0))), (Mleast, .inl (cI, 1220, .inl (fun _ => 0))), (Msecond, .inl (cI, 1220, .inl (fun _ => 0)))] H := hP
  have hD : va_D A [(m0, .inr (5, [.int 0, .ref Mtape, .int 0, .int 0, .ref Msort, .ref Mplace, .ref Mvalue, .int 0, .int 0, .ref Mwords, .int 0, .int 0, .ref Mgoes, .ref MgoLine, .ref Mends, .ref MendLine, .ref Mkinds, .ref MisName, .int 0, .ref Mrow, .ref MbyHand, .ref Mleast, .ref Msecond, .ref MendAt, .ref MgoAt, .ref MnodeBehind, .int 0, .ref MisOut, .ref MfirstEnd, .ref MfirstGo])), (Mends, .inl (cI, 2, .inl (fun _ => 0))), (Mleast, .inl (cI, 1220, .inl (fun _ => 0))), (Msecond, .inl (cI, 1220, .inl (fun _ => 0)))] := hD
  refine lv_aload_n hx hb dL_law_458 rfl (lv_at hl 2 rfl) ?_
  have hPc := hP.sub (ws' := [(m0, .inr (5, [.int 0, .ref Mtape, .int 0, .int 0, .ref Msort, .ref Mplace, .ref Mvalue, .int 0, .int 0, .ref Mwords, .int 0, .int 0, .ref Mgoes, .ref MgoLine, .ref Mends, .ref MendLine, .ref Mkinds, .ref MisName, .int 0, .ref Mrow, .ref MbyHand, .ref Mleast, .ref Msecond, .ref MendAt, .ref MgoAt, .ref MnodeBehind, .int 0, .ref MisOut, .ref MfirstEnd, .ref MfirstGo])), (Mleast, .inl (cI, 1220, .inl (fun _ => 0))), (Msecond, .inl (cI, 1220, .inl (fun _ => 0))), (Mends, .inl (cI, 2, .inl (fun _ => 0)))]) [0, 2, 3, 1] rfl
  have hDc := hD.sub (ws' := [(m0, .inr (5, [.int 0, .ref Mtape, .int 0, .int 0, .ref Msort, .ref Mplace, .ref Mvalue, .int 0, .int 0, .ref Mwords, .int 0, .int 0, .ref Mgoes, .ref MgoLine, .ref Mends, .ref MendLine, .ref Mkinds, .ref MisName, .int 0, .ref Mrow, .ref MbyHand, .ref Mleast, .ref Msecond, .ref MendAt, .ref MgoAt, .ref MnodeBehind, .int 0, .ref MisOut, .ref MfirstEnd, .ref MfirstGo])), (Mleast, .inl (cI, 1220, .inl (fun _ => 0))), (Msecond, .inl (cI, 1220, .inl (fun _ => 0))), (Mends, .inl (cI, 2, .inl (fun _ => 0)))]) [0, 2, 3, 1] (by decide) rfl
  have hFc := va_free (wc := [(m0, .inr (5, [.int 0, .ref Mtape, .int 0, .int 0, .ref Msort, .ref Mplace, .ref Mvalue, .int 0, .int 0, .ref Mwords, .int 0, .int 0, .ref Mgoes, .ref MgoLine, .ref Mends, .ref MendLine, .ref Mkinds, .ref MisName, .int 0, .ref Mrow, .ref MbyHand, .ref Mleast, .ref Msecond, .ref MendAt, .ref MgoAt, .ref MnodeBehind, .int 0, .ref MisOut, .ref MfirstEnd, .ref MfirstGo])), (Mleast, .inl (cI, 1220, .inl (fun _ => 0))), (Msecond, .inl (cI, 1220, .inl (fun _ => 0))), (Mends, .inl (cI, 2, .inl (fun _ => 0)))]) hD hS hA [0, 2, 3, 1] rfl
  refine va_calli (va_runV (As := []) (rest := [.int (-1)]) ⟨hx, hb, hml, hown, hts⟩ (k_msecond l dC dI cI cZ cC cJ H.size m0 Mtape Msort Mplace Mvalue Mwords Mgoes MgoLine Mends MendLine Mkinds MisName Mrow MbyHand Mleast Msecond MendAt MgoAt MnodeBehind MisOut MfirstEnd MfirstGo 0 (fun _ => 0) (fun _ => 0) ) (cwV 0 hts gL_law_X5_second rfl rfl rfl (by decide +kernel) ⟨Nat.le_of_ble_eq_true rfl, Nat.le_of_ble_eq_true rfl⟩) ⟨sPre_blind, va_recv hK hPc (ci := 5) (q0 := 0) rfl rfl, fun U hU hW => ⟨rfl, sPre_ok hsk hPc hDc hU hW⟩⟩ rfl rfl hl.1 rfl (lv_room (Nat.le_of_ble_eq_true rfl)) dL_law_459 ⟨(show 59 + 0 ≤ 62 by omega), (show 19804 + 0 ≤ 19826 by omega)⟩) hS (fun q _ h => hFc q h) hFc (fun r_3 u t H1 locs ht hvm hw hB hz1 hk1 hS => ?_)
  try dsimp only at hw hB
  have hw_4 := hw
  obtain rfl : r_3 = (-1) := hw_4
  obtain ⟨hP1, hD1⟩ := hB
  rw [ht] at hP1
  obtain ⟨hP, hD⟩ := va_join (wr := []) (w1 := []) hP hD [0, 2, 3, 1] [] rfl rfl (by decide) (by decide) hk1 hFc hP1 hD1
  generalize H1 = H at hP hS ⊢
  have hP : va_P (dC, dI) vwCl [] H := hP
  have hD : va_D A [] := hD
  refine lv_icmp_eq (tgt := 636) hx hb dL_law_462 (by decide) (fun _ => ?_) (fun h9 => absurd (by decide) h9)
  refine lv_iinc (v := 7) (lv' := [(4, .int 7), (0, .ref b), (1, .ref h0), (2, .ref m0), (3, .ref o0)]) hx hb dL_law_636 hl (k := 4) rfl (by decide) (by decide) rfl (fun ls hl => ?_)
  refine lv_goto (tgt := 23) hx hb dL_law_639 (by decide) ?_
  refine lv_iload hx hb dL_law_23 (lv_at hl 0 rfl) ?_
  refine lv_aload_n hx hb dL_law_25 rfl (lv_at hl 1 rfl) ?_
  refine va_slen hx hb hX hbl hbA hS dL_law_26 ?_
  refine lv_topi (fun v_ ev_ => ?_)
  obtain rfl : v_ = 7 := ev_.trans (by decide)
  refine lv_bipush (v := 7) hx hb dL_law_27 (by decide) ?_
  refine lv_isub hx hb dL_law_29 ?_
  refine lv_topi (fun v_ ev_ => ?_)
  obtain rfl : v_ = 0 := ev_.trans (by decide)
  refine lv_icmp_gt (tgt := 642) hx hb dL_law_30 (by decide) (fun _ => ?_) (fun h9 => absurd (by decide) h9)
  refine lv_iconst (v := 1) hx hb dL_law_642 (by decide) ?_
  refine va_forget (fun q hq => hAf _ (hS.2.2 q hq)) ?_
  refine W.widen (k := 62) (n := 19826) (by omega) (by omega) ?_
  exact lw_ret hx hb hr hlocks dL_law_643
set_option maxHeartbeats 4000000 in
set_option maxRecDepth 100000 in
theorem lc_535 {p : Program} {l : Launch} {e : Env} {s : State} {m : MethodId} {below : List Frame} {meth : Method} {c : Code} {b : Nat} {xs : Nat → Int32} {A : Nat → Prop} (dC : Nat → ClassId) (dI : Nat → Nat → Nat) (cI cZ cC cJ : ClassId) (hx : p.tables.exec = Jvm.exec) (hb : c.code = cL_law) (hr : meth.sig.returnType = ret) (hml : c.maxLocals = 7) (hown : s.vm.findClass RL = some m.cls) (hts : ∀ w ∈ wsL_law, w.before #[Value.ref b] s = true) (hX : va_X b 7 xs s s.heap) (hbl : b < s.heap.size) (hlocks : meth.locks = false) (hsk : sk dC dI cI cZ cC cJ s) (hA : ∀ q : Nat, s.heap.size ≤ q → A q) (hAf : ∀ q : Nat, A q → s.heap.size ≤ q) (hbA : ¬ A b) (h0 kO nO rO mO tO rdO lnO drO chO bA xA kA aA eA gA oA m0 Mtape Msort Mplace Mvalue Mwords Mgoes MgoLine Mends MendLine Mkinds MisName Mrow MbyHand Mleast Msecond MendAt MgoAt MnodeBehind MisOut MfirstEnd MfirstGo o0 : Nat)  : ∀ (H : Heap) (locs : List Loc) (ls : Array Slot), va_P (dC, dI) vwCl [(h0, .inr (4, [.ref kO, .ref nO, .ref rO, .ref mO, .int 0, .ref tO, .ref rdO, .ref lnO, .ref drO, .ref chO])), (chO, .inr (0, [.ref bA, .ref xA, .ref kA, .ref aA, .ref eA, .ref gA, .ref oA, .int 0, .int 1000000000, .int 1000000000, .int 0, .int 0])), (m0, .inr (5, [.int 0, .ref Mtape, .int 0, .int 0, .ref Msort, .ref Mplace, .ref Mvalue, .int 0, .int 0, .ref Mwords, .int 0, .int 0, .ref Mgoes, .ref MgoLine, .ref Mends, .ref MendLine, .ref Mkinds, .ref MisName, .int 0, .ref Mrow, .ref MbyHand, .ref Mleast, .ref Msecond, .ref MendAt, .ref MgoAt, .ref MnodeBehind, .int 0, .ref MisOut, .ref MfirstEnd, .ref MfirstGo])), (Mends, .inl (cI, 2, .inl (fun _ => 0))), (Mleast, .inl (cI, 1220, .inl (fun _ => 0))), (Msecond, .inl (cI, 1220, .inl (fun _ => 0)))] H → va_D A [(h0, .inr (4, [.ref kO, .ref nO, .ref rO, .ref mO, .int 0, .ref tO, .ref rdO, .ref lnO, .ref drO, .ref chO])), (chO, .inr (0, [.ref bA, .ref xA, .ref kA, .ref aA, .ref eA, .ref gA, .ref oA, .int 0, .int 1000000000, .int 1000000000, .int 0, .int 0])), (m0, .inr (5, [.int 0, .ref Mtape, .int 0, .int 0, .ref Msort, .ref Mplace, .ref Mvalue, .int 0, .int 0, .ref Mwords, .int 0, .int 0, .ref Mgoes, .ref MgoLine, .ref Mends, .ref MendLine, .ref Mkinds, .ref MisName, .int 0, .ref Mrow, .ref MbyHand, .ref Mleast, .ref Msecond, .ref MendAt, .ref MgoAt, .ref MnodeBehind, .int 0, .ref MisOut, .ref MfirstEnd, .ref MfirstGo])), (Mends, .inl (cI, 2, .inl (fun _ => 0))), (Mleast, .inl (cI, 1220, .inl (fun _ => 0))), (Msecond, .inl (cI, 1220, .inl (fun _ => 0)))] → va_S A s.heap H locs → lv_has ls 7 [(0, .ref b), (1, .ref h0), (2, .ref m0), (3, .ref o0), (4, .int 0)] → W p l e room_1 s m #[Value.ref b] below meth c H locs 59 19804 (lw_Z below #[Value.ref b] s) (F0 m 535 ls []) := by
  intro H locs ls hP hD hS hl
  have hK := hsk.1
  refine lv_aload_n hx hb dL_law_535 rfl (lv_at hl 1 rfl) ?_
  have hPc := hP.sub (ws' := [(h0, .inr (4, [.ref kO, .ref nO, .ref rO, .ref mO, .int 0, .ref tO, .ref rdO, .ref lnO, .ref drO, .ref chO])), (chO, .inr (0, [.ref bA, .ref xA, .ref kA, .ref aA, .ref eA, .ref gA, .ref oA, .int 0, .int 1000000000, .int 1000000000, .int 0, .int 0]))]) [0, 1] rfl
  have hDc := hD.sub (ws' := [(h0, .inr (4, [.ref kO, .ref nO, .ref rO, .ref mO, .int 0, .ref tO, .ref rdO, .ref lnO, .ref drO, .ref chO])), (chO, .inr (0, [.ref bA, .ref xA, .ref kA, .ref aA, .ref eA, .ref gA, .ref oA, .int 0, .int 1000000000, .int 1000000000, .int 0, .int 0]))]) [0, 1] (by decide) rfl
  have hFc := va_free (wc := [(h0, .inr (4, [.ref kO, .ref nO, .ref rO, .ref mO, .int 0, .ref tO, .ref rdO, .ref lnO, .ref drO, .ref chO])), (chO, .inr (0, [.ref bA, .ref xA, .ref kA, .ref aA, .ref eA, .ref gA, .ref oA, .int 0, .int 1000000000, .int 1000000000, .int 0, .int 0]))]) hD hS hA [0, 1] rfl
  refine va_calli (va_runV (As := []) (rest := []) ⟨hx, hb, hml, hown, hts⟩ (k_last l dC dI cI cZ cC cJ H.size h0 kO nO rO mO tO rdO lnO drO chO bA xA kA aA eA gA oA ) (cwV 0 hts gL_law_X4_last rfl rfl rfl (by decide +kernel) ⟨Nat.le_of_ble_eq_true rfl, Nat.le_of_ble_eq_true rfl⟩) ⟨sPre_blind, va_recv hK hPc (ci := 4) (q0 := 0) rfl rfl, fun U hU hW => ⟨rfl, sPre_ok hsk hPc hDc hU hW⟩⟩ rfl rfl hl.1 rfl (lv_room (Nat.le_of_ble_eq_true rfl)) dL_law_536 ⟨(show 59 + 0 ≤ 62 by omega), (show 19804 + 0 ≤ 19826 by omega)⟩) hS (fun q _ h => hFc q h) hFc (fun r_1 u t H1 locs ht hvm hw hB hz1 hk1 hS => ?_)
  try dsimp only at hw hB
  have hw_2 := hw
  obtain rfl : r_1 = (-1) := hw_2
  obtain ⟨hP1, hD1⟩ := hB
  rw [ht] at hP1
  obtain ⟨hP, hD⟩ := va_join (wr := [(m0, .inr (5, [.int 0, .ref Mtape, .int 0, .int 0, .ref Msort, .ref Mplace, .ref Mvalue, .int 0, .int 0, .ref Mwords, .int 0, .int 0, .ref Mgoes, .ref MgoLine, .ref Mends, .ref MendLine, .ref Mkinds, .ref MisName, .int 0, .ref Mrow, .ref MbyHand, .ref Mleast, .ref Msecond, .ref MendAt, .ref MgoAt, .ref MnodeBehind, .int 0, .ref MisOut, .ref MfirstEnd, .ref MfirstGo])), (Mends, .inl (cI, 2, .inl (fun _ => 0))), (Mleast, .inl (cI, 1220, .inl (fun _ => 0))), (Msecond, .inl (cI, 1220, .inl (fun _ => 0)))]) (w1 := []) hP hD [0, 1] [2, 3, 4, 5] rfl rfl (by decide) (by decide) hk1 hFc hP1 hD1
  generalize H1 = H at hP hS ⊢
  have hP : va_P (dC, dI) vwCl [(m0, .inr (5, [.int 0, .ref Mtape, .int 0, .int 0, .ref Msort, .ref Mplace, .ref Mvalue, .int 0, .int 0, .ref Mwords, .int 0, .int 0, .ref Mgoes, .ref MgoLine, .ref Mends, .ref MendLine, .ref Mkinds, .ref MisName, .int 0, .ref Mrow, .ref MbyHand, .ref Mleast, .ref Msecond, .ref MendAt, .ref MgoAt, .ref MnodeBehind, .int 0, .ref MisOut, .ref MfirstEnd, .ref MfirstGo])), (Mends, .inl (cI, 2, .inl (fun _ => 0))), (Mleast, .inl (cI, 1220, .inl (fun _ => 0))), (Msecond, .inl (cI, 1220, .inl (fun _ => 0)))] H := hP
  have hD : va_D A [(m0, .inr (5, [.int 0, .ref Mtape, .int 0, .int 0, .ref Msort, .ref Mplace, .ref Mvalue, .int 0, .int 0, .ref Mwords, .int 0, .int 0, .ref Mgoes, .ref MgoLine, .ref Mends, .ref MendLine, .ref Mkinds, .ref MisName, .int 0, .ref Mrow, .ref MbyHand, .ref Mleast, .ref Msecond, .ref MendAt, .ref MgoAt, .ref MnodeBehind, .int 0, .ref MisOut, .ref MfirstEnd, .ref MfirstGo])), (Mends, .inl (cI, 2, .inl (fun _ => 0))), (Mleast, .inl (cI, 1220, .inl (fun _ => 0))), (Msecond, .inl (cI, 1220, .inl (fun _ => 0)))] := hD
  refine lv_aload_n hx hb dL_law_539 rfl (lv_at hl 2 rfl) ?_
  have hPc := hP.sub (ws' := [(m0, .inr (5, [.int 0, .ref Mtape, .int 0, .int 0, .ref Msort, .ref Mplace, .ref Mvalue, .int 0, .int 0, .ref Mwords, .int 0, .int 0, .ref Mgoes, .ref MgoLine, .ref Mends, .ref MendLine, .ref Mkinds, .ref MisName, .int 0, .ref Mrow, .ref MbyHand, .ref Mleast, .ref Msecond, .ref MendAt, .ref MgoAt, .ref MnodeBehind, .int 0, .ref MisOut, .ref MfirstEnd, .ref MfirstGo])), (Mleast, .inl (cI, 1220, .inl (fun _ => 0))), (Msecond, .inl (cI, 1220, .inl (fun _ => 0))), (Mends, .inl (cI, 2, .inl (fun _ => 0)))]) [0, 2, 3, 1] rfl
  have hDc := hD.sub (ws' := [(m0, .inr (5, [.int 0, .ref Mtape, .int 0, .int 0, .ref Msort, .ref Mplace, .ref Mvalue, .int 0, .int 0, .ref Mwords, .int 0, .int 0, .ref Mgoes, .ref MgoLine, .ref Mends, .ref MendLine, .ref Mkinds, .ref MisName, .int 0, .ref Mrow, .ref MbyHand, .ref Mleast, .ref Msecond, .ref MendAt, .ref MgoAt, .ref MnodeBehind, .int 0, .ref MisOut, .ref MfirstEnd, .ref MfirstGo])), (Mleast, .inl (cI, 1220, .inl (fun _ => 0))), (Msecond, .inl (cI, 1220, .inl (fun _ => 0))), (Mends, .inl (cI, 2, .inl (fun _ => 0)))]) [0, 2, 3, 1] (by decide) rfl
  have hFc := va_free (wc := [(m0, .inr (5, [.int 0, .ref Mtape, .int 0, .int 0, .ref Msort, .ref Mplace, .ref Mvalue, .int 0, .int 0, .ref Mwords, .int 0, .int 0, .ref Mgoes, .ref MgoLine, .ref Mends, .ref MendLine, .ref Mkinds, .ref MisName, .int 0, .ref Mrow, .ref MbyHand, .ref Mleast, .ref Msecond, .ref MendAt, .ref MgoAt, .ref MnodeBehind, .int 0, .ref MisOut, .ref MfirstEnd, .ref MfirstGo])), (Mleast, .inl (cI, 1220, .inl (fun _ => 0))), (Msecond, .inl (cI, 1220, .inl (fun _ => 0))), (Mends, .inl (cI, 2, .inl (fun _ => 0)))]) hD hS hA [0, 2, 3, 1] rfl
  refine va_calli (va_runV (As := []) (rest := [.int (-1)]) ⟨hx, hb, hml, hown, hts⟩ (k_mlast l dC dI cI cZ cC cJ H.size m0 Mtape Msort Mplace Mvalue Mwords Mgoes MgoLine Mends MendLine Mkinds MisName Mrow MbyHand Mleast Msecond MendAt MgoAt MnodeBehind MisOut MfirstEnd MfirstGo 0 (fun _ => 0) (fun _ => 0) ) (cwV 0 hts gL_law_X5_last rfl rfl rfl (by decide +kernel) ⟨Nat.le_of_ble_eq_true rfl, Nat.le_of_ble_eq_true rfl⟩) ⟨sPre_blind, va_recv hK hPc (ci := 5) (q0 := 0) rfl rfl, fun U hU hW => ⟨rfl, sPre_ok hsk hPc hDc hU hW⟩⟩ rfl rfl hl.1 rfl (lv_room (Nat.le_of_ble_eq_true rfl)) dL_law_540 ⟨(show 59 + 0 ≤ 62 by omega), (show 19804 + 0 ≤ 19826 by omega)⟩) hS (fun q _ h => hFc q h) hFc (fun r_3 u t H1 locs ht hvm hw hB hz1 hk1 hS => ?_)
  try dsimp only at hw hB
  have hw_4 := hw
  obtain rfl : r_3 = (-1) := hw_4
  obtain ⟨hP1, hD1⟩ := hB
  rw [ht] at hP1
  obtain ⟨hP, hD⟩ := va_join (wr := []) (w1 := []) hP hD [0, 2, 3, 1] [] rfl rfl (by decide) (by decide) hk1 hFc hP1 hD1
  generalize H1 = H at hP hS ⊢
  have hP : va_P (dC, dI) vwCl [] H := hP
  have hD : va_D A [] := hD
  refine lv_icmp_eq (tgt := 636) hx hb dL_law_543 (by decide) (fun _ => ?_) (fun h9 => absurd (by decide) h9)
  refine lv_iinc (v := 7) (lv' := [(4, .int 7), (0, .ref b), (1, .ref h0), (2, .ref m0), (3, .ref o0)]) hx hb dL_law_636 hl (k := 4) rfl (by decide) (by decide) rfl (fun ls hl => ?_)
  refine lv_goto (tgt := 23) hx hb dL_law_639 (by decide) ?_
  refine lv_iload hx hb dL_law_23 (lv_at hl 0 rfl) ?_
  refine lv_aload_n hx hb dL_law_25 rfl (lv_at hl 1 rfl) ?_
  refine va_slen hx hb hX hbl hbA hS dL_law_26 ?_
  refine lv_topi (fun v_ ev_ => ?_)
  obtain rfl : v_ = 7 := ev_.trans (by decide)
  refine lv_bipush (v := 7) hx hb dL_law_27 (by decide) ?_
  refine lv_isub hx hb dL_law_29 ?_
  refine lv_topi (fun v_ ev_ => ?_)
  obtain rfl : v_ = 0 := ev_.trans (by decide)
  refine lv_icmp_gt (tgt := 642) hx hb dL_law_30 (by decide) (fun _ => ?_) (fun h9 => absurd (by decide) h9)
  refine lv_iconst (v := 1) hx hb dL_law_642 (by decide) ?_
  refine va_forget (fun q hq => hAf _ (hS.2.2 q hq)) ?_
  refine W.widen (k := 62) (n := 19826) (by omega) (by omega) ?_
  exact lw_ret hx hb hr hlocks dL_law_643
set_option maxHeartbeats 4000000 in
set_option maxRecDepth 100000 in
theorem lc_548 {p : Program} {l : Launch} {e : Env} {s : State} {m : MethodId} {below : List Frame} {meth : Method} {c : Code} {b : Nat} {xs : Nat → Int32} {A : Nat → Prop} (dC : Nat → ClassId) (dI : Nat → Nat → Nat) (cI cZ cC cJ : ClassId) (hx : p.tables.exec = Jvm.exec) (hb : c.code = cL_law) (hr : meth.sig.returnType = ret) (hml : c.maxLocals = 7) (hown : s.vm.findClass RL = some m.cls) (hts : ∀ w ∈ wsL_law, w.before #[Value.ref b] s = true) (hX : va_X b 7 xs s s.heap) (hbl : b < s.heap.size) (hlocks : meth.locks = false) (hsk : sk dC dI cI cZ cC cJ s) (hA : ∀ q : Nat, s.heap.size ≤ q → A q) (hAf : ∀ q : Nat, A q → s.heap.size ≤ q) (hbA : ¬ A b) (h0 kO nO rO mO tO rdO lnO drO chO bA xA kA aA eA gA oA m0 Mtape Msort Mplace Mvalue Mwords Mgoes MgoLine Mends MendLine Mkinds MisName Mrow MbyHand Mleast Msecond MendAt MgoAt MnodeBehind MisOut MfirstEnd MfirstGo o0 : Nat)  : ∀ (H : Heap) (locs : List Loc) (ls : Array Slot), va_P (dC, dI) vwCl [(h0, .inr (4, [.ref kO, .ref nO, .ref rO, .ref mO, .int 0, .ref tO, .ref rdO, .ref lnO, .ref drO, .ref chO])), (chO, .inr (0, [.ref bA, .ref xA, .ref kA, .ref aA, .ref eA, .ref gA, .ref oA, .int 0, .int 1000000000, .int 1000000000, .int 0, .int 0])), (m0, .inr (5, [.int 0, .ref Mtape, .int 0, .int 0, .ref Msort, .ref Mplace, .ref Mvalue, .int 0, .int 0, .ref Mwords, .int 0, .int 0, .ref Mgoes, .ref MgoLine, .ref Mends, .ref MendLine, .ref Mkinds, .ref MisName, .int 0, .ref Mrow, .ref MbyHand, .ref Mleast, .ref Msecond, .ref MendAt, .ref MgoAt, .ref MnodeBehind, .int 0, .ref MisOut, .ref MfirstEnd, .ref MfirstGo])), (Mends, .inl (cI, 2, .inl (fun _ => 0))), (Mleast, .inl (cI, 1220, .inl (fun _ => 0))), (Msecond, .inl (cI, 1220, .inl (fun _ => 0)))] H → va_D A [(h0, .inr (4, [.ref kO, .ref nO, .ref rO, .ref mO, .int 0, .ref tO, .ref rdO, .ref lnO, .ref drO, .ref chO])), (chO, .inr (0, [.ref bA, .ref xA, .ref kA, .ref aA, .ref eA, .ref gA, .ref oA, .int 0, .int 1000000000, .int 1000000000, .int 0, .int 0])), (m0, .inr (5, [.int 0, .ref Mtape, .int 0, .int 0, .ref Msort, .ref Mplace, .ref Mvalue, .int 0, .int 0, .ref Mwords, .int 0, .int 0, .ref Mgoes, .ref MgoLine, .ref Mends, .ref MendLine, .ref Mkinds, .ref MisName, .int 0, .ref Mrow, .ref MbyHand, .ref Mleast, .ref Msecond, .ref MendAt, .ref MgoAt, .ref MnodeBehind, .int 0, .ref MisOut, .ref MfirstEnd, .ref MfirstGo])), (Mends, .inl (cI, 2, .inl (fun _ => 0))), (Mleast, .inl (cI, 1220, .inl (fun _ => 0))), (Msecond, .inl (cI, 1220, .inl (fun _ => 0)))] → va_S A s.heap H locs → lv_has ls 7 [(0, .ref b), (1, .ref h0), (2, .ref m0), (3, .ref o0), (4, .int 0)] → W p l e room_1 s m #[Value.ref b] below meth c H locs 59 19804 (lw_Z below #[Value.ref b] s) (F0 m 548 ls []) := by
  intro H locs ls hP hD hS hl
  have hK := hsk.1
  refine lv_aload_n hx hb dL_law_548 rfl (lv_at hl 1 rfl) ?_
  have hPc := hP.sub (ws' := [(h0, .inr (4, [.ref kO, .ref nO, .ref rO, .ref mO, .int 0, .ref tO, .ref rdO, .ref lnO, .ref drO, .ref chO])), (chO, .inr (0, [.ref bA, .ref xA, .ref kA, .ref aA, .ref eA, .ref gA, .ref oA, .int 0, .int 1000000000, .int 1000000000, .int 0, .int 0]))]) [0, 1] rfl
  have hDc := hD.sub (ws' := [(h0, .inr (4, [.ref kO, .ref nO, .ref rO, .ref mO, .int 0, .ref tO, .ref rdO, .ref lnO, .ref drO, .ref chO])), (chO, .inr (0, [.ref bA, .ref xA, .ref kA, .ref aA, .ref eA, .ref gA, .ref oA, .int 0, .int 1000000000, .int 1000000000, .int 0, .int 0]))]) [0, 1] (by decide) rfl
  have hFc := va_free (wc := [(h0, .inr (4, [.ref kO, .ref nO, .ref rO, .ref mO, .int 0, .ref tO, .ref rdO, .ref lnO, .ref drO, .ref chO])), (chO, .inr (0, [.ref bA, .ref xA, .ref kA, .ref aA, .ref eA, .ref gA, .ref oA, .int 0, .int 1000000000, .int 1000000000, .int 0, .int 0]))]) hD hS hA [0, 1] rfl
  refine va_calli (va_runV (As := []) (rest := []) ⟨hx, hb, hml, hown, hts⟩ (k_sentences l dC dI cI cZ cC cJ H.size h0 kO nO rO mO tO rdO lnO drO chO bA xA kA aA eA gA oA ) (cwV 0 hts gL_law_X4_sentences rfl rfl rfl (by decide +kernel) ⟨Nat.le_of_ble_eq_true rfl, Nat.le_of_ble_eq_true rfl⟩) ⟨sPre_blind, va_recv hK hPc (ci := 4) (q0 := 0) rfl rfl, fun U hU hW => ⟨rfl, sPre_ok hsk hPc hDc hU hW⟩⟩ rfl rfl hl.1 rfl (lv_room (Nat.le_of_ble_eq_true rfl)) dL_law_549 ⟨(show 59 + 0 ≤ 62 by omega), (show 19804 + 0 ≤ 19826 by omega)⟩) hS (fun q _ h => hFc q h) hFc (fun r_1 u t H1 locs ht hvm hw hB hz1 hk1 hS => ?_)
  try dsimp only at hw hB
  have hw_2 := hw
  obtain rfl : r_1 = (-1) := hw_2
  obtain ⟨hP1, hD1⟩ := hB
  rw [ht] at hP1
  obtain ⟨hP, hD⟩ := va_join (wr := [(m0, .inr (5, [.int 0, .ref Mtape, .int 0, .int 0, .ref Msort, .ref Mplace, .ref Mvalue, .int 0, .int 0, .ref Mwords, .int 0, .int 0, .ref Mgoes, .ref MgoLine, .ref Mends, .ref MendLine, .ref Mkinds, .ref MisName, .int 0, .ref Mrow, .ref MbyHand, .ref Mleast, .ref Msecond, .ref MendAt, .ref MgoAt, .ref MnodeBehind, .int 0, .ref MisOut, .ref MfirstEnd, .ref MfirstGo])), (Mends, .inl (cI, 2, .inl (fun _ => 0))), (Mleast, .inl (cI, 1220, .inl (fun _ => 0))), (Msecond, .inl (cI, 1220, .inl (fun _ => 0)))]) (w1 := []) hP hD [0, 1] [2, 3, 4, 5] rfl rfl (by decide) (by decide) hk1 hFc hP1 hD1
  generalize H1 = H at hP hS ⊢
  have hP : va_P (dC, dI) vwCl [(m0, .inr (5, [.int 0, .ref Mtape, .int 0, .int 0, .ref Msort, .ref Mplace, .ref Mvalue, .int 0, .int 0, .ref Mwords, .int 0, .int 0, .ref Mgoes, .ref MgoLine, .ref Mends, .ref MendLine, .ref Mkinds, .ref MisName, .int 0, .ref Mrow, .ref MbyHand, .ref Mleast, .ref Msecond, .ref MendAt, .ref MgoAt, .ref MnodeBehind, .int 0, .ref MisOut, .ref MfirstEnd, .ref MfirstGo])), (Mends, .inl (cI, 2, .inl (fun _ => 0))), (Mleast, .inl (cI, 1220, .inl (fun _ => 0))), (Msecond, .inl (cI, 1220, .inl (fun _ => 0)))] H := hP
  have hD : va_D A [(m0, .inr (5, [.int 0, .ref Mtape, .int 0, .int 0, .ref Msort, .ref Mplace, .ref Mvalue, .int 0, .int 0, .ref Mwords, .int 0, .int 0, .ref Mgoes, .ref MgoLine, .ref Mends, .ref MendLine, .ref Mkinds, .ref MisName, .int 0, .ref Mrow, .ref MbyHand, .ref Mleast, .ref Msecond, .ref MendAt, .ref MgoAt, .ref MnodeBehind, .int 0, .ref MisOut, .ref MfirstEnd, .ref MfirstGo])), (Mends, .inl (cI, 2, .inl (fun _ => 0))), (Mleast, .inl (cI, 1220, .inl (fun _ => 0))), (Msecond, .inl (cI, 1220, .inl (fun _ => 0)))] := hD
  refine lv_aload_n hx hb dL_law_552 rfl (lv_at hl 2 rfl) ?_
  have hPc := hP.sub (ws' := [(m0, .inr (5, [.int 0, .ref Mtape, .int 0, .int 0, .ref Msort, .ref Mplace, .ref Mvalue, .int 0, .int 0, .ref Mwords, .int 0, .int 0, .ref Mgoes, .ref MgoLine, .ref Mends, .ref MendLine, .ref Mkinds, .ref MisName, .int 0, .ref Mrow, .ref MbyHand, .ref Mleast, .ref Msecond, .ref MendAt, .ref MgoAt, .ref MnodeBehind, .int 0, .ref MisOut, .ref MfirstEnd, .ref MfirstGo])), (Mleast, .inl (cI, 1220, .inl (fun _ => 0))), (Msecond, .inl (cI, 1220, .inl (fun _ => 0))), (Mends, .inl (cI, 2, .inl (fun _ => 0)))]) [0, 2, 3, 1] rfl
  have hDc := hD.sub (ws' := [(m0, .inr (5, [.int 0, .ref Mtape, .int 0, .int 0, .ref Msort, .ref Mplace, .ref Mvalue, .int 0, .int 0, .ref Mwords, .int 0, .int 0, .ref Mgoes, .ref MgoLine, .ref Mends, .ref MendLine, .ref Mkinds, .ref MisName, .int 0, .ref Mrow, .ref MbyHand, .ref Mleast, .ref Msecond, .ref MendAt, .ref MgoAt, .ref MnodeBehind, .int 0, .ref MisOut, .ref MfirstEnd, .ref MfirstGo])), (Mleast, .inl (cI, 1220, .inl (fun _ => 0))), (Msecond, .inl (cI, 1220, .inl (fun _ => 0))), (Mends, .inl (cI, 2, .inl (fun _ => 0)))]) [0, 2, 3, 1] (by decide) rfl
  have hFc := va_free (wc := [(m0, .inr (5, [.int 0, .ref Mtape, .int 0, .int 0, .ref Msort, .ref Mplace, .ref Mvalue, .int 0, .int 0, .ref Mwords, .int 0, .int 0, .ref Mgoes, .ref MgoLine, .ref Mends, .ref MendLine, .ref Mkinds, .ref MisName, .int 0, .ref Mrow, .ref MbyHand, .ref Mleast, .ref Msecond, .ref MendAt, .ref MgoAt, .ref MnodeBehind, .int 0, .ref MisOut, .ref MfirstEnd, .ref MfirstGo])), (Mleast, .inl (cI, 1220, .inl (fun _ => 0))), (Msecond, .inl (cI, 1220, .inl (fun _ => 0))), (Mends, .inl (cI, 2, .inl (fun _ => 0)))]) hD hS hA [0, 2, 3, 1] rfl
  refine va_calli (va_runV (As := []) (rest := [.int (-1)]) ⟨hx, hb, hml, hown, hts⟩ (k_msentences l dC dI cI cZ cC cJ H.size m0 Mtape Msort Mplace Mvalue Mwords Mgoes MgoLine Mends MendLine Mkinds MisName Mrow MbyHand Mleast Msecond MendAt MgoAt MnodeBehind MisOut MfirstEnd MfirstGo 0 (fun _ => 0) (fun _ => 0) ) (cwV 0 hts gL_law_X5_sentences rfl rfl rfl (by decide +kernel) ⟨Nat.le_of_ble_eq_true rfl, Nat.le_of_ble_eq_true rfl⟩) ⟨sPre_blind, va_recv hK hPc (ci := 5) (q0 := 0) rfl rfl, fun U hU hW => ⟨rfl, sPre_ok hsk hPc hDc hU hW⟩⟩ rfl rfl hl.1 rfl (lv_room (Nat.le_of_ble_eq_true rfl)) dL_law_553 ⟨(show 59 + 0 ≤ 62 by omega), (show 19804 + 0 ≤ 19826 by omega)⟩) hS (fun q _ h => hFc q h) hFc (fun r_3 u t H1 locs ht hvm hw hB hz1 hk1 hS => ?_)
  try dsimp only at hw hB
  have hw_4 := hw
  obtain rfl : r_3 = (-1) := hw_4
  obtain ⟨hP1, hD1⟩ := hB
  rw [ht] at hP1
  obtain ⟨hP, hD⟩ := va_join (wr := []) (w1 := []) hP hD [0, 2, 3, 1] [] rfl rfl (by decide) (by decide) hk1 hFc hP1 hD1
  generalize H1 = H at hP hS ⊢
  have hP : va_P (dC, dI) vwCl [] H := hP
  have hD : va_D A [] := hD
  refine lv_icmp_eq (tgt := 636) hx hb dL_law_556 (by decide) (fun _ => ?_) (fun h9 => absurd (by decide) h9)
  refine lv_iinc (v := 7) (lv' := [(4, .int 7), (0, .ref b), (1, .ref h0), (2, .ref m0), (3, .ref o0)]) hx hb dL_law_636 hl (k := 4) rfl (by decide) (by decide) rfl (fun ls hl => ?_)
  refine lv_goto (tgt := 23) hx hb dL_law_639 (by decide) ?_
  refine lv_iload hx hb dL_law_23 (lv_at hl 0 rfl) ?_
  refine lv_aload_n hx hb dL_law_25 rfl (lv_at hl 1 rfl) ?_
  refine va_slen hx hb hX hbl hbA hS dL_law_26 ?_
  refine lv_topi (fun v_ ev_ => ?_)
  obtain rfl : v_ = 7 := ev_.trans (by decide)
  refine lv_bipush (v := 7) hx hb dL_law_27 (by decide) ?_
  refine lv_isub hx hb dL_law_29 ?_
  refine lv_topi (fun v_ ev_ => ?_)
  obtain rfl : v_ = 0 := ev_.trans (by decide)
  refine lv_icmp_gt (tgt := 642) hx hb dL_law_30 (by decide) (fun _ => ?_) (fun h9 => absurd (by decide) h9)
  refine lv_iconst (v := 1) hx hb dL_law_642 (by decide) ?_
  refine va_forget (fun q hq => hAf _ (hS.2.2 q hq)) ?_
  refine W.widen (k := 62) (n := 19826) (by omega) (by omega) ?_
  exact lw_ret hx hb hr hlocks dL_law_643
set_option maxHeartbeats 4000000 in
set_option maxRecDepth 100000 in
theorem lc_561 {p : Program} {l : Launch} {e : Env} {s : State} {m : MethodId} {below : List Frame} {meth : Method} {c : Code} {b : Nat} {xs : Nat → Int32} {A : Nat → Prop} (dC : Nat → ClassId) (dI : Nat → Nat → Nat) (cI cZ cC cJ : ClassId) (hx : p.tables.exec = Jvm.exec) (hb : c.code = cL_law) (hr : meth.sig.returnType = ret) (hml : c.maxLocals = 7) (hown : s.vm.findClass RL = some m.cls) (hts : ∀ w ∈ wsL_law, w.before #[Value.ref b] s = true) (hX : va_X b 7 xs s s.heap) (hbl : b < s.heap.size) (hlocks : meth.locks = false) (hsk : sk dC dI cI cZ cC cJ s) (hA : ∀ q : Nat, s.heap.size ≤ q → A q) (hAf : ∀ q : Nat, A q → s.heap.size ≤ q) (hbA : ¬ A b) (h0 kO nO rO mO tO rdO lnO drO chO lgF lgK lgT lgC lgM leF leC leM lhopA bA xA kA aA eA gA oA m0 Mtape Msort Mplace Mvalue Mwords Mgoes MgoLine Mends MendLine Mkinds MisName Mrow MbyHand Mleast Msecond MendAt MgoAt MnodeBehind MisOut MfirstEnd MfirstGo o0 : Nat) (fb : Nat → Int32) : ∀ (H : Heap) (locs : List Loc) (ls : Array Slot), va_P (dC, dI) vwCl [(h0, .inr (4, [.ref kO, .ref nO, .ref rO, .ref mO, .int 0, .ref tO, .ref rdO, .ref lnO, .ref drO, .ref chO])), (lnO, .inr (1, [.ref lgF, .ref lgK, .ref lgT, .ref lgC, .ref lgM, .int 0, .ref leF, .ref leC, .ref leM, .int 0, .ref lhopA])), (lhopA, .inl (cZ, 20, .inl (fun _ => 0))), (chO, .inr (0, [.ref bA, .ref xA, .ref kA, .ref aA, .ref eA, .ref gA, .ref oA, .int 0, .int 1000000000, .int 1000000000, .int 0, .int 0])), (bA, .inl (cI, 1220, .inl fb)), (m0, .inr (5, [.int 0, .ref Mtape, .int 0, .int 0, .ref Msort, .ref Mplace, .ref Mvalue, .int 0, .int 0, .ref Mwords, .int 0, .int 0, .ref Mgoes, .ref MgoLine, .ref Mends, .ref MendLine, .ref Mkinds, .ref MisName, .int 0, .ref Mrow, .ref MbyHand, .ref Mleast, .ref Msecond, .ref MendAt, .ref MgoAt, .ref MnodeBehind, .int 0, .ref MisOut, .ref MfirstEnd, .ref MfirstGo])), (Mgoes, .inl (cI, 2, .inl (fun _ => 0))), (Mends, .inl (cI, 2, .inl (fun _ => 0))), (Mleast, .inl (cI, 1220, .inl (fun _ => 0))), (Msecond, .inl (cI, 1220, .inl (fun _ => 0))), (MisOut, .inl (cZ, 20, .inl (fun _ => 0)))] H → va_D A [(h0, .inr (4, [.ref kO, .ref nO, .ref rO, .ref mO, .int 0, .ref tO, .ref rdO, .ref lnO, .ref drO, .ref chO])), (lnO, .inr (1, [.ref lgF, .ref lgK, .ref lgT, .ref lgC, .ref lgM, .int 0, .ref leF, .ref leC, .ref leM, .int 0, .ref lhopA])), (lhopA, .inl (cZ, 20, .inl (fun _ => 0))), (chO, .inr (0, [.ref bA, .ref xA, .ref kA, .ref aA, .ref eA, .ref gA, .ref oA, .int 0, .int 1000000000, .int 1000000000, .int 0, .int 0])), (bA, .inl (cI, 1220, .inl fb)), (m0, .inr (5, [.int 0, .ref Mtape, .int 0, .int 0, .ref Msort, .ref Mplace, .ref Mvalue, .int 0, .int 0, .ref Mwords, .int 0, .int 0, .ref Mgoes, .ref MgoLine, .ref Mends, .ref MendLine, .ref Mkinds, .ref MisName, .int 0, .ref Mrow, .ref MbyHand, .ref Mleast, .ref Msecond, .ref MendAt, .ref MgoAt, .ref MnodeBehind, .int 0, .ref MisOut, .ref MfirstEnd, .ref MfirstGo])), (Mgoes, .inl (cI, 2, .inl (fun _ => 0))), (Mends, .inl (cI, 2, .inl (fun _ => 0))), (Mleast, .inl (cI, 1220, .inl (fun _ => 0))), (Msecond, .inl (cI, 1220, .inl (fun _ => 0))), (MisOut, .inl (cZ, 20, .inl (fun _ => 0)))] → va_S A s.heap H locs → lv_has ls 7 [(0, .ref b), (1, .ref h0), (2, .ref m0), (3, .ref o0), (4, .int 0)] → W p l e room_1 s m #[Value.ref b] below meth c H locs 59 19804 (lw_Z below #[Value.ref b] s) (F0 m 561 ls []) := by
  intro H locs ls hP hD hS hl
  have hK := hsk.1
  refine lv_aload_n hx hb dL_law_561 rfl (lv_at hl 1 rfl) ?_
  have hPc := hP.sub (ws' := [(h0, .inr (4, [.ref kO, .ref nO, .ref rO, .ref mO, .int 0, .ref tO, .ref rdO, .ref lnO, .ref drO, .ref chO])), (chO, .inr (0, [.ref bA, .ref xA, .ref kA, .ref aA, .ref eA, .ref gA, .ref oA, .int 0, .int 1000000000, .int 1000000000, .int 0, .int 0])), (bA, .inl (cI, 1220, .inl fb)), (lnO, .inr (1, [.ref lgF, .ref lgK, .ref lgT, .ref lgC, .ref lgM, .int 0, .ref leF, .ref leC, .ref leM, .int 0, .ref lhopA])), (lhopA, .inl (cZ, 20, .inl (fun _ => 0)))]) [0, 3, 4, 1, 2] rfl
  have hDc := hD.sub (ws' := [(h0, .inr (4, [.ref kO, .ref nO, .ref rO, .ref mO, .int 0, .ref tO, .ref rdO, .ref lnO, .ref drO, .ref chO])), (chO, .inr (0, [.ref bA, .ref xA, .ref kA, .ref aA, .ref eA, .ref gA, .ref oA, .int 0, .int 1000000000, .int 1000000000, .int 0, .int 0])), (bA, .inl (cI, 1220, .inl fb)), (lnO, .inr (1, [.ref lgF, .ref lgK, .ref lgT, .ref lgC, .ref lgM, .int 0, .ref leF, .ref leC, .ref leM, .int 0, .ref lhopA])), (lhopA, .inl (cZ, 20, .inl (fun _ => 0)))]) [0, 3, 4, 1, 2] (by decide) rfl
  have hFc := va_free (wc := [(h0, .inr (4, [.ref kO, .ref nO, .ref rO, .ref mO, .int 0, .ref tO, .ref rdO, .ref lnO, .ref drO, .ref chO])), (chO, .inr (0, [.ref bA, .ref xA, .ref kA, .ref aA, .ref eA, .ref gA, .ref oA, .int 0, .int 1000000000, .int 1000000000, .int 0, .int 0])), (bA, .inl (cI, 1220, .inl fb)), (lnO, .inr (1, [.ref lgF, .ref lgK, .ref lgT, .ref lgC, .ref lgM, .int 0, .ref leF, .ref leC, .ref leM, .int 0, .ref lhopA])), (lhopA, .inl (cZ, 20, .inl (fun _ => 0)))]) hD hS hA [0, 3, 4, 1, 2] rfl
  refine va_calli (va_runV (As := []) (rest := []) ⟨hx, hb, hml, hown, hts⟩ (k_settled l dC dI cI cZ cC cJ H.size h0 kO nO rO mO tO rdO lnO drO chO bA xA kA aA eA gA oA lgF lgK lgT lgC lgM leF leC leM lhopA fb ) (cwV 0 hts gL_law_X4_settled rfl rfl rfl (by decide +kernel) ⟨Nat.le_of_ble_eq_true rfl, Nat.le_of_ble_eq_true rfl⟩) ⟨sPre_blind, va_recv hK hPc (ci := 4) (q0 := 0) rfl rfl, fun U hU hW => ⟨rfl, sPre_ok hsk hPc hDc hU hW⟩⟩ rfl rfl hl.1 rfl (lv_room (Nat.le_of_ble_eq_true rfl)) dL_law_562 ⟨(show 59 + 0 ≤ 62 by omega), (show 19804 + 0 ≤ 19826 by omega)⟩) hS (fun q _ h => hFc q h) hFc (fun r_1 u t H1 locs ht hvm hw hB hz1 hk1 hS => ?_)
  try dsimp only at hw hB
  have hw_2 := hw
  obtain rfl : r_1 = 0 := hw_2
  obtain ⟨hP1, hD1⟩ := hB
  rw [ht] at hP1
  obtain ⟨hP, hD⟩ := va_join (wr := [(m0, .inr (5, [.int 0, .ref Mtape, .int 0, .int 0, .ref Msort, .ref Mplace, .ref Mvalue, .int 0, .int 0, .ref Mwords, .int 0, .int 0, .ref Mgoes, .ref MgoLine, .ref Mends, .ref MendLine, .ref Mkinds, .ref MisName, .int 0, .ref Mrow, .ref MbyHand, .ref Mleast, .ref Msecond, .ref MendAt, .ref MgoAt, .ref MnodeBehind, .int 0, .ref MisOut, .ref MfirstEnd, .ref MfirstGo])), (Mgoes, .inl (cI, 2, .inl (fun _ => 0))), (Mends, .inl (cI, 2, .inl (fun _ => 0))), (Mleast, .inl (cI, 1220, .inl (fun _ => 0))), (Msecond, .inl (cI, 1220, .inl (fun _ => 0))), (MisOut, .inl (cZ, 20, .inl (fun _ => 0)))]) (w1 := []) hP hD [0, 3, 4, 1, 2] [5, 6, 7, 8, 9, 10] rfl rfl (by decide) (by decide) hk1 hFc hP1 hD1
  generalize H1 = H at hP hS ⊢
  have hP : va_P (dC, dI) vwCl [(m0, .inr (5, [.int 0, .ref Mtape, .int 0, .int 0, .ref Msort, .ref Mplace, .ref Mvalue, .int 0, .int 0, .ref Mwords, .int 0, .int 0, .ref Mgoes, .ref MgoLine, .ref Mends, .ref MendLine, .ref Mkinds, .ref MisName, .int 0, .ref Mrow, .ref MbyHand, .ref Mleast, .ref Msecond, .ref MendAt, .ref MgoAt, .ref MnodeBehind, .int 0, .ref MisOut, .ref MfirstEnd, .ref MfirstGo])), (Mgoes, .inl (cI, 2, .inl (fun _ => 0))), (Mends, .inl (cI, 2, .inl (fun _ => 0))), (Mleast, .inl (cI, 1220, .inl (fun _ => 0))), (Msecond, .inl (cI, 1220, .inl (fun _ => 0))), (MisOut, .inl (cZ, 20, .inl (fun _ => 0)))] H := hP
  have hD : va_D A [(m0, .inr (5, [.int 0, .ref Mtape, .int 0, .int 0, .ref Msort, .ref Mplace, .ref Mvalue, .int 0, .int 0, .ref Mwords, .int 0, .int 0, .ref Mgoes, .ref MgoLine, .ref Mends, .ref MendLine, .ref Mkinds, .ref MisName, .int 0, .ref Mrow, .ref MbyHand, .ref Mleast, .ref Msecond, .ref MendAt, .ref MgoAt, .ref MnodeBehind, .int 0, .ref MisOut, .ref MfirstEnd, .ref MfirstGo])), (Mgoes, .inl (cI, 2, .inl (fun _ => 0))), (Mends, .inl (cI, 2, .inl (fun _ => 0))), (Mleast, .inl (cI, 1220, .inl (fun _ => 0))), (Msecond, .inl (cI, 1220, .inl (fun _ => 0))), (MisOut, .inl (cZ, 20, .inl (fun _ => 0)))] := hD
  refine lv_aload_n hx hb dL_law_565 rfl (lv_at hl 2 rfl) ?_
  have hPc := hP.sub (ws' := [(m0, .inr (5, [.int 0, .ref Mtape, .int 0, .int 0, .ref Msort, .ref Mplace, .ref Mvalue, .int 0, .int 0, .ref Mwords, .int 0, .int 0, .ref Mgoes, .ref MgoLine, .ref Mends, .ref MendLine, .ref Mkinds, .ref MisName, .int 0, .ref Mrow, .ref MbyHand, .ref Mleast, .ref Msecond, .ref MendAt, .ref MgoAt, .ref MnodeBehind, .int 0, .ref MisOut, .ref MfirstEnd, .ref MfirstGo])), (Mleast, .inl (cI, 1220, .inl (fun _ => 0))), (Msecond, .inl (cI, 1220, .inl (fun _ => 0))), (Mends, .inl (cI, 2, .inl (fun _ => 0))), (Mgoes, .inl (cI, 2, .inl (fun _ => 0))), (MisOut, .inl (cZ, 20, .inl (fun _ => 0)))]) [0, 3, 4, 2, 1, 5] rfl
  have hDc := hD.sub (ws' := [(m0, .inr (5, [.int 0, .ref Mtape, .int 0, .int 0, .ref Msort, .ref Mplace, .ref Mvalue, .int 0, .int 0, .ref Mwords, .int 0, .int 0, .ref Mgoes, .ref MgoLine, .ref Mends, .ref MendLine, .ref Mkinds, .ref MisName, .int 0, .ref Mrow, .ref MbyHand, .ref Mleast, .ref Msecond, .ref MendAt, .ref MgoAt, .ref MnodeBehind, .int 0, .ref MisOut, .ref MfirstEnd, .ref MfirstGo])), (Mleast, .inl (cI, 1220, .inl (fun _ => 0))), (Msecond, .inl (cI, 1220, .inl (fun _ => 0))), (Mends, .inl (cI, 2, .inl (fun _ => 0))), (Mgoes, .inl (cI, 2, .inl (fun _ => 0))), (MisOut, .inl (cZ, 20, .inl (fun _ => 0)))]) [0, 3, 4, 2, 1, 5] (by decide) rfl
  have hFc := va_free (wc := [(m0, .inr (5, [.int 0, .ref Mtape, .int 0, .int 0, .ref Msort, .ref Mplace, .ref Mvalue, .int 0, .int 0, .ref Mwords, .int 0, .int 0, .ref Mgoes, .ref MgoLine, .ref Mends, .ref MendLine, .ref Mkinds, .ref MisName, .int 0, .ref Mrow, .ref MbyHand, .ref Mleast, .ref Msecond, .ref MendAt, .ref MgoAt, .ref MnodeBehind, .int 0, .ref MisOut, .ref MfirstEnd, .ref MfirstGo])), (Mleast, .inl (cI, 1220, .inl (fun _ => 0))), (Msecond, .inl (cI, 1220, .inl (fun _ => 0))), (Mends, .inl (cI, 2, .inl (fun _ => 0))), (Mgoes, .inl (cI, 2, .inl (fun _ => 0))), (MisOut, .inl (cZ, 20, .inl (fun _ => 0)))]) hD hS hA [0, 3, 4, 2, 1, 5] rfl
  refine va_calli (va_runV (As := []) (rest := [.int 0]) ⟨hx, hb, hml, hown, hts⟩ (k_msettled l dC dI cI cZ cC cJ H.size m0 Mtape Msort Mplace Mvalue Mwords Mgoes MgoLine Mends MendLine Mkinds MisName Mrow MbyHand Mleast Msecond MendAt MgoAt MnodeBehind MisOut MfirstEnd MfirstGo (fun _ => 0) (fun _ => 0) ) (cwV 0 hts gL_law_X5_settled rfl rfl rfl (by decide +kernel) ⟨Nat.le_of_ble_eq_true rfl, Nat.le_of_ble_eq_true rfl⟩) ⟨sPre_blind, va_recv hK hPc (ci := 5) (q0 := 0) rfl rfl, fun U hU hW => ⟨rfl, sPre_ok hsk hPc hDc hU hW⟩⟩ rfl rfl hl.1 rfl (lv_room (Nat.le_of_ble_eq_true rfl)) dL_law_566 ⟨(show 59 + 0 ≤ 62 by omega), (show 19804 + 0 ≤ 19826 by omega)⟩) hS (fun q _ h => hFc q h) hFc (fun r_3 u t H1 locs ht hvm hw hB hz1 hk1 hS => ?_)
  try dsimp only at hw hB
  have hw_4 := hw
  obtain rfl : r_3 = 0 := hw_4
  obtain ⟨hP1, hD1⟩ := hB
  rw [ht] at hP1
  obtain ⟨hP, hD⟩ := va_join (wr := []) (w1 := []) hP hD [0, 3, 4, 2, 1, 5] [] rfl rfl (by decide) (by decide) hk1 hFc hP1 hD1
  generalize H1 = H at hP hS ⊢
  have hP : va_P (dC, dI) vwCl [] H := hP
  have hD : va_D A [] := hD
  refine lv_icmp_eq (tgt := 636) hx hb dL_law_569 (by decide) (fun _ => ?_) (fun h9 => absurd (by decide) h9)
  refine lv_iinc (v := 7) (lv' := [(4, .int 7), (0, .ref b), (1, .ref h0), (2, .ref m0), (3, .ref o0)]) hx hb dL_law_636 hl (k := 4) rfl (by decide) (by decide) rfl (fun ls hl => ?_)
  refine lv_goto (tgt := 23) hx hb dL_law_639 (by decide) ?_
  refine lv_iload hx hb dL_law_23 (lv_at hl 0 rfl) ?_
  refine lv_aload_n hx hb dL_law_25 rfl (lv_at hl 1 rfl) ?_
  refine va_slen hx hb hX hbl hbA hS dL_law_26 ?_
  refine lv_topi (fun v_ ev_ => ?_)
  obtain rfl : v_ = 7 := ev_.trans (by decide)
  refine lv_bipush (v := 7) hx hb dL_law_27 (by decide) ?_
  refine lv_isub hx hb dL_law_29 ?_
  refine lv_topi (fun v_ ev_ => ?_)
  obtain rfl : v_ = 0 := ev_.trans (by decide)
  refine lv_icmp_gt (tgt := 642) hx hb dL_law_30 (by decide) (fun _ => ?_) (fun h9 => absurd (by decide) h9)
  refine lv_iconst (v := 1) hx hb dL_law_642 (by decide) ?_
  refine va_forget (fun q hq => hAf _ (hS.2.2 q hq)) ?_
  refine W.widen (k := 62) (n := 19826) (by omega) (by omega) ?_
  exact lw_ret hx hb hr hlocks dL_law_643
set_option maxHeartbeats 4000000 in
set_option maxRecDepth 100000 in
theorem lc_574 {p : Program} {l : Launch} {e : Env} {s : State} {m : MethodId} {below : List Frame} {meth : Method} {c : Code} {b : Nat} {xs : Nat → Int32} {A : Nat → Prop} (dC : Nat → ClassId) (dI : Nat → Nat → Nat) (cI cZ cC cJ : ClassId) (hx : p.tables.exec = Jvm.exec) (hb : c.code = cL_law) (hr : meth.sig.returnType = ret) (hml : c.maxLocals = 7) (hown : s.vm.findClass RL = some m.cls) (hts : ∀ w ∈ wsL_law, w.before #[Value.ref b] s = true) (hX : va_X b 7 xs s s.heap) (hbl : b < s.heap.size) (hlocks : meth.locks = false) (hsk : sk dC dI cI cZ cC cJ s) (hA : ∀ q : Nat, s.heap.size ≤ q → A q) (hAf : ∀ q : Nat, A q → s.heap.size ≤ q) (hbA : ¬ A b) (h0 kO nO rO mO tO rdO lnO drO chO lgF lgK lgT lgC lgM leF leC leM lhopA m0 Mtape Msort Mplace Mvalue Mwords Mgoes MgoLine Mends MendLine Mkinds MisName Mrow MbyHand Mleast Msecond MendAt MgoAt MnodeBehind MisOut MfirstEnd MfirstGo o0 : Nat)  : ∀ (H : Heap) (locs : List Loc) (ls : Array Slot), va_P (dC, dI) vwCl [(h0, .inr (4, [.ref kO, .ref nO, .ref rO, .ref mO, .int 0, .ref tO, .ref rdO, .ref lnO, .ref drO, .ref chO])), (lnO, .inr (1, [.ref lgF, .ref lgK, .ref lgT, .ref lgC, .ref lgM, .int 0, .ref leF, .ref leC, .ref leM, .int 0, .ref lhopA])), (m0, .inr (5, [.int 0, .ref Mtape, .int 0, .int 0, .ref Msort, .ref Mplace, .ref Mvalue, .int 0, .int 0, .ref Mwords, .int 0, .int 0, .ref Mgoes, .ref MgoLine, .ref Mends, .ref MendLine, .ref Mkinds, .ref MisName, .int 0, .ref Mrow, .ref MbyHand, .ref Mleast, .ref Msecond, .ref MendAt, .ref MgoAt, .ref MnodeBehind, .int 0, .ref MisOut, .ref MfirstEnd, .ref MfirstGo])), (Mgoes, .inl (cI, 2, .inl (fun _ => 0)))] H → va_D A [(h0, .inr (4, [.ref kO, .ref nO, .ref rO, .ref mO, .int 0, .ref tO, .ref rdO, .ref lnO, .ref drO, .ref chO])), (lnO, .inr (1, [.ref lgF, .ref lgK, .ref lgT, .ref lgC, .ref lgM, .int 0, .ref leF, .ref leC, .ref leM, .int 0, .ref lhopA])), (m0, .inr (5, [.int 0, .ref Mtape, .int 0, .int 0, .ref Msort, .ref Mplace, .ref Mvalue, .int 0, .int 0, .ref Mwords, .int 0, .int 0, .ref Mgoes, .ref MgoLine, .ref Mends, .ref MendLine, .ref Mkinds, .ref MisName, .int 0, .ref Mrow, .ref MbyHand, .ref Mleast, .ref Msecond, .ref MendAt, .ref MgoAt, .ref MnodeBehind, .int 0, .ref MisOut, .ref MfirstEnd, .ref MfirstGo])), (Mgoes, .inl (cI, 2, .inl (fun _ => 0)))] → va_S A s.heap H locs → lv_has ls 7 [(0, .ref b), (1, .ref h0), (2, .ref m0), (3, .ref o0), (4, .int 0)] → W p l e room_1 s m #[Value.ref b] below meth c H locs 59 19804 (lw_Z below #[Value.ref b] s) (F0 m 574 ls []) := by
  intro H locs ls hP hD hS hl
  have hK := hsk.1
  refine lv_aload_n hx hb dL_law_574 rfl (lv_at hl 1 rfl) ?_
  refine lv_aload_n hx hb dL_law_575 rfl (lv_at hl 0 rfl) ?_
  refine lv_iload hx hb dL_law_576 (lv_at hl 4 rfl) ?_
  refine lv_iconst (v := 1) hx hb dL_law_578 (by decide) ?_
  refine lv_iadd hx hb dL_law_579 ?_
  refine lv_topi (fun v_ ev_ => ?_)
  obtain rfl : v_ = 1 := ev_.trans (by decide)
  refine va_sld hx hb hX hbl hbA hS (by unfold vp_in; decide) dL_law_580 ?_
  refine lv_aload_n hx hb dL_law_581 rfl (lv_at hl 0 rfl) ?_
  refine lv_iload hx hb dL_law_582 (lv_at hl 4 rfl) ?_
  refine lv_iconst (v := 2) hx hb dL_law_584 (by decide) ?_
  refine lv_iadd hx hb dL_law_585 ?_
  refine lv_topi (fun v_ ev_ => ?_)
  obtain rfl : v_ = 2 := ev_.trans (by decide)
  refine va_sld hx hb hX hbl hbA hS (by unfold vp_in; decide) dL_law_586 ?_
  have hPc := hP.sub (ws' := [(h0, .inr (4, [.ref kO, .ref nO, .ref rO, .ref mO, .int 0, .ref tO, .ref rdO, .ref lnO, .ref drO, .ref chO])), (lnO, .inr (1, [.ref lgF, .ref lgK, .ref lgT, .ref lgC, .ref lgM, .int 0, .ref leF, .ref leC, .ref leM, .int 0, .ref lhopA]))]) [0, 1] rfl
  have hDc := hD.sub (ws' := [(h0, .inr (4, [.ref kO, .ref nO, .ref rO, .ref mO, .int 0, .ref tO, .ref rdO, .ref lnO, .ref drO, .ref chO])), (lnO, .inr (1, [.ref lgF, .ref lgK, .ref lgT, .ref lgC, .ref lgM, .int 0, .ref leF, .ref leC, .ref leM, .int 0, .ref lhopA]))]) [0, 1] (by decide) rfl
  have hFc := va_free (wc := [(h0, .inr (4, [.ref kO, .ref nO, .ref rO, .ref mO, .int 0, .ref tO, .ref rdO, .ref lnO, .ref drO, .ref chO])), (lnO, .inr (1, [.ref lgF, .ref lgK, .ref lgT, .ref lgC, .ref lgM, .int 0, .ref leF, .ref leC, .ref leM, .int 0, .ref lhopA]))]) hD hS hA [0, 1] rfl
  refine va_calli (va_runV (As := [.int (xs (1 : Int32).toNatClampNeg), .int (xs (2 : Int32).toNatClampNeg)]) (rest := []) ⟨hx, hb, hml, hown, hts⟩ (k_go l dC dI cI cZ cC cJ H.size h0 kO nO rO mO tO rdO lnO drO chO lgF lgK lgT lgC lgM leF leC leM lhopA (xs (1 : Int32).toNatClampNeg) (xs (2 : Int32).toNatClampNeg) ) (cwV 2 hts gL_law_X4_go rfl rfl rfl (by decide +kernel) ⟨Nat.le_of_ble_eq_true rfl, Nat.le_of_ble_eq_true rfl⟩) ⟨sPre_blind, va_recv hK hPc (ci := 4) (q0 := 0) rfl rfl, fun U hU hW => ⟨rfl, sPre_ok hsk hPc hDc hU hW⟩⟩ rfl rfl hl.1 rfl (lv_room (Nat.le_of_ble_eq_true rfl)) dL_law_587 ⟨(show 59 + 0 ≤ 62 by omega), (show 19804 + 0 ≤ 19826 by omega)⟩) hS (fun q _ h => hFc q h) hFc (fun r_1 u t H1 locs ht hvm hw hB hz1 hk1 hS => ?_)
  try dsimp only at hw hB
  have hw_2 := hw
  obtain rfl : r_1 = (-1) := hw_2
  obtain ⟨hP1, hD1⟩ := hB
  rw [ht] at hP1
  obtain ⟨hP, hD⟩ := va_join (wr := [(m0, .inr (5, [.int 0, .ref Mtape, .int 0, .int 0, .ref Msort, .ref Mplace, .ref Mvalue, .int 0, .int 0, .ref Mwords, .int 0, .int 0, .ref Mgoes, .ref MgoLine, .ref Mends, .ref MendLine, .ref Mkinds, .ref MisName, .int 0, .ref Mrow, .ref MbyHand, .ref Mleast, .ref Msecond, .ref MendAt, .ref MgoAt, .ref MnodeBehind, .int 0, .ref MisOut, .ref MfirstEnd, .ref MfirstGo])), (Mgoes, .inl (cI, 2, .inl (fun _ => 0)))]) (w1 := []) hP hD [0, 1] [2, 3] rfl rfl (by decide) (by decide) hk1 hFc hP1 hD1
  generalize H1 = H at hP hS ⊢
  have hP : va_P (dC, dI) vwCl [(m0, .inr (5, [.int 0, .ref Mtape, .int 0, .int 0, .ref Msort, .ref Mplace, .ref Mvalue, .int 0, .int 0, .ref Mwords, .int 0, .int 0, .ref Mgoes, .ref MgoLine, .ref Mends, .ref MendLine, .ref Mkinds, .ref MisName, .int 0, .ref Mrow, .ref MbyHand, .ref Mleast, .ref Msecond, .ref MendAt, .ref MgoAt, .ref MnodeBehind, .int 0, .ref MisOut, .ref MfirstEnd, .ref MfirstGo])), (Mgoes, .inl (cI, 2, .inl (fun _ => 0)))] H := hP
  have hD : va_D A [(m0, .inr (5, [.int 0, .ref Mtape, .int 0, .int 0, .ref Msort, .ref Mplace, .ref Mvalue, .int 0, .int 0, .ref Mwords, .int 0, .int 0, .ref Mgoes, .ref MgoLine, .ref Mends, .ref MendLine, .ref Mkinds, .ref MisName, .int 0, .ref Mrow, .ref MbyHand, .ref Mleast, .ref Msecond, .ref MendAt, .ref MgoAt, .ref MnodeBehind, .int 0, .ref MisOut, .ref MfirstEnd, .ref MfirstGo])), (Mgoes, .inl (cI, 2, .inl (fun _ => 0)))] := hD
  refine lv_aload_n hx hb dL_law_590 rfl (lv_at hl 2 rfl) ?_
  refine lv_aload_n hx hb dL_law_591 rfl (lv_at hl 0 rfl) ?_
  refine lv_iload hx hb dL_law_592 (lv_at hl 4 rfl) ?_
  refine lv_iconst (v := 1) hx hb dL_law_594 (by decide) ?_
  refine lv_iadd hx hb dL_law_595 ?_
  refine lv_topi (fun v_ ev_ => ?_)
  obtain rfl : v_ = 1 := ev_.trans (by decide)
  refine va_sld hx hb hX hbl hbA hS (by unfold vp_in; decide) dL_law_596 ?_
  refine lv_aload_n hx hb dL_law_597 rfl (lv_at hl 0 rfl) ?_
  refine lv_iload hx hb dL_law_598 (lv_at hl 4 rfl) ?_
  refine lv_iconst (v := 2) hx hb dL_law_600 (by decide) ?_
  refine lv_iadd hx hb dL_law_601 ?_
  refine lv_topi (fun v_ ev_ => ?_)
  obtain rfl : v_ = 2 := ev_.trans (by decide)
  refine va_sld hx hb hX hbl hbA hS (by unfold vp_in; decide) dL_law_602 ?_
  have hPc := hP.sub (ws' := [(m0, .inr (5, [.int 0, .ref Mtape, .int 0, .int 0, .ref Msort, .ref Mplace, .ref Mvalue, .int 0, .int 0, .ref Mwords, .int 0, .int 0, .ref Mgoes, .ref MgoLine, .ref Mends, .ref MendLine, .ref Mkinds, .ref MisName, .int 0, .ref Mrow, .ref MbyHand, .ref Mleast, .ref Msecond, .ref MendAt, .ref MgoAt, .ref MnodeBehind, .int 0, .ref MisOut, .ref MfirstEnd, .ref MfirstGo])), (Mgoes, .inl (cI, 2, .inl (fun _ => 0)))]) [0, 1] rfl
  have hDc := hD.sub (ws' := [(m0, .inr (5, [.int 0, .ref Mtape, .int 0, .int 0, .ref Msort, .ref Mplace, .ref Mvalue, .int 0, .int 0, .ref Mwords, .int 0, .int 0, .ref Mgoes, .ref MgoLine, .ref Mends, .ref MendLine, .ref Mkinds, .ref MisName, .int 0, .ref Mrow, .ref MbyHand, .ref Mleast, .ref Msecond, .ref MendAt, .ref MgoAt, .ref MnodeBehind, .int 0, .ref MisOut, .ref MfirstEnd, .ref MfirstGo])), (Mgoes, .inl (cI, 2, .inl (fun _ => 0)))]) [0, 1] (by decide) rfl
  have hFc := va_free (wc := [(m0, .inr (5, [.int 0, .ref Mtape, .int 0, .int 0, .ref Msort, .ref Mplace, .ref Mvalue, .int 0, .int 0, .ref Mwords, .int 0, .int 0, .ref Mgoes, .ref MgoLine, .ref Mends, .ref MendLine, .ref Mkinds, .ref MisName, .int 0, .ref Mrow, .ref MbyHand, .ref Mleast, .ref Msecond, .ref MendAt, .ref MgoAt, .ref MnodeBehind, .int 0, .ref MisOut, .ref MfirstEnd, .ref MfirstGo])), (Mgoes, .inl (cI, 2, .inl (fun _ => 0)))]) hD hS hA [0, 1] rfl
  refine va_calli (va_runV (As := [.int (xs (1 : Int32).toNatClampNeg), .int (xs (2 : Int32).toNatClampNeg)]) (rest := [.int (-1)]) ⟨hx, hb, hml, hown, hts⟩ (k_mgo l dC dI cI cZ cC cJ H.size m0 Mtape Msort Mplace Mvalue Mwords Mgoes MgoLine Mends MendLine Mkinds MisName Mrow MbyHand Mleast Msecond MendAt MgoAt MnodeBehind MisOut MfirstEnd MfirstGo (xs (1 : Int32).toNatClampNeg) (xs (2 : Int32).toNatClampNeg) ) (cwV 2 hts gL_law_X5_go rfl rfl rfl (by decide +kernel) ⟨Nat.le_of_ble_eq_true rfl, Nat.le_of_ble_eq_true rfl⟩) ⟨sPre_blind, va_recv hK hPc (ci := 5) (q0 := 0) rfl rfl, fun U hU hW => ⟨rfl, sPre_ok hsk hPc hDc hU hW⟩⟩ rfl rfl hl.1 rfl (lv_room (Nat.le_of_ble_eq_true rfl)) dL_law_603 ⟨(show 59 + 0 ≤ 62 by omega), (show 19804 + 0 ≤ 19826 by omega)⟩) hS (fun q _ h => hFc q h) hFc (fun r_3 u t H1 locs ht hvm hw hB hz1 hk1 hS => ?_)
  try dsimp only at hw hB
  have hw_4 := hw
  obtain rfl : r_3 = (-1) := hw_4
  obtain ⟨hP1, hD1⟩ := hB
  rw [ht] at hP1
  obtain ⟨hP, hD⟩ := va_join (wr := []) (w1 := []) hP hD [0, 1] [] rfl rfl (by decide) (by decide) hk1 hFc hP1 hD1
  generalize H1 = H at hP hS ⊢
  have hP : va_P (dC, dI) vwCl [] H := hP
  have hD : va_D A [] := hD
  refine lv_icmp_eq (tgt := 636) hx hb dL_law_606 (by decide) (fun _ => ?_) (fun h9 => absurd (by decide) h9)
  refine lv_iinc (v := 7) (lv' := [(4, .int 7), (0, .ref b), (1, .ref h0), (2, .ref m0), (3, .ref o0)]) hx hb dL_law_636 hl (k := 4) rfl (by decide) (by decide) rfl (fun ls hl => ?_)
  refine lv_goto (tgt := 23) hx hb dL_law_639 (by decide) ?_
  refine lv_iload hx hb dL_law_23 (lv_at hl 0 rfl) ?_
  refine lv_aload_n hx hb dL_law_25 rfl (lv_at hl 1 rfl) ?_
  refine va_slen hx hb hX hbl hbA hS dL_law_26 ?_
  refine lv_topi (fun v_ ev_ => ?_)
  obtain rfl : v_ = 7 := ev_.trans (by decide)
  refine lv_bipush (v := 7) hx hb dL_law_27 (by decide) ?_
  refine lv_isub hx hb dL_law_29 ?_
  refine lv_topi (fun v_ ev_ => ?_)
  obtain rfl : v_ = 0 := ev_.trans (by decide)
  refine lv_icmp_gt (tgt := 642) hx hb dL_law_30 (by decide) (fun _ => ?_) (fun h9 => absurd (by decide) h9)
  refine lv_iconst (v := 1) hx hb dL_law_642 (by decide) ?_
  refine va_forget (fun q hq => hAf _ (hS.2.2 q hq)) ?_
  refine W.widen (k := 62) (n := 19826) (by omega) (by omega) ?_
  exact lw_ret hx hb hr hlocks dL_law_643
set_option maxHeartbeats 4000000 in
set_option maxRecDepth 100000 in
theorem lc_611 {p : Program} {l : Launch} {e : Env} {s : State} {m : MethodId} {below : List Frame} {meth : Method} {c : Code} {b : Nat} {xs : Nat → Int32} {A : Nat → Prop} (dC : Nat → ClassId) (dI : Nat → Nat → Nat) (cI cZ cC cJ : ClassId) (hx : p.tables.exec = Jvm.exec) (hb : c.code = cL_law) (hr : meth.sig.returnType = ret) (hml : c.maxLocals = 7) (hown : s.vm.findClass RL = some m.cls) (hts : ∀ w ∈ wsL_law, w.before #[Value.ref b] s = true) (hX : va_X b 7 xs s s.heap) (hbl : b < s.heap.size) (hlocks : meth.locks = false) (hsk : sk dC dI cI cZ cC cJ s) (hA : ∀ q : Nat, s.heap.size ≤ q → A q) (hAf : ∀ q : Nat, A q → s.heap.size ≤ q) (hbA : ¬ A b) (h0 kO nO rO mO tO rdO lnO drO chO sA lgF lgK lgT lgC lgM leF leC leM lhopA m0 Mtape Msort Mplace Mvalue Mwords Mgoes MgoLine Mends MendLine Mkinds MisName Mrow MbyHand Mleast Msecond MendAt MgoAt MnodeBehind MisOut MfirstEnd MfirstGo o0 : Nat)  : ∀ (H : Heap) (locs : List Loc) (ls : Array Slot), va_P (dC, dI) vwCl [(h0, .inr (4, [.ref kO, .ref nO, .ref rO, .ref mO, .int 0, .ref tO, .ref rdO, .ref lnO, .ref drO, .ref chO])), (tO, .inr (3, [.ref sA, .int 0])), (lnO, .inr (1, [.ref lgF, .ref lgK, .ref lgT, .ref lgC, .ref lgM, .int 0, .ref leF, .ref leC, .ref leM, .int 0, .ref lhopA])), (m0, .inr (5, [.int 0, .ref Mtape, .int 0, .int 0, .ref Msort, .ref Mplace, .ref Mvalue, .int 0, .int 0, .ref Mwords, .int 0, .int 0, .ref Mgoes, .ref MgoLine, .ref Mends, .ref MendLine, .ref Mkinds, .ref MisName, .int 0, .ref Mrow, .ref MbyHand, .ref Mleast, .ref Msecond, .ref MendAt, .ref MgoAt, .ref MnodeBehind, .int 0, .ref MisOut, .ref MfirstEnd, .ref MfirstGo])), (Mgoes, .inl (cI, 2, .inl (fun _ => 0))), (Mends, .inl (cI, 2, .inl (fun _ => 0)))] H → va_D A [(h0, .inr (4, [.ref kO, .ref nO, .ref rO, .ref mO, .int 0, .ref tO, .ref rdO, .ref lnO, .ref drO, .ref chO])), (tO, .inr (3, [.ref sA, .int 0])), (lnO, .inr (1, [.ref lgF, .ref lgK, .ref lgT, .ref lgC, .ref lgM, .int 0, .ref leF, .ref leC, .ref leM, .int 0, .ref lhopA])), (m0, .inr (5, [.int 0, .ref Mtape, .int 0, .int 0, .ref Msort, .ref Mplace, .ref Mvalue, .int 0, .int 0, .ref Mwords, .int 0, .int 0, .ref Mgoes, .ref MgoLine, .ref Mends, .ref MendLine, .ref Mkinds, .ref MisName, .int 0, .ref Mrow, .ref MbyHand, .ref Mleast, .ref Msecond, .ref MendAt, .ref MgoAt, .ref MnodeBehind, .int 0, .ref MisOut, .ref MfirstEnd, .ref MfirstGo])), (Mgoes, .inl (cI, 2, .inl (fun _ => 0))), (Mends, .inl (cI, 2, .inl (fun _ => 0)))] → va_S A s.heap H locs → lv_has ls 7 [(0, .ref b), (1, .ref h0), (2, .ref m0), (3, .ref o0), (4, .int 0)] → W p l e room_1 s m #[Value.ref b] below meth c H locs 59 19804 (lw_Z below #[Value.ref b] s) (F0 m 611 ls []) := by
  intro H locs ls hP hD hS hl
  have hK := hsk.1
  refine lv_aload_n hx hb dL_law_611 rfl (lv_at hl 1 rfl) ?_
  refine lv_aload_n hx hb dL_law_612 rfl (lv_at hl 0 rfl) ?_
  refine lv_iload hx hb dL_law_613 (lv_at hl 4 rfl) ?_
  refine lv_iconst (v := 1) hx hb dL_law_615 (by decide) ?_
  refine lv_iadd hx hb dL_law_616 ?_
  refine lv_topi (fun v_ ev_ => ?_)
  obtain rfl : v_ = 1 := ev_.trans (by decide)
  refine va_sld hx hb hX hbl hbA hS (by unfold vp_in; decide) dL_law_617 ?_
  have hPc := hP.sub (ws' := [(h0, .inr (4, [.ref kO, .ref nO, .ref rO, .ref mO, .int 0, .ref tO, .ref rdO, .ref lnO, .ref drO, .ref chO])), (lnO, .inr (1, [.ref lgF, .ref lgK, .ref lgT, .ref lgC, .ref lgM, .int 0, .ref leF, .ref leC, .ref leM, .int 0, .ref lhopA])), (tO, .inr (3, [.ref sA, .int 0]))]) [0, 2, 1] rfl
  have hDc := hD.sub (ws' := [(h0, .inr (4, [.ref kO, .ref nO, .ref rO, .ref mO, .int 0, .ref tO, .ref rdO, .ref lnO, .ref drO, .ref chO])), (lnO, .inr (1, [.ref lgF, .ref lgK, .ref lgT, .ref lgC, .ref lgM, .int 0, .ref leF, .ref leC, .ref leM, .int 0, .ref lhopA])), (tO, .inr (3, [.ref sA, .int 0]))]) [0, 2, 1] (by decide) rfl
  have hFc := va_free (wc := [(h0, .inr (4, [.ref kO, .ref nO, .ref rO, .ref mO, .int 0, .ref tO, .ref rdO, .ref lnO, .ref drO, .ref chO])), (lnO, .inr (1, [.ref lgF, .ref lgK, .ref lgT, .ref lgC, .ref lgM, .int 0, .ref leF, .ref leC, .ref leM, .int 0, .ref lhopA])), (tO, .inr (3, [.ref sA, .int 0]))]) hD hS hA [0, 2, 1] rfl
  refine va_calli (va_runV (As := [.int (xs (1 : Int32).toNatClampNeg)]) (rest := []) ⟨hx, hb, hml, hown, hts⟩ (k_count l dC dI cI cZ cC cJ H.size h0 kO nO rO mO tO rdO lnO drO chO lgF lgK lgT lgC lgM leF leC leM lhopA sA (xs (1 : Int32).toNatClampNeg) ) (cwV 1 hts gL_law_X4_count rfl rfl rfl (by decide +kernel) ⟨Nat.le_of_ble_eq_true rfl, Nat.le_of_ble_eq_true rfl⟩) ⟨sPre_blind, va_recv hK hPc (ci := 4) (q0 := 0) rfl rfl, fun U hU hW => ⟨rfl, sPre_ok hsk hPc hDc hU hW⟩⟩ rfl rfl hl.1 rfl (lv_room (Nat.le_of_ble_eq_true rfl)) dL_law_618 ⟨(show 59 + 0 ≤ 62 by omega), (show 19804 + 0 ≤ 19826 by omega)⟩) hS (fun q _ h => hFc q h) hFc (fun r_1 u t H1 locs ht hvm hw hB hz1 hk1 hS => ?_)
  try dsimp only at hw hB
  have hw_2 := hw
  obtain rfl : r_1 = rCount (xs (1 : Int32).toNatClampNeg) := hw_2
  obtain ⟨hP1, hD1⟩ := hB
  rw [ht] at hP1
  obtain ⟨hP, hD⟩ := va_join (wr := [(m0, .inr (5, [.int 0, .ref Mtape, .int 0, .int 0, .ref Msort, .ref Mplace, .ref Mvalue, .int 0, .int 0, .ref Mwords, .int 0, .int 0, .ref Mgoes, .ref MgoLine, .ref Mends, .ref MendLine, .ref Mkinds, .ref MisName, .int 0, .ref Mrow, .ref MbyHand, .ref Mleast, .ref Msecond, .ref MendAt, .ref MgoAt, .ref MnodeBehind, .int 0, .ref MisOut, .ref MfirstEnd, .ref MfirstGo])), (Mgoes, .inl (cI, 2, .inl (fun _ => 0))), (Mends, .inl (cI, 2, .inl (fun _ => 0)))]) (w1 := []) hP hD [0, 2, 1] [3, 4, 5] rfl rfl (by decide) (by decide) hk1 hFc hP1 hD1
  generalize H1 = H at hP hS ⊢
  have hP : va_P (dC, dI) vwCl [(m0, .inr (5, [.int 0, .ref Mtape, .int 0, .int 0, .ref Msort, .ref Mplace, .ref Mvalue, .int 0, .int 0, .ref Mwords, .int 0, .int 0, .ref Mgoes, .ref MgoLine, .ref Mends, .ref MendLine, .ref Mkinds, .ref MisName, .int 0, .ref Mrow, .ref MbyHand, .ref Mleast, .ref Msecond, .ref MendAt, .ref MgoAt, .ref MnodeBehind, .int 0, .ref MisOut, .ref MfirstEnd, .ref MfirstGo])), (Mgoes, .inl (cI, 2, .inl (fun _ => 0))), (Mends, .inl (cI, 2, .inl (fun _ => 0)))] H := hP
  have hD : va_D A [(m0, .inr (5, [.int 0, .ref Mtape, .int 0, .int 0, .ref Msort, .ref Mplace, .ref Mvalue, .int 0, .int 0, .ref Mwords, .int 0, .int 0, .ref Mgoes, .ref MgoLine, .ref Mends, .ref MendLine, .ref Mkinds, .ref MisName, .int 0, .ref Mrow, .ref MbyHand, .ref Mleast, .ref Msecond, .ref MendAt, .ref MgoAt, .ref MnodeBehind, .int 0, .ref MisOut, .ref MfirstEnd, .ref MfirstGo])), (Mgoes, .inl (cI, 2, .inl (fun _ => 0))), (Mends, .inl (cI, 2, .inl (fun _ => 0)))] := hD
  refine lv_aload_n hx hb dL_law_621 rfl (lv_at hl 2 rfl) ?_
  refine lv_aload_n hx hb dL_law_622 rfl (lv_at hl 0 rfl) ?_
  refine lv_iload hx hb dL_law_623 (lv_at hl 4 rfl) ?_
  refine lv_iconst (v := 1) hx hb dL_law_625 (by decide) ?_
  refine lv_iadd hx hb dL_law_626 ?_
  refine lv_topi (fun v_ ev_ => ?_)
  obtain rfl : v_ = 1 := ev_.trans (by decide)
  refine va_sld hx hb hX hbl hbA hS (by unfold vp_in; decide) dL_law_627 ?_
  have hPc := hP.sub (ws' := [(m0, .inr (5, [.int 0, .ref Mtape, .int 0, .int 0, .ref Msort, .ref Mplace, .ref Mvalue, .int 0, .int 0, .ref Mwords, .int 0, .int 0, .ref Mgoes, .ref MgoLine, .ref Mends, .ref MendLine, .ref Mkinds, .ref MisName, .int 0, .ref Mrow, .ref MbyHand, .ref Mleast, .ref Msecond, .ref MendAt, .ref MgoAt, .ref MnodeBehind, .int 0, .ref MisOut, .ref MfirstEnd, .ref MfirstGo])), (Mgoes, .inl (cI, 2, .inl (fun _ => 0))), (Mends, .inl (cI, 2, .inl (fun _ => 0)))]) [0, 1, 2] rfl
  have hDc := hD.sub (ws' := [(m0, .inr (5, [.int 0, .ref Mtape, .int 0, .int 0, .ref Msort, .ref Mplace, .ref Mvalue, .int 0, .int 0, .ref Mwords, .int 0, .int 0, .ref Mgoes, .ref MgoLine, .ref Mends, .ref MendLine, .ref Mkinds, .ref MisName, .int 0, .ref Mrow, .ref MbyHand, .ref Mleast, .ref Msecond, .ref MendAt, .ref MgoAt, .ref MnodeBehind, .int 0, .ref MisOut, .ref MfirstEnd, .ref MfirstGo])), (Mgoes, .inl (cI, 2, .inl (fun _ => 0))), (Mends, .inl (cI, 2, .inl (fun _ => 0)))]) [0, 1, 2] (by decide) rfl
  have hFc := va_free (wc := [(m0, .inr (5, [.int 0, .ref Mtape, .int 0, .int 0, .ref Msort, .ref Mplace, .ref Mvalue, .int 0, .int 0, .ref Mwords, .int 0, .int 0, .ref Mgoes, .ref MgoLine, .ref Mends, .ref MendLine, .ref Mkinds, .ref MisName, .int 0, .ref Mrow, .ref MbyHand, .ref Mleast, .ref Msecond, .ref MendAt, .ref MgoAt, .ref MnodeBehind, .int 0, .ref MisOut, .ref MfirstEnd, .ref MfirstGo])), (Mgoes, .inl (cI, 2, .inl (fun _ => 0))), (Mends, .inl (cI, 2, .inl (fun _ => 0)))]) hD hS hA [0, 1, 2] rfl
  refine va_calli (va_runV (As := [.int (xs (1 : Int32).toNatClampNeg)]) (rest := [.int (rCount (xs (1 : Int32).toNatClampNeg))]) ⟨hx, hb, hml, hown, hts⟩ (k_mcount l dC dI cI cZ cC cJ H.size m0 Mtape Msort Mplace Mvalue Mwords Mgoes MgoLine Mends MendLine Mkinds MisName Mrow MbyHand Mleast Msecond MendAt MgoAt MnodeBehind MisOut MfirstEnd MfirstGo (xs (1 : Int32).toNatClampNeg) ) (cwV 1 hts gL_law_X5_count rfl rfl rfl (by decide +kernel) ⟨Nat.le_of_ble_eq_true rfl, Nat.le_of_ble_eq_true rfl⟩) ⟨sPre_blind, va_recv hK hPc (ci := 5) (q0 := 0) rfl rfl, fun U hU hW => ⟨rfl, sPre_ok hsk hPc hDc hU hW⟩⟩ rfl rfl hl.1 rfl (lv_room (Nat.le_of_ble_eq_true rfl)) dL_law_628 ⟨(show 59 + 0 ≤ 62 by omega), (show 19804 + 0 ≤ 19826 by omega)⟩) hS (fun q _ h => hFc q h) hFc (fun r_3 u t H1 locs ht hvm hw hB hz1 hk1 hS => ?_)
  try dsimp only at hw hB
  have hw_4 := hw
  obtain rfl : r_3 = rCount (xs (1 : Int32).toNatClampNeg) := hw_4
  obtain ⟨hP1, hD1⟩ := hB
  rw [ht] at hP1
  obtain ⟨hP, hD⟩ := va_join (wr := []) (w1 := []) hP hD [0, 1, 2] [] rfl rfl (by decide) (by decide) hk1 hFc hP1 hD1
  generalize H1 = H at hP hS ⊢
  have hP : va_P (dC, dI) vwCl [] H := hP
  have hD : va_D A [] := hD
  refine lv_icmp_eq (tgt := 636) hx hb dL_law_631 (by decide) (fun _ => ?_) (fun h9 => absurd rfl h9)
  refine lv_iinc (v := 7) (lv' := [(4, .int 7), (0, .ref b), (1, .ref h0), (2, .ref m0), (3, .ref o0)]) hx hb dL_law_636 hl (k := 4) rfl (by decide) (by decide) rfl (fun ls hl => ?_)
  refine lv_goto (tgt := 23) hx hb dL_law_639 (by decide) ?_
  refine lv_iload hx hb dL_law_23 (lv_at hl 0 rfl) ?_
  refine lv_aload_n hx hb dL_law_25 rfl (lv_at hl 1 rfl) ?_
  refine va_slen hx hb hX hbl hbA hS dL_law_26 ?_
  refine lv_topi (fun v_ ev_ => ?_)
  obtain rfl : v_ = 7 := ev_.trans (by decide)
  refine lv_bipush (v := 7) hx hb dL_law_27 (by decide) ?_
  refine lv_isub hx hb dL_law_29 ?_
  refine lv_topi (fun v_ ev_ => ?_)
  obtain rfl : v_ = 0 := ev_.trans (by decide)
  refine lv_icmp_gt (tgt := 642) hx hb dL_law_30 (by decide) (fun _ => ?_) (fun h9 => absurd (by decide) h9)
  refine lv_iconst (v := 1) hx hb dL_law_642 (by decide) ?_
  refine va_forget (fun q hq => hAf _ (hS.2.2 q hq)) ?_
  refine W.widen (k := 62) (n := 19826) (by omega) (by omega) ?_
  exact lw_ret hx hb hr hlocks dL_law_643
set_option maxHeartbeats 4000000 in
set_option maxRecDepth 100000 in
theorem lc_636 {p : Program} {l : Launch} {e : Env} {s : State} {m : MethodId} {below : List Frame} {meth : Method} {c : Code} {b : Nat} {xs : Nat → Int32} {A : Nat → Prop} (dC : Nat → ClassId) (dI : Nat → Nat → Nat) (cI cZ cC cJ : ClassId) (hx : p.tables.exec = Jvm.exec) (hb : c.code = cL_law) (hr : meth.sig.returnType = ret) (hml : c.maxLocals = 7) (hown : s.vm.findClass RL = some m.cls) (hts : ∀ w ∈ wsL_law, w.before #[Value.ref b] s = true) (hX : va_X b 7 xs s s.heap) (hbl : b < s.heap.size) (hlocks : meth.locks = false) (hsk : sk dC dI cI cZ cC cJ s) (hA : ∀ q : Nat, s.heap.size ≤ q → A q) (hAf : ∀ q : Nat, A q → s.heap.size ≤ q) (hbA : ¬ A b) (h0 kO nO rO mO tO rdO lnO drO chO m0 Mtape Msort Mplace Mvalue Mwords Mgoes MgoLine Mends MendLine Mkinds MisName Mrow MbyHand Mleast Msecond MendAt MgoAt MnodeBehind MisOut MfirstEnd MfirstGo o0 : Nat)  : ∀ (H : Heap) (locs : List Loc) (ls : Array Slot), va_P (dC, dI) vwCl [(h0, .inr (4, [.ref kO, .ref nO, .ref rO, .ref mO, .int 0, .ref tO, .ref rdO, .ref lnO, .ref drO, .ref chO])), (m0, .inr (5, [.int 0, .ref Mtape, .int 0, .int 0, .ref Msort, .ref Mplace, .ref Mvalue, .int 0, .int 0, .ref Mwords, .int 0, .int 0, .ref Mgoes, .ref MgoLine, .ref Mends, .ref MendLine, .ref Mkinds, .ref MisName, .int 0, .ref Mrow, .ref MbyHand, .ref Mleast, .ref Msecond, .ref MendAt, .ref MgoAt, .ref MnodeBehind, .int 0, .ref MisOut, .ref MfirstEnd, .ref MfirstGo]))] H → va_D A [(h0, .inr (4, [.ref kO, .ref nO, .ref rO, .ref mO, .int 0, .ref tO, .ref rdO, .ref lnO, .ref drO, .ref chO])), (m0, .inr (5, [.int 0, .ref Mtape, .int 0, .int 0, .ref Msort, .ref Mplace, .ref Mvalue, .int 0, .int 0, .ref Mwords, .int 0, .int 0, .ref Mgoes, .ref MgoLine, .ref Mends, .ref MendLine, .ref Mkinds, .ref MisName, .int 0, .ref Mrow, .ref MbyHand, .ref Mleast, .ref Msecond, .ref MendAt, .ref MgoAt, .ref MnodeBehind, .int 0, .ref MisOut, .ref MfirstEnd, .ref MfirstGo]))] → va_S A s.heap H locs → lv_has ls 7 [(0, .ref b), (1, .ref h0), (2, .ref m0), (3, .ref o0), (4, .int 0)] → W p l e room_1 s m #[Value.ref b] below meth c H locs 59 19804 (lw_Z below #[Value.ref b] s) (F0 m 636 ls []) := by
  intro H locs ls hP hD hS hl
  have hK := hsk.1
  refine lv_iinc (v := 7) (lv' := [(4, .int 7), (0, .ref b), (1, .ref h0), (2, .ref m0), (3, .ref o0)]) hx hb dL_law_636 hl (k := 4) rfl (by decide) (by decide) rfl (fun ls hl => ?_)
  refine lv_goto (tgt := 23) hx hb dL_law_639 (by decide) ?_
  refine lv_iload hx hb dL_law_23 (lv_at hl 0 rfl) ?_
  refine lv_aload_n hx hb dL_law_25 rfl (lv_at hl 1 rfl) ?_
  refine va_slen hx hb hX hbl hbA hS dL_law_26 ?_
  refine lv_topi (fun v_ ev_ => ?_)
  obtain rfl : v_ = 7 := ev_.trans (by decide)
  refine lv_bipush (v := 7) hx hb dL_law_27 (by decide) ?_
  refine lv_isub hx hb dL_law_29 ?_
  refine lv_topi (fun v_ ev_ => ?_)
  obtain rfl : v_ = 0 := ev_.trans (by decide)
  refine lv_icmp_gt (tgt := 642) hx hb dL_law_30 (by decide) (fun _ => ?_) (fun h9 => absurd (by decide) h9)
  refine lv_iconst (v := 1) hx hb dL_law_642 (by decide) ?_
  refine va_forget (fun q hq => hAf _ (hS.2.2 q hq)) ?_
  refine W.widen (k := 62) (n := 19826) (by omega) (by omega) ?_
  exact lw_ret hx hb hr hlocks dL_law_643
set_option maxHeartbeats 4000000 in
set_option maxRecDepth 100000 in
theorem lc_467 {p : Program} {l : Launch} {e : Env} {s : State} {m : MethodId} {below : List Frame} {meth : Method} {c : Code} {b : Nat} {xs : Nat → Int32} {A : Nat → Prop} (dC : Nat → ClassId) (dI : Nat → Nat → Nat) (cI cZ cC cJ : ClassId) (hx : p.tables.exec = Jvm.exec) (hb : c.code = cL_law) (hr : meth.sig.returnType = ret) (hml : c.maxLocals = 7) (hown : s.vm.findClass RL = some m.cls) (hts : ∀ w ∈ wsL_law, w.before #[Value.ref b] s = true) (hX : va_X b 7 xs s s.heap) (hbl : b < s.heap.size) (hlocks : meth.locks = false) (hsk : sk dC dI cI cZ cC cJ s) (hA : ∀ q : Nat, s.heap.size ≤ q → A q) (hAf : ∀ q : Nat, A q → s.heap.size ≤ q) (hbA : ¬ A b) (hst : l.stackTraces = false) (hxw : xW A s) (h0 kO nO rO mO tO rdO lnO drO chO bA xA kA aA eA gA oA m0 Mtape Msort Mplace Mvalue Mwords Mgoes MgoLine Mends MendLine Mkinds MisName Mrow MbyHand Mleast Msecond MendAt MgoAt MnodeBehind MisOut MfirstEnd MfirstGo o0 : Nat) : ∀ (H : Heap) (locs : List Loc) (ls : Array Slot), va_P (dC, dI) vwCl [(h0, .inr (4, [.ref kO, .ref nO, .ref rO, .ref mO, .int 0, .ref tO, .ref rdO, .ref lnO, .ref drO, .ref chO])), (chO, .inr (0, [.ref bA, .ref xA, .ref kA, .ref aA, .ref eA, .ref gA, .ref oA, .int 0, .int 1000000000, .int 1000000000, .int 0, .int 0])), (m0, .inr (5, [.int 0, .ref Mtape, .int 0, .int 0, .ref Msort, .ref Mplace, .ref Mvalue, .int 0, .int 0, .ref Mwords, .int 0, .int 0, .ref Mgoes, .ref MgoLine, .ref Mends, .ref MendLine, .ref Mkinds, .ref MisName, .int 0, .ref Mrow, .ref MbyHand, .ref Mleast, .ref Msecond, .ref MendAt, .ref MgoAt, .ref MnodeBehind, .int 0, .ref MisOut, .ref MfirstEnd, .ref MfirstGo])), (o0, .inl (cJ, 1, .inr (.inl (fun _ => 0))))] H → va_D A [(h0, .inr (4, [.ref kO, .ref nO, .ref rO, .ref mO, .int 0, .ref tO, .ref rdO, .ref lnO, .ref drO, .ref chO])), (chO, .inr (0, [.ref bA, .ref xA, .ref kA, .ref aA, .ref eA, .ref gA, .ref oA, .int 0, .int 1000000000, .int 1000000000, .int 0, .int 0])), (m0, .inr (5, [.int 0, .ref Mtape, .int 0, .int 0, .ref Msort, .ref Mplace, .ref Mvalue, .int 0, .int 0, .ref Mwords, .int 0, .int 0, .ref Mgoes, .ref MgoLine, .ref Mends, .ref MendLine, .ref Mkinds, .ref MisName, .int 0, .ref Mrow, .ref MbyHand, .ref Mleast, .ref Msecond, .ref MendAt, .ref MgoAt, .ref MnodeBehind, .int 0, .ref MisOut, .ref MfirstEnd, .ref MfirstGo])), (o0, .inl (cJ, 1, .inr (.inl (fun _ => 0))))] → va_S A s.heap H locs → lv_has ls 7 [(0, .ref b), (1, .ref h0), (2, .ref m0), (3, .ref o0), (4, .int 0)] → W p l e room_1 s m #[Value.ref b] below meth c H locs 59 19804 (lw_Z below #[Value.ref b] s) (F0 m 467 ls []) := by
  intro H locs ls hP hD hS hl
  have hK := hsk.1
  refine lv_aload_n hx hb dL_law_467 rfl (lv_at hl 1 rfl) ?_
  refine lv_aload_n hx hb dL_law_468 rfl (lv_at hl 0 rfl) ?_
  refine lv_iload hx hb dL_law_469 (lv_at hl 4 rfl) ?_
  refine lv_iconst (v := 1) hx hb dL_law_471 (by decide) ?_
  refine lv_iadd hx hb dL_law_472 ?_
  refine lv_topi (fun v_ ev_ => ?_)
  obtain rfl : v_ = 1 := ev_.trans (by decide)
  refine va_sld hx hb hX hbl hbA hS (by unfold vp_in; decide) dL_law_473 ?_
  refine lv_aload_n hx hb dL_law_474 rfl (lv_at hl 0 rfl) ?_
  refine lv_iload hx hb dL_law_475 (lv_at hl 4 rfl) ?_
  refine lv_iconst (v := 2) hx hb dL_law_477 (by decide) ?_
  refine lv_iadd hx hb dL_law_478 ?_
  refine lv_topi (fun v_ ev_ => ?_)
  obtain rfl : v_ = 2 := ev_.trans (by decide)
  refine va_sld hx hb hX hbl hbA hS (by unfold vp_in; decide) dL_law_479 ?_
  refine lv_aload_n hx hb dL_law_480 rfl (lv_at hl 3 rfl) ?_
  have hPc := hP.sub (ws' := [(h0, .inr (4, [.ref kO, .ref nO, .ref rO, .ref mO, .int 0, .ref tO, .ref rdO, .ref lnO, .ref drO, .ref chO])), (chO, .inr (0, [.ref bA, .ref xA, .ref kA, .ref aA, .ref eA, .ref gA, .ref oA, .int 0, .int 1000000000, .int 1000000000, .int 0, .int 0])), (o0, .inl (cJ, 1, .inr (.inl (fun _ => 0))))]) [0, 1, 3] rfl
  have hDc := hD.sub (ws' := [(h0, .inr (4, [.ref kO, .ref nO, .ref rO, .ref mO, .int 0, .ref tO, .ref rdO, .ref lnO, .ref drO, .ref chO])), (chO, .inr (0, [.ref bA, .ref xA, .ref kA, .ref aA, .ref eA, .ref gA, .ref oA, .int 0, .int 1000000000, .int 1000000000, .int 0, .int 0])), (o0, .inl (cJ, 1, .inr (.inl (fun _ => 0))))]) [0, 1, 3] (by decide) rfl
  have hFc := va_free (wc := [(h0, .inr (4, [.ref kO, .ref nO, .ref rO, .ref mO, .int 0, .ref tO, .ref rdO, .ref lnO, .ref drO, .ref chO])), (chO, .inr (0, [.ref bA, .ref xA, .ref kA, .ref aA, .ref eA, .ref gA, .ref oA, .int 0, .int 1000000000, .int 1000000000, .int 0, .int 0])), (o0, .inl (cJ, 1, .inr (.inl (fun _ => 0))))]) hD hS hA [0, 1, 3] rfl
  refine va_calli (vx_runSW (As := [.ref h0, .int (xs (1 : Int32).toNatClampNeg), .int (xs (2 : Int32).toNatClampNeg), .ref o0]) (rest := []) ⟨hx, hb, hml, hown, hts⟩ (k_llook l hst dC dI cI cZ cC cJ H.size h0 kO nO rO mO tO rdO lnO drO chO bA xA kA aA eA gA oA o0 (fun _ => 0) (xs (1 : Int32).toNatClampNeg) (xs (2 : Int32).toNatClampNeg)) (vx_cwSW 4 hts gL_law_L_look rfl rfl rfl (by decide +kernel) ⟨Nat.le_of_ble_eq_true rfl, Nat.le_of_ble_eq_true rfl⟩) ⟨fun a U g mk q => ⟨q.1, (sPre_blind (av := []) #[] U g mk ⟨rfl, q.2.1⟩).2, xW_calling q.2.2⟩, fun U hU hW => ⟨rfl, sPre_ok hsk hPc hDc hU hW, xW_warm hW hU hS (fun q h => hFc q h) hxw⟩⟩ rfl rfl hl.1 rfl (lv_room (Nat.le_of_ble_eq_true rfl)) dL_law_481 ⟨show 59 + 1 ≤ 62 by omega, show 19804 + 6 ≤ 19826 by omega⟩) hS (fun q _ h => hFc q h) hFc (fun r_1 u t H1 locs ht hvm hw hB hz1 hk1 hS => ?_)
  obtain rfl : r_1 = 1 := hw
  have hP1 : va_P (dC, dI) vwCl [] H1 := fun k q h => by simp at h
  have hD1 : va_D (va_A [(h0, .inr (4, [.ref kO, .ref nO, .ref rO, .ref mO, .int 0, .ref tO, .ref rdO, .ref lnO, .ref drO, .ref chO])), (chO, .inr (0, [.ref bA, .ref xA, .ref kA, .ref aA, .ref eA, .ref gA, .ref oA, .int 0, .int 1000000000, .int 1000000000, .int 0, .int 0])), (o0, .inl (cJ, 1, .inr (.inl (fun _ => 0))))] H.size) [] := ⟨fun i j p q h => by simp at h, fun k q h => by simp at h⟩
  obtain ⟨hP, hD⟩ := va_join (wr := [(m0, .inr (5, [.int 0, .ref Mtape, .int 0, .int 0, .ref Msort, .ref Mplace, .ref Mvalue, .int 0, .int 0, .ref Mwords, .int 0, .int 0, .ref Mgoes, .ref MgoLine, .ref Mends, .ref MendLine, .ref Mkinds, .ref MisName, .int 0, .ref Mrow, .ref MbyHand, .ref Mleast, .ref Msecond, .ref MendAt, .ref MgoAt, .ref MnodeBehind, .int 0, .ref MisOut, .ref MfirstEnd, .ref MfirstGo]))]) (w1 := []) hP hD [0, 1, 3] [2] rfl rfl (by decide) (by decide) hk1 hFc hP1 hD1
  generalize H1 = H at hP hS ⊢
  have hP : va_P (dC, dI) vwCl [(m0, .inr (5, [.int 0, .ref Mtape, .int 0, .int 0, .ref Msort, .ref Mplace, .ref Mvalue, .int 0, .int 0, .ref Mwords, .int 0, .int 0, .ref Mgoes, .ref MgoLine, .ref Mends, .ref MendLine, .ref Mkinds, .ref MisName, .int 0, .ref Mrow, .ref MbyHand, .ref Mleast, .ref Msecond, .ref MendAt, .ref MgoAt, .ref MnodeBehind, .int 0, .ref MisOut, .ref MfirstEnd, .ref MfirstGo]))] H := hP
  have hD : va_D A [(m0, .inr (5, [.int 0, .ref Mtape, .int 0, .int 0, .ref Msort, .ref Mplace, .ref Mvalue, .int 0, .int 0, .ref Mwords, .int 0, .int 0, .ref Mgoes, .ref MgoLine, .ref Mends, .ref MendLine, .ref Mkinds, .ref MisName, .int 0, .ref Mrow, .ref MbyHand, .ref Mleast, .ref Msecond, .ref MendAt, .ref MgoAt, .ref MnodeBehind, .int 0, .ref MisOut, .ref MfirstEnd, .ref MfirstGo]))] := hD
  refine W.widen (k := 60) (n := 19810) (by omega) (by omega) ?_
  refine lv_istore (lv' := [(5, .int 1), (0, .ref b), (1, .ref h0), (2, .ref m0), (3, .ref o0), (4, .int 0)]) hx hb dL_law_484 hl (by decide) rfl (fun ls hl => ?_)
  refine lv_aload_n hx hb dL_law_486 rfl (lv_at hl 3 rfl) ?_
  refine lv_aload_n hx hb dL_law_487 rfl (lv_at hl 1 rfl) ?_
  refine lv_iload hx hb dL_law_488 (lv_at hl 5 rfl) ?_
  refine lv_iconst (v := 1) hx hb dL_law_490 (by decide) ?_
  refine lv_iadd hx hb dL_law_491 ?_
  refine lv_topi (fun v_ ev_ => ?_)
  obtain rfl : v_ = 1 := ev_.trans (by decide)
  refine va_sld hx hb hX hbl hbA hS (by unfold vp_in; decide) dL_law_492 ?_
  refine lv_aload_n hx hb dL_law_493 rfl (lv_at hl 1 rfl) ?_
  refine lv_iload hx hb dL_law_494 (lv_at hl 5 rfl) ?_
  refine lv_iconst (v := 2) hx hb dL_law_496 (by decide) ?_
  refine lv_iadd hx hb dL_law_497 ?_
  refine lv_topi (fun v_ ev_ => ?_)
  obtain rfl : v_ = 2 := ev_.trans (by decide)
  refine va_sld hx hb hX hbl hbA hS (by unfold vp_in; decide) dL_law_498 ?_
  have hPc := hP.sub (ws' := [(m0, .inr (5, [.int 0, .ref Mtape, .int 0, .int 0, .ref Msort, .ref Mplace, .ref Mvalue, .int 0, .int 0, .ref Mwords, .int 0, .int 0, .ref Mgoes, .ref MgoLine, .ref Mends, .ref MendLine, .ref Mkinds, .ref MisName, .int 0, .ref Mrow, .ref MbyHand, .ref Mleast, .ref Msecond, .ref MendAt, .ref MgoAt, .ref MnodeBehind, .int 0, .ref MisOut, .ref MfirstEnd, .ref MfirstGo]))]) [0] rfl
  have hDc := hD.sub (ws' := [(m0, .inr (5, [.int 0, .ref Mtape, .int 0, .int 0, .ref Msort, .ref Mplace, .ref Mvalue, .int 0, .int 0, .ref Mwords, .int 0, .int 0, .ref Mgoes, .ref MgoLine, .ref Mends, .ref MendLine, .ref Mkinds, .ref MisName, .int 0, .ref Mrow, .ref MbyHand, .ref Mleast, .ref Msecond, .ref MendAt, .ref MgoAt, .ref MnodeBehind, .int 0, .ref MisOut, .ref MfirstEnd, .ref MfirstGo]))]) [0] (by decide) rfl
  have hFc := va_free (wc := [(m0, .inr (5, [.int 0, .ref Mtape, .int 0, .int 0, .ref Msort, .ref Mplace, .ref Mvalue, .int 0, .int 0, .ref Mwords, .int 0, .int 0, .ref Mgoes, .ref MgoLine, .ref Mends, .ref MendLine, .ref Mkinds, .ref MisName, .int 0, .ref Mrow, .ref MbyHand, .ref Mleast, .ref Msecond, .ref MendAt, .ref MgoAt, .ref MnodeBehind, .int 0, .ref MisOut, .ref MfirstEnd, .ref MfirstGo]))]) hD hS hA [0] rfl
  refine va_calli (va_runV (As := [.int (xs (1 : Int32).toNatClampNeg), .int (xs (2 : Int32).toNatClampNeg)]) (rest := []) ⟨hx, hb, hml, hown, hts⟩ (k_mlook l dC dI cI cZ cC cJ H.size m0 Mtape Msort Mplace Mvalue Mwords Mgoes MgoLine Mends MendLine Mkinds MisName Mrow MbyHand Mleast Msecond MendAt MgoAt MnodeBehind MisOut MfirstEnd MfirstGo (xs (1 : Int32).toNatClampNeg) (xs (2 : Int32).toNatClampNeg) ) (cwV 2 hts gL_law_X5_look rfl rfl rfl (by decide +kernel) ⟨Nat.le_of_ble_eq_true rfl, Nat.le_of_ble_eq_true rfl⟩) ⟨sPre_blind, va_recv hK hPc (ci := 5) (q0 := 0) rfl rfl, fun U hU hW => ⟨rfl, sPre_ok hsk hPc hDc hU hW⟩⟩ rfl rfl hl.1 rfl (lv_room (Nat.le_of_ble_eq_true rfl)) dL_law_499 ⟨(show 60 + 0 ≤ 62 by omega), (show 19810 + 0 ≤ 19826 by omega)⟩) hS (fun q _ h => hFc q h) hFc (fun r_1 u t H1 locs ht hvm hw hB hz1 hk1 hS => ?_)
  try dsimp only at hw hB
  have hw_2 := hw
  obtain rfl : r_1 = 0 := hw_2
  obtain ⟨hP1, hD1⟩ := hB
  rw [ht] at hP1
  obtain ⟨hP, hD⟩ := va_join (wr := []) (w1 := [(m0, .inr (5, [.int 1, .ref Mtape, .int 0, .int 0, .ref Msort, .ref Mplace, .ref Mvalue, .int 0, .int 0, .ref Mwords, .int 0, .int 0, .ref Mgoes, .ref MgoLine, .ref Mends, .ref MendLine, .ref Mkinds, .ref MisName, .int 0, .ref Mrow, .ref MbyHand, .ref Mleast, .ref Msecond, .ref MendAt, .ref MgoAt, .ref MnodeBehind, .int 0, .ref MisOut, .ref MfirstEnd, .ref MfirstGo]))]) hP hD [0] [] rfl rfl (by decide) (by decide) hk1 hFc hP1 hD1
  generalize H1 = H at hP hS ⊢
  have hP : va_P (dC, dI) vwCl [(m0, .inr (5, [.int 1, .ref Mtape, .int 0, .int 0, .ref Msort, .ref Mplace, .ref Mvalue, .int 0, .int 0, .ref Mwords, .int 0, .int 0, .ref Mgoes, .ref MgoLine, .ref Mends, .ref MendLine, .ref Mkinds, .ref MisName, .int 0, .ref Mrow, .ref MbyHand, .ref Mleast, .ref Msecond, .ref MendAt, .ref MgoAt, .ref MnodeBehind, .int 0, .ref MisOut, .ref MfirstEnd, .ref MfirstGo]))] H := hP
  have hD : va_D A [(m0, .inr (5, [.int 1, .ref Mtape, .int 0, .int 0, .ref Msort, .ref Mplace, .ref Mvalue, .int 0, .int 0, .ref Mwords, .int 0, .int 0, .ref Mgoes, .ref MgoLine, .ref Mends, .ref MendLine, .ref Mkinds, .ref MisName, .int 0, .ref Mrow, .ref MbyHand, .ref Mleast, .ref Msecond, .ref MendAt, .ref MgoAt, .ref MnodeBehind, .int 0, .ref MisOut, .ref MfirstEnd, .ref MfirstGo]))] := hD
  refine lv_istore (lv' := [(6, .int 0), (5, .int 1), (0, .ref b), (1, .ref h0), (2, .ref m0), (3, .ref o0), (4, .int 0)]) hx hb dL_law_502 hl (by decide) rfl (fun ls hl => ?_)
  refine lv_aload_n hx hb dL_law_504 rfl (lv_at hl 4 rfl) ?_
  have hPc := hP.sub (ws' := [(m0, .inr (5, [.int 1, .ref Mtape, .int 0, .int 0, .ref Msort, .ref Mplace, .ref Mvalue, .int 0, .int 0, .ref Mwords, .int 0, .int 0, .ref Mgoes, .ref MgoLine, .ref Mends, .ref MendLine, .ref Mkinds, .ref MisName, .int 0, .ref Mrow, .ref MbyHand, .ref Mleast, .ref Msecond, .ref MendAt, .ref MgoAt, .ref MnodeBehind, .int 0, .ref MisOut, .ref MfirstEnd, .ref MfirstGo]))]) [0] rfl
  have hDc := hD.sub (ws' := [(m0, .inr (5, [.int 1, .ref Mtape, .int 0, .int 0, .ref Msort, .ref Mplace, .ref Mvalue, .int 0, .int 0, .ref Mwords, .int 0, .int 0, .ref Mgoes, .ref MgoLine, .ref Mends, .ref MendLine, .ref Mkinds, .ref MisName, .int 0, .ref Mrow, .ref MbyHand, .ref Mleast, .ref Msecond, .ref MendAt, .ref MgoAt, .ref MnodeBehind, .int 0, .ref MisOut, .ref MfirstEnd, .ref MfirstGo]))]) [0] (by decide) rfl
  have hFc := va_free (wc := [(m0, .inr (5, [.int 1, .ref Mtape, .int 0, .int 0, .ref Msort, .ref Mplace, .ref Mvalue, .int 0, .int 0, .ref Mwords, .int 0, .int 0, .ref Mgoes, .ref MgoLine, .ref Mends, .ref MendLine, .ref Mkinds, .ref MisName, .int 0, .ref Mrow, .ref MbyHand, .ref Mleast, .ref Msecond, .ref MendAt, .ref MgoAt, .ref MnodeBehind, .int 0, .ref MisOut, .ref MfirstEnd, .ref MfirstGo]))]) hD hS hA [0] rfl
  refine va_calli (va_runV (As := []) (rest := []) ⟨hx, hb, hml, hown, hts⟩ (k_thrown l dC dI cI cZ cC cJ H.size m0 Mtape Msort Mplace Mvalue Mwords Mgoes MgoLine Mends MendLine Mkinds MisName Mrow MbyHand Mleast Msecond MendAt MgoAt MnodeBehind MisOut MfirstEnd MfirstGo 1 ) (cwV 0 hts gL_law_X5_thrown rfl rfl rfl (by decide +kernel) ⟨Nat.le_of_ble_eq_true rfl, Nat.le_of_ble_eq_true rfl⟩) ⟨sPre_blind, va_recv hK hPc (ci := 5) (q0 := 0) rfl rfl, fun U hU hW => ⟨rfl, sPre_ok hsk hPc hDc hU hW⟩⟩ rfl rfl hl.1 rfl (lv_room (Nat.le_of_ble_eq_true rfl)) dL_law_505 ⟨(show 60 + 0 ≤ 62 by omega), (show 19810 + 0 ≤ 19826 by omega)⟩) hS (fun q _ h => hFc q h) hFc (fun r_3 u t H1 locs ht hvm hw hB hz1 hk1 hS => ?_)
  try dsimp only at hw hB
  have hw_4 := hw
  obtain rfl : r_3 = 1 := hw_4
  obtain ⟨hP1, hD1⟩ := hB
  rw [ht] at hP1
  obtain ⟨hP, hD⟩ := va_join (wr := []) (w1 := [(m0, .inr (5, [.int 1, .ref Mtape, .int 0, .int 0, .ref Msort, .ref Mplace, .ref Mvalue, .int 0, .int 0, .ref Mwords, .int 0, .int 0, .ref Mgoes, .ref MgoLine, .ref Mends, .ref MendLine, .ref Mkinds, .ref MisName, .int 0, .ref Mrow, .ref MbyHand, .ref Mleast, .ref Msecond, .ref MendAt, .ref MgoAt, .ref MnodeBehind, .int 0, .ref MisOut, .ref MfirstEnd, .ref MfirstGo]))]) hP hD [0] [] rfl rfl (by decide) (by decide) hk1 hFc hP1 hD1
  generalize H1 = H at hP hS ⊢
  have hP : va_P (dC, dI) vwCl [(m0, .inr (5, [.int 1, .ref Mtape, .int 0, .int 0, .ref Msort, .ref Mplace, .ref Mvalue, .int 0, .int 0, .ref Mwords, .int 0, .int 0, .ref Mgoes, .ref MgoLine, .ref Mends, .ref MendLine, .ref Mkinds, .ref MisName, .int 0, .ref Mrow, .ref MbyHand, .ref Mleast, .ref Msecond, .ref MendAt, .ref MgoAt, .ref MnodeBehind, .int 0, .ref MisOut, .ref MfirstEnd, .ref MfirstGo]))] H := hP
  have hD : va_D A [(m0, .inr (5, [.int 1, .ref Mtape, .int 0, .int 0, .ref Msort, .ref Mplace, .ref Mvalue, .int 0, .int 0, .ref Mwords, .int 0, .int 0, .ref Mgoes, .ref MgoLine, .ref Mends, .ref MendLine, .ref Mkinds, .ref MisName, .int 0, .ref Mrow, .ref MbyHand, .ref Mleast, .ref Msecond, .ref MendAt, .ref MgoAt, .ref MnodeBehind, .int 0, .ref MisOut, .ref MfirstEnd, .ref MfirstGo]))] := hD
  refine lv_iload hx hb dL_law_508 (lv_at hl 1 rfl) ?_
  refine lv_icmp_eq (tgt := 515) hx hb dL_law_510 (by decide) (fun _ => ?_) (fun h9 => absurd (by decide) h9)
  refine lv_iload hx hb dL_law_515 (lv_at hl 1 rfl) ?_
  refine lv_if_ne (tgt := 532) hx hb dL_law_517 (by decide) (fun _ => ?_) (fun h9 => absurd h9 (by decide))
  refine lv_goto (tgt := 636) hx hb dL_law_532 (by decide) ?_
  refine lv_iinc (v := 7) (lv' := [(4, .int 7), (6, .int 0), (5, .int 1), (0, .ref b), (1, .ref h0), (2, .ref m0), (3, .ref o0)]) hx hb dL_law_636 hl (k := 6) rfl (by decide) (by decide) rfl (fun ls hl => ?_)
  refine lv_goto (tgt := 23) hx hb dL_law_639 (by decide) ?_
  refine lv_iload hx hb dL_law_23 (lv_at hl 0 rfl) ?_
  refine lv_aload_n hx hb dL_law_25 rfl (lv_at hl 3 rfl) ?_
  refine va_slen hx hb hX hbl hbA hS dL_law_26 ?_
  refine lv_topi (fun v_ ev_ => ?_)
  obtain rfl : v_ = 7 := ev_.trans (by decide)
  refine lv_bipush (v := 7) hx hb dL_law_27 (by decide) ?_
  refine lv_isub hx hb dL_law_29 ?_
  refine lv_topi (fun v_ ev_ => ?_)
  obtain rfl : v_ = 0 := ev_.trans (by decide)
  refine lv_icmp_gt (tgt := 642) hx hb dL_law_30 (by decide) (fun _ => ?_) (fun h9 => absurd (by decide) h9)
  refine lv_iconst (v := 1) hx hb dL_law_642 (by decide) ?_
  refine va_forget (fun q hq => hAf _ (hS.2.2 q hq)) ?_
  refine W.widen (k := 62) (n := 19826) (by omega) (by omega) ?_
  exact lw_ret hx hb hr hlocks dL_law_643

set_option maxHeartbeats 8000000 in
set_option maxRecDepth 100000 in
theorem law_loop {p : Program} {l : Launch} {e : Env} {s : State} {m : MethodId} {below : List Frame} {meth : Method} {c : Code} {b L : Nat} {xs : Nat → Int32} {A : Nat → Prop} (dC : Nat → ClassId) (dI : Nat → Nat → Nat) (cI cZ cC cJ : ClassId) (adK adV : Nat → Nat) (hx : p.tables.exec = Jvm.exec) (hb : c.code = cL_law) (hr : meth.sig.returnType = ret) (hml : c.maxLocals = 7) (hown : s.vm.findClass RL = some m.cls) (hts : ∀ w ∈ wsL_law, w.before #[Value.ref b] s = true) (hX : va_X b L xs s s.heap) (hbl : b < s.heap.size) (hlocks : meth.locks = false) (hsk : sk dC dI cI cZ cC cJ s) (hA : ∀ q : Nat, s.heap.size ≤ q → A q) (hAf : ∀ q : Nat, A q → s.heap.size ≤ q) (hbA : ¬ A b) (hst : l.stackTraces = false) (hxw : xW A s) (htw : tW adK adV A s) (hL : L ≤ 3584) (h0 m0 o0 : Nat) : ∀ (fu jq : Nat), L + 1 ≤ 7 * jq + fu → 7 * jq ≤ L → ∀ (H : Heap) (locs : List Loc) (ls : Array Slot), LInv dC dI cI cZ cC cJ A h0 m0 o0 H → va_S A s.heap H locs → lv_has ls 7 [(0, .ref b), (1, .ref h0), (2, .ref m0), (3, .ref o0), (4, .int (nI (7 * jq)))] → W p l e room_1 s m #[Value.ref b] below meth c H locs (59 + jq) (19804 + 6 * jq) (lw_Z below #[Value.ref b] s) (F0 m 23 ls []) := by
  intro fu
  induction fu with
  | zero =>
    intro jq hf hj
    exact absurd hf (by omega)
  | succ fu ih =>
    intro jq hf hj H locs ls hInv hS hl
    refine lv_iload hx hb dL_law_23 (lv_at hl 4 rfl) ?_
    refine lv_aload_n hx hb dL_law_25 rfl (lv_at hl 0 rfl) ?_
    refine va_slen hx hb hX hbl hbA hS dL_law_26 ?_
    refine lv_bipush (v := 7) hx hb dL_law_27 (by decide) ?_
    refine lv_isub hx hb dL_law_29 ?_
    refine lv_icmp_gt (tgt := 614) hx hb dL_law_30 (by decide) (fun c_30 => ?_) (fun c_30 => ?_)
    · skip
      refine lv_iconst (v := 1) hx hb dL_law_614 (by decide) ?_
      refine va_forget (fun q hq => hAf _ (hS.2.2 q hq)) ?_
      refine W.widen (k := 1084) (n := 28002) (by omega) (by omega) ?_
      exact lw_ret hx hb hr hlocks dL_law_615
    · skip
      have hj7 := law_le hL hj c_30
      have hback : ∀ (H : Heap) (locs : List Loc) (ls : Array Slot), LInv dC dI cI cZ cC cJ A h0 m0 o0 H → va_S A s.heap H locs → lv_has ls 7 [(0, .ref b), (1, .ref h0), (2, .ref m0), (3, .ref o0), (4, .int (nI (7 * jq)))] → W p l e room_1 s m #[Value.ref b] below meth c H locs (59 + (jq + 1)) (19804 + 6 * (jq + 1)) (lw_Z below #[Value.ref b] s) (F0 m 608 ls []) := by
        intro H locs ls hInv hS hl
        refine lv_iinc (v := (nI (7 * (jq + 1)))) (lv' := [(4, .int (nI (7 * (jq + 1)))), (0, .ref b), (1, .ref h0), (2, .ref m0), (3, .ref o0)]) hx hb dL_law_608 hl (k := 4) rfl (n7 jq) (by decide) rfl (fun ls hl => ?_)
        refine lv_goto (tgt := 23) hx hb dL_law_611 (by decide) ?_
        exact ih (jq + 1) (by omega) (by omega) _ _ _ hInv hS (lv_sub hl [1, 2, 3, 4, 0] rfl)
      refine lv_aload_n hx hb dL_law_33 rfl (lv_at hl 0 rfl) ?_
      refine lv_iload hx hb dL_law_34 (lv_at hl 4 rfl) ?_
      refine va_sld hx hb hX hbl hbA hS (vp_in_nI (by omega) (by omega)) dL_law_36 ?_
      refine lv_bipush (v := 15) hx hb dL_law_37 (by decide) ?_
      refine lv_iand hx hb dL_law_39 ?_
      refine lv_topi (fun y_ ey_ => ?_)
      by_cases e_40_0 : y_ = 0
      · skip
        refine lv_tableIn (off := 76) (tgt := 116) hx hb dL_law_40 (by rw [e_40_0]; decide) (by rw [e_40_0]; decide) (by rw [e_40_0]; rfl) (by decide) ?_
        exact lc_116 dC dI cI cZ cC cJ adK adV hx hb hr hml hown hts hX hbl hlocks hsk hA hAf hbA hst hxw htw hL h0 m0 o0 jq hj7 hback _ _ _ hInv hS (lv_sub hl [0, 1, 2, 3, 4] rfl)
      · skip
        by_cases e_40_1 : y_ = 1
        · skip
          refine lv_tableIn (off := 113) (tgt := 153) hx hb dL_law_40 (by rw [e_40_1]; decide) (by rw [e_40_1]; decide) (by rw [e_40_1]; rfl) (by decide) ?_
          exact lc_153 dC dI cI cZ cC cJ adK adV hx hb hr hml hown hts hX hbl hlocks hsk hA hAf hbA hst hxw htw hL h0 m0 o0 jq hj7 hback _ _ _ hInv hS (lv_sub hl [0, 1, 2, 3, 4] rfl)
        · skip
          by_cases e_40_2 : y_ = 2
          · skip
            refine lv_tableIn (off := 166) (tgt := 206) hx hb dL_law_40 (by rw [e_40_2]; decide) (by rw [e_40_2]; decide) (by rw [e_40_2]; rfl) (by decide) ?_
            exact lc_206 dC dI cI cZ cC cJ adK adV hx hb hr hml hown hts hX hbl hlocks hsk hA hAf hbA hst hxw htw hL h0 m0 o0 jq hj7 hback _ _ _ hInv hS (lv_sub hl [0, 1, 2, 3, 4] rfl)
          · skip
            by_cases e_40_3 : y_ = 3
            · skip
              refine lv_tableIn (off := 191) (tgt := 231) hx hb dL_law_40 (by rw [e_40_3]; decide) (by rw [e_40_3]; decide) (by rw [e_40_3]; rfl) (by decide) ?_
              exact lc_231 dC dI cI cZ cC cJ adK adV hx hb hr hml hown hts hX hbl hlocks hsk hA hAf hbA hst hxw htw hL h0 m0 o0 jq hj7 hback _ _ _ hInv hS (lv_sub hl [0, 1, 2, 3, 4] rfl)
            · skip
              by_cases e_40_4 : y_ = 4
              · skip
                refine lv_tableIn (off := 204) (tgt := 244) hx hb dL_law_40 (by rw [e_40_4]; decide) (by rw [e_40_4]; decide) (by rw [e_40_4]; rfl) (by decide) ?_
                exact lc_244 dC dI cI cZ cC cJ adK adV hx hb hr hml hown hts hX hbl hlocks hsk hA hAf hbA hst hxw htw hL h0 m0 o0 jq hj7 hback _ _ _ hInv hS (lv_sub hl [0, 1, 2, 3, 4] rfl)
              · skip
                by_cases e_40_5 : y_ = 5
                · skip
                  refine lv_tableIn (off := 241) (tgt := 281) hx hb dL_law_40 (by rw [e_40_5]; decide) (by rw [e_40_5]; decide) (by rw [e_40_5]; rfl) (by decide) ?_
                  exact lc_281 dC dI cI cZ cC cJ adK adV hx hb hr hml hown hts hX hbl hlocks hsk hA hAf hbA hst hxw htw hL h0 m0 o0 jq hj7 hback _ _ _ hInv hS (lv_sub hl [0, 1, 2, 3, 4] rfl)
                · skip
                  by_cases e_40_6 : y_ = 6
                  · skip
                    refine lv_tableIn (off := 388) (tgt := 428) hx hb dL_law_40 (by rw [e_40_6]; decide) (by rw [e_40_6]; decide) (by rw [e_40_6]; rfl) (by decide) ?_
                    exact lc_428 dC dI cI cZ cC cJ adK adV hx hb hr hml hown hts hX hbl hlocks hsk hA hAf hbA hst hxw htw hL h0 m0 o0 jq hj7 hback _ _ _ hInv hS (lv_sub hl [0, 1, 2, 3, 4] rfl)
                  · skip
                    by_cases e_40_7 : y_ = 7
                    · skip
                      refine lv_tableIn (off := 401) (tgt := 441) hx hb dL_law_40 (by rw [e_40_7]; decide) (by rw [e_40_7]; decide) (by rw [e_40_7]; rfl) (by decide) ?_
                      exact lc_441 dC dI cI cZ cC cJ adK adV hx hb hr hml hown hts hX hbl hlocks hsk hA hAf hbA hst hxw htw hL h0 m0 o0 jq hj7 hback _ _ _ hInv hS (lv_sub hl [0, 1, 2, 3, 4] rfl)
                    · skip
                      by_cases e_40_8 : y_ = 8
                      · skip
                        refine lv_tableIn (off := 414) (tgt := 454) hx hb dL_law_40 (by rw [e_40_8]; decide) (by rw [e_40_8]; decide) (by rw [e_40_8]; rfl) (by decide) ?_
                        exact lc_454 dC dI cI cZ cC cJ adK adV hx hb hr hml hown hts hX hbl hlocks hsk hA hAf hbA hst hxw htw hL h0 m0 o0 jq hj7 hback _ _ _ hInv hS (lv_sub hl [0, 1, 2, 3, 4] rfl)
                      · skip
                        by_cases e_40_9 : y_ = 9
                        · skip
                          refine lv_tableIn (off := 427) (tgt := 467) hx hb dL_law_40 (by rw [e_40_9]; decide) (by rw [e_40_9]; decide) (by rw [e_40_9]; rfl) (by decide) ?_
                          exact lc_467 dC dI cI cZ cC cJ adK adV hx hb hr hml hown hts hX hbl hlocks hsk hA hAf hbA hst hxw htw hL h0 m0 o0 jq hj7 hback _ _ _ hInv hS (lv_sub hl [0, 1, 2, 3, 4] rfl)
                        · skip
                          by_cases e_40_10 : y_ = 10
                          · skip
                            refine lv_tableIn (off := 467) (tgt := 507) hx hb dL_law_40 (by rw [e_40_10]; decide) (by rw [e_40_10]; decide) (by rw [e_40_10]; rfl) (by decide) ?_
                            exact lc_507 dC dI cI cZ cC cJ adK adV hx hb hr hml hown hts hX hbl hlocks hsk hA hAf hbA hst hxw htw hL h0 m0 o0 jq hj7 hback _ _ _ hInv hS (lv_sub hl [0, 1, 2, 3, 4] rfl)
                          · skip
                            by_cases e_40_11 : y_ = 11
                            · skip
                              refine lv_tableIn (off := 480) (tgt := 520) hx hb dL_law_40 (by rw [e_40_11]; decide) (by rw [e_40_11]; decide) (by rw [e_40_11]; rfl) (by decide) ?_
                              exact lc_520 dC dI cI cZ cC cJ adK adV hx hb hr hml hown hts hX hbl hlocks hsk hA hAf hbA hst hxw htw hL h0 m0 o0 jq hj7 hback _ _ _ hInv hS (lv_sub hl [0, 1, 2, 3, 4] rfl)
                            · skip
                              by_cases e_40_12 : y_ = 12
                              · skip
                                refine lv_tableIn (off := 493) (tgt := 533) hx hb dL_law_40 (by rw [e_40_12]; decide) (by rw [e_40_12]; decide) (by rw [e_40_12]; rfl) (by decide) ?_
                                exact lc_533 dC dI cI cZ cC cJ adK adV hx hb hr hml hown hts hX hbl hlocks hsk hA hAf hbA hst hxw htw hL h0 m0 o0 jq hj7 hback _ _ _ hInv hS (lv_sub hl [0, 1, 2, 3, 4] rfl)
                              · skip
                                by_cases e_40_13 : y_ = 13
                                · skip
                                  refine lv_tableIn (off := 506) (tgt := 546) hx hb dL_law_40 (by rw [e_40_13]; decide) (by rw [e_40_13]; decide) (by rw [e_40_13]; rfl) (by decide) ?_
                                  exact lc_546 dC dI cI cZ cC cJ adK adV hx hb hr hml hown hts hX hbl hlocks hsk hA hAf hbA hst hxw htw hL h0 m0 o0 jq hj7 hback _ _ _ hInv hS (lv_sub hl [0, 1, 2, 3, 4] rfl)
                                · skip
                                  by_cases e_40_14 : y_ = 14
                                  · skip
                                    refine lv_tableIn (off := 543) (tgt := 583) hx hb dL_law_40 (by rw [e_40_14]; decide) (by rw [e_40_14]; decide) (by rw [e_40_14]; rfl) (by decide) ?_
                                    exact lc_583 dC dI cI cZ cC cJ adK adV hx hb hr hml hown hts hX hbl hlocks hsk hA hAf hbA hst hxw htw hL h0 m0 o0 jq hj7 hback _ _ _ hInv hS (lv_sub hl [0, 1, 2, 3, 4] rfl)
                                  · skip
                                    refine lv_tableOut (tgt := 608) hx hb dL_law_40 (by have _ := lv_neT e_40_0 (a := 0) (by decide); have _ := lv_neT e_40_1 (a := 1) (by decide); have _ := lv_neT e_40_2 (a := 2) (by decide); have _ := lv_neT e_40_3 (a := 3) (by decide); have _ := lv_neT e_40_4 (a := 4) (by decide); have _ := lv_neT e_40_5 (a := 5) (by decide); have _ := lv_neT e_40_6 (a := 6) (by decide); have _ := lv_neT e_40_7 (a := 7) (by decide); have _ := lv_neT e_40_8 (a := 8) (by decide); have _ := lv_neT e_40_9 (a := 9) (by decide); have _ := lv_neT e_40_10 (a := 10) (by decide); have _ := lv_neT e_40_11 (a := 11) (by decide); have _ := lv_neT e_40_12 (a := 12) (by decide); have _ := lv_neT e_40_13 (a := 13) (by decide); have _ := lv_neT e_40_14 (a := 14) (by decide); omega) (by decide) ?_
                                    refine W.widen (k := 59 + (jq + 1)) (n := 19804 + 6 * (jq + 1)) (by omega) (by omega) ?_
                                    exact hback _ _ _ hInv hS (lv_sub hl [0, 1, 2, 3, 4] rfl)

theorem stX_iff {t : TkS} {q : Nat × Int32} {a b : Int32} (h : a = 0 ↔ b = 0) : stX t a q = stX t b q := by
  unfold stX
  by_cases c : b = 0
  · rw [if_pos c, if_pos (h.mpr c)]
  · rw [if_neg c, if_neg (fun z => c (h.mp z))]
theorem stX_z {t : TkS} {q : Nat × Int32} {b : Int32} (h : (stX t b q).2 = 0) : q.2 = 0 := by
  by_cases c : q.2 = 0
  · exact c
  · rw [← stX_k (t := t) (b := b) c] at h; exact h
theorem mkV_0 {t : TkS} {i j : Nat} : nI (mkV t i j) = 0 ↔ mkV t i j = 0 := by
  have h3 : mkV t i j ≤ 3 := by unfold mkV; (repeat' split) <;> omega
  exact nI_eq (a := mkV t i j) (b := 0) (by omega) (by omega)
theorem stO_no {t : TkS} {q : Nat × Int32} (h : t.T q.1 4 = 0) : stO t q = q := by
  unfold stO
  rw [if_pos h]
  by_cases c : q.2 = 0
  · rw [if_pos c]
  · rw [if_neg c]
theorem stO_w {t : TkS} {q : Nat × Int32} {b : Int32} (h : ¬ t.T q.1 4 = 0) (hb : b = 0 ↔ mkV t 5 (stX t 1 q).1 = 0) : stO t q = stX t b (stX t 1 q) := by
  unfold stO
  by_cases z : q.2 = 0
  · have e : stX t 1 q = (q.1 + 1, 0) := by unfold stX; rw [if_pos z, if_neg (by decide)]
    rw [e] at hb
    rw [if_pos z, if_neg h, e]
    unfold stM
    exact stX_iff (mkV_0.trans hb.symm)
  · rw [if_neg z, ← stX_k (t := t) (b := 1) z, ← stX_k (t := t) (b := b) z]
theorem moV_w {t : TkS} {q : Nat × Int32} {b : Int32} (h : ¬ t.T q.1 4 = 0) (hz : (stX t b (stX t 1 q)).2 = 0) : moV t q = mkV t 5 (stX t 1 q).1 := by
  have z := stX_z (stX_z hz)
  unfold moV
  rw [if_neg h]
  unfold stX
  rw [if_pos z, if_neg (by decide)]
theorem stS_1 {t : TkS} {q : Nat × Int32} (c : t.S q.1 = 4) : stS t q = stX t 1 q := by unfold stS; rw [if_pos c]
theorem stS_0 {t : TkS} {q : Nat × Int32} (c : ¬ t.S q.1 = 4) : stS t q = stX t 0 q := by unfold stS; rw [if_neg c]
theorem emV_0 {t : TkS} {j : Nat} : emV t j = 0 ↔ mkV t 9 j = 0 := by
  unfold emV mkV
  (repeat' split) <;> simp
theorem emV_n {t : TkS} {j : Nat} (h : ¬ mkV t 9 j = 0) : emV t j = nI (mkV t 9 j + 3) := by
  unfold mkV at h
  unfold emV mkV
  by_cases c1 : t.T j 9 = 0
  · rw [if_pos c1] at h ⊢
    rw [if_pos c1]
    by_cases c2 : t.T j 10 = 0
    · rw [if_pos c2] at h ⊢
      rw [if_pos c2]
      by_cases c3 : t.T j 11 = 0
      · rw [if_pos c3] at h; exact absurd rfl h
      · rw [if_neg c3, if_neg c3]; rfl
    · rw [if_neg c2, if_neg c2]; rfl
  · rw [if_neg c1, if_neg c1]; rfl
theorem stM_iff {t : TkS} {q : Nat × Int32} {b : Int32} (hb : b = 0 ↔ mkV t 9 q.1 = 0) : stM t 9 q = stX t b q := stX_iff (mkV_0.trans hb.symm)
/-- where a go line, an end line leaves the reader -/
def rgQ (t : TkS) (g : Nat) (q : Nat × Int32) : Nat × Int32 := if g = 40 then flt t 5 q else lgE t q
def reQ (t : TkS) (g : Nat) (q : Nat × Int32) : Nat × Int32 := if g = 10 then flt t 5 q else leC t q
def addD (fa : Int32) (g g2 : Nat) (x : L5) (a b c d e a2 b2 c2 d2 e2 : Nat → Int32) : Prop := (fa = 0 ∧ g2 = g + 1 ∧ a2 = upd a g x.1 ∧ b2 = upd b g x.2.1 ∧ c2 = upd c g x.2.2.1 ∧ d2 = upd d g x.2.2.2.1 ∧ e2 = upd e g x.2.2.2.2) ∨ (¬ fa = 0 ∧ g2 = g ∧ a2 = a ∧ b2 = b ∧ c2 = c ∧ d2 = d ∧ e2 = e)
def addE3 (fa : Int32) (g g2 : Nat) (x : L3) (a b c a2 b2 c2 : Nat → Int32) : Prop := (fa = 0 ∧ g2 = g + 1 ∧ a2 = upd a g x.1 ∧ b2 = upd b g x.2.1 ∧ c2 = upd c g x.2.2) ∨ (¬ fa = 0 ∧ g2 = g ∧ a2 = a ∧ b2 = b ∧ c2 = c)
theorem addD_y {fa : Int32} {g : Nat} {x : L5} {a b c d e : Nat → Int32} {x1 x2 x3 x4 x5 : Int32} (h : fa = 0) (ex : x = (x1, x2, x3, x4, x5)) : addD fa g (g + 1) x a b c d e (upd a g x1) (upd b g x2) (upd c g x3) (upd d g x4) (upd e g x5) := by
  subst ex
  exact Or.inl ⟨h, rfl, rfl, rfl, rfl, rfl, rfl⟩
theorem addE3_y {fa : Int32} {g : Nat} {x : L3} {a b c : Nat → Int32} {x1 x2 x3 : Int32} (h : fa = 0) (ex : x = (x1, x2, x3)) : addE3 fa g (g + 1) x a b c (upd a g x1) (upd b g x2) (upd c g x3) := by
  subst ex
  exact Or.inl ⟨h, rfl, rfl, rfl, rfl⟩
theorem addD_n {fa : Int32} {g : Nat} {x : L5} {a b c d e : Nat → Int32} (h : ¬ fa = 0) : addD fa g g x a b c d e a b c d e := Or.inr ⟨h, rfl, rfl, rfl, rfl, rfl, rfl⟩
theorem addE3_n {fa : Int32} {g : Nat} {x : L3} {a b c : Nat → Int32} (h : ¬ fa = 0) : addE3 fa g g x a b c a b c := Or.inr ⟨h, rfl, rfl, rfl, rfl⟩
theorem aP_le (f : Nat → Int32) (n j : Nat) : aP f n j ≤ n := Nat.le_trans (tkB_ge f n (bs f n j)) (bs_le f n (j + 1))
theorem flt_ne {f : Nat → Int32} {n k : Nat} {q : Nat × Int32} (hn : n ≤ 1600) (h1 : 0 < k) (h2 : k ≤ 5) : ¬ (flt (tkO f n) k q).2 = 0 := by
  have := aP_le f n q.1
  intro h
  have h9 : nI (k + 16 * aP f n q.1) = nI 0 := h
  have := (nI_eq (by omega) (by omega)).mp h9
  omega
theorem stX0_ne {f : Nat → Int32} {n : Nat} {q : Nat × Int32} (hn : n ≤ 1600) : ¬ (stX (tkO f n) 0 q).2 = 0 := by
  intro h
  have z := stX_z h
  unfold stX at h
  rw [if_pos z, if_pos rfl] at h
  exact flt_ne hn (by decide) (by decide) h
/-- lines as lists -/
def LG (gs : List L5) (a b c d e : Nat → Int32) : Prop := ∀ (i : Nat) (x : L5), gs[i]? = some x → a i = x.1 ∧ b i = x.2.1 ∧ c i = x.2.2.1 ∧ d i = x.2.2.2.1 ∧ e i = x.2.2.2.2
def LE3 (es : List L3) (a b c : Nat → Int32) : Prop := ∀ (i : Nat) (x : L3), es[i]? = some x → a i = x.1 ∧ b i = x.2.1 ∧ c i = x.2.2
theorem app_at {α : Type} {l : List α} {y x : α} {i : Nat} (h : (l ++ [y])[i]? = some x) : (i < l.length ∧ l[i]? = some x) ∨ (i = l.length ∧ x = y) := by
  rcases Nat.lt_trichotomy i l.length with q | q | q
  · rw [List.getElem?_append_left q] at h; exact Or.inl ⟨q, h⟩
  · subst q
    rw [List.getElem?_append_right (Nat.le_refl _), Nat.sub_self] at h
    exact Or.inr ⟨rfl, (Option.some.inj h).symm⟩
  · rw [List.getElem?_eq_none (by simp; omega)] at h; cases h
theorem upd_at {f : Nat → Int32} {k : Nat} {x : Int32} : upd f k x k = x := by unfold upd; rw [if_pos rfl]
theorem upd_ne {f : Nat → Int32} {k j : Nat} {x : Int32} (h : j < k) : upd f k x j = f j := by unfold upd; rw [if_neg (by omega)]
theorem LG_app {gs : List L5} {a b c d e : Nat → Int32} {x : L5} (h : LG gs a b c d e) : LG (gs ++ [x]) (upd a gs.length x.1) (upd b gs.length x.2.1) (upd c gs.length x.2.2.1) (upd d gs.length x.2.2.2.1) (upd e gs.length x.2.2.2.2) := by
  intro i y hy
  rcases app_at hy with ⟨q, hy2⟩ | ⟨q, e9⟩
  · rw [upd_ne q, upd_ne q, upd_ne q, upd_ne q, upd_ne q]; exact h i y hy2
  · subst q e9
    exact ⟨upd_at, upd_at, upd_at, upd_at, upd_at⟩
theorem LE_app {es : List L3} {a b c : Nat → Int32} {x : L3} (h : LE3 es a b c) : LE3 (es ++ [x]) (upd a es.length x.1) (upd b es.length x.2.1) (upd c es.length x.2.2) := by
  intro i y hy
  rcases app_at hy with ⟨q, hy2⟩ | ⟨q, e9⟩
  · rw [upd_ne q, upd_ne q, upd_ne q]; exact h i y hy2
  · subst q e9
    exact ⟨upd_at, upd_at, upd_at⟩
/-- the class's lines are these lists -/
def lnK (s : List L5 × List L3) (g n : Nat) (a b c d e ea eb ec : Nat → Int32) : Prop := (g = s.1.length ∧ g ≤ 40 ∧ LG s.1 a b c d e) ∧ n = s.2.length ∧ n ≤ 10 ∧ LE3 s.2 ea eb ec
def lnC (s : List L5 × List L3) (gc nc : Int32) (a b c d e ea eb ec : Nat → Int32) : Prop := ∃ g n : Nat, gc = nI g ∧ nc = nI n ∧ lnK s g n a b c d e ea eb ec
theorem rdG_ln {t : TkS} {s : RdS} {g n g2 : Nat} {fa : Int32} {a b c d e ea eb ec a2 b2 c2 d2 e2 : Nat → Int32} (hn : ¬ (flt t 5 s.1).2 = 0) (h : lnK s.2 g n a b c d e ea eb ec) (hf : fa = (rgQ t g s.1).2) (hd : addD fa g g2 (lgL t s.1) a b c d e a2 b2 c2 d2 e2) : (rdG t s).1 = rgQ t g s.1 ∧ lnK (rdG t s).2 g2 n a2 b2 c2 d2 e2 ea eb ec := by
  obtain ⟨⟨h1, h2, h3⟩, h4⟩ := h
  unfold rdG rgQ at *
  rw [← h1]
  by_cases c40 : g = 40
  · rw [if_pos c40] at hf ⊢
    rw [if_pos c40]
    rcases hd with ⟨hz, -⟩ | ⟨-, e1, e2, e3, e4, e5, e6⟩
    · exact absurd (hf.symm.trans hz) hn
    · subst e1 e2 e3 e4 e5 e6
      exact ⟨rfl, ⟨h1, h2, h3⟩, h4⟩
  · rw [if_neg c40] at hf ⊢
    rw [if_neg c40]
    generalize lgE t s.1 = G9 at hf ⊢
    rcases hd with ⟨hz, e1, e2, e3, e4, e5, e6⟩ | ⟨hz, e1, e2, e3, e4, e5, e6⟩
    · refine ⟨rfl, ?_⟩
      rw [if_pos (hf.symm.trans hz)]
      subst e1 e2 e3 e4 e5 e6
      refine ⟨⟨by rw [List.length_append, ← h1]; rfl, by omega, ?_⟩, h4⟩
      rw [h1]; exact LG_app h3
    · refine ⟨rfl, ?_⟩
      rw [if_neg (fun z => hz (hf.trans z))]
      subst e1 e2 e3 e4 e5 e6
      exact ⟨⟨h1, h2, h3⟩, h4⟩
theorem rdE_ln {t : TkS} {s : RdS} {g n n2 : Nat} {fa : Int32} {a b c d e ea eb ec a2 b2 c2 : Nat → Int32} (hn : ¬ (flt t 5 s.1).2 = 0) (h : lnK s.2 g n a b c d e ea eb ec) (hf : fa = (reQ t n s.1).2) (hd : addE3 fa n n2 (leL t s.1) ea eb ec a2 b2 c2) : (rdE t s).1 = reQ t n s.1 ∧ lnK (rdE t s).2 g n2 a b c d e a2 b2 c2 := by
  obtain ⟨h4, h1, h2, h3⟩ := h
  unfold rdE reQ at *
  rw [← h1]
  by_cases c40 : n = 10
  · rw [if_pos c40] at hf ⊢
    rw [if_pos c40]
    rcases hd with ⟨hz, -⟩ | ⟨-, e1, e2, e3, e4⟩
    · exact absurd (hf.symm.trans hz) hn
    · subst e1 e2 e3 e4
      exact ⟨rfl, h4, h1, h2, h3⟩
  · rw [if_neg c40] at hf ⊢
    rw [if_neg c40]
    generalize leC t s.1 = G9 at hf ⊢
    rcases hd with ⟨hz, e1, e2, e3, e4⟩ | ⟨hz, e1, e2, e3, e4⟩
    · refine ⟨rfl, ?_⟩
      rw [if_pos (hf.symm.trans hz)]
      subst e1 e2 e3 e4
      refine ⟨h4, by rw [List.length_append, ← h1]; rfl, by omega, ?_⟩
      rw [h1]; exact LE_app h3
    · refine ⟨rfl, ?_⟩
      rw [if_neg (fun z => hz (hf.trans z))]
      subst e1 e2 e3 e4
      exact ⟨h4, h1, h2, h3⟩
theorem rdL_go {t : TkS} {s : RdS} (h : ¬ t.T s.1.1 0 = 0) : rdL t s = rdG t s := by unfold rdL; rw [if_neg h]
theorem rdL_en {t : TkS} {s : RdS} (h : t.T s.1.1 0 = 0) (h2 : ¬ t.T s.1.1 8 = 0) : rdL t s = rdE t s := by unfold rdL; rw [if_pos h, if_neg h2]
theorem rdL_no {t : TkS} {s : RdS} (h : t.T s.1.1 0 = 0) (h2 : t.T s.1.1 8 = 0) (z : s.1.2 = 0) : rdL t s = (stR t 1 s.1, s.2) := by unfold rdL stR; rw [if_pos h, if_pos h2, if_pos z]
theorem LG_0 {a b c d e : Nat → Int32} : LG [] a b c d e := fun i x h => by simp at h
theorem LE_0 {a b c : Nat → Int32} : LE3 [] a b c := fun i x h => by simp at h
set_option maxHeartbeats 4000000 in
set_option maxRecDepth 100000 in
theorem k_gempty (l : Launch) (dC : Nat → ClassId) (dI : Nat → Nat → Nat) (cI cZ cC cJ : ClassId) (sz : Nat) (h0 : Nat) (gF : Nat) (gK : Nat) (gT : Nat) (gC : Nat) (gM : Nat) (gc : Int32) (eF : Nat) (eC : Nat) (eM : Nat) (ec : Int32) (hopA : Nat)  : Met l yX1_empty wsX1_empty ({ frames := 0, cells := 0, slots := 0, locals := 0 }) (va_Pc [.ref h0] (sPre dC dI cI cZ cC cJ [(h0, .inr (1, [.ref gF, .ref gK, .ref gT, .ref gC, .ref gM, .int gc, .ref eF, .ref eC, .ref eM, .int ec, .ref hopA]))] sz)) (va_Qv (fun (u : Unit) => True) (fun _ => sB dC dI (va_A [(h0, .inr (1, [.ref gF, .ref gK, .ref gT, .ref gC, .ref gM, .int gc, .ref eF, .ref eC, .ref eM, .int ec, .ref hopA]))] sz) [(h0, .inr (1, [.ref gF, .ref gK, .ref gT, .ref gC, .ref gM, .int 0, .ref eF, .ref eC, .ref eM, .int 0, .ref hopA]))]) (va_A [(h0, .inr (1, [.ref gF, .ref gK, .ref gT, .ref gC, .ref gM, .int gc, .ref eF, .ref eC, .ref eM, .int ec, .ref hopA]))] sz)) 0 0 (va_A [(h0, .inr (1, [.ref gF, .ref gK, .ref gT, .ref gC, .ref gM, .int gc, .ref eF, .ref eC, .ref eM, .int ec, .ref hopA]))] sz) := by
  refine Met.ofW (cc := cX1_empty) (maxL := 1) (ret := none) (by decide) rfl ?_
  intro p e s m args below meth c s₁ B hml hv
  obtain ⟨rfl, hsz, hP, hsk, hD0⟩ := hv
  have hx := B.exec
  have hb := B.bytes
  have hr := B.returns
  have hts := atoms_spec (ws := wsX1_empty) B.pre
  have hown : s.vm.findClass RX1 = some m.cls := findClass_of_methodNamed B.named
  have hlocks := B.notSynchronized
  have hK := hsk.1
  have i1 : ∀ w ∈ wsX10, w ∈ wsX1_empty := by decide +kernel
  subst hsz
  have hD := hD0.self (sz := s.heap.size)
  generalize hAe : va_A [(h0, .inr (1, [.ref gF, .ref gK, .ref gT, .ref gC, .ref gM, .int gc, .ref eF, .ref eC, .ref eM, .int ec, .ref hopA]))] s.heap.size = A at hD ⊢
  have hA : ∀ q : Nat, s.heap.size ≤ q → A q := fun q h => by rw [← hAe]; exact Or.inr h
  have hS : va_S A s.heap s.heap [] := va_S.rf
  have hl := lv_entry ([.ref h0]) (n := 1) (Nat.le_of_ble_eq_true rfl)
  rw [lg_entry_eq]
  generalize (lg_sl ([.ref h0]) ++ List.replicate (1 - (lg_sl ([.ref h0])).length) Slot.unset).toArray = ls at hl ⊢
  have hl : lv_has ls 1 [(0, .ref h0)] := hl
  refine lv_aload_n hx hb dX1_empty_0 rfl (lv_at hl 0 rfl) ?_
  refine lv_iconst (v := 0) hx hb dX1_empty_1 (by decide) ?_
  refine va_put (D := (dC, dI)) (ci := 1) (v := .int 0) (ty := tyX1 5) (C := RX1) (T := TX1) (N := 11) hx hb hts i1 tyX1 tyX1_ok nmX1 hown hK hP hD hS 0 rfl rfl 5 (by decide) (hts (.fieldLink RX1 42 "StopSetter$Grammar" "goCount" "I") (by decide +kernel)) (fun _ h9 => h9) rfl (by decide +kernel) rfl rfl (Nat.le_of_ble_eq_true rfl) dX1_empty_2 (fun H locs hP hD hS => ?_)
  have hP : va_P (dC, dI) vwCl [(h0, .inr (1, [.ref gF, .ref gK, .ref gT, .ref gC, .ref gM, .int 0, .ref eF, .ref eC, .ref eM, .int ec, .ref hopA]))] H := hP
  have hD : va_D A [(h0, .inr (1, [.ref gF, .ref gK, .ref gT, .ref gC, .ref gM, .int 0, .ref eF, .ref eC, .ref eM, .int ec, .ref hopA]))] := hD
  refine lv_aload_n hx hb dX1_empty_5 rfl (lv_at hl 0 rfl) ?_
  refine lv_iconst (v := 0) hx hb dX1_empty_6 (by decide) ?_
  refine va_put (D := (dC, dI)) (ci := 1) (v := .int 0) (ty := tyX1 9) (C := RX1) (T := TX1) (N := 11) hx hb hts i1 tyX1 tyX1_ok nmX1 hown hK hP hD hS 0 rfl rfl 9 (by decide) (hts (.fieldLink RX1 46 "StopSetter$Grammar" "endCount" "I") (by decide +kernel)) (fun _ h9 => h9) rfl (by decide +kernel) rfl rfl (Nat.le_of_ble_eq_true rfl) dX1_empty_7 (fun H locs hP hD hS => ?_)
  have hP : va_P (dC, dI) vwCl [(h0, .inr (1, [.ref gF, .ref gK, .ref gT, .ref gC, .ref gM, .int 0, .ref eF, .ref eC, .ref eM, .int 0, .ref hopA]))] H := hP
  have hD : va_D A [(h0, .inr (1, [.ref gF, .ref gK, .ref gT, .ref gC, .ref gM, .int 0, .ref eF, .ref eC, .ref eM, .int 0, .ref hopA]))] := hD
  have hP9 := hP.sub (ws' := [(h0, .inr (1, [.ref gF, .ref gK, .ref gT, .ref gC, .ref gM, .int 0, .ref eF, .ref eC, .ref eM, .int 0, .ref hopA]))]) [0] rfl
  have hD9 := hD.sub (ws' := [(h0, .inr (1, [.ref gF, .ref gK, .ref gT, .ref gC, .ref gM, .int 0, .ref eF, .ref eC, .ref eM, .int 0, .ref hopA]))]) [0] (by decide) rfl
  exact W.vret hx hb hr (fun t ht hW => ⟨⟨(), rfl, trivial, by rw [ht]; exact hP9, hD9⟩, hS.F ht⟩) hS.2.2 dX1_empty_10
set_option maxHeartbeats 4000000 in
set_option maxRecDepth 100000 in
theorem k_addGo (l : Launch) (dC : Nat → ClassId) (dI : Nat → Nat → Nat) (cI cZ cC cJ : ClassId) (sz : Nat) (h0 : Nat) (gF : Nat) (gK : Nat) (gT : Nat) (gC : Nat) (gM : Nat) (gnq : Nat) (eF : Nat) (eC : Nat) (eM : Nat) (ec : Int32) (hopA : Nat) (fgF : Nat → Int32) (fgK : Nat → Int32) (fgT : Nat → Int32) (fgC : Nat → Int32) (fgM : Nat → Int32) (p0 : Int32) (p1 : Int32) (p2 : Int32) (p3 : Int32) (p4 : Int32) (hg40 : gnq < 40) : Met l yX1_addGo wsX1_addGo ({ frames := 0, cells := 0, slots := 0, locals := 0 }) (va_Pc [.ref h0, .int p0, .int p1, .int p2, .int p3, .int p4] (sPre dC dI cI cZ cC cJ [(h0, .inr (1, [.ref gF, .ref gK, .ref gT, .ref gC, .ref gM, .int (nI gnq), .ref eF, .ref eC, .ref eM, .int ec, .ref hopA])), (gF, .inl (cI, 40, .inl fgF)), (gK, .inl (cI, 40, .inl fgK)), (gT, .inl (cI, 40, .inl fgT)), (gC, .inl (cI, 40, .inl fgC)), (gM, .inl (cI, 40, .inl fgM))] sz)) (va_Qv (fun (u : Unit) => True) (fun _ => sB dC dI (va_A [(h0, .inr (1, [.ref gF, .ref gK, .ref gT, .ref gC, .ref gM, .int (nI gnq), .ref eF, .ref eC, .ref eM, .int ec, .ref hopA])), (gF, .inl (cI, 40, .inl fgF)), (gK, .inl (cI, 40, .inl fgK)), (gT, .inl (cI, 40, .inl fgT)), (gC, .inl (cI, 40, .inl fgC)), (gM, .inl (cI, 40, .inl fgM))] sz) [(h0, .inr (1, [.ref gF, .ref gK, .ref gT, .ref gC, .ref gM, .int (nI (gnq + 1)), .ref eF, .ref eC, .ref eM, .int ec, .ref hopA])), (gF, .inl (cI, 40, .inl (upd fgF gnq p0))), (gK, .inl (cI, 40, .inl (upd fgK gnq p1))), (gT, .inl (cI, 40, .inl (upd fgT gnq p2))), (gC, .inl (cI, 40, .inl (upd fgC gnq p3))), (gM, .inl (cI, 40, .inl (upd fgM gnq p4)))]) (va_A [(h0, .inr (1, [.ref gF, .ref gK, .ref gT, .ref gC, .ref gM, .int (nI gnq), .ref eF, .ref eC, .ref eM, .int ec, .ref hopA])), (gF, .inl (cI, 40, .inl fgF)), (gK, .inl (cI, 40, .inl fgK)), (gT, .inl (cI, 40, .inl fgT)), (gC, .inl (cI, 40, .inl fgC)), (gM, .inl (cI, 40, .inl fgM))] sz)) 0 0 (va_A [(h0, .inr (1, [.ref gF, .ref gK, .ref gT, .ref gC, .ref gM, .int (nI gnq), .ref eF, .ref eC, .ref eM, .int ec, .ref hopA])), (gF, .inl (cI, 40, .inl fgF)), (gK, .inl (cI, 40, .inl fgK)), (gT, .inl (cI, 40, .inl fgT)), (gC, .inl (cI, 40, .inl fgC)), (gM, .inl (cI, 40, .inl fgM))] sz) := by
  refine Met.ofW (cc := cX1_addGo) (maxL := 6) (ret := none) (by decide) rfl ?_
  intro p e s m args below meth c s₁ B hml hv
  obtain ⟨rfl, hsz, hP, hsk, hD0⟩ := hv
  have hx := B.exec
  have hb := B.bytes
  have hr := B.returns
  have hts := atoms_spec (ws := wsX1_addGo) B.pre
  have hown : s.vm.findClass RX1 = some m.cls := findClass_of_methodNamed B.named
  have hlocks := B.notSynchronized
  have hK := hsk.1
  have i1 : ∀ w ∈ wsX10, w ∈ wsX1_addGo := by decide +kernel
  subst hsz
  have hD := hD0.self (sz := s.heap.size)
  generalize hAe : va_A [(h0, .inr (1, [.ref gF, .ref gK, .ref gT, .ref gC, .ref gM, .int (nI gnq), .ref eF, .ref eC, .ref eM, .int ec, .ref hopA])), (gF, .inl (cI, 40, .inl fgF)), (gK, .inl (cI, 40, .inl fgK)), (gT, .inl (cI, 40, .inl fgT)), (gC, .inl (cI, 40, .inl fgC)), (gM, .inl (cI, 40, .inl fgM))] s.heap.size = A at hD ⊢
  have hA : ∀ q : Nat, s.heap.size ≤ q → A q := fun q h => by rw [← hAe]; exact Or.inr h
  have hS : va_S A s.heap s.heap [] := va_S.rf
  have hl := lv_entry ([.ref h0, .int p0, .int p1, .int p2, .int p3, .int p4]) (n := 6) (Nat.le_of_ble_eq_true rfl)
  rw [lg_entry_eq]
  generalize (lg_sl ([.ref h0, .int p0, .int p1, .int p2, .int p3, .int p4]) ++ List.replicate (6 - (lg_sl ([.ref h0, .int p0, .int p1, .int p2, .int p3, .int p4])).length) Slot.unset).toArray = ls at hl ⊢
  have hl : lv_has ls 6 [(0, .ref h0), (1, .int p0), (2, .int p1), (3, .int p2), (4, .int p3), (5, .int p4)] := hl
  refine lv_aload_n hx hb dX1_addGo_0 rfl (lv_at hl 0 rfl) ?_
  refine va_get (D := (dC, dI)) (ci := 1) (v := .int (nI gnq)) (C := RX1) (T := TX1) (N := 11) hx hb hts i1 hown hK hP 0 rfl rfl 5 (by decide) (hts (.fieldLink RX1 42 "StopSetter$Grammar" "goCount" "I") (by decide +kernel)) (fun _ h9 => h9) rfl dX1_addGo_1 ?_
  refine lv_if_lt (tgt := 16) hx hb dX1_addGo_4 (by decide) (fun h9 => absurd h9 (nI_pos (by omega))) (fun _ => ?_)
  refine lv_aload_n hx hb dX1_addGo_7 rfl (lv_at hl 0 rfl) ?_
  refine va_get (D := (dC, dI)) (ci := 1) (v := .int (nI gnq)) (C := RX1) (T := TX1) (N := 11) hx hb hts i1 hown hK hP 0 rfl rfl 5 (by decide) (hts (.fieldLink RX1 42 "StopSetter$Grammar" "goCount" "I") (by decide +kernel)) (fun _ h9 => h9) rfl dX1_addGo_8 ?_
  refine lv_bipush (v := 40) hx hb dX1_addGo_11 (by decide) ?_
  refine lv_icmp_lt (tgt := 17) hx hb dX1_addGo_13 (by decide) (fun _ => ?_) (fun h9 => absurd (nI_lt (a := gnq) (b := 40) (by omega) (by decide)) h9)
  refine lv_aload_n hx hb dX1_addGo_17 rfl (lv_at hl 0 rfl) ?_
  refine va_get (D := (dC, dI)) (ci := 1) (v := .ref gF) (C := RX1) (T := TX1) (N := 11) hx hb hts i1 hown hK hP 0 rfl rfl 0 (by decide) (hts (.fieldLink RX1 11 "StopSetter$Grammar" "goFrom" "[I") (by decide +kernel)) (fun _ h9 => h9) rfl dX1_addGo_18 ?_
  refine lv_aload_n hx hb dX1_addGo_21 rfl (lv_at hl 0 rfl) ?_
  refine va_get (D := (dC, dI)) (ci := 1) (v := .int (nI gnq)) (C := RX1) (T := TX1) (N := 11) hx hb hts i1 hown hK hP 0 rfl rfl 5 (by decide) (hts (.fieldLink RX1 42 "StopSetter$Grammar" "goCount" "I") (by decide +kernel)) (fun _ h9 => h9) rfl dX1_addGo_22 ?_
  refine lv_iload_n hx hb dX1_addGo_25 rfl (lv_at hl 1 rfl) ?_
  refine va_iast hx hb hK hP hD hS 1 0 rfl rfl (vp_in_nI (by omega) (by decide)) dX1_addGo_26 (fun H locs hP hD hS => ?_)
  have hP : va_P (dC, dI) vwCl [(h0, .inr (1, [.ref gF, .ref gK, .ref gT, .ref gC, .ref gM, .int (nI gnq), .ref eF, .ref eC, .ref eM, .int ec, .ref hopA])), (gF, .inl (cI, 40, .inl (upd fgF ((nI gnq).toNatClampNeg) p0))), (gK, .inl (cI, 40, .inl fgK)), (gT, .inl (cI, 40, .inl fgT)), (gC, .inl (cI, 40, .inl fgC)), (gM, .inl (cI, 40, .inl fgM))] H := hP
  have hD : va_D A [(h0, .inr (1, [.ref gF, .ref gK, .ref gT, .ref gC, .ref gM, .int (nI gnq), .ref eF, .ref eC, .ref eM, .int ec, .ref hopA])), (gF, .inl (cI, 40, .inl (upd fgF ((nI gnq).toNatClampNeg) p0))), (gK, .inl (cI, 40, .inl fgK)), (gT, .inl (cI, 40, .inl fgT)), (gC, .inl (cI, 40, .inl fgC)), (gM, .inl (cI, 40, .inl fgM))] := hD
  rw [show (upd fgF ((nI gnq).toNatClampNeg) p0) = (upd fgF gnq p0) from by rw [nI_clamp (by omega)]] at hP hD
  have hP : va_P (dC, dI) vwCl [(h0, .inr (1, [.ref gF, .ref gK, .ref gT, .ref gC, .ref gM, .int (nI gnq), .ref eF, .ref eC, .ref eM, .int ec, .ref hopA])), (gF, .inl (cI, 40, .inl (upd fgF gnq p0))), (gK, .inl (cI, 40, .inl fgK)), (gT, .inl (cI, 40, .inl fgT)), (gC, .inl (cI, 40, .inl fgC)), (gM, .inl (cI, 40, .inl fgM))] H := hP
  have hD : va_D A [(h0, .inr (1, [.ref gF, .ref gK, .ref gT, .ref gC, .ref gM, .int (nI gnq), .ref eF, .ref eC, .ref eM, .int ec, .ref hopA])), (gF, .inl (cI, 40, .inl (upd fgF gnq p0))), (gK, .inl (cI, 40, .inl fgK)), (gT, .inl (cI, 40, .inl fgT)), (gC, .inl (cI, 40, .inl fgC)), (gM, .inl (cI, 40, .inl fgM))] := hD
  refine lv_aload_n hx hb dX1_addGo_27 rfl (lv_at hl 0 rfl) ?_
  refine va_get (D := (dC, dI)) (ci := 1) (v := .ref gK) (C := RX1) (T := TX1) (N := 11) hx hb hts i1 hown hK hP 0 rfl rfl 1 (by decide) (hts (.fieldLink RX1 15 "StopSetter$Grammar" "goKind" "[I") (by decide +kernel)) (fun _ h9 => h9) rfl dX1_addGo_28 ?_
  refine lv_aload_n hx hb dX1_addGo_31 rfl (lv_at hl 0 rfl) ?_
  refine va_get (D := (dC, dI)) (ci := 1) (v := .int (nI gnq)) (C := RX1) (T := TX1) (N := 11) hx hb hts i1 hown hK hP 0 rfl rfl 5 (by decide) (hts (.fieldLink RX1 42 "StopSetter$Grammar" "goCount" "I") (by decide +kernel)) (fun _ h9 => h9) rfl dX1_addGo_32 ?_
  refine lv_iload_n hx hb dX1_addGo_35 rfl (lv_at hl 2 rfl) ?_
  refine va_iast hx hb hK hP hD hS 2 0 rfl rfl (vp_in_nI (by omega) (by decide)) dX1_addGo_36 (fun H locs hP hD hS => ?_)
  have hP : va_P (dC, dI) vwCl [(h0, .inr (1, [.ref gF, .ref gK, .ref gT, .ref gC, .ref gM, .int (nI gnq), .ref eF, .ref eC, .ref eM, .int ec, .ref hopA])), (gF, .inl (cI, 40, .inl (upd fgF gnq p0))), (gK, .inl (cI, 40, .inl (upd fgK ((nI gnq).toNatClampNeg) p1))), (gT, .inl (cI, 40, .inl fgT)), (gC, .inl (cI, 40, .inl fgC)), (gM, .inl (cI, 40, .inl fgM))] H := hP
  have hD : va_D A [(h0, .inr (1, [.ref gF, .ref gK, .ref gT, .ref gC, .ref gM, .int (nI gnq), .ref eF, .ref eC, .ref eM, .int ec, .ref hopA])), (gF, .inl (cI, 40, .inl (upd fgF gnq p0))), (gK, .inl (cI, 40, .inl (upd fgK ((nI gnq).toNatClampNeg) p1))), (gT, .inl (cI, 40, .inl fgT)), (gC, .inl (cI, 40, .inl fgC)), (gM, .inl (cI, 40, .inl fgM))] := hD
  rw [show (upd fgK ((nI gnq).toNatClampNeg) p1) = (upd fgK gnq p1) from by rw [nI_clamp (by omega)]] at hP hD
  have hP : va_P (dC, dI) vwCl [(h0, .inr (1, [.ref gF, .ref gK, .ref gT, .ref gC, .ref gM, .int (nI gnq), .ref eF, .ref eC, .ref eM, .int ec, .ref hopA])), (gF, .inl (cI, 40, .inl (upd fgF gnq p0))), (gK, .inl (cI, 40, .inl (upd fgK gnq p1))), (gT, .inl (cI, 40, .inl fgT)), (gC, .inl (cI, 40, .inl fgC)), (gM, .inl (cI, 40, .inl fgM))] H := hP
  have hD : va_D A [(h0, .inr (1, [.ref gF, .ref gK, .ref gT, .ref gC, .ref gM, .int (nI gnq), .ref eF, .ref eC, .ref eM, .int ec, .ref hopA])), (gF, .inl (cI, 40, .inl (upd fgF gnq p0))), (gK, .inl (cI, 40, .inl (upd fgK gnq p1))), (gT, .inl (cI, 40, .inl fgT)), (gC, .inl (cI, 40, .inl fgC)), (gM, .inl (cI, 40, .inl fgM))] := hD
  refine lv_aload_n hx hb dX1_addGo_37 rfl (lv_at hl 0 rfl) ?_
  refine va_get (D := (dC, dI)) (ci := 1) (v := .ref gT) (C := RX1) (T := TX1) (N := 11) hx hb hts i1 hown hK hP 0 rfl rfl 2 (by decide) (hts (.fieldLink RX1 18 "StopSetter$Grammar" "goTo" "[I") (by decide +kernel)) (fun _ h9 => h9) rfl dX1_addGo_38 ?_
  refine lv_aload_n hx hb dX1_addGo_41 rfl (lv_at hl 0 rfl) ?_
  refine va_get (D := (dC, dI)) (ci := 1) (v := .int (nI gnq)) (C := RX1) (T := TX1) (N := 11) hx hb hts i1 hown hK hP 0 rfl rfl 5 (by decide) (hts (.fieldLink RX1 42 "StopSetter$Grammar" "goCount" "I") (by decide +kernel)) (fun _ h9 => h9) rfl dX1_addGo_42 ?_
  refine lv_iload_n hx hb dX1_addGo_45 rfl (lv_at hl 3 rfl) ?_
  refine va_iast hx hb hK hP hD hS 3 0 rfl rfl (vp_in_nI (by omega) (by decide)) dX1_addGo_46 (fun H locs hP hD hS => ?_)
  have hP : va_P (dC, dI) vwCl [(h0, .inr (1, [.ref gF, .ref gK, .ref gT, .ref gC, .ref gM, .int (nI gnq), .ref eF, .ref eC, .ref eM, .int ec, .ref hopA])), (gF, .inl (cI, 40, .inl (upd fgF gnq p0))), (gK, .inl (cI, 40, .inl (upd fgK gnq p1))), (gT, .inl (cI, 40, .inl (upd fgT ((nI gnq).toNatClampNeg) p2))), (gC, .inl (cI, 40, .inl fgC)), (gM, .inl (cI, 40, .inl fgM))] H := hP
  have hD : va_D A [(h0, .inr (1, [.ref gF, .ref gK, .ref gT, .ref gC, .ref gM, .int (nI gnq), .ref eF, .ref eC, .ref eM, .int ec, .ref hopA])), (gF, .inl (cI, 40, .inl (upd fgF gnq p0))), (gK, .inl (cI, 40, .inl (upd fgK gnq p1))), (gT, .inl (cI, 40, .inl (upd fgT ((nI gnq).toNatClampNeg) p2))), (gC, .inl (cI, 40, .inl fgC)), (gM, .inl (cI, 40, .inl fgM))] := hD
  rw [show (upd fgT ((nI gnq).toNatClampNeg) p2) = (upd fgT gnq p2) from by rw [nI_clamp (by omega)]] at hP hD
  have hP : va_P (dC, dI) vwCl [(h0, .inr (1, [.ref gF, .ref gK, .ref gT, .ref gC, .ref gM, .int (nI gnq), .ref eF, .ref eC, .ref eM, .int ec, .ref hopA])), (gF, .inl (cI, 40, .inl (upd fgF gnq p0))), (gK, .inl (cI, 40, .inl (upd fgK gnq p1))), (gT, .inl (cI, 40, .inl (upd fgT gnq p2))), (gC, .inl (cI, 40, .inl fgC)), (gM, .inl (cI, 40, .inl fgM))] H := hP
  have hD : va_D A [(h0, .inr (1, [.ref gF, .ref gK, .ref gT, .ref gC, .ref gM, .int (nI gnq), .ref eF, .ref eC, .ref eM, .int ec, .ref hopA])), (gF, .inl (cI, 40, .inl (upd fgF gnq p0))), (gK, .inl (cI, 40, .inl (upd fgK gnq p1))), (gT, .inl (cI, 40, .inl (upd fgT gnq p2))), (gC, .inl (cI, 40, .inl fgC)), (gM, .inl (cI, 40, .inl fgM))] := hD
  refine lv_aload_n hx hb dX1_addGo_47 rfl (lv_at hl 0 rfl) ?_
  refine va_get (D := (dC, dI)) (ci := 1) (v := .ref gC) (C := RX1) (T := TX1) (N := 11) hx hb hts i1 hown hK hP 0 rfl rfl 3 (by decide) (hts (.fieldLink RX1 21 "StopSetter$Grammar" "goCost" "[I") (by decide +kernel)) (fun _ h9 => h9) rfl dX1_addGo_48 ?_
  refine lv_aload_n hx hb dX1_addGo_51 rfl (lv_at hl 0 rfl) ?_
  refine va_get (D := (dC, dI)) (ci := 1) (v := .int (nI gnq)) (C := RX1) (T := TX1) (N := 11) hx hb hts i1 hown hK hP 0 rfl rfl 5 (by decide) (hts (.fieldLink RX1 42 "StopSetter$Grammar" "goCount" "I") (by decide +kernel)) (fun _ h9 => h9) rfl dX1_addGo_52 ?_
  refine lv_iload hx hb dX1_addGo_55 (lv_at hl 4 rfl) ?_
  refine va_iast hx hb hK hP hD hS 4 0 rfl rfl (vp_in_nI (by omega) (by decide)) dX1_addGo_57 (fun H locs hP hD hS => ?_)
  have hP : va_P (dC, dI) vwCl [(h0, .inr (1, [.ref gF, .ref gK, .ref gT, .ref gC, .ref gM, .int (nI gnq), .ref eF, .ref eC, .ref eM, .int ec, .ref hopA])), (gF, .inl (cI, 40, .inl (upd fgF gnq p0))), (gK, .inl (cI, 40, .inl (upd fgK gnq p1))), (gT, .inl (cI, 40, .inl (upd fgT gnq p2))), (gC, .inl (cI, 40, .inl (upd fgC ((nI gnq).toNatClampNeg) p3))), (gM, .inl (cI, 40, .inl fgM))] H := hP
  have hD : va_D A [(h0, .inr (1, [.ref gF, .ref gK, .ref gT, .ref gC, .ref gM, .int (nI gnq), .ref eF, .ref eC, .ref eM, .int ec, .ref hopA])), (gF, .inl (cI, 40, .inl (upd fgF gnq p0))), (gK, .inl (cI, 40, .inl (upd fgK gnq p1))), (gT, .inl (cI, 40, .inl (upd fgT gnq p2))), (gC, .inl (cI, 40, .inl (upd fgC ((nI gnq).toNatClampNeg) p3))), (gM, .inl (cI, 40, .inl fgM))] := hD
  rw [show (upd fgC ((nI gnq).toNatClampNeg) p3) = (upd fgC gnq p3) from by rw [nI_clamp (by omega)]] at hP hD
  have hP : va_P (dC, dI) vwCl [(h0, .inr (1, [.ref gF, .ref gK, .ref gT, .ref gC, .ref gM, .int (nI gnq), .ref eF, .ref eC, .ref eM, .int ec, .ref hopA])), (gF, .inl (cI, 40, .inl (upd fgF gnq p0))), (gK, .inl (cI, 40, .inl (upd fgK gnq p1))), (gT, .inl (cI, 40, .inl (upd fgT gnq p2))), (gC, .inl (cI, 40, .inl (upd fgC gnq p3))), (gM, .inl (cI, 40, .inl fgM))] H := hP
  have hD : va_D A [(h0, .inr (1, [.ref gF, .ref gK, .ref gT, .ref gC, .ref gM, .int (nI gnq), .ref eF, .ref eC, .ref eM, .int ec, .ref hopA])), (gF, .inl (cI, 40, .inl (upd fgF gnq p0))), (gK, .inl (cI, 40, .inl (upd fgK gnq p1))), (gT, .inl (cI, 40, .inl (upd fgT gnq p2))), (gC, .inl (cI, 40, .inl (upd fgC gnq p3))), (gM, .inl (cI, 40, .inl fgM))] := hD
  refine lv_aload_n hx hb dX1_addGo_58 rfl (lv_at hl 0 rfl) ?_
  refine va_get (D := (dC, dI)) (ci := 1) (v := .ref gM) (C := RX1) (T := TX1) (N := 11) hx hb hts i1 hown hK hP 0 rfl rfl 4 (by decide) (hts (.fieldLink RX1 24 "StopSetter$Grammar" "goMark" "[I") (by decide +kernel)) (fun _ h9 => h9) rfl dX1_addGo_59 ?_
  refine lv_aload_n hx hb dX1_addGo_62 rfl (lv_at hl 0 rfl) ?_
  refine va_get (D := (dC, dI)) (ci := 1) (v := .int (nI gnq)) (C := RX1) (T := TX1) (N := 11) hx hb hts i1 hown hK hP 0 rfl rfl 5 (by decide) (hts (.fieldLink RX1 42 "StopSetter$Grammar" "goCount" "I") (by decide +kernel)) (fun _ h9 => h9) rfl dX1_addGo_63 ?_
  refine lv_iload hx hb dX1_addGo_66 (lv_at hl 5 rfl) ?_
  refine va_iast hx hb hK hP hD hS 5 0 rfl rfl (vp_in_nI (by omega) (by decide)) dX1_addGo_68 (fun H locs hP hD hS => ?_)
  have hP : va_P (dC, dI) vwCl [(h0, .inr (1, [.ref gF, .ref gK, .ref gT, .ref gC, .ref gM, .int (nI gnq), .ref eF, .ref eC, .ref eM, .int ec, .ref hopA])), (gF, .inl (cI, 40, .inl (upd fgF gnq p0))), (gK, .inl (cI, 40, .inl (upd fgK gnq p1))), (gT, .inl (cI, 40, .inl (upd fgT gnq p2))), (gC, .inl (cI, 40, .inl (upd fgC gnq p3))), (gM, .inl (cI, 40, .inl (upd fgM ((nI gnq).toNatClampNeg) p4)))] H := hP
  have hD : va_D A [(h0, .inr (1, [.ref gF, .ref gK, .ref gT, .ref gC, .ref gM, .int (nI gnq), .ref eF, .ref eC, .ref eM, .int ec, .ref hopA])), (gF, .inl (cI, 40, .inl (upd fgF gnq p0))), (gK, .inl (cI, 40, .inl (upd fgK gnq p1))), (gT, .inl (cI, 40, .inl (upd fgT gnq p2))), (gC, .inl (cI, 40, .inl (upd fgC gnq p3))), (gM, .inl (cI, 40, .inl (upd fgM ((nI gnq).toNatClampNeg) p4)))] := hD
  rw [show (upd fgM ((nI gnq).toNatClampNeg) p4) = (upd fgM gnq p4) from by rw [nI_clamp (by omega)]] at hP hD
  have hP : va_P (dC, dI) vwCl [(h0, .inr (1, [.ref gF, .ref gK, .ref gT, .ref gC, .ref gM, .int (nI gnq), .ref eF, .ref eC, .ref eM, .int ec, .ref hopA])), (gF, .inl (cI, 40, .inl (upd fgF gnq p0))), (gK, .inl (cI, 40, .inl (upd fgK gnq p1))), (gT, .inl (cI, 40, .inl (upd fgT gnq p2))), (gC, .inl (cI, 40, .inl (upd fgC gnq p3))), (gM, .inl (cI, 40, .inl (upd fgM gnq p4)))] H := hP
  have hD : va_D A [(h0, .inr (1, [.ref gF, .ref gK, .ref gT, .ref gC, .ref gM, .int (nI gnq), .ref eF, .ref eC, .ref eM, .int ec, .ref hopA])), (gF, .inl (cI, 40, .inl (upd fgF gnq p0))), (gK, .inl (cI, 40, .inl (upd fgK gnq p1))), (gT, .inl (cI, 40, .inl (upd fgT gnq p2))), (gC, .inl (cI, 40, .inl (upd fgC gnq p3))), (gM, .inl (cI, 40, .inl (upd fgM gnq p4)))] := hD
  refine lv_aload_n hx hb dX1_addGo_69 rfl (lv_at hl 0 rfl) ?_
  refine lv_dup hx hb dX1_addGo_70 rfl ?_
  refine va_get (D := (dC, dI)) (ci := 1) (v := .int (nI gnq)) (C := RX1) (T := TX1) (N := 11) hx hb hts i1 hown hK hP 0 rfl rfl 5 (by decide) (hts (.fieldLink RX1 42 "StopSetter$Grammar" "goCount" "I") (by decide +kernel)) (fun _ h9 => h9) rfl dX1_addGo_71 ?_
  refine lv_iconst (v := 1) hx hb dX1_addGo_74 (by decide) ?_
  refine lv_iadd hx hb dX1_addGo_75 ?_
  refine lv_topi (fun v_ ev_ => ?_)
  obtain rfl : v_ = (nI (gnq + 1)) := ev_.trans (nI_1 gnq)
  refine va_put (D := (dC, dI)) (ci := 1) (v := .int (nI (gnq + 1))) (ty := tyX1 5) (C := RX1) (T := TX1) (N := 11) hx hb hts i1 tyX1 tyX1_ok nmX1 hown hK hP hD hS 0 rfl rfl 5 (by decide) (hts (.fieldLink RX1 42 "StopSetter$Grammar" "goCount" "I") (by decide +kernel)) (fun _ h9 => h9) rfl (by decide +kernel) rfl rfl (Nat.le_of_ble_eq_true rfl) dX1_addGo_76 (fun H locs hP hD hS => ?_)
  have hP : va_P (dC, dI) vwCl [(h0, .inr (1, [.ref gF, .ref gK, .ref gT, .ref gC, .ref gM, .int (nI (gnq + 1)), .ref eF, .ref eC, .ref eM, .int ec, .ref hopA])), (gF, .inl (cI, 40, .inl (upd fgF gnq p0))), (gK, .inl (cI, 40, .inl (upd fgK gnq p1))), (gT, .inl (cI, 40, .inl (upd fgT gnq p2))), (gC, .inl (cI, 40, .inl (upd fgC gnq p3))), (gM, .inl (cI, 40, .inl (upd fgM gnq p4)))] H := hP
  have hD : va_D A [(h0, .inr (1, [.ref gF, .ref gK, .ref gT, .ref gC, .ref gM, .int (nI (gnq + 1)), .ref eF, .ref eC, .ref eM, .int ec, .ref hopA])), (gF, .inl (cI, 40, .inl (upd fgF gnq p0))), (gK, .inl (cI, 40, .inl (upd fgK gnq p1))), (gT, .inl (cI, 40, .inl (upd fgT gnq p2))), (gC, .inl (cI, 40, .inl (upd fgC gnq p3))), (gM, .inl (cI, 40, .inl (upd fgM gnq p4)))] := hD
  have hP9 := hP.sub (ws' := [(h0, .inr (1, [.ref gF, .ref gK, .ref gT, .ref gC, .ref gM, .int (nI (gnq + 1)), .ref eF, .ref eC, .ref eM, .int ec, .ref hopA])), (gF, .inl (cI, 40, .inl (upd fgF gnq p0))), (gK, .inl (cI, 40, .inl (upd fgK gnq p1))), (gT, .inl (cI, 40, .inl (upd fgT gnq p2))), (gC, .inl (cI, 40, .inl (upd fgC gnq p3))), (gM, .inl (cI, 40, .inl (upd fgM gnq p4)))]) [0, 1, 2, 3, 4, 5] rfl
  have hD9 := hD.sub (ws' := [(h0, .inr (1, [.ref gF, .ref gK, .ref gT, .ref gC, .ref gM, .int (nI (gnq + 1)), .ref eF, .ref eC, .ref eM, .int ec, .ref hopA])), (gF, .inl (cI, 40, .inl (upd fgF gnq p0))), (gK, .inl (cI, 40, .inl (upd fgK gnq p1))), (gT, .inl (cI, 40, .inl (upd fgT gnq p2))), (gC, .inl (cI, 40, .inl (upd fgC gnq p3))), (gM, .inl (cI, 40, .inl (upd fgM gnq p4)))]) [0, 1, 2, 3, 4, 5] (by decide) rfl
  exact W.vret hx hb hr (fun t ht hW => ⟨⟨(), rfl, trivial, by rw [ht]; exact hP9, hD9⟩, hS.F ht⟩) hS.2.2 dX1_addGo_79
set_option maxHeartbeats 4000000 in
set_option maxRecDepth 100000 in
theorem k_addEnd (l : Launch) (dC : Nat → ClassId) (dI : Nat → Nat → Nat) (cI cZ cC cJ : ClassId) (sz : Nat) (h0 : Nat) (gF : Nat) (gK : Nat) (gT : Nat) (gC : Nat) (gM : Nat) (gc : Int32) (eF : Nat) (eC : Nat) (eM : Nat) (enq : Nat) (hopA : Nat) (feF : Nat → Int32) (feC : Nat → Int32) (feM : Nat → Int32) (p0 : Int32) (p1 : Int32) (p2 : Int32) (hg40 : enq < 10) : Met l yX1_addEnd wsX1_addEnd ({ frames := 0, cells := 0, slots := 0, locals := 0 }) (va_Pc [.ref h0, .int p0, .int p1, .int p2] (sPre dC dI cI cZ cC cJ [(h0, .inr (1, [.ref gF, .ref gK, .ref gT, .ref gC, .ref gM, .int gc, .ref eF, .ref eC, .ref eM, .int (nI enq), .ref hopA])), (eF, .inl (cI, 10, .inl feF)), (eC, .inl (cI, 10, .inl feC)), (eM, .inl (cI, 10, .inl feM))] sz)) (va_Qv (fun (u : Unit) => True) (fun _ => sB dC dI (va_A [(h0, .inr (1, [.ref gF, .ref gK, .ref gT, .ref gC, .ref gM, .int gc, .ref eF, .ref eC, .ref eM, .int (nI enq), .ref hopA])), (eF, .inl (cI, 10, .inl feF)), (eC, .inl (cI, 10, .inl feC)), (eM, .inl (cI, 10, .inl feM))] sz) [(h0, .inr (1, [.ref gF, .ref gK, .ref gT, .ref gC, .ref gM, .int gc, .ref eF, .ref eC, .ref eM, .int (nI (enq + 1)), .ref hopA])), (eF, .inl (cI, 10, .inl (upd feF enq p0))), (eC, .inl (cI, 10, .inl (upd feC enq p1))), (eM, .inl (cI, 10, .inl (upd feM enq p2)))]) (va_A [(h0, .inr (1, [.ref gF, .ref gK, .ref gT, .ref gC, .ref gM, .int gc, .ref eF, .ref eC, .ref eM, .int (nI enq), .ref hopA])), (eF, .inl (cI, 10, .inl feF)), (eC, .inl (cI, 10, .inl feC)), (eM, .inl (cI, 10, .inl feM))] sz)) 0 0 (va_A [(h0, .inr (1, [.ref gF, .ref gK, .ref gT, .ref gC, .ref gM, .int gc, .ref eF, .ref eC, .ref eM, .int (nI enq), .ref hopA])), (eF, .inl (cI, 10, .inl feF)), (eC, .inl (cI, 10, .inl feC)), (eM, .inl (cI, 10, .inl feM))] sz) := by
  refine Met.ofW (cc := cX1_addEnd) (maxL := 4) (ret := none) (by decide) rfl ?_
  intro p e s m args below meth c s₁ B hml hv
  obtain ⟨rfl, hsz, hP, hsk, hD0⟩ := hv
  have hx := B.exec
  have hb := B.bytes
  have hr := B.returns
  have hts := atoms_spec (ws := wsX1_addEnd) B.pre
  have hown : s.vm.findClass RX1 = some m.cls := findClass_of_methodNamed B.named
  have hlocks := B.notSynchronized
  have hK := hsk.1
  have i1 : ∀ w ∈ wsX10, w ∈ wsX1_addEnd := by decide +kernel
  subst hsz
  have hD := hD0.self (sz := s.heap.size)
  generalize hAe : va_A [(h0, .inr (1, [.ref gF, .ref gK, .ref gT, .ref gC, .ref gM, .int gc, .ref eF, .ref eC, .ref eM, .int (nI enq), .ref hopA])), (eF, .inl (cI, 10, .inl feF)), (eC, .inl (cI, 10, .inl feC)), (eM, .inl (cI, 10, .inl feM))] s.heap.size = A at hD ⊢
  have hA : ∀ q : Nat, s.heap.size ≤ q → A q := fun q h => by rw [← hAe]; exact Or.inr h
  have hS : va_S A s.heap s.heap [] := va_S.rf
  have hl := lv_entry ([.ref h0, .int p0, .int p1, .int p2]) (n := 4) (Nat.le_of_ble_eq_true rfl)
  rw [lg_entry_eq]
  generalize (lg_sl ([.ref h0, .int p0, .int p1, .int p2]) ++ List.replicate (4 - (lg_sl ([.ref h0, .int p0, .int p1, .int p2])).length) Slot.unset).toArray = ls at hl ⊢
  have hl : lv_has ls 4 [(0, .ref h0), (1, .int p0), (2, .int p1), (3, .int p2)] := hl
  refine lv_aload_n hx hb dX1_addEnd_0 rfl (lv_at hl 0 rfl) ?_
  refine va_get (D := (dC, dI)) (ci := 1) (v := .int (nI enq)) (C := RX1) (T := TX1) (N := 11) hx hb hts i1 hown hK hP 0 rfl rfl 9 (by decide) (hts (.fieldLink RX1 46 "StopSetter$Grammar" "endCount" "I") (by decide +kernel)) (fun _ h9 => h9) rfl dX1_addEnd_1 ?_
  refine lv_if_lt (tgt := 16) hx hb dX1_addEnd_4 (by decide) (fun h9 => absurd h9 (nI_pos (by omega))) (fun _ => ?_)
  refine lv_aload_n hx hb dX1_addEnd_7 rfl (lv_at hl 0 rfl) ?_
  refine va_get (D := (dC, dI)) (ci := 1) (v := .int (nI enq)) (C := RX1) (T := TX1) (N := 11) hx hb hts i1 hown hK hP 0 rfl rfl 9 (by decide) (hts (.fieldLink RX1 46 "StopSetter$Grammar" "endCount" "I") (by decide +kernel)) (fun _ h9 => h9) rfl dX1_addEnd_8 ?_
  refine lv_bipush (v := 10) hx hb dX1_addEnd_11 (by decide) ?_
  refine lv_icmp_lt (tgt := 17) hx hb dX1_addEnd_13 (by decide) (fun _ => ?_) (fun h9 => absurd (nI_lt (a := enq) (b := 10) (by omega) (by decide)) h9)
  refine lv_aload_n hx hb dX1_addEnd_17 rfl (lv_at hl 0 rfl) ?_
  refine va_get (D := (dC, dI)) (ci := 1) (v := .ref eF) (C := RX1) (T := TX1) (N := 11) hx hb hts i1 hown hK hP 0 rfl rfl 6 (by decide) (hts (.fieldLink RX1 27 "StopSetter$Grammar" "endFrom" "[I") (by decide +kernel)) (fun _ h9 => h9) rfl dX1_addEnd_18 ?_
  refine lv_aload_n hx hb dX1_addEnd_21 rfl (lv_at hl 0 rfl) ?_
  refine va_get (D := (dC, dI)) (ci := 1) (v := .int (nI enq)) (C := RX1) (T := TX1) (N := 11) hx hb hts i1 hown hK hP 0 rfl rfl 9 (by decide) (hts (.fieldLink RX1 46 "StopSetter$Grammar" "endCount" "I") (by decide +kernel)) (fun _ h9 => h9) rfl dX1_addEnd_22 ?_
  refine lv_iload_n hx hb dX1_addEnd_25 rfl (lv_at hl 1 rfl) ?_
  refine va_iast hx hb hK hP hD hS 1 0 rfl rfl (vp_in_nI (by omega) (by decide)) dX1_addEnd_26 (fun H locs hP hD hS => ?_)
  have hP : va_P (dC, dI) vwCl [(h0, .inr (1, [.ref gF, .ref gK, .ref gT, .ref gC, .ref gM, .int gc, .ref eF, .ref eC, .ref eM, .int (nI enq), .ref hopA])), (eF, .inl (cI, 10, .inl (upd feF ((nI enq).toNatClampNeg) p0))), (eC, .inl (cI, 10, .inl feC)), (eM, .inl (cI, 10, .inl feM))] H := hP
  have hD : va_D A [(h0, .inr (1, [.ref gF, .ref gK, .ref gT, .ref gC, .ref gM, .int gc, .ref eF, .ref eC, .ref eM, .int (nI enq), .ref hopA])), (eF, .inl (cI, 10, .inl (upd feF ((nI enq).toNatClampNeg) p0))), (eC, .inl (cI, 10, .inl feC)), (eM, .inl (cI, 10, .inl feM))] := hD
  rw [show (upd feF ((nI enq).toNatClampNeg) p0) = (upd feF enq p0) from by rw [nI_clamp (by omega)]] at hP hD
  have hP : va_P (dC, dI) vwCl [(h0, .inr (1, [.ref gF, .ref gK, .ref gT, .ref gC, .ref gM, .int gc, .ref eF, .ref eC, .ref eM, .int (nI enq), .ref hopA])), (eF, .inl (cI, 10, .inl (upd feF enq p0))), (eC, .inl (cI, 10, .inl feC)), (eM, .inl (cI, 10, .inl feM))] H := hP
  have hD : va_D A [(h0, .inr (1, [.ref gF, .ref gK, .ref gT, .ref gC, .ref gM, .int gc, .ref eF, .ref eC, .ref eM, .int (nI enq), .ref hopA])), (eF, .inl (cI, 10, .inl (upd feF enq p0))), (eC, .inl (cI, 10, .inl feC)), (eM, .inl (cI, 10, .inl feM))] := hD
  refine lv_aload_n hx hb dX1_addEnd_27 rfl (lv_at hl 0 rfl) ?_
  refine va_get (D := (dC, dI)) (ci := 1) (v := .ref eC) (C := RX1) (T := TX1) (N := 11) hx hb hts i1 hown hK hP 0 rfl rfl 7 (by decide) (hts (.fieldLink RX1 30 "StopSetter$Grammar" "endCost" "[I") (by decide +kernel)) (fun _ h9 => h9) rfl dX1_addEnd_28 ?_
  refine lv_aload_n hx hb dX1_addEnd_31 rfl (lv_at hl 0 rfl) ?_
  refine va_get (D := (dC, dI)) (ci := 1) (v := .int (nI enq)) (C := RX1) (T := TX1) (N := 11) hx hb hts i1 hown hK hP 0 rfl rfl 9 (by decide) (hts (.fieldLink RX1 46 "StopSetter$Grammar" "endCount" "I") (by decide +kernel)) (fun _ h9 => h9) rfl dX1_addEnd_32 ?_
  refine lv_iload_n hx hb dX1_addEnd_35 rfl (lv_at hl 2 rfl) ?_
  refine va_iast hx hb hK hP hD hS 2 0 rfl rfl (vp_in_nI (by omega) (by decide)) dX1_addEnd_36 (fun H locs hP hD hS => ?_)
  have hP : va_P (dC, dI) vwCl [(h0, .inr (1, [.ref gF, .ref gK, .ref gT, .ref gC, .ref gM, .int gc, .ref eF, .ref eC, .ref eM, .int (nI enq), .ref hopA])), (eF, .inl (cI, 10, .inl (upd feF enq p0))), (eC, .inl (cI, 10, .inl (upd feC ((nI enq).toNatClampNeg) p1))), (eM, .inl (cI, 10, .inl feM))] H := hP
  have hD : va_D A [(h0, .inr (1, [.ref gF, .ref gK, .ref gT, .ref gC, .ref gM, .int gc, .ref eF, .ref eC, .ref eM, .int (nI enq), .ref hopA])), (eF, .inl (cI, 10, .inl (upd feF enq p0))), (eC, .inl (cI, 10, .inl (upd feC ((nI enq).toNatClampNeg) p1))), (eM, .inl (cI, 10, .inl feM))] := hD
  rw [show (upd feC ((nI enq).toNatClampNeg) p1) = (upd feC enq p1) from by rw [nI_clamp (by omega)]] at hP hD
  have hP : va_P (dC, dI) vwCl [(h0, .inr (1, [.ref gF, .ref gK, .ref gT, .ref gC, .ref gM, .int gc, .ref eF, .ref eC, .ref eM, .int (nI enq), .ref hopA])), (eF, .inl (cI, 10, .inl (upd feF enq p0))), (eC, .inl (cI, 10, .inl (upd feC enq p1))), (eM, .inl (cI, 10, .inl feM))] H := hP
  have hD : va_D A [(h0, .inr (1, [.ref gF, .ref gK, .ref gT, .ref gC, .ref gM, .int gc, .ref eF, .ref eC, .ref eM, .int (nI enq), .ref hopA])), (eF, .inl (cI, 10, .inl (upd feF enq p0))), (eC, .inl (cI, 10, .inl (upd feC enq p1))), (eM, .inl (cI, 10, .inl feM))] := hD
  refine lv_aload_n hx hb dX1_addEnd_37 rfl (lv_at hl 0 rfl) ?_
  refine va_get (D := (dC, dI)) (ci := 1) (v := .ref eM) (C := RX1) (T := TX1) (N := 11) hx hb hts i1 hown hK hP 0 rfl rfl 8 (by decide) (hts (.fieldLink RX1 33 "StopSetter$Grammar" "endMark" "[I") (by decide +kernel)) (fun _ h9 => h9) rfl dX1_addEnd_38 ?_
  refine lv_aload_n hx hb dX1_addEnd_41 rfl (lv_at hl 0 rfl) ?_
  refine va_get (D := (dC, dI)) (ci := 1) (v := .int (nI enq)) (C := RX1) (T := TX1) (N := 11) hx hb hts i1 hown hK hP 0 rfl rfl 9 (by decide) (hts (.fieldLink RX1 46 "StopSetter$Grammar" "endCount" "I") (by decide +kernel)) (fun _ h9 => h9) rfl dX1_addEnd_42 ?_
  refine lv_iload_n hx hb dX1_addEnd_45 rfl (lv_at hl 3 rfl) ?_
  refine va_iast hx hb hK hP hD hS 3 0 rfl rfl (vp_in_nI (by omega) (by decide)) dX1_addEnd_46 (fun H locs hP hD hS => ?_)
  have hP : va_P (dC, dI) vwCl [(h0, .inr (1, [.ref gF, .ref gK, .ref gT, .ref gC, .ref gM, .int gc, .ref eF, .ref eC, .ref eM, .int (nI enq), .ref hopA])), (eF, .inl (cI, 10, .inl (upd feF enq p0))), (eC, .inl (cI, 10, .inl (upd feC enq p1))), (eM, .inl (cI, 10, .inl (upd feM ((nI enq).toNatClampNeg) p2)))] H := hP
  have hD : va_D A [(h0, .inr (1, [.ref gF, .ref gK, .ref gT, .ref gC, .ref gM, .int gc, .ref eF, .ref eC, .ref eM, .int (nI enq), .ref hopA])), (eF, .inl (cI, 10, .inl (upd feF enq p0))), (eC, .inl (cI, 10, .inl (upd feC enq p1))), (eM, .inl (cI, 10, .inl (upd feM ((nI enq).toNatClampNeg) p2)))] := hD
  rw [show (upd feM ((nI enq).toNatClampNeg) p2) = (upd feM enq p2) from by rw [nI_clamp (by omega)]] at hP hD
  have hP : va_P (dC, dI) vwCl [(h0, .inr (1, [.ref gF, .ref gK, .ref gT, .ref gC, .ref gM, .int gc, .ref eF, .ref eC, .ref eM, .int (nI enq), .ref hopA])), (eF, .inl (cI, 10, .inl (upd feF enq p0))), (eC, .inl (cI, 10, .inl (upd feC enq p1))), (eM, .inl (cI, 10, .inl (upd feM enq p2)))] H := hP
  have hD : va_D A [(h0, .inr (1, [.ref gF, .ref gK, .ref gT, .ref gC, .ref gM, .int gc, .ref eF, .ref eC, .ref eM, .int (nI enq), .ref hopA])), (eF, .inl (cI, 10, .inl (upd feF enq p0))), (eC, .inl (cI, 10, .inl (upd feC enq p1))), (eM, .inl (cI, 10, .inl (upd feM enq p2)))] := hD
  refine lv_aload_n hx hb dX1_addEnd_47 rfl (lv_at hl 0 rfl) ?_
  refine lv_dup hx hb dX1_addEnd_48 rfl ?_
  refine va_get (D := (dC, dI)) (ci := 1) (v := .int (nI enq)) (C := RX1) (T := TX1) (N := 11) hx hb hts i1 hown hK hP 0 rfl rfl 9 (by decide) (hts (.fieldLink RX1 46 "StopSetter$Grammar" "endCount" "I") (by decide +kernel)) (fun _ h9 => h9) rfl dX1_addEnd_49 ?_
  refine lv_iconst (v := 1) hx hb dX1_addEnd_52 (by decide) ?_
  refine lv_iadd hx hb dX1_addEnd_53 ?_
  refine lv_topi (fun v_ ev_ => ?_)
  obtain rfl : v_ = (nI (enq + 1)) := ev_.trans (nI_1 enq)
  refine va_put (D := (dC, dI)) (ci := 1) (v := .int (nI (enq + 1))) (ty := tyX1 9) (C := RX1) (T := TX1) (N := 11) hx hb hts i1 tyX1 tyX1_ok nmX1 hown hK hP hD hS 0 rfl rfl 9 (by decide) (hts (.fieldLink RX1 46 "StopSetter$Grammar" "endCount" "I") (by decide +kernel)) (fun _ h9 => h9) rfl (by decide +kernel) rfl rfl (Nat.le_of_ble_eq_true rfl) dX1_addEnd_54 (fun H locs hP hD hS => ?_)
  have hP : va_P (dC, dI) vwCl [(h0, .inr (1, [.ref gF, .ref gK, .ref gT, .ref gC, .ref gM, .int gc, .ref eF, .ref eC, .ref eM, .int (nI (enq + 1)), .ref hopA])), (eF, .inl (cI, 10, .inl (upd feF enq p0))), (eC, .inl (cI, 10, .inl (upd feC enq p1))), (eM, .inl (cI, 10, .inl (upd feM enq p2)))] H := hP
  have hD : va_D A [(h0, .inr (1, [.ref gF, .ref gK, .ref gT, .ref gC, .ref gM, .int gc, .ref eF, .ref eC, .ref eM, .int (nI (enq + 1)), .ref hopA])), (eF, .inl (cI, 10, .inl (upd feF enq p0))), (eC, .inl (cI, 10, .inl (upd feC enq p1))), (eM, .inl (cI, 10, .inl (upd feM enq p2)))] := hD
  have hP9 := hP.sub (ws' := [(h0, .inr (1, [.ref gF, .ref gK, .ref gT, .ref gC, .ref gM, .int gc, .ref eF, .ref eC, .ref eM, .int (nI (enq + 1)), .ref hopA])), (eF, .inl (cI, 10, .inl (upd feF enq p0))), (eC, .inl (cI, 10, .inl (upd feC enq p1))), (eM, .inl (cI, 10, .inl (upd feM enq p2)))]) [0, 1, 2, 3] rfl
  have hD9 := hD.sub (ws' := [(h0, .inr (1, [.ref gF, .ref gK, .ref gT, .ref gC, .ref gM, .int gc, .ref eF, .ref eC, .ref eM, .int (nI (enq + 1)), .ref hopA])), (eF, .inl (cI, 10, .inl (upd feF enq p0))), (eC, .inl (cI, 10, .inl (upd feC enq p1))), (eM, .inl (cI, 10, .inl (upd feM enq p2)))]) [0, 1, 2, 3] (by decide) rfl
  exact W.vret hx hb hr (fun t ht hW => ⟨⟨(), rfl, trivial, by rw [ht]; exact hP9, hD9⟩, hS.F ht⟩) hS.2.2 dX1_addEnd_57
set_option maxHeartbeats 4000000 in
set_option maxRecDepth 100000 in
theorem k_readGo (l : Launch) (dC : Nat → ClassId) (dI : Nat → Nat → Nat) (cI cZ cC cJ : ClassId) (sz : Nat) (adK adV : Nat → Nat) (h0 : Nat) (tO : Nat) (so : Int32) (pl : Int32) (bh : Int32) (fa_ : Int32) (sA : Nat) (nq : Nat) (fs : Nat → Int32) (g0 : Nat) (gF : Nat) (gK : Nat) (gT : Nat) (gC : Nat) (gM : Nat) (gnq : Nat) (eF : Nat) (eC : Nat) (eM : Nat) (ec : Int32) (hopA : Nat) (fgF : Nat → Int32) (fgK : Nat → Int32) (fgT : Nat → Int32) (fgC : Nat → Int32) (fgM : Nat → Int32) (qs : Nat × Int32) (hnq : nq ≤ 1600) (hR : rOK fs nq qs so pl bh fa_) (h0_ : qs.2 = 0) (hgn : gnq ≤ 40) : Met l yX2_readGo wsX2_readGo ({ frames := 6, cells := 0, slots := 0, locals := 127 }) (va_Pc [.ref h0, .ref g0] (fun U => sPre dC dI cI cZ cC cJ [(h0, .inr (2, [.ref tO, .int so, .int pl, .int bh, .int fa_])), (tO, .inr (3, [.ref sA, .int (nI nq)])), (sA, .inl (cC, 1600, .inl fs)), (g0, .inr (1, [.ref gF, .ref gK, .ref gT, .ref gC, .ref gM, .int (nI gnq), .ref eF, .ref eC, .ref eM, .int ec, .ref hopA])), (gF, .inl (cI, 40, .inl fgF)), (gK, .inl (cI, 40, .inl fgK)), (gT, .inl (cI, 40, .inl fgT)), (gC, .inl (cI, 40, .inl fgC)), (gM, .inl (cI, 40, .inl fgM))] sz U ∧ tW adK adV (va_A [(h0, .inr (2, [.ref tO, .int so, .int pl, .int bh, .int fa_])), (tO, .inr (3, [.ref sA, .int (nI nq)])), (sA, .inl (cC, 1600, .inl fs)), (g0, .inr (1, [.ref gF, .ref gK, .ref gT, .ref gC, .ref gM, .int (nI gnq), .ref eF, .ref eC, .ref eM, .int ec, .ref hopA])), (gF, .inl (cI, 40, .inl fgF)), (gK, .inl (cI, 40, .inl fgK)), (gT, .inl (cI, 40, .inl fgT)), (gC, .inl (cI, 40, .inl fgC)), (gM, .inl (cI, 40, .inl fgM))] sz) U)) (va_Qv (fun (u : (Int32) × (Int32) × (Int32) × (Int32) × (Nat) × (Nat → Int32) × (Nat → Int32) × (Nat → Int32) × (Nat → Int32) × (Nat → Int32)) => match u with | (so2, pl2, bh2, fa_2, gnq2, fgF2, fgK2, fgT2, fgC2, fgM2) => (rOK fs nq (rgQ (tkO fs nq) gnq qs) so2 pl2 bh2 fa_2) ∧ (addD fa_2 gnq gnq2 (lgL (tkO fs nq) qs) fgF fgK fgT fgC fgM fgF2 fgK2 fgT2 fgC2 fgM2)) (fun (u : (Int32) × (Int32) × (Int32) × (Int32) × (Nat) × (Nat → Int32) × (Nat → Int32) × (Nat → Int32) × (Nat → Int32) × (Nat → Int32)) t => match u with | (so2, pl2, bh2, fa_2, gnq2, fgF2, fgK2, fgT2, fgC2, fgM2) => sB dC dI (va_A [(h0, .inr (2, [.ref tO, .int so, .int pl, .int bh, .int fa_])), (tO, .inr (3, [.ref sA, .int (nI nq)])), (sA, .inl (cC, 1600, .inl fs)), (g0, .inr (1, [.ref gF, .ref gK, .ref gT, .ref gC, .ref gM, .int (nI gnq), .ref eF, .ref eC, .ref eM, .int ec, .ref hopA])), (gF, .inl (cI, 40, .inl fgF)), (gK, .inl (cI, 40, .inl fgK)), (gT, .inl (cI, 40, .inl fgT)), (gC, .inl (cI, 40, .inl fgC)), (gM, .inl (cI, 40, .inl fgM))] sz) [(h0, .inr (2, [.ref tO, .int so2, .int pl2, .int bh2, .int fa_2])), (tO, .inr (3, [.ref sA, .int (nI nq)])), (sA, .inl (cC, 1600, .inl fs)), (g0, .inr (1, [.ref gF, .ref gK, .ref gT, .ref gC, .ref gM, .int (nI gnq2), .ref eF, .ref eC, .ref eM, .int ec, .ref hopA])), (gF, .inl (cI, 40, .inl fgF2)), (gK, .inl (cI, 40, .inl fgK2)), (gT, .inl (cI, 40, .inl fgT2)), (gC, .inl (cI, 40, .inl fgC2)), (gM, .inl (cI, 40, .inl fgM2))] t) (va_A [(h0, .inr (2, [.ref tO, .int so, .int pl, .int bh, .int fa_])), (tO, .inr (3, [.ref sA, .int (nI nq)])), (sA, .inl (cC, 1600, .inl fs)), (g0, .inr (1, [.ref gF, .ref gK, .ref gT, .ref gC, .ref gM, .int (nI gnq), .ref eF, .ref eC, .ref eM, .int ec, .ref hopA])), (gF, .inl (cI, 40, .inl fgF)), (gK, .inl (cI, 40, .inl fgK)), (gT, .inl (cI, 40, .inl fgT)), (gC, .inl (cI, 40, .inl fgC)), (gM, .inl (cI, 40, .inl fgM))] sz)) 0 0 (va_A [(h0, .inr (2, [.ref tO, .int so, .int pl, .int bh, .int fa_])), (tO, .inr (3, [.ref sA, .int (nI nq)])), (sA, .inl (cC, 1600, .inl fs)), (g0, .inr (1, [.ref gF, .ref gK, .ref gT, .ref gC, .ref gM, .int (nI gnq), .ref eF, .ref eC, .ref eM, .int ec, .ref hopA])), (gF, .inl (cI, 40, .inl fgF)), (gK, .inl (cI, 40, .inl fgK)), (gT, .inl (cI, 40, .inl fgT)), (gC, .inl (cI, 40, .inl fgC)), (gM, .inl (cI, 40, .inl fgM))] sz) := by
  refine Met.ofW (cc := cX2_readGo) (maxL := 7) (ret := none) (by decide) rfl ?_
  intro p e s m args below meth c s₁ B hml hv
  obtain ⟨rfl, ⟨hsz, hP, hsk, hD0⟩, htw⟩ := hv
  have hx := B.exec
  have hb := B.bytes
  have hr := B.returns
  have hts := atoms_spec (ws := wsX2_readGo) B.pre
  have hown : s.vm.findClass RX2 = some m.cls := findClass_of_methodNamed B.named
  have hlocks := B.notSynchronized
  have hK := hsk.1
  have i1 : ∀ w ∈ wsX10, w ∈ wsX2_readGo := by decide +kernel
  have i2 : ∀ w ∈ wsX20, w ∈ wsX2_readGo := by decide +kernel
  subst hsz
  have hD := hD0.self (sz := s.heap.size)
  generalize hAe : va_A [(h0, .inr (2, [.ref tO, .int so, .int pl, .int bh, .int fa_])), (tO, .inr (3, [.ref sA, .int (nI nq)])), (sA, .inl (cC, 1600, .inl fs)), (g0, .inr (1, [.ref gF, .ref gK, .ref gT, .ref gC, .ref gM, .int (nI gnq), .ref eF, .ref eC, .ref eM, .int ec, .ref hopA])), (gF, .inl (cI, 40, .inl fgF)), (gK, .inl (cI, 40, .inl fgK)), (gT, .inl (cI, 40, .inl fgT)), (gC, .inl (cI, 40, .inl fgC)), (gM, .inl (cI, 40, .inl fgM))] s.heap.size = A at hD htw ⊢
  have hA : ∀ q : Nat, s.heap.size ≤ q → A q := fun q h => by rw [← hAe]; exact Or.inr h
  have hS : va_S A s.heap s.heap [] := va_S.rf
  have hl := lv_entry ([.ref h0, .ref g0]) (n := 7) (Nat.le_of_ble_eq_true rfl)
  rw [lg_entry_eq]
  generalize (lg_sl ([.ref h0, .ref g0]) ++ List.replicate (7 - (lg_sl ([.ref h0, .ref g0])).length) Slot.unset).toArray = ls at hl ⊢
  have hl : lv_has ls 7 [(0, .ref h0), (1, .ref g0)] := hl
  have hfa0 : fa_ = 0 := hR.2.2.2.trans h0_
  have hst : stR (tkO fs nq) 5 qs = flt (tkO fs nq) 5 qs := by unfold stR; rw [if_pos h0_]
  refine lv_aload_n hx hb dX2_readGo_0 rfl (lv_at hl 1 rfl) ?_
  refine va_getN (D := (dC, dI)) (ci := 1) (v := .int (nI gnq)) (C := RX1) (T := TX1) (N := 11) hx hb hts i1 hown hK hP 3 rfl rfl 5 (by decide) (va_Nw.use rfl (hsk.2.1 ("StopSetter$Reader", 54, "StopSetter$Grammar", "goCount", "I", "StopSetter") (by decide +kernel))) (fun _ h9 => h9) rfl dX2_readGo_1 ?_
  refine lv_bipush (v := 40) hx hb dX2_readGo_4 (by decide) ?_
  refine lv_icmp_lt (tgt := 15) hx hb dX2_readGo_6 (by decide) (fun c_6 => ?_) (fun c_6 => ?_)
  · skip
    have hg40 : gnq < 40 := (nI_ltI (a := gnq) (b := 40) (by omega) (by decide)).mp c_6
    refine lv_aload_n hx hb dX2_readGo_15 rfl (lv_at hl 0 rfl) ?_
    have hPc := hP.sub (ws' := [(h0, .inr (2, [.ref tO, .int so, .int pl, .int bh, .int fa_])), (tO, .inr (3, [.ref sA, .int (nI nq)])), (sA, .inl (cC, 1600, .inl fs))]) [0, 1, 2] rfl
    have hDc := hD.sub (ws' := [(h0, .inr (2, [.ref tO, .int so, .int pl, .int bh, .int fa_])), (tO, .inr (3, [.ref sA, .int (nI nq)])), (sA, .inl (cC, 1600, .inl fs))]) [0, 1, 2] (by decide) rfl
    have hFc := va_free (wc := [(h0, .inr (2, [.ref tO, .int so, .int pl, .int bh, .int fa_])), (tO, .inr (3, [.ref sA, .int (nI nq)])), (sA, .inl (cC, 1600, .inl fs))]) hD hS hA [0, 1, 2] rfl
    refine va_callv (va_runV (As := []) (rest := []) ⟨hx, hb, hml, hown, hts⟩ (k_advance l dC dI cI cZ cC cJ s.heap.size  h0 tO so pl bh fa_ sA nq fs (qs.1 + 1) (by first | assumption | decide | omega) hR.2.2.1) (cwV 0 hts gX2_readGo_X2_advance rfl rfl rfl (by decide +kernel) ⟨Nat.le_of_ble_eq_true rfl, Nat.le_of_ble_eq_true rfl⟩) ⟨sPre_blind, va_recv hK hPc (ci := 2) (q0 := 0) rfl rfl, fun U hU hW => ⟨rfl, sPre_ok hsk hPc hDc hU hW⟩⟩ rfl rfl hl.1 rfl (lv_room (Nat.le_of_ble_eq_true rfl)) dX2_readGo_16 ⟨(show 0 + 0 ≤ 0 by omega), (show 0 + 0 ≤ 0 by omega)⟩) hS (fun q _ h => hFc q h) hFc (fun u t H1 locs ht hvm hw hB hz1 hk1 hS => ?_)
    obtain ⟨s_2, p_3, b_4⟩ := u
    try dsimp only at hw hB
    have he_5 := hw
    have he_5 : rOK fs nq ((qs.1 + 1), fa_) s_2 p_3 b_4 fa_ := he_5
    obtain ⟨q_6, eq_6⟩ : ∃ x9 : Nat × Int32, x9 = ((qs.1 + 1), fa_) := ⟨_, rfl⟩
    rw [← eq_6] at he_5
    obtain ⟨hP1, hD1⟩ := hB
    rw [ht] at hP1
    obtain ⟨hP, hD⟩ := va_join (wr := [(g0, .inr (1, [.ref gF, .ref gK, .ref gT, .ref gC, .ref gM, .int (nI gnq), .ref eF, .ref eC, .ref eM, .int ec, .ref hopA])), (gF, .inl (cI, 40, .inl fgF)), (gK, .inl (cI, 40, .inl fgK)), (gT, .inl (cI, 40, .inl fgT)), (gC, .inl (cI, 40, .inl fgC)), (gM, .inl (cI, 40, .inl fgM))]) (w1 := [(h0, .inr (2, [.ref tO, .int s_2, .int p_3, .int b_4, .int fa_])), (tO, .inr (3, [.ref sA, .int (nI nq)])), (sA, .inl (cC, 1600, .inl fs))]) hP hD [0, 1, 2] [3, 4, 5, 6, 7, 8] rfl rfl (by decide) (by decide) hk1 hFc hP1 hD1
    generalize H1 = H at hP hS ⊢
    have hP : va_P (dC, dI) vwCl [(g0, .inr (1, [.ref gF, .ref gK, .ref gT, .ref gC, .ref gM, .int (nI gnq), .ref eF, .ref eC, .ref eM, .int ec, .ref hopA])), (gF, .inl (cI, 40, .inl fgF)), (gK, .inl (cI, 40, .inl fgK)), (gT, .inl (cI, 40, .inl fgT)), (gC, .inl (cI, 40, .inl fgC)), (gM, .inl (cI, 40, .inl fgM)), (h0, .inr (2, [.ref tO, .int s_2, .int p_3, .int b_4, .int fa_])), (tO, .inr (3, [.ref sA, .int (nI nq)])), (sA, .inl (cC, 1600, .inl fs))] H := hP
    have hD : va_D A [(g0, .inr (1, [.ref gF, .ref gK, .ref gT, .ref gC, .ref gM, .int (nI gnq), .ref eF, .ref eC, .ref eM, .int ec, .ref hopA])), (gF, .inl (cI, 40, .inl fgF)), (gK, .inl (cI, 40, .inl fgK)), (gT, .inl (cI, 40, .inl fgT)), (gC, .inl (cI, 40, .inl fgC)), (gM, .inl (cI, 40, .inl fgM)), (h0, .inr (2, [.ref tO, .int s_2, .int p_3, .int b_4, .int fa_])), (tO, .inr (3, [.ref sA, .int (nI nq)])), (sA, .inl (cC, 1600, .inl fs))] := hD
    have zq1 : q_6 = (qs.1 + 1, 0) := by rw [eq_6, hfa0]
    refine lv_aload_n hx hb dX2_readGo_19 rfl (lv_at hl 0 rfl) ?_
    refine lv_bipush (v := 9) hx hb dX2_readGo_20 (by decide) ?_
    have hPc := hP.sub (ws' := [(h0, .inr (2, [.ref tO, .int s_2, .int p_3, .int b_4, .int fa_])), (tO, .inr (3, [.ref sA, .int (nI nq)])), (sA, .inl (cC, 1600, .inl fs))]) [6, 7, 8] rfl
    have hDc := hD.sub (ws' := [(h0, .inr (2, [.ref tO, .int s_2, .int p_3, .int b_4, .int fa_])), (tO, .inr (3, [.ref sA, .int (nI nq)])), (sA, .inl (cC, 1600, .inl fs))]) [6, 7, 8] (by decide) rfl
    have hFc := va_free (wc := [(h0, .inr (2, [.ref tO, .int s_2, .int p_3, .int b_4, .int fa_])), (tO, .inr (3, [.ref sA, .int (nI nq)])), (sA, .inl (cC, 1600, .inl fs))]) hD hS hA [6, 7, 8] rfl
    refine va_calli (va_runV (As := [.int 9]) (rest := []) ⟨hx, hb, hml, hown, hts⟩ (k_readNumber l dC dI cI cZ cC cJ H.size  h0 tO s_2 p_3 b_4 fa_ sA nq fs 9 q_6 (by first | assumption | decide | omega) he_5) (cwV 1 hts gX2_readGo_X2_readNumber rfl rfl rfl (by decide +kernel) ⟨Nat.le_of_ble_eq_true rfl, Nat.le_of_ble_eq_true rfl⟩) ⟨sPre_blind, va_recv hK hPc (ci := 2) (q0 := 0) rfl rfl, fun U hU hW => ⟨rfl, sPre_ok hsk hPc hDc hU hW⟩⟩ rfl rfl hl.1 rfl (lv_room (Nat.le_of_ble_eq_true rfl)) dX2_readGo_22 ⟨(show 0 + 0 ≤ 0 by omega), (show 0 + 0 ≤ 0 by omega)⟩) hS (fun q _ h => hFc q h) hFc (fun r_7 u t H1 locs ht hvm hw hB hz1 hk1 hS => ?_)
    obtain ⟨s_8, p_9, b_10, f_11⟩ := u
    try dsimp only at hw hB
    obtain ⟨he_12, he_13⟩ := hw
    have he_12 : (r_7 : Int32) = nV (tkO fs nq) q_6 := he_12
    have he_13 : rOK fs nq (stN (tkO fs nq) 9 q_6) s_8 p_9 b_10 f_11 := he_13
    obtain ⟨q_14, eq_14⟩ : ∃ x9 : Nat × Int32, x9 = stN (tkO fs nq) 9 q_6 := ⟨_, rfl⟩
    rw [← eq_14] at he_13
    obtain ⟨hP1, hD1⟩ := hB
    rw [ht] at hP1
    obtain ⟨hP, hD⟩ := va_join (wr := [(g0, .inr (1, [.ref gF, .ref gK, .ref gT, .ref gC, .ref gM, .int (nI gnq), .ref eF, .ref eC, .ref eM, .int ec, .ref hopA])), (gF, .inl (cI, 40, .inl fgF)), (gK, .inl (cI, 40, .inl fgK)), (gT, .inl (cI, 40, .inl fgT)), (gC, .inl (cI, 40, .inl fgC)), (gM, .inl (cI, 40, .inl fgM))]) (w1 := [(h0, .inr (2, [.ref tO, .int s_8, .int p_9, .int b_10, .int f_11])), (tO, .inr (3, [.ref sA, .int (nI nq)])), (sA, .inl (cC, 1600, .inl fs))]) hP hD [6, 7, 8] [0, 1, 2, 3, 4, 5] rfl rfl (by decide) (by decide) hk1 hFc hP1 hD1
    generalize H1 = H at hP hS ⊢
    have hP : va_P (dC, dI) vwCl [(g0, .inr (1, [.ref gF, .ref gK, .ref gT, .ref gC, .ref gM, .int (nI gnq), .ref eF, .ref eC, .ref eM, .int ec, .ref hopA])), (gF, .inl (cI, 40, .inl fgF)), (gK, .inl (cI, 40, .inl fgK)), (gT, .inl (cI, 40, .inl fgT)), (gC, .inl (cI, 40, .inl fgC)), (gM, .inl (cI, 40, .inl fgM)), (h0, .inr (2, [.ref tO, .int s_8, .int p_9, .int b_10, .int f_11])), (tO, .inr (3, [.ref sA, .int (nI nq)])), (sA, .inl (cC, 1600, .inl fs))] H := hP
    have hD : va_D A [(g0, .inr (1, [.ref gF, .ref gK, .ref gT, .ref gC, .ref gM, .int (nI gnq), .ref eF, .ref eC, .ref eM, .int ec, .ref hopA])), (gF, .inl (cI, 40, .inl fgF)), (gK, .inl (cI, 40, .inl fgK)), (gT, .inl (cI, 40, .inl fgT)), (gC, .inl (cI, 40, .inl fgC)), (gM, .inl (cI, 40, .inl fgM)), (h0, .inr (2, [.ref tO, .int s_8, .int p_9, .int b_10, .int f_11])), (tO, .inr (3, [.ref sA, .int (nI nq)])), (sA, .inl (cC, 1600, .inl fs))] := hD
    have zA : lgA (tkO fs nq) qs = q_14 := by unfold lgA; rw [eq_14, zq1]
    refine lv_istore_n (lv' := [(2, .int r_7), (0, .ref h0), (1, .ref g0)]) hx hb dX2_readGo_25 rfl hl (by decide) rfl (fun ls hl => ?_)
    refine lv_aload_n hx hb dX2_readGo_26 rfl (lv_at hl 1 rfl) ?_
    refine lv_aload_n hx hb dX2_readGo_27 rfl (lv_at hl 1 rfl) ?_
    refine va_ldcS (own := RX2) (index := 61) (tx := "kind") hx hb hown (htw.2.1 1 (by decide)) dX2_readGo_28 ?_
    have hPc := hP.sub (ws' := [(h0, .inr (2, [.ref tO, .int s_8, .int p_9, .int b_10, .int f_11])), (tO, .inr (3, [.ref sA, .int (nI nq)])), (sA, .inl (cC, 1600, .inl fs))]) [6, 7, 8] rfl
    have hDc := hD.sub (ws' := [(h0, .inr (2, [.ref tO, .int s_8, .int p_9, .int b_10, .int f_11])), (tO, .inr (3, [.ref sA, .int (nI nq)])), (sA, .inl (cC, 1600, .inl fs))]) [6, 7, 8] (by decide) rfl
    have hFc := va_free (wc := [(h0, .inr (2, [.ref tO, .int s_8, .int p_9, .int b_10, .int f_11])), (tO, .inr (3, [.ref sA, .int (nI nq)])), (sA, .inl (cC, 1600, .inl fs))]) hD hS hA [6, 7, 8] rfl
    refine va_calli (va_runV (As := [.ref (adK 1)]) (rest := [.ref h0]) ⟨hx, hb, hml, hown, hts⟩ (k_isText l dC dI cI cZ cC cJ H.size adK adV h0 tO s_8 p_9 b_10 f_11 sA nq fs 1 q_14 (by first | assumption | decide | omega) (by decide) he_13) (cwV 1 hts gX2_readGo_X2_isText rfl rfl rfl (by decide +kernel) ⟨Nat.le_of_ble_eq_true rfl, Nat.le_of_ble_eq_true rfl⟩) ⟨tW_blind, va_recv hK hPc (ci := 2) (q0 := 0) rfl rfl, fun U hU hW => ⟨rfl, sPre_ok hsk hPc hDc hU hW, tW_warm hW hU hS (fun q h => hFc q h) htw⟩⟩ rfl rfl hl.1 rfl (lv_room (Nat.le_of_ble_eq_true rfl)) dX2_readGo_30 ⟨(show 0 + 0 ≤ 0 by omega), (show 0 + 0 ≤ 0 by omega)⟩) hS (fun q _ h => hFc q h) hFc (fun r_15 u t H1 locs ht hvm hw hB hz1 hk1 hS => ?_)
    try dsimp only at hw hB
    have he_16 := hw
    have he_16 : (r_15 : Int32) = tI fs nq q_14.1 1 := he_16
    obtain ⟨hP1, hD1⟩ := hB
    rw [ht] at hP1
    obtain ⟨hP, hD⟩ := va_join (wr := [(g0, .inr (1, [.ref gF, .ref gK, .ref gT, .ref gC, .ref gM, .int (nI gnq), .ref eF, .ref eC, .ref eM, .int ec, .ref hopA])), (gF, .inl (cI, 40, .inl fgF)), (gK, .inl (cI, 40, .inl fgK)), (gT, .inl (cI, 40, .inl fgT)), (gC, .inl (cI, 40, .inl fgC)), (gM, .inl (cI, 40, .inl fgM))]) (w1 := [(h0, .inr (2, [.ref tO, .int s_8, .int p_9, .int b_10, .int f_11])), (tO, .inr (3, [.ref sA, .int (nI nq)])), (sA, .inl (cC, 1600, .inl fs))]) hP hD [6, 7, 8] [0, 1, 2, 3, 4, 5] rfl rfl (by decide) (by decide) hk1 hFc hP1 hD1
    generalize H1 = H at hP hS ⊢
    have hP : va_P (dC, dI) vwCl [(g0, .inr (1, [.ref gF, .ref gK, .ref gT, .ref gC, .ref gM, .int (nI gnq), .ref eF, .ref eC, .ref eM, .int ec, .ref hopA])), (gF, .inl (cI, 40, .inl fgF)), (gK, .inl (cI, 40, .inl fgK)), (gT, .inl (cI, 40, .inl fgT)), (gC, .inl (cI, 40, .inl fgC)), (gM, .inl (cI, 40, .inl fgM)), (h0, .inr (2, [.ref tO, .int s_8, .int p_9, .int b_10, .int f_11])), (tO, .inr (3, [.ref sA, .int (nI nq)])), (sA, .inl (cC, 1600, .inl fs))] H := hP
    have hD : va_D A [(g0, .inr (1, [.ref gF, .ref gK, .ref gT, .ref gC, .ref gM, .int (nI gnq), .ref eF, .ref eC, .ref eM, .int ec, .ref hopA])), (gF, .inl (cI, 40, .inl fgF)), (gK, .inl (cI, 40, .inl fgK)), (gT, .inl (cI, 40, .inl fgT)), (gC, .inl (cI, 40, .inl fgC)), (gM, .inl (cI, 40, .inl fgM)), (h0, .inr (2, [.ref tO, .int s_8, .int p_9, .int b_10, .int f_11])), (tO, .inr (3, [.ref sA, .int (nI nq)])), (sA, .inl (cC, 1600, .inl fs))] := hD
    have hPc := hP.sub (ws' := [(h0, .inr (2, [.ref tO, .int s_8, .int p_9, .int b_10, .int f_11])), (tO, .inr (3, [.ref sA, .int (nI nq)])), (sA, .inl (cC, 1600, .inl fs))]) [6, 7, 8] rfl
    have hDc := hD.sub (ws' := [(h0, .inr (2, [.ref tO, .int s_8, .int p_9, .int b_10, .int f_11])), (tO, .inr (3, [.ref sA, .int (nI nq)])), (sA, .inl (cC, 1600, .inl fs))]) [6, 7, 8] (by decide) rfl
    have hFc := va_free (wc := [(h0, .inr (2, [.ref tO, .int s_8, .int p_9, .int b_10, .int f_11])), (tO, .inr (3, [.ref sA, .int (nI nq)])), (sA, .inl (cC, 1600, .inl fs))]) hD hS hA [6, 7, 8] rfl
    refine va_callv (va_runV (As := [.int r_15]) (rest := []) ⟨hx, hb, hml, hown, hts⟩ (k_passIf l dC dI cI cZ cC cJ H.size  h0 tO s_8 p_9 b_10 f_11 sA nq fs r_15 q_14 (by first | assumption | decide | omega) he_13) (cwV 1 hts gX2_readGo_X2_passIf rfl rfl rfl (by decide +kernel) ⟨Nat.le_of_ble_eq_true rfl, Nat.le_of_ble_eq_true rfl⟩) ⟨sPre_blind, va_recv hK hPc (ci := 2) (q0 := 0) rfl rfl, fun U hU hW => ⟨rfl, sPre_ok hsk hPc hDc hU hW⟩⟩ rfl rfl hl.1 rfl (lv_room (Nat.le_of_ble_eq_true rfl)) dX2_readGo_33 ⟨(show 0 + 0 ≤ 0 by omega), (show 0 + 0 ≤ 0 by omega)⟩) hS (fun q _ h => hFc q h) hFc (fun u t H1 locs ht hvm hw hB hz1 hk1 hS => ?_)
    obtain ⟨s_18, p_19, b_20, f_21⟩ := u
    try dsimp only at hw hB
    have he_22 := hw
    have he_22 : rOK fs nq (stX (tkO fs nq) r_15 q_14) s_18 p_19 b_20 f_21 := he_22
    obtain ⟨q_23, eq_23⟩ : ∃ x9 : Nat × Int32, x9 = stX (tkO fs nq) r_15 q_14 := ⟨_, rfl⟩
    rw [← eq_23] at he_22
    obtain ⟨hP1, hD1⟩ := hB
    rw [ht] at hP1
    obtain ⟨hP, hD⟩ := va_join (wr := [(g0, .inr (1, [.ref gF, .ref gK, .ref gT, .ref gC, .ref gM, .int (nI gnq), .ref eF, .ref eC, .ref eM, .int ec, .ref hopA])), (gF, .inl (cI, 40, .inl fgF)), (gK, .inl (cI, 40, .inl fgK)), (gT, .inl (cI, 40, .inl fgT)), (gC, .inl (cI, 40, .inl fgC)), (gM, .inl (cI, 40, .inl fgM))]) (w1 := [(h0, .inr (2, [.ref tO, .int s_18, .int p_19, .int b_20, .int f_21])), (tO, .inr (3, [.ref sA, .int (nI nq)])), (sA, .inl (cC, 1600, .inl fs))]) hP hD [6, 7, 8] [0, 1, 2, 3, 4, 5] rfl rfl (by decide) (by decide) hk1 hFc hP1 hD1
    generalize H1 = H at hP hS ⊢
    have hP : va_P (dC, dI) vwCl [(g0, .inr (1, [.ref gF, .ref gK, .ref gT, .ref gC, .ref gM, .int (nI gnq), .ref eF, .ref eC, .ref eM, .int ec, .ref hopA])), (gF, .inl (cI, 40, .inl fgF)), (gK, .inl (cI, 40, .inl fgK)), (gT, .inl (cI, 40, .inl fgT)), (gC, .inl (cI, 40, .inl fgC)), (gM, .inl (cI, 40, .inl fgM)), (h0, .inr (2, [.ref tO, .int s_18, .int p_19, .int b_20, .int f_21])), (tO, .inr (3, [.ref sA, .int (nI nq)])), (sA, .inl (cC, 1600, .inl fs))] H := hP
    have hD : va_D A [(g0, .inr (1, [.ref gF, .ref gK, .ref gT, .ref gC, .ref gM, .int (nI gnq), .ref eF, .ref eC, .ref eM, .int ec, .ref hopA])), (gF, .inl (cI, 40, .inl fgF)), (gK, .inl (cI, 40, .inl fgK)), (gT, .inl (cI, 40, .inl fgT)), (gC, .inl (cI, 40, .inl fgC)), (gM, .inl (cI, 40, .inl fgM)), (h0, .inr (2, [.ref tO, .int s_18, .int p_19, .int b_20, .int f_21])), (tO, .inr (3, [.ref sA, .int (nI nq)])), (sA, .inl (cC, 1600, .inl fs))] := hD
    have zB1 : stW (tkO fs nq) 1 (lgA (tkO fs nq) qs) = q_23 := by rw [zA, eq_23, he_16]; rfl
    refine lv_aload_n hx hb dX2_readGo_36 rfl (lv_at hl 1 rfl) ?_
    refine lv_bipush (v := 7) hx hb dX2_readGo_37 (by decide) ?_
    have hPc := hP.sub (ws' := [(h0, .inr (2, [.ref tO, .int s_18, .int p_19, .int b_20, .int f_21])), (tO, .inr (3, [.ref sA, .int (nI nq)])), (sA, .inl (cC, 1600, .inl fs))]) [6, 7, 8] rfl
    have hDc := hD.sub (ws' := [(h0, .inr (2, [.ref tO, .int s_18, .int p_19, .int b_20, .int f_21])), (tO, .inr (3, [.ref sA, .int (nI nq)])), (sA, .inl (cC, 1600, .inl fs))]) [6, 7, 8] (by decide) rfl
    have hFc := va_free (wc := [(h0, .inr (2, [.ref tO, .int s_18, .int p_19, .int b_20, .int f_21])), (tO, .inr (3, [.ref sA, .int (nI nq)])), (sA, .inl (cC, 1600, .inl fs))]) hD hS hA [6, 7, 8] rfl
    refine va_calli (va_runV (As := [.int 7]) (rest := []) ⟨hx, hb, hml, hown, hts⟩ (k_readNumber l dC dI cI cZ cC cJ H.size  h0 tO s_18 p_19 b_20 f_21 sA nq fs 7 q_23 (by first | assumption | decide | omega) he_22) (cwV 1 hts gX2_readGo_X2_readNumber rfl rfl rfl (by decide +kernel) ⟨Nat.le_of_ble_eq_true rfl, Nat.le_of_ble_eq_true rfl⟩) ⟨sPre_blind, va_recv hK hPc (ci := 2) (q0 := 0) rfl rfl, fun U hU hW => ⟨rfl, sPre_ok hsk hPc hDc hU hW⟩⟩ rfl rfl hl.1 rfl (lv_room (Nat.le_of_ble_eq_true rfl)) dX2_readGo_39 ⟨(show 0 + 0 ≤ 0 by omega), (show 0 + 0 ≤ 0 by omega)⟩) hS (fun q _ h => hFc q h) hFc (fun r_24 u t H1 locs ht hvm hw hB hz1 hk1 hS => ?_)
    obtain ⟨s_25, p_26, b_27, f_28⟩ := u
    try dsimp only at hw hB
    obtain ⟨he_29, he_30⟩ := hw
    have he_29 : (r_24 : Int32) = nV (tkO fs nq) q_23 := he_29
    have he_30 : rOK fs nq (stN (tkO fs nq) 7 q_23) s_25 p_26 b_27 f_28 := he_30
    obtain ⟨q_31, eq_31⟩ : ∃ x9 : Nat × Int32, x9 = stN (tkO fs nq) 7 q_23 := ⟨_, rfl⟩
    rw [← eq_31] at he_30
    obtain ⟨hP1, hD1⟩ := hB
    rw [ht] at hP1
    obtain ⟨hP, hD⟩ := va_join (wr := [(g0, .inr (1, [.ref gF, .ref gK, .ref gT, .ref gC, .ref gM, .int (nI gnq), .ref eF, .ref eC, .ref eM, .int ec, .ref hopA])), (gF, .inl (cI, 40, .inl fgF)), (gK, .inl (cI, 40, .inl fgK)), (gT, .inl (cI, 40, .inl fgT)), (gC, .inl (cI, 40, .inl fgC)), (gM, .inl (cI, 40, .inl fgM))]) (w1 := [(h0, .inr (2, [.ref tO, .int s_25, .int p_26, .int b_27, .int f_28])), (tO, .inr (3, [.ref sA, .int (nI nq)])), (sA, .inl (cC, 1600, .inl fs))]) hP hD [6, 7, 8] [0, 1, 2, 3, 4, 5] rfl rfl (by decide) (by decide) hk1 hFc hP1 hD1
    generalize H1 = H at hP hS ⊢
    have hP : va_P (dC, dI) vwCl [(g0, .inr (1, [.ref gF, .ref gK, .ref gT, .ref gC, .ref gM, .int (nI gnq), .ref eF, .ref eC, .ref eM, .int ec, .ref hopA])), (gF, .inl (cI, 40, .inl fgF)), (gK, .inl (cI, 40, .inl fgK)), (gT, .inl (cI, 40, .inl fgT)), (gC, .inl (cI, 40, .inl fgC)), (gM, .inl (cI, 40, .inl fgM)), (h0, .inr (2, [.ref tO, .int s_25, .int p_26, .int b_27, .int f_28])), (tO, .inr (3, [.ref sA, .int (nI nq)])), (sA, .inl (cC, 1600, .inl fs))] H := hP
    have hD : va_D A [(g0, .inr (1, [.ref gF, .ref gK, .ref gT, .ref gC, .ref gM, .int (nI gnq), .ref eF, .ref eC, .ref eM, .int ec, .ref hopA])), (gF, .inl (cI, 40, .inl fgF)), (gK, .inl (cI, 40, .inl fgK)), (gT, .inl (cI, 40, .inl fgT)), (gC, .inl (cI, 40, .inl fgC)), (gM, .inl (cI, 40, .inl fgM)), (h0, .inr (2, [.ref tO, .int s_25, .int p_26, .int b_27, .int f_28])), (tO, .inr (3, [.ref sA, .int (nI nq)])), (sA, .inl (cC, 1600, .inl fs))] := hD
    have zB : lgB (tkO fs nq) qs = q_31 := by unfold lgB; rw [zB1, eq_31]
    refine lv_istore_n (lv' := [(3, .int r_24), (2, .int r_7), (0, .ref h0), (1, .ref g0)]) hx hb dX2_readGo_42 rfl hl (by decide) rfl (fun ls hl => ?_)
    refine lv_aload_n hx hb dX2_readGo_43 rfl (lv_at hl 2 rfl) ?_
    refine lv_aload_n hx hb dX2_readGo_44 rfl (lv_at hl 2 rfl) ?_
    refine va_ldcS (own := RX2) (index := 67) (tx := "to") hx hb hown (htw.2.1 2 (by decide)) dX2_readGo_45 ?_
    have hPc := hP.sub (ws' := [(h0, .inr (2, [.ref tO, .int s_25, .int p_26, .int b_27, .int f_28])), (tO, .inr (3, [.ref sA, .int (nI nq)])), (sA, .inl (cC, 1600, .inl fs))]) [6, 7, 8] rfl
    have hDc := hD.sub (ws' := [(h0, .inr (2, [.ref tO, .int s_25, .int p_26, .int b_27, .int f_28])), (tO, .inr (3, [.ref sA, .int (nI nq)])), (sA, .inl (cC, 1600, .inl fs))]) [6, 7, 8] (by decide) rfl
    have hFc := va_free (wc := [(h0, .inr (2, [.ref tO, .int s_25, .int p_26, .int b_27, .int f_28])), (tO, .inr (3, [.ref sA, .int (nI nq)])), (sA, .inl (cC, 1600, .inl fs))]) hD hS hA [6, 7, 8] rfl
    refine va_calli (va_runV (As := [.ref (adK 2)]) (rest := [.ref h0]) ⟨hx, hb, hml, hown, hts⟩ (k_isText l dC dI cI cZ cC cJ H.size adK adV h0 tO s_25 p_26 b_27 f_28 sA nq fs 2 q_31 (by first | assumption | decide | omega) (by decide) he_30) (cwV 1 hts gX2_readGo_X2_isText rfl rfl rfl (by decide +kernel) ⟨Nat.le_of_ble_eq_true rfl, Nat.le_of_ble_eq_true rfl⟩) ⟨tW_blind, va_recv hK hPc (ci := 2) (q0 := 0) rfl rfl, fun U hU hW => ⟨rfl, sPre_ok hsk hPc hDc hU hW, tW_warm hW hU hS (fun q h => hFc q h) htw⟩⟩ rfl rfl hl.1 rfl (lv_room (Nat.le_of_ble_eq_true rfl)) dX2_readGo_47 ⟨(show 0 + 0 ≤ 0 by omega), (show 0 + 0 ≤ 0 by omega)⟩) hS (fun q _ h => hFc q h) hFc (fun r_32 u t H1 locs ht hvm hw hB hz1 hk1 hS => ?_)
    try dsimp only at hw hB
    have he_33 := hw
    have he_33 : (r_32 : Int32) = tI fs nq q_31.1 2 := he_33
    obtain ⟨hP1, hD1⟩ := hB
    rw [ht] at hP1
    obtain ⟨hP, hD⟩ := va_join (wr := [(g0, .inr (1, [.ref gF, .ref gK, .ref gT, .ref gC, .ref gM, .int (nI gnq), .ref eF, .ref eC, .ref eM, .int ec, .ref hopA])), (gF, .inl (cI, 40, .inl fgF)), (gK, .inl (cI, 40, .inl fgK)), (gT, .inl (cI, 40, .inl fgT)), (gC, .inl (cI, 40, .inl fgC)), (gM, .inl (cI, 40, .inl fgM))]) (w1 := [(h0, .inr (2, [.ref tO, .int s_25, .int p_26, .int b_27, .int f_28])), (tO, .inr (3, [.ref sA, .int (nI nq)])), (sA, .inl (cC, 1600, .inl fs))]) hP hD [6, 7, 8] [0, 1, 2, 3, 4, 5] rfl rfl (by decide) (by decide) hk1 hFc hP1 hD1
    generalize H1 = H at hP hS ⊢
    have hP : va_P (dC, dI) vwCl [(g0, .inr (1, [.ref gF, .ref gK, .ref gT, .ref gC, .ref gM, .int (nI gnq), .ref eF, .ref eC, .ref eM, .int ec, .ref hopA])), (gF, .inl (cI, 40, .inl fgF)), (gK, .inl (cI, 40, .inl fgK)), (gT, .inl (cI, 40, .inl fgT)), (gC, .inl (cI, 40, .inl fgC)), (gM, .inl (cI, 40, .inl fgM)), (h0, .inr (2, [.ref tO, .int s_25, .int p_26, .int b_27, .int f_28])), (tO, .inr (3, [.ref sA, .int (nI nq)])), (sA, .inl (cC, 1600, .inl fs))] H := hP
    have hD : va_D A [(g0, .inr (1, [.ref gF, .ref gK, .ref gT, .ref gC, .ref gM, .int (nI gnq), .ref eF, .ref eC, .ref eM, .int ec, .ref hopA])), (gF, .inl (cI, 40, .inl fgF)), (gK, .inl (cI, 40, .inl fgK)), (gT, .inl (cI, 40, .inl fgT)), (gC, .inl (cI, 40, .inl fgC)), (gM, .inl (cI, 40, .inl fgM)), (h0, .inr (2, [.ref tO, .int s_25, .int p_26, .int b_27, .int f_28])), (tO, .inr (3, [.ref sA, .int (nI nq)])), (sA, .inl (cC, 1600, .inl fs))] := hD
    have hPc := hP.sub (ws' := [(h0, .inr (2, [.ref tO, .int s_25, .int p_26, .int b_27, .int f_28])), (tO, .inr (3, [.ref sA, .int (nI nq)])), (sA, .inl (cC, 1600, .inl fs))]) [6, 7, 8] rfl
    have hDc := hD.sub (ws' := [(h0, .inr (2, [.ref tO, .int s_25, .int p_26, .int b_27, .int f_28])), (tO, .inr (3, [.ref sA, .int (nI nq)])), (sA, .inl (cC, 1600, .inl fs))]) [6, 7, 8] (by decide) rfl
    have hFc := va_free (wc := [(h0, .inr (2, [.ref tO, .int s_25, .int p_26, .int b_27, .int f_28])), (tO, .inr (3, [.ref sA, .int (nI nq)])), (sA, .inl (cC, 1600, .inl fs))]) hD hS hA [6, 7, 8] rfl
    refine va_callv (va_runV (As := [.int r_32]) (rest := []) ⟨hx, hb, hml, hown, hts⟩ (k_passIf l dC dI cI cZ cC cJ H.size  h0 tO s_25 p_26 b_27 f_28 sA nq fs r_32 q_31 (by first | assumption | decide | omega) he_30) (cwV 1 hts gX2_readGo_X2_passIf rfl rfl rfl (by decide +kernel) ⟨Nat.le_of_ble_eq_true rfl, Nat.le_of_ble_eq_true rfl⟩) ⟨sPre_blind, va_recv hK hPc (ci := 2) (q0 := 0) rfl rfl, fun U hU hW => ⟨rfl, sPre_ok hsk hPc hDc hU hW⟩⟩ rfl rfl hl.1 rfl (lv_room (Nat.le_of_ble_eq_true rfl)) dX2_readGo_50 ⟨(show 0 + 0 ≤ 0 by omega), (show 0 + 0 ≤ 0 by omega)⟩) hS (fun q _ h => hFc q h) hFc (fun u t H1 locs ht hvm hw hB hz1 hk1 hS => ?_)
    obtain ⟨s_35, p_36, b_37, f_38⟩ := u
    try dsimp only at hw hB
    have he_39 := hw
    have he_39 : rOK fs nq (stX (tkO fs nq) r_32 q_31) s_35 p_36 b_37 f_38 := he_39
    obtain ⟨q_40, eq_40⟩ : ∃ x9 : Nat × Int32, x9 = stX (tkO fs nq) r_32 q_31 := ⟨_, rfl⟩
    rw [← eq_40] at he_39
    obtain ⟨hP1, hD1⟩ := hB
    rw [ht] at hP1
    obtain ⟨hP, hD⟩ := va_join (wr := [(g0, .inr (1, [.ref gF, .ref gK, .ref gT, .ref gC, .ref gM, .int (nI gnq), .ref eF, .ref eC, .ref eM, .int ec, .ref hopA])), (gF, .inl (cI, 40, .inl fgF)), (gK, .inl (cI, 40, .inl fgK)), (gT, .inl (cI, 40, .inl fgT)), (gC, .inl (cI, 40, .inl fgC)), (gM, .inl (cI, 40, .inl fgM))]) (w1 := [(h0, .inr (2, [.ref tO, .int s_35, .int p_36, .int b_37, .int f_38])), (tO, .inr (3, [.ref sA, .int (nI nq)])), (sA, .inl (cC, 1600, .inl fs))]) hP hD [6, 7, 8] [0, 1, 2, 3, 4, 5] rfl rfl (by decide) (by decide) hk1 hFc hP1 hD1
    generalize H1 = H at hP hS ⊢
    have hP : va_P (dC, dI) vwCl [(g0, .inr (1, [.ref gF, .ref gK, .ref gT, .ref gC, .ref gM, .int (nI gnq), .ref eF, .ref eC, .ref eM, .int ec, .ref hopA])), (gF, .inl (cI, 40, .inl fgF)), (gK, .inl (cI, 40, .inl fgK)), (gT, .inl (cI, 40, .inl fgT)), (gC, .inl (cI, 40, .inl fgC)), (gM, .inl (cI, 40, .inl fgM)), (h0, .inr (2, [.ref tO, .int s_35, .int p_36, .int b_37, .int f_38])), (tO, .inr (3, [.ref sA, .int (nI nq)])), (sA, .inl (cC, 1600, .inl fs))] H := hP
    have hD : va_D A [(g0, .inr (1, [.ref gF, .ref gK, .ref gT, .ref gC, .ref gM, .int (nI gnq), .ref eF, .ref eC, .ref eM, .int ec, .ref hopA])), (gF, .inl (cI, 40, .inl fgF)), (gK, .inl (cI, 40, .inl fgK)), (gT, .inl (cI, 40, .inl fgT)), (gC, .inl (cI, 40, .inl fgC)), (gM, .inl (cI, 40, .inl fgM)), (h0, .inr (2, [.ref tO, .int s_35, .int p_36, .int b_37, .int f_38])), (tO, .inr (3, [.ref sA, .int (nI nq)])), (sA, .inl (cC, 1600, .inl fs))] := hD
    have zC1 : stW (tkO fs nq) 2 (lgB (tkO fs nq) qs) = q_40 := by rw [zB, eq_40, he_33]; rfl
    refine lv_aload_n hx hb dX2_readGo_53 rfl (lv_at hl 2 rfl) ?_
    refine lv_bipush (v := 9) hx hb dX2_readGo_54 (by decide) ?_
    have hPc := hP.sub (ws' := [(h0, .inr (2, [.ref tO, .int s_35, .int p_36, .int b_37, .int f_38])), (tO, .inr (3, [.ref sA, .int (nI nq)])), (sA, .inl (cC, 1600, .inl fs))]) [6, 7, 8] rfl
    have hDc := hD.sub (ws' := [(h0, .inr (2, [.ref tO, .int s_35, .int p_36, .int b_37, .int f_38])), (tO, .inr (3, [.ref sA, .int (nI nq)])), (sA, .inl (cC, 1600, .inl fs))]) [6, 7, 8] (by decide) rfl
    have hFc := va_free (wc := [(h0, .inr (2, [.ref tO, .int s_35, .int p_36, .int b_37, .int f_38])), (tO, .inr (3, [.ref sA, .int (nI nq)])), (sA, .inl (cC, 1600, .inl fs))]) hD hS hA [6, 7, 8] rfl
    refine va_calli (va_runV (As := [.int 9]) (rest := []) ⟨hx, hb, hml, hown, hts⟩ (k_readNumber l dC dI cI cZ cC cJ H.size  h0 tO s_35 p_36 b_37 f_38 sA nq fs 9 q_40 (by first | assumption | decide | omega) he_39) (cwV 1 hts gX2_readGo_X2_readNumber rfl rfl rfl (by decide +kernel) ⟨Nat.le_of_ble_eq_true rfl, Nat.le_of_ble_eq_true rfl⟩) ⟨sPre_blind, va_recv hK hPc (ci := 2) (q0 := 0) rfl rfl, fun U hU hW => ⟨rfl, sPre_ok hsk hPc hDc hU hW⟩⟩ rfl rfl hl.1 rfl (lv_room (Nat.le_of_ble_eq_true rfl)) dX2_readGo_56 ⟨(show 0 + 0 ≤ 0 by omega), (show 0 + 0 ≤ 0 by omega)⟩) hS (fun q _ h => hFc q h) hFc (fun r_41 u t H1 locs ht hvm hw hB hz1 hk1 hS => ?_)
    obtain ⟨s_42, p_43, b_44, f_45⟩ := u
    try dsimp only at hw hB
    obtain ⟨he_46, he_47⟩ := hw
    have he_46 : (r_41 : Int32) = nV (tkO fs nq) q_40 := he_46
    have he_47 : rOK fs nq (stN (tkO fs nq) 9 q_40) s_42 p_43 b_44 f_45 := he_47
    obtain ⟨q_48, eq_48⟩ : ∃ x9 : Nat × Int32, x9 = stN (tkO fs nq) 9 q_40 := ⟨_, rfl⟩
    rw [← eq_48] at he_47
    obtain ⟨hP1, hD1⟩ := hB
    rw [ht] at hP1
    obtain ⟨hP, hD⟩ := va_join (wr := [(g0, .inr (1, [.ref gF, .ref gK, .ref gT, .ref gC, .ref gM, .int (nI gnq), .ref eF, .ref eC, .ref eM, .int ec, .ref hopA])), (gF, .inl (cI, 40, .inl fgF)), (gK, .inl (cI, 40, .inl fgK)), (gT, .inl (cI, 40, .inl fgT)), (gC, .inl (cI, 40, .inl fgC)), (gM, .inl (cI, 40, .inl fgM))]) (w1 := [(h0, .inr (2, [.ref tO, .int s_42, .int p_43, .int b_44, .int f_45])), (tO, .inr (3, [.ref sA, .int (nI nq)])), (sA, .inl (cC, 1600, .inl fs))]) hP hD [6, 7, 8] [0, 1, 2, 3, 4, 5] rfl rfl (by decide) (by decide) hk1 hFc hP1 hD1
    generalize H1 = H at hP hS ⊢
    have hP : va_P (dC, dI) vwCl [(g0, .inr (1, [.ref gF, .ref gK, .ref gT, .ref gC, .ref gM, .int (nI gnq), .ref eF, .ref eC, .ref eM, .int ec, .ref hopA])), (gF, .inl (cI, 40, .inl fgF)), (gK, .inl (cI, 40, .inl fgK)), (gT, .inl (cI, 40, .inl fgT)), (gC, .inl (cI, 40, .inl fgC)), (gM, .inl (cI, 40, .inl fgM)), (h0, .inr (2, [.ref tO, .int s_42, .int p_43, .int b_44, .int f_45])), (tO, .inr (3, [.ref sA, .int (nI nq)])), (sA, .inl (cC, 1600, .inl fs))] H := hP
    have hD : va_D A [(g0, .inr (1, [.ref gF, .ref gK, .ref gT, .ref gC, .ref gM, .int (nI gnq), .ref eF, .ref eC, .ref eM, .int ec, .ref hopA])), (gF, .inl (cI, 40, .inl fgF)), (gK, .inl (cI, 40, .inl fgK)), (gT, .inl (cI, 40, .inl fgT)), (gC, .inl (cI, 40, .inl fgC)), (gM, .inl (cI, 40, .inl fgM)), (h0, .inr (2, [.ref tO, .int s_42, .int p_43, .int b_44, .int f_45])), (tO, .inr (3, [.ref sA, .int (nI nq)])), (sA, .inl (cC, 1600, .inl fs))] := hD
    have zC : lgC (tkO fs nq) qs = q_48 := by unfold lgC; rw [zC1, eq_48]
    refine lv_istore (lv' := [(4, .int r_41), (3, .int r_24), (2, .int r_7), (0, .ref h0), (1, .ref g0)]) hx hb dX2_readGo_59 hl (by decide) rfl (fun ls hl => ?_)
    refine lv_aload_n hx hb dX2_readGo_61 rfl (lv_at hl 3 rfl) ?_
    refine lv_aload_n hx hb dX2_readGo_62 rfl (lv_at hl 3 rfl) ?_
    refine va_ldcS (own := RX2) (index := 69) (tx := "cost") hx hb hown (htw.2.1 3 (by decide)) dX2_readGo_63 ?_
    have hPc := hP.sub (ws' := [(h0, .inr (2, [.ref tO, .int s_42, .int p_43, .int b_44, .int f_45])), (tO, .inr (3, [.ref sA, .int (nI nq)])), (sA, .inl (cC, 1600, .inl fs))]) [6, 7, 8] rfl
    have hDc := hD.sub (ws' := [(h0, .inr (2, [.ref tO, .int s_42, .int p_43, .int b_44, .int f_45])), (tO, .inr (3, [.ref sA, .int (nI nq)])), (sA, .inl (cC, 1600, .inl fs))]) [6, 7, 8] (by decide) rfl
    have hFc := va_free (wc := [(h0, .inr (2, [.ref tO, .int s_42, .int p_43, .int b_44, .int f_45])), (tO, .inr (3, [.ref sA, .int (nI nq)])), (sA, .inl (cC, 1600, .inl fs))]) hD hS hA [6, 7, 8] rfl
    refine va_calli (va_runV (As := [.ref (adK 3)]) (rest := [.ref h0]) ⟨hx, hb, hml, hown, hts⟩ (k_isText l dC dI cI cZ cC cJ H.size adK adV h0 tO s_42 p_43 b_44 f_45 sA nq fs 3 q_48 (by first | assumption | decide | omega) (by decide) he_47) (cwV 1 hts gX2_readGo_X2_isText rfl rfl rfl (by decide +kernel) ⟨Nat.le_of_ble_eq_true rfl, Nat.le_of_ble_eq_true rfl⟩) ⟨tW_blind, va_recv hK hPc (ci := 2) (q0 := 0) rfl rfl, fun U hU hW => ⟨rfl, sPre_ok hsk hPc hDc hU hW, tW_warm hW hU hS (fun q h => hFc q h) htw⟩⟩ rfl rfl hl.1 rfl (lv_room (Nat.le_of_ble_eq_true rfl)) dX2_readGo_65 ⟨(show 0 + 0 ≤ 0 by omega), (show 0 + 0 ≤ 0 by omega)⟩) hS (fun q _ h => hFc q h) hFc (fun r_49 u t H1 locs ht hvm hw hB hz1 hk1 hS => ?_)
    try dsimp only at hw hB
    have he_50 := hw
    have he_50 : (r_49 : Int32) = tI fs nq q_48.1 3 := he_50
    obtain ⟨hP1, hD1⟩ := hB
    rw [ht] at hP1
    obtain ⟨hP, hD⟩ := va_join (wr := [(g0, .inr (1, [.ref gF, .ref gK, .ref gT, .ref gC, .ref gM, .int (nI gnq), .ref eF, .ref eC, .ref eM, .int ec, .ref hopA])), (gF, .inl (cI, 40, .inl fgF)), (gK, .inl (cI, 40, .inl fgK)), (gT, .inl (cI, 40, .inl fgT)), (gC, .inl (cI, 40, .inl fgC)), (gM, .inl (cI, 40, .inl fgM))]) (w1 := [(h0, .inr (2, [.ref tO, .int s_42, .int p_43, .int b_44, .int f_45])), (tO, .inr (3, [.ref sA, .int (nI nq)])), (sA, .inl (cC, 1600, .inl fs))]) hP hD [6, 7, 8] [0, 1, 2, 3, 4, 5] rfl rfl (by decide) (by decide) hk1 hFc hP1 hD1
    generalize H1 = H at hP hS ⊢
    have hP : va_P (dC, dI) vwCl [(g0, .inr (1, [.ref gF, .ref gK, .ref gT, .ref gC, .ref gM, .int (nI gnq), .ref eF, .ref eC, .ref eM, .int ec, .ref hopA])), (gF, .inl (cI, 40, .inl fgF)), (gK, .inl (cI, 40, .inl fgK)), (gT, .inl (cI, 40, .inl fgT)), (gC, .inl (cI, 40, .inl fgC)), (gM, .inl (cI, 40, .inl fgM)), (h0, .inr (2, [.ref tO, .int s_42, .int p_43, .int b_44, .int f_45])), (tO, .inr (3, [.ref sA, .int (nI nq)])), (sA, .inl (cC, 1600, .inl fs))] H := hP
    have hD : va_D A [(g0, .inr (1, [.ref gF, .ref gK, .ref gT, .ref gC, .ref gM, .int (nI gnq), .ref eF, .ref eC, .ref eM, .int ec, .ref hopA])), (gF, .inl (cI, 40, .inl fgF)), (gK, .inl (cI, 40, .inl fgK)), (gT, .inl (cI, 40, .inl fgT)), (gC, .inl (cI, 40, .inl fgC)), (gM, .inl (cI, 40, .inl fgM)), (h0, .inr (2, [.ref tO, .int s_42, .int p_43, .int b_44, .int f_45])), (tO, .inr (3, [.ref sA, .int (nI nq)])), (sA, .inl (cC, 1600, .inl fs))] := hD
    have hPc := hP.sub (ws' := [(h0, .inr (2, [.ref tO, .int s_42, .int p_43, .int b_44, .int f_45])), (tO, .inr (3, [.ref sA, .int (nI nq)])), (sA, .inl (cC, 1600, .inl fs))]) [6, 7, 8] rfl
    have hDc := hD.sub (ws' := [(h0, .inr (2, [.ref tO, .int s_42, .int p_43, .int b_44, .int f_45])), (tO, .inr (3, [.ref sA, .int (nI nq)])), (sA, .inl (cC, 1600, .inl fs))]) [6, 7, 8] (by decide) rfl
    have hFc := va_free (wc := [(h0, .inr (2, [.ref tO, .int s_42, .int p_43, .int b_44, .int f_45])), (tO, .inr (3, [.ref sA, .int (nI nq)])), (sA, .inl (cC, 1600, .inl fs))]) hD hS hA [6, 7, 8] rfl
    refine va_callv (va_runV (As := [.int r_49]) (rest := []) ⟨hx, hb, hml, hown, hts⟩ (k_passIf l dC dI cI cZ cC cJ H.size  h0 tO s_42 p_43 b_44 f_45 sA nq fs r_49 q_48 (by first | assumption | decide | omega) he_47) (cwV 1 hts gX2_readGo_X2_passIf rfl rfl rfl (by decide +kernel) ⟨Nat.le_of_ble_eq_true rfl, Nat.le_of_ble_eq_true rfl⟩) ⟨sPre_blind, va_recv hK hPc (ci := 2) (q0 := 0) rfl rfl, fun U hU hW => ⟨rfl, sPre_ok hsk hPc hDc hU hW⟩⟩ rfl rfl hl.1 rfl (lv_room (Nat.le_of_ble_eq_true rfl)) dX2_readGo_68 ⟨(show 0 + 0 ≤ 0 by omega), (show 0 + 0 ≤ 0 by omega)⟩) hS (fun q _ h => hFc q h) hFc (fun u t H1 locs ht hvm hw hB hz1 hk1 hS => ?_)
    obtain ⟨s_52, p_53, b_54, f_55⟩ := u
    try dsimp only at hw hB
    have he_56 := hw
    have he_56 : rOK fs nq (stX (tkO fs nq) r_49 q_48) s_52 p_53 b_54 f_55 := he_56
    obtain ⟨q_57, eq_57⟩ : ∃ x9 : Nat × Int32, x9 = stX (tkO fs nq) r_49 q_48 := ⟨_, rfl⟩
    rw [← eq_57] at he_56
    obtain ⟨hP1, hD1⟩ := hB
    rw [ht] at hP1
    obtain ⟨hP, hD⟩ := va_join (wr := [(g0, .inr (1, [.ref gF, .ref gK, .ref gT, .ref gC, .ref gM, .int (nI gnq), .ref eF, .ref eC, .ref eM, .int ec, .ref hopA])), (gF, .inl (cI, 40, .inl fgF)), (gK, .inl (cI, 40, .inl fgK)), (gT, .inl (cI, 40, .inl fgT)), (gC, .inl (cI, 40, .inl fgC)), (gM, .inl (cI, 40, .inl fgM))]) (w1 := [(h0, .inr (2, [.ref tO, .int s_52, .int p_53, .int b_54, .int f_55])), (tO, .inr (3, [.ref sA, .int (nI nq)])), (sA, .inl (cC, 1600, .inl fs))]) hP hD [6, 7, 8] [0, 1, 2, 3, 4, 5] rfl rfl (by decide) (by decide) hk1 hFc hP1 hD1
    generalize H1 = H at hP hS ⊢
    have hP : va_P (dC, dI) vwCl [(g0, .inr (1, [.ref gF, .ref gK, .ref gT, .ref gC, .ref gM, .int (nI gnq), .ref eF, .ref eC, .ref eM, .int ec, .ref hopA])), (gF, .inl (cI, 40, .inl fgF)), (gK, .inl (cI, 40, .inl fgK)), (gT, .inl (cI, 40, .inl fgT)), (gC, .inl (cI, 40, .inl fgC)), (gM, .inl (cI, 40, .inl fgM)), (h0, .inr (2, [.ref tO, .int s_52, .int p_53, .int b_54, .int f_55])), (tO, .inr (3, [.ref sA, .int (nI nq)])), (sA, .inl (cC, 1600, .inl fs))] H := hP
    have hD : va_D A [(g0, .inr (1, [.ref gF, .ref gK, .ref gT, .ref gC, .ref gM, .int (nI gnq), .ref eF, .ref eC, .ref eM, .int ec, .ref hopA])), (gF, .inl (cI, 40, .inl fgF)), (gK, .inl (cI, 40, .inl fgK)), (gT, .inl (cI, 40, .inl fgT)), (gC, .inl (cI, 40, .inl fgC)), (gM, .inl (cI, 40, .inl fgM)), (h0, .inr (2, [.ref tO, .int s_52, .int p_53, .int b_54, .int f_55])), (tO, .inr (3, [.ref sA, .int (nI nq)])), (sA, .inl (cC, 1600, .inl fs))] := hD
    have zD1 : stW (tkO fs nq) 3 (lgC (tkO fs nq) qs) = q_57 := by rw [zC, eq_57, he_50]; rfl
    refine lv_aload_n hx hb dX2_readGo_71 rfl (lv_at hl 3 rfl) ?_
    refine lv_sipush (v := 999) hx hb dX2_readGo_72 (by decide) ?_
    have hPc := hP.sub (ws' := [(h0, .inr (2, [.ref tO, .int s_52, .int p_53, .int b_54, .int f_55])), (tO, .inr (3, [.ref sA, .int (nI nq)])), (sA, .inl (cC, 1600, .inl fs))]) [6, 7, 8] rfl
    have hDc := hD.sub (ws' := [(h0, .inr (2, [.ref tO, .int s_52, .int p_53, .int b_54, .int f_55])), (tO, .inr (3, [.ref sA, .int (nI nq)])), (sA, .inl (cC, 1600, .inl fs))]) [6, 7, 8] (by decide) rfl
    have hFc := va_free (wc := [(h0, .inr (2, [.ref tO, .int s_52, .int p_53, .int b_54, .int f_55])), (tO, .inr (3, [.ref sA, .int (nI nq)])), (sA, .inl (cC, 1600, .inl fs))]) hD hS hA [6, 7, 8] rfl
    refine va_calli (va_runV (As := [.int 999]) (rest := []) ⟨hx, hb, hml, hown, hts⟩ (k_readNumber l dC dI cI cZ cC cJ H.size  h0 tO s_52 p_53 b_54 f_55 sA nq fs 999 q_57 (by first | assumption | decide | omega) he_56) (cwV 1 hts gX2_readGo_X2_readNumber rfl rfl rfl (by decide +kernel) ⟨Nat.le_of_ble_eq_true rfl, Nat.le_of_ble_eq_true rfl⟩) ⟨sPre_blind, va_recv hK hPc (ci := 2) (q0 := 0) rfl rfl, fun U hU hW => ⟨rfl, sPre_ok hsk hPc hDc hU hW⟩⟩ rfl rfl hl.1 rfl (lv_room (Nat.le_of_ble_eq_true rfl)) dX2_readGo_75 ⟨(show 0 + 0 ≤ 0 by omega), (show 0 + 0 ≤ 0 by omega)⟩) hS (fun q _ h => hFc q h) hFc (fun r_58 u t H1 locs ht hvm hw hB hz1 hk1 hS => ?_)
    obtain ⟨s_59, p_60, b_61, f_62⟩ := u
    try dsimp only at hw hB
    obtain ⟨he_63, he_64⟩ := hw
    have he_63 : (r_58 : Int32) = nV (tkO fs nq) q_57 := he_63
    have he_64 : rOK fs nq (stN (tkO fs nq) 999 q_57) s_59 p_60 b_61 f_62 := he_64
    obtain ⟨q_65, eq_65⟩ : ∃ x9 : Nat × Int32, x9 = stN (tkO fs nq) 999 q_57 := ⟨_, rfl⟩
    rw [← eq_65] at he_64
    obtain ⟨hP1, hD1⟩ := hB
    rw [ht] at hP1
    obtain ⟨hP, hD⟩ := va_join (wr := [(g0, .inr (1, [.ref gF, .ref gK, .ref gT, .ref gC, .ref gM, .int (nI gnq), .ref eF, .ref eC, .ref eM, .int ec, .ref hopA])), (gF, .inl (cI, 40, .inl fgF)), (gK, .inl (cI, 40, .inl fgK)), (gT, .inl (cI, 40, .inl fgT)), (gC, .inl (cI, 40, .inl fgC)), (gM, .inl (cI, 40, .inl fgM))]) (w1 := [(h0, .inr (2, [.ref tO, .int s_59, .int p_60, .int b_61, .int f_62])), (tO, .inr (3, [.ref sA, .int (nI nq)])), (sA, .inl (cC, 1600, .inl fs))]) hP hD [6, 7, 8] [0, 1, 2, 3, 4, 5] rfl rfl (by decide) (by decide) hk1 hFc hP1 hD1
    generalize H1 = H at hP hS ⊢
    have hP : va_P (dC, dI) vwCl [(g0, .inr (1, [.ref gF, .ref gK, .ref gT, .ref gC, .ref gM, .int (nI gnq), .ref eF, .ref eC, .ref eM, .int ec, .ref hopA])), (gF, .inl (cI, 40, .inl fgF)), (gK, .inl (cI, 40, .inl fgK)), (gT, .inl (cI, 40, .inl fgT)), (gC, .inl (cI, 40, .inl fgC)), (gM, .inl (cI, 40, .inl fgM)), (h0, .inr (2, [.ref tO, .int s_59, .int p_60, .int b_61, .int f_62])), (tO, .inr (3, [.ref sA, .int (nI nq)])), (sA, .inl (cC, 1600, .inl fs))] H := hP
    have hD : va_D A [(g0, .inr (1, [.ref gF, .ref gK, .ref gT, .ref gC, .ref gM, .int (nI gnq), .ref eF, .ref eC, .ref eM, .int ec, .ref hopA])), (gF, .inl (cI, 40, .inl fgF)), (gK, .inl (cI, 40, .inl fgK)), (gT, .inl (cI, 40, .inl fgT)), (gC, .inl (cI, 40, .inl fgC)), (gM, .inl (cI, 40, .inl fgM)), (h0, .inr (2, [.ref tO, .int s_59, .int p_60, .int b_61, .int f_62])), (tO, .inr (3, [.ref sA, .int (nI nq)])), (sA, .inl (cC, 1600, .inl fs))] := hD
    have zD : lgD (tkO fs nq) qs = q_65 := by unfold lgD; rw [zD1, eq_65]
    refine lv_istore (lv' := [(5, .int r_58), (4, .int r_41), (3, .int r_24), (2, .int r_7), (0, .ref h0), (1, .ref g0)]) hx hb dX2_readGo_78 hl (by decide) rfl (fun ls hl => ?_)
    refine lv_iconst (v := 0) hx hb dX2_readGo_80 (by decide) ?_
    refine lv_istore (lv' := [(6, .int 0), (5, .int r_58), (4, .int r_41), (3, .int r_24), (2, .int r_7), (0, .ref h0), (1, .ref g0)]) hx hb dX2_readGo_81 hl (by decide) rfl (fun ls hl => ?_)
    refine lv_aload_n hx hb dX2_readGo_83 rfl (lv_at hl 5 rfl) ?_
    refine va_ldcS (own := RX2) (index := 71) (tx := "with") hx hb hown (htw.2.1 4 (by decide)) dX2_readGo_84 ?_
    have hPc := hP.sub (ws' := [(h0, .inr (2, [.ref tO, .int s_59, .int p_60, .int b_61, .int f_62])), (tO, .inr (3, [.ref sA, .int (nI nq)])), (sA, .inl (cC, 1600, .inl fs))]) [6, 7, 8] rfl
    have hDc := hD.sub (ws' := [(h0, .inr (2, [.ref tO, .int s_59, .int p_60, .int b_61, .int f_62])), (tO, .inr (3, [.ref sA, .int (nI nq)])), (sA, .inl (cC, 1600, .inl fs))]) [6, 7, 8] (by decide) rfl
    have hFc := va_free (wc := [(h0, .inr (2, [.ref tO, .int s_59, .int p_60, .int b_61, .int f_62])), (tO, .inr (3, [.ref sA, .int (nI nq)])), (sA, .inl (cC, 1600, .inl fs))]) hD hS hA [6, 7, 8] rfl
    refine va_calli (va_runV (As := [.ref (adK 4)]) (rest := []) ⟨hx, hb, hml, hown, hts⟩ (k_isText l dC dI cI cZ cC cJ H.size adK adV h0 tO s_59 p_60 b_61 f_62 sA nq fs 4 q_65 (by first | assumption | decide | omega) (by decide) he_64) (cwV 1 hts gX2_readGo_X2_isText rfl rfl rfl (by decide +kernel) ⟨Nat.le_of_ble_eq_true rfl, Nat.le_of_ble_eq_true rfl⟩) ⟨tW_blind, va_recv hK hPc (ci := 2) (q0 := 0) rfl rfl, fun U hU hW => ⟨rfl, sPre_ok hsk hPc hDc hU hW, tW_warm hW hU hS (fun q h => hFc q h) htw⟩⟩ rfl rfl hl.1 rfl (lv_room (Nat.le_of_ble_eq_true rfl)) dX2_readGo_86 ⟨(show 0 + 0 ≤ 0 by omega), (show 0 + 0 ≤ 0 by omega)⟩) hS (fun q _ h => hFc q h) hFc (fun r_66 u t H1 locs ht hvm hw hB hz1 hk1 hS => ?_)
    try dsimp only at hw hB
    have he_67 := hw
    have he_67 : (r_66 : Int32) = tI fs nq q_65.1 4 := he_67
    obtain ⟨hP1, hD1⟩ := hB
    rw [ht] at hP1
    obtain ⟨hP, hD⟩ := va_join (wr := [(g0, .inr (1, [.ref gF, .ref gK, .ref gT, .ref gC, .ref gM, .int (nI gnq), .ref eF, .ref eC, .ref eM, .int ec, .ref hopA])), (gF, .inl (cI, 40, .inl fgF)), (gK, .inl (cI, 40, .inl fgK)), (gT, .inl (cI, 40, .inl fgT)), (gC, .inl (cI, 40, .inl fgC)), (gM, .inl (cI, 40, .inl fgM))]) (w1 := [(h0, .inr (2, [.ref tO, .int s_59, .int p_60, .int b_61, .int f_62])), (tO, .inr (3, [.ref sA, .int (nI nq)])), (sA, .inl (cC, 1600, .inl fs))]) hP hD [6, 7, 8] [0, 1, 2, 3, 4, 5] rfl rfl (by decide) (by decide) hk1 hFc hP1 hD1
    generalize H1 = H at hP hS ⊢
    have hP : va_P (dC, dI) vwCl [(g0, .inr (1, [.ref gF, .ref gK, .ref gT, .ref gC, .ref gM, .int (nI gnq), .ref eF, .ref eC, .ref eM, .int ec, .ref hopA])), (gF, .inl (cI, 40, .inl fgF)), (gK, .inl (cI, 40, .inl fgK)), (gT, .inl (cI, 40, .inl fgT)), (gC, .inl (cI, 40, .inl fgC)), (gM, .inl (cI, 40, .inl fgM)), (h0, .inr (2, [.ref tO, .int s_59, .int p_60, .int b_61, .int f_62])), (tO, .inr (3, [.ref sA, .int (nI nq)])), (sA, .inl (cC, 1600, .inl fs))] H := hP
    have hD : va_D A [(g0, .inr (1, [.ref gF, .ref gK, .ref gT, .ref gC, .ref gM, .int (nI gnq), .ref eF, .ref eC, .ref eM, .int ec, .ref hopA])), (gF, .inl (cI, 40, .inl fgF)), (gK, .inl (cI, 40, .inl fgK)), (gT, .inl (cI, 40, .inl fgT)), (gC, .inl (cI, 40, .inl fgC)), (gM, .inl (cI, 40, .inl fgM)), (h0, .inr (2, [.ref tO, .int s_59, .int p_60, .int b_61, .int f_62])), (tO, .inr (3, [.ref sA, .int (nI nq)])), (sA, .inl (cC, 1600, .inl fs))] := hD
    refine lv_if_eq (tgt := 117) hx hb dX2_readGo_89 (by decide) (fun c_89 => ?_) (fun c_89 => ?_)
    · skip
      have hw4 : (tkO fs nq).T q_65.1 4 = 0 := he_67.symm.trans c_89
      have zO : stO (tkO fs nq) (lgD (tkO fs nq) qs) = q_65 := by rw [zD]; exact stO_no hw4
      refine lv_aload_n hx hb dX2_readGo_117 rfl (lv_at hl 5 rfl) ?_
      refine lv_aload_n hx hb dX2_readGo_118 rfl (lv_at hl 5 rfl) ?_
      refine va_get (D := (dC, dI)) (ci := 2) (v := .int s_59) (C := RX2) (T := TX2) (N := 5) hx hb hts i2 hown hK hP 6 rfl rfl 1 (by decide) (hts (.fieldLink RX2 32 "StopSetter$Reader" "sort" "I") (by decide +kernel)) (fun _ h9 => h9) rfl dX2_readGo_119 ?_
      refine lv_iconst (v := 4) hx hb dX2_readGo_122 (by decide) ?_
      refine lv_icmp_ne (tgt := 130) hx hb dX2_readGo_123 (by decide) (fun c_123 => ?_) (fun c_123 => ?_)
      · skip
        refine lv_iconst (v := 0) hx hb dX2_readGo_130 (by decide) ?_
        have hPc := hP.sub (ws' := [(h0, .inr (2, [.ref tO, .int s_59, .int p_60, .int b_61, .int f_62])), (tO, .inr (3, [.ref sA, .int (nI nq)])), (sA, .inl (cC, 1600, .inl fs))]) [6, 7, 8] rfl
        have hDc := hD.sub (ws' := [(h0, .inr (2, [.ref tO, .int s_59, .int p_60, .int b_61, .int f_62])), (tO, .inr (3, [.ref sA, .int (nI nq)])), (sA, .inl (cC, 1600, .inl fs))]) [6, 7, 8] (by decide) rfl
        have hFc := va_free (wc := [(h0, .inr (2, [.ref tO, .int s_59, .int p_60, .int b_61, .int f_62])), (tO, .inr (3, [.ref sA, .int (nI nq)])), (sA, .inl (cC, 1600, .inl fs))]) hD hS hA [6, 7, 8] rfl
        refine va_callv (va_runV (As := [.int 0]) (rest := []) ⟨hx, hb, hml, hown, hts⟩ (k_passIf l dC dI cI cZ cC cJ H.size  h0 tO s_59 p_60 b_61 f_62 sA nq fs 0 q_65 (by first | assumption | decide | omega) he_64) (cwV 1 hts gX2_readGo_X2_passIf rfl rfl rfl (by decide +kernel) ⟨Nat.le_of_ble_eq_true rfl, Nat.le_of_ble_eq_true rfl⟩) ⟨sPre_blind, va_recv hK hPc (ci := 2) (q0 := 0) rfl rfl, fun U hU hW => ⟨rfl, sPre_ok hsk hPc hDc hU hW⟩⟩ rfl rfl hl.1 rfl (lv_room (Nat.le_of_ble_eq_true rfl)) dX2_readGo_131 ⟨(show 0 + 0 ≤ 0 by omega), (show 0 + 0 ≤ 0 by omega)⟩) hS (fun q _ h => hFc q h) hFc (fun u t H1 locs ht hvm hw hB hz1 hk1 hS => ?_)
        obtain ⟨s_69, p_70, b_71, f_72⟩ := u
        try dsimp only at hw hB
        have he_73 := hw
        have he_73 : rOK fs nq (stX (tkO fs nq) 0 q_65) s_69 p_70 b_71 f_72 := he_73
        obtain ⟨q_74, eq_74⟩ : ∃ x9 : Nat × Int32, x9 = stX (tkO fs nq) 0 q_65 := ⟨_, rfl⟩
        rw [← eq_74] at he_73
        obtain ⟨hP1, hD1⟩ := hB
        rw [ht] at hP1
        obtain ⟨hP, hD⟩ := va_join (wr := [(g0, .inr (1, [.ref gF, .ref gK, .ref gT, .ref gC, .ref gM, .int (nI gnq), .ref eF, .ref eC, .ref eM, .int ec, .ref hopA])), (gF, .inl (cI, 40, .inl fgF)), (gK, .inl (cI, 40, .inl fgK)), (gT, .inl (cI, 40, .inl fgT)), (gC, .inl (cI, 40, .inl fgC)), (gM, .inl (cI, 40, .inl fgM))]) (w1 := [(h0, .inr (2, [.ref tO, .int s_69, .int p_70, .int b_71, .int f_72])), (tO, .inr (3, [.ref sA, .int (nI nq)])), (sA, .inl (cC, 1600, .inl fs))]) hP hD [6, 7, 8] [0, 1, 2, 3, 4, 5] rfl rfl (by decide) (by decide) hk1 hFc hP1 hD1
        generalize H1 = H at hP hS ⊢
        have hP : va_P (dC, dI) vwCl [(g0, .inr (1, [.ref gF, .ref gK, .ref gT, .ref gC, .ref gM, .int (nI gnq), .ref eF, .ref eC, .ref eM, .int ec, .ref hopA])), (gF, .inl (cI, 40, .inl fgF)), (gK, .inl (cI, 40, .inl fgK)), (gT, .inl (cI, 40, .inl fgT)), (gC, .inl (cI, 40, .inl fgC)), (gM, .inl (cI, 40, .inl fgM)), (h0, .inr (2, [.ref tO, .int s_69, .int p_70, .int b_71, .int f_72])), (tO, .inr (3, [.ref sA, .int (nI nq)])), (sA, .inl (cC, 1600, .inl fs))] H := hP
        have hD : va_D A [(g0, .inr (1, [.ref gF, .ref gK, .ref gT, .ref gC, .ref gM, .int (nI gnq), .ref eF, .ref eC, .ref eM, .int ec, .ref hopA])), (gF, .inl (cI, 40, .inl fgF)), (gK, .inl (cI, 40, .inl fgK)), (gT, .inl (cI, 40, .inl fgT)), (gC, .inl (cI, 40, .inl fgC)), (gM, .inl (cI, 40, .inl fgM)), (h0, .inr (2, [.ref tO, .int s_69, .int p_70, .int b_71, .int f_72])), (tO, .inr (3, [.ref sA, .int (nI nq)])), (sA, .inl (cC, 1600, .inl fs))] := hD
        have zE : lgE (tkO fs nq) qs = q_74 := by unfold lgE; rw [zO, eq_74]; exact stS_0 (show ¬ (tkO fs nq).S q_65.1 = 4 from fun z => c_123 (he_64.1.trans z))
        refine lv_aload_n hx hb dX2_readGo_134 rfl (lv_at hl 5 rfl) ?_
        refine va_get (D := (dC, dI)) (ci := 2) (v := .int f_72) (C := RX2) (T := TX2) (N := 5) hx hb hts i2 hown hK hP 6 rfl rfl 4 (by decide) (hts (.fieldLink RX2 20 "StopSetter$Reader" "fault" "I") (by decide +kernel)) (fun _ h9 => h9) rfl dX2_readGo_135 ?_
        refine lv_if_ne (tgt := 153) hx hb dX2_readGo_138 (by decide) (fun c_138 => ?_) (fun c_138 => ?_)
        · skip
          have hP9 := hP.sub (ws' := [(h0, .inr (2, [.ref tO, .int s_69, .int p_70, .int b_71, .int f_72])), (tO, .inr (3, [.ref sA, .int (nI nq)])), (sA, .inl (cC, 1600, .inl fs)), (g0, .inr (1, [.ref gF, .ref gK, .ref gT, .ref gC, .ref gM, .int (nI gnq), .ref eF, .ref eC, .ref eM, .int ec, .ref hopA])), (gF, .inl (cI, 40, .inl fgF)), (gK, .inl (cI, 40, .inl fgK)), (gT, .inl (cI, 40, .inl fgT)), (gC, .inl (cI, 40, .inl fgC)), (gM, .inl (cI, 40, .inl fgM))]) [6, 7, 8, 0, 1, 2, 3, 4, 5] rfl
          have hD9 := hD.sub (ws' := [(h0, .inr (2, [.ref tO, .int s_69, .int p_70, .int b_71, .int f_72])), (tO, .inr (3, [.ref sA, .int (nI nq)])), (sA, .inl (cC, 1600, .inl fs)), (g0, .inr (1, [.ref gF, .ref gK, .ref gT, .ref gC, .ref gM, .int (nI gnq), .ref eF, .ref eC, .ref eM, .int ec, .ref hopA])), (gF, .inl (cI, 40, .inl fgF)), (gK, .inl (cI, 40, .inl fgK)), (gT, .inl (cI, 40, .inl fgT)), (gC, .inl (cI, 40, .inl fgC)), (gM, .inl (cI, 40, .inl fgM))]) [6, 7, 8, 0, 1, 2, 3, 4, 5] (by decide) rfl
          have hens0 : rOK fs nq (rgQ (tkO fs nq) gnq qs) s_69 p_70 b_71 f_72 := (rOK_of he_73 (by unfold rgQ; rw [if_neg (by omega)]; exact zE.symm))
          have hens1 : addD f_72 gnq gnq (lgL (tkO fs nq) qs) fgF fgK fgT fgC fgM fgF fgK fgT fgC fgM := (addD_n c_138)
          exact W.vret hx hb hr (fun t ht hW => ⟨⟨(s_69, p_70, b_71, f_72, gnq, fgF, fgK, fgT, fgC, fgM), rfl, ⟨hens0, hens1⟩, by rw [ht]; exact hP9, hD9⟩, hS.F ht⟩) hS.2.2 dX2_readGo_153
        · skip
          refine lv_aload_n hx hb dX2_readGo_141 rfl (lv_at hl 6 rfl) ?_
          refine lv_iload_n hx hb dX2_readGo_142 rfl (lv_at hl 4 rfl) ?_
          refine lv_iload_n hx hb dX2_readGo_143 rfl (lv_at hl 3 rfl) ?_
          refine lv_iload hx hb dX2_readGo_144 (lv_at hl 2 rfl) ?_
          refine lv_iload hx hb dX2_readGo_146 (lv_at hl 1 rfl) ?_
          refine lv_iload hx hb dX2_readGo_148 (lv_at hl 0 rfl) ?_
          have hPc := hP.sub (ws' := [(g0, .inr (1, [.ref gF, .ref gK, .ref gT, .ref gC, .ref gM, .int (nI gnq), .ref eF, .ref eC, .ref eM, .int ec, .ref hopA])), (gF, .inl (cI, 40, .inl fgF)), (gK, .inl (cI, 40, .inl fgK)), (gT, .inl (cI, 40, .inl fgT)), (gC, .inl (cI, 40, .inl fgC)), (gM, .inl (cI, 40, .inl fgM))]) [0, 1, 2, 3, 4, 5] rfl
          have hDc := hD.sub (ws' := [(g0, .inr (1, [.ref gF, .ref gK, .ref gT, .ref gC, .ref gM, .int (nI gnq), .ref eF, .ref eC, .ref eM, .int ec, .ref hopA])), (gF, .inl (cI, 40, .inl fgF)), (gK, .inl (cI, 40, .inl fgK)), (gT, .inl (cI, 40, .inl fgT)), (gC, .inl (cI, 40, .inl fgC)), (gM, .inl (cI, 40, .inl fgM))]) [0, 1, 2, 3, 4, 5] (by decide) rfl
          have hFc := va_free (wc := [(g0, .inr (1, [.ref gF, .ref gK, .ref gT, .ref gC, .ref gM, .int (nI gnq), .ref eF, .ref eC, .ref eM, .int ec, .ref hopA])), (gF, .inl (cI, 40, .inl fgF)), (gK, .inl (cI, 40, .inl fgK)), (gT, .inl (cI, 40, .inl fgT)), (gC, .inl (cI, 40, .inl fgC)), (gM, .inl (cI, 40, .inl fgM))]) hD hS hA [0, 1, 2, 3, 4, 5] rfl
          refine va_callv (va_runV (As := [.int r_7, .int r_24, .int r_41, .int r_58, .int 0]) (rest := []) ⟨hx, hb, hml, hown, hts⟩ (k_addGo l dC dI cI cZ cC cJ H.size  g0 gF gK gT gC gM gnq eF eC eM ec hopA fgF fgK fgT fgC fgM r_7 r_24 r_41 r_58 0 hg40) (cwV 5 hts gX2_readGo_X1_addGo rfl rfl rfl (by decide +kernel) ⟨Nat.le_of_ble_eq_true rfl, Nat.le_of_ble_eq_true rfl⟩) ⟨sPre_blind, va_recv hK hPc (ci := 1) (q0 := 0) rfl rfl, fun U hU hW => ⟨rfl, sPre_ok hsk hPc hDc hU hW⟩⟩ rfl rfl hl.1 rfl (lv_room (Nat.le_of_ble_eq_true rfl)) dX2_readGo_150 ⟨(show 0 + 0 ≤ 0 by omega), (show 0 + 0 ≤ 0 by omega)⟩) hS (fun q _ h => hFc q h) hFc (fun u t H1 locs ht hvm hw hB hz1 hk1 hS => ?_)
          try dsimp only at hw hB
          obtain ⟨hP1, hD1⟩ := hB
          rw [ht] at hP1
          obtain ⟨hP, hD⟩ := va_join (wr := [(h0, .inr (2, [.ref tO, .int s_69, .int p_70, .int b_71, .int f_72])), (tO, .inr (3, [.ref sA, .int (nI nq)])), (sA, .inl (cC, 1600, .inl fs))]) (w1 := [(g0, .inr (1, [.ref gF, .ref gK, .ref gT, .ref gC, .ref gM, .int (nI (gnq + 1)), .ref eF, .ref eC, .ref eM, .int ec, .ref hopA])), (gF, .inl (cI, 40, .inl (upd fgF gnq r_7))), (gK, .inl (cI, 40, .inl (upd fgK gnq r_24))), (gT, .inl (cI, 40, .inl (upd fgT gnq r_41))), (gC, .inl (cI, 40, .inl (upd fgC gnq r_58))), (gM, .inl (cI, 40, .inl (upd fgM gnq 0)))]) hP hD [0, 1, 2, 3, 4, 5] [6, 7, 8] rfl rfl (by decide) (by decide) hk1 hFc hP1 hD1
          generalize H1 = H at hP hS ⊢
          have hP : va_P (dC, dI) vwCl [(h0, .inr (2, [.ref tO, .int s_69, .int p_70, .int b_71, .int f_72])), (tO, .inr (3, [.ref sA, .int (nI nq)])), (sA, .inl (cC, 1600, .inl fs)), (g0, .inr (1, [.ref gF, .ref gK, .ref gT, .ref gC, .ref gM, .int (nI (gnq + 1)), .ref eF, .ref eC, .ref eM, .int ec, .ref hopA])), (gF, .inl (cI, 40, .inl (upd fgF gnq r_7))), (gK, .inl (cI, 40, .inl (upd fgK gnq r_24))), (gT, .inl (cI, 40, .inl (upd fgT gnq r_41))), (gC, .inl (cI, 40, .inl (upd fgC gnq r_58))), (gM, .inl (cI, 40, .inl (upd fgM gnq 0)))] H := hP
          have hD : va_D A [(h0, .inr (2, [.ref tO, .int s_69, .int p_70, .int b_71, .int f_72])), (tO, .inr (3, [.ref sA, .int (nI nq)])), (sA, .inl (cC, 1600, .inl fs)), (g0, .inr (1, [.ref gF, .ref gK, .ref gT, .ref gC, .ref gM, .int (nI (gnq + 1)), .ref eF, .ref eC, .ref eM, .int ec, .ref hopA])), (gF, .inl (cI, 40, .inl (upd fgF gnq r_7))), (gK, .inl (cI, 40, .inl (upd fgK gnq r_24))), (gT, .inl (cI, 40, .inl (upd fgT gnq r_41))), (gC, .inl (cI, 40, .inl (upd fgC gnq r_58))), (gM, .inl (cI, 40, .inl (upd fgM gnq 0)))] := hD
          have hP9 := hP.sub (ws' := [(h0, .inr (2, [.ref tO, .int s_69, .int p_70, .int b_71, .int f_72])), (tO, .inr (3, [.ref sA, .int (nI nq)])), (sA, .inl (cC, 1600, .inl fs)), (g0, .inr (1, [.ref gF, .ref gK, .ref gT, .ref gC, .ref gM, .int (nI (gnq + 1)), .ref eF, .ref eC, .ref eM, .int ec, .ref hopA])), (gF, .inl (cI, 40, .inl (upd fgF gnq r_7))), (gK, .inl (cI, 40, .inl (upd fgK gnq r_24))), (gT, .inl (cI, 40, .inl (upd fgT gnq r_41))), (gC, .inl (cI, 40, .inl (upd fgC gnq r_58))), (gM, .inl (cI, 40, .inl (upd fgM gnq 0)))]) [0, 1, 2, 3, 4, 5, 6, 7, 8] rfl
          have hD9 := hD.sub (ws' := [(h0, .inr (2, [.ref tO, .int s_69, .int p_70, .int b_71, .int f_72])), (tO, .inr (3, [.ref sA, .int (nI nq)])), (sA, .inl (cC, 1600, .inl fs)), (g0, .inr (1, [.ref gF, .ref gK, .ref gT, .ref gC, .ref gM, .int (nI (gnq + 1)), .ref eF, .ref eC, .ref eM, .int ec, .ref hopA])), (gF, .inl (cI, 40, .inl (upd fgF gnq r_7))), (gK, .inl (cI, 40, .inl (upd fgK gnq r_24))), (gT, .inl (cI, 40, .inl (upd fgT gnq r_41))), (gC, .inl (cI, 40, .inl (upd fgC gnq r_58))), (gM, .inl (cI, 40, .inl (upd fgM gnq 0)))]) [0, 1, 2, 3, 4, 5, 6, 7, 8] (by decide) rfl
          have hens0 : rOK fs nq (rgQ (tkO fs nq) gnq qs) s_69 p_70 b_71 f_72 := (rOK_of he_73 (by unfold rgQ; rw [if_neg (by omega)]; exact zE.symm))
          have hens1 : addD f_72 gnq (gnq + 1) (lgL (tkO fs nq) qs) fgF fgK fgT fgC fgM (upd fgF gnq r_7) (upd fgK gnq r_24) (upd fgT gnq r_41) (upd fgC gnq r_58) (upd fgM gnq 0) := (addD_y c_138 (by unfold lgL; rw [zB1, zC1, zD1, ← zq1, ← he_12, ← he_29, ← he_46, ← he_63, show nI (moV (tkO fs nq) (lgD (tkO fs nq) qs)) = 0 from by unfold moV; rw [zD, if_pos hw4]; rfl]))
          exact W.vret hx hb hr (fun t ht hW => ⟨⟨(s_69, p_70, b_71, f_72, (gnq + 1), (upd fgF gnq r_7), (upd fgK gnq r_24), (upd fgT gnq r_41), (upd fgC gnq r_58), (upd fgM gnq 0)), rfl, ⟨hens0, hens1⟩, by rw [ht]; exact hP9, hD9⟩, hS.F ht⟩) hS.2.2 dX2_readGo_153
      · skip
        refine lv_iconst (v := 1) hx hb dX2_readGo_126 (by decide) ?_
        refine lv_goto (tgt := 131) hx hb dX2_readGo_127 (by decide) ?_
        have hPc := hP.sub (ws' := [(h0, .inr (2, [.ref tO, .int s_59, .int p_60, .int b_61, .int f_62])), (tO, .inr (3, [.ref sA, .int (nI nq)])), (sA, .inl (cC, 1600, .inl fs))]) [6, 7, 8] rfl
        have hDc := hD.sub (ws' := [(h0, .inr (2, [.ref tO, .int s_59, .int p_60, .int b_61, .int f_62])), (tO, .inr (3, [.ref sA, .int (nI nq)])), (sA, .inl (cC, 1600, .inl fs))]) [6, 7, 8] (by decide) rfl
        have hFc := va_free (wc := [(h0, .inr (2, [.ref tO, .int s_59, .int p_60, .int b_61, .int f_62])), (tO, .inr (3, [.ref sA, .int (nI nq)])), (sA, .inl (cC, 1600, .inl fs))]) hD hS hA [6, 7, 8] rfl
        refine va_callv (va_runV (As := [.int 1]) (rest := []) ⟨hx, hb, hml, hown, hts⟩ (k_passIf l dC dI cI cZ cC cJ H.size  h0 tO s_59 p_60 b_61 f_62 sA nq fs 1 q_65 (by first | assumption | decide | omega) he_64) (cwV 1 hts gX2_readGo_X2_passIf rfl rfl rfl (by decide +kernel) ⟨Nat.le_of_ble_eq_true rfl, Nat.le_of_ble_eq_true rfl⟩) ⟨sPre_blind, va_recv hK hPc (ci := 2) (q0 := 0) rfl rfl, fun U hU hW => ⟨rfl, sPre_ok hsk hPc hDc hU hW⟩⟩ rfl rfl hl.1 rfl (lv_room (Nat.le_of_ble_eq_true rfl)) dX2_readGo_131 ⟨(show 0 + 0 ≤ 0 by omega), (show 0 + 0 ≤ 0 by omega)⟩) hS (fun q _ h => hFc q h) hFc (fun u t H1 locs ht hvm hw hB hz1 hk1 hS => ?_)
        obtain ⟨s_77, p_78, b_79, f_80⟩ := u
        try dsimp only at hw hB
        have he_81 := hw
        have he_81 : rOK fs nq (stX (tkO fs nq) 1 q_65) s_77 p_78 b_79 f_80 := he_81
        obtain ⟨q_82, eq_82⟩ : ∃ x9 : Nat × Int32, x9 = stX (tkO fs nq) 1 q_65 := ⟨_, rfl⟩
        rw [← eq_82] at he_81
        obtain ⟨hP1, hD1⟩ := hB
        rw [ht] at hP1
        obtain ⟨hP, hD⟩ := va_join (wr := [(g0, .inr (1, [.ref gF, .ref gK, .ref gT, .ref gC, .ref gM, .int (nI gnq), .ref eF, .ref eC, .ref eM, .int ec, .ref hopA])), (gF, .inl (cI, 40, .inl fgF)), (gK, .inl (cI, 40, .inl fgK)), (gT, .inl (cI, 40, .inl fgT)), (gC, .inl (cI, 40, .inl fgC)), (gM, .inl (cI, 40, .inl fgM))]) (w1 := [(h0, .inr (2, [.ref tO, .int s_77, .int p_78, .int b_79, .int f_80])), (tO, .inr (3, [.ref sA, .int (nI nq)])), (sA, .inl (cC, 1600, .inl fs))]) hP hD [6, 7, 8] [0, 1, 2, 3, 4, 5] rfl rfl (by decide) (by decide) hk1 hFc hP1 hD1
        generalize H1 = H at hP hS ⊢
        have hP : va_P (dC, dI) vwCl [(g0, .inr (1, [.ref gF, .ref gK, .ref gT, .ref gC, .ref gM, .int (nI gnq), .ref eF, .ref eC, .ref eM, .int ec, .ref hopA])), (gF, .inl (cI, 40, .inl fgF)), (gK, .inl (cI, 40, .inl fgK)), (gT, .inl (cI, 40, .inl fgT)), (gC, .inl (cI, 40, .inl fgC)), (gM, .inl (cI, 40, .inl fgM)), (h0, .inr (2, [.ref tO, .int s_77, .int p_78, .int b_79, .int f_80])), (tO, .inr (3, [.ref sA, .int (nI nq)])), (sA, .inl (cC, 1600, .inl fs))] H := hP
        have hD : va_D A [(g0, .inr (1, [.ref gF, .ref gK, .ref gT, .ref gC, .ref gM, .int (nI gnq), .ref eF, .ref eC, .ref eM, .int ec, .ref hopA])), (gF, .inl (cI, 40, .inl fgF)), (gK, .inl (cI, 40, .inl fgK)), (gT, .inl (cI, 40, .inl fgT)), (gC, .inl (cI, 40, .inl fgC)), (gM, .inl (cI, 40, .inl fgM)), (h0, .inr (2, [.ref tO, .int s_77, .int p_78, .int b_79, .int f_80])), (tO, .inr (3, [.ref sA, .int (nI nq)])), (sA, .inl (cC, 1600, .inl fs))] := hD
        have zE : lgE (tkO fs nq) qs = q_82 := by unfold lgE; rw [zO, eq_82]; exact stS_1 (show (tkO fs nq).S q_65.1 = 4 from he_64.1.symm.trans c_123)
        refine lv_aload_n hx hb dX2_readGo_134 rfl (lv_at hl 5 rfl) ?_
        refine va_get (D := (dC, dI)) (ci := 2) (v := .int f_80) (C := RX2) (T := TX2) (N := 5) hx hb hts i2 hown hK hP 6 rfl rfl 4 (by decide) (hts (.fieldLink RX2 20 "StopSetter$Reader" "fault" "I") (by decide +kernel)) (fun _ h9 => h9) rfl dX2_readGo_135 ?_
        refine lv_if_ne (tgt := 153) hx hb dX2_readGo_138 (by decide) (fun c_138 => ?_) (fun c_138 => ?_)
        · skip
          have hP9 := hP.sub (ws' := [(h0, .inr (2, [.ref tO, .int s_77, .int p_78, .int b_79, .int f_80])), (tO, .inr (3, [.ref sA, .int (nI nq)])), (sA, .inl (cC, 1600, .inl fs)), (g0, .inr (1, [.ref gF, .ref gK, .ref gT, .ref gC, .ref gM, .int (nI gnq), .ref eF, .ref eC, .ref eM, .int ec, .ref hopA])), (gF, .inl (cI, 40, .inl fgF)), (gK, .inl (cI, 40, .inl fgK)), (gT, .inl (cI, 40, .inl fgT)), (gC, .inl (cI, 40, .inl fgC)), (gM, .inl (cI, 40, .inl fgM))]) [6, 7, 8, 0, 1, 2, 3, 4, 5] rfl
          have hD9 := hD.sub (ws' := [(h0, .inr (2, [.ref tO, .int s_77, .int p_78, .int b_79, .int f_80])), (tO, .inr (3, [.ref sA, .int (nI nq)])), (sA, .inl (cC, 1600, .inl fs)), (g0, .inr (1, [.ref gF, .ref gK, .ref gT, .ref gC, .ref gM, .int (nI gnq), .ref eF, .ref eC, .ref eM, .int ec, .ref hopA])), (gF, .inl (cI, 40, .inl fgF)), (gK, .inl (cI, 40, .inl fgK)), (gT, .inl (cI, 40, .inl fgT)), (gC, .inl (cI, 40, .inl fgC)), (gM, .inl (cI, 40, .inl fgM))]) [6, 7, 8, 0, 1, 2, 3, 4, 5] (by decide) rfl
          have hens0 : rOK fs nq (rgQ (tkO fs nq) gnq qs) s_77 p_78 b_79 f_80 := (rOK_of he_81 (by unfold rgQ; rw [if_neg (by omega)]; exact zE.symm))
          have hens1 : addD f_80 gnq gnq (lgL (tkO fs nq) qs) fgF fgK fgT fgC fgM fgF fgK fgT fgC fgM := (addD_n c_138)
          exact W.vret hx hb hr (fun t ht hW => ⟨⟨(s_77, p_78, b_79, f_80, gnq, fgF, fgK, fgT, fgC, fgM), rfl, ⟨hens0, hens1⟩, by rw [ht]; exact hP9, hD9⟩, hS.F ht⟩) hS.2.2 dX2_readGo_153
        · skip
          refine lv_aload_n hx hb dX2_readGo_141 rfl (lv_at hl 6 rfl) ?_
          refine lv_iload_n hx hb dX2_readGo_142 rfl (lv_at hl 4 rfl) ?_
          refine lv_iload_n hx hb dX2_readGo_143 rfl (lv_at hl 3 rfl) ?_
          refine lv_iload hx hb dX2_readGo_144 (lv_at hl 2 rfl) ?_
          refine lv_iload hx hb dX2_readGo_146 (lv_at hl 1 rfl) ?_
          refine lv_iload hx hb dX2_readGo_148 (lv_at hl 0 rfl) ?_
          have hPc := hP.sub (ws' := [(g0, .inr (1, [.ref gF, .ref gK, .ref gT, .ref gC, .ref gM, .int (nI gnq), .ref eF, .ref eC, .ref eM, .int ec, .ref hopA])), (gF, .inl (cI, 40, .inl fgF)), (gK, .inl (cI, 40, .inl fgK)), (gT, .inl (cI, 40, .inl fgT)), (gC, .inl (cI, 40, .inl fgC)), (gM, .inl (cI, 40, .inl fgM))]) [0, 1, 2, 3, 4, 5] rfl
          have hDc := hD.sub (ws' := [(g0, .inr (1, [.ref gF, .ref gK, .ref gT, .ref gC, .ref gM, .int (nI gnq), .ref eF, .ref eC, .ref eM, .int ec, .ref hopA])), (gF, .inl (cI, 40, .inl fgF)), (gK, .inl (cI, 40, .inl fgK)), (gT, .inl (cI, 40, .inl fgT)), (gC, .inl (cI, 40, .inl fgC)), (gM, .inl (cI, 40, .inl fgM))]) [0, 1, 2, 3, 4, 5] (by decide) rfl
          have hFc := va_free (wc := [(g0, .inr (1, [.ref gF, .ref gK, .ref gT, .ref gC, .ref gM, .int (nI gnq), .ref eF, .ref eC, .ref eM, .int ec, .ref hopA])), (gF, .inl (cI, 40, .inl fgF)), (gK, .inl (cI, 40, .inl fgK)), (gT, .inl (cI, 40, .inl fgT)), (gC, .inl (cI, 40, .inl fgC)), (gM, .inl (cI, 40, .inl fgM))]) hD hS hA [0, 1, 2, 3, 4, 5] rfl
          refine va_callv (va_runV (As := [.int r_7, .int r_24, .int r_41, .int r_58, .int 0]) (rest := []) ⟨hx, hb, hml, hown, hts⟩ (k_addGo l dC dI cI cZ cC cJ H.size  g0 gF gK gT gC gM gnq eF eC eM ec hopA fgF fgK fgT fgC fgM r_7 r_24 r_41 r_58 0 hg40) (cwV 5 hts gX2_readGo_X1_addGo rfl rfl rfl (by decide +kernel) ⟨Nat.le_of_ble_eq_true rfl, Nat.le_of_ble_eq_true rfl⟩) ⟨sPre_blind, va_recv hK hPc (ci := 1) (q0 := 0) rfl rfl, fun U hU hW => ⟨rfl, sPre_ok hsk hPc hDc hU hW⟩⟩ rfl rfl hl.1 rfl (lv_room (Nat.le_of_ble_eq_true rfl)) dX2_readGo_150 ⟨(show 0 + 0 ≤ 0 by omega), (show 0 + 0 ≤ 0 by omega)⟩) hS (fun q _ h => hFc q h) hFc (fun u t H1 locs ht hvm hw hB hz1 hk1 hS => ?_)
          try dsimp only at hw hB
          obtain ⟨hP1, hD1⟩ := hB
          rw [ht] at hP1
          obtain ⟨hP, hD⟩ := va_join (wr := [(h0, .inr (2, [.ref tO, .int s_77, .int p_78, .int b_79, .int f_80])), (tO, .inr (3, [.ref sA, .int (nI nq)])), (sA, .inl (cC, 1600, .inl fs))]) (w1 := [(g0, .inr (1, [.ref gF, .ref gK, .ref gT, .ref gC, .ref gM, .int (nI (gnq + 1)), .ref eF, .ref eC, .ref eM, .int ec, .ref hopA])), (gF, .inl (cI, 40, .inl (upd fgF gnq r_7))), (gK, .inl (cI, 40, .inl (upd fgK gnq r_24))), (gT, .inl (cI, 40, .inl (upd fgT gnq r_41))), (gC, .inl (cI, 40, .inl (upd fgC gnq r_58))), (gM, .inl (cI, 40, .inl (upd fgM gnq 0)))]) hP hD [0, 1, 2, 3, 4, 5] [6, 7, 8] rfl rfl (by decide) (by decide) hk1 hFc hP1 hD1
          generalize H1 = H at hP hS ⊢
          have hP : va_P (dC, dI) vwCl [(h0, .inr (2, [.ref tO, .int s_77, .int p_78, .int b_79, .int f_80])), (tO, .inr (3, [.ref sA, .int (nI nq)])), (sA, .inl (cC, 1600, .inl fs)), (g0, .inr (1, [.ref gF, .ref gK, .ref gT, .ref gC, .ref gM, .int (nI (gnq + 1)), .ref eF, .ref eC, .ref eM, .int ec, .ref hopA])), (gF, .inl (cI, 40, .inl (upd fgF gnq r_7))), (gK, .inl (cI, 40, .inl (upd fgK gnq r_24))), (gT, .inl (cI, 40, .inl (upd fgT gnq r_41))), (gC, .inl (cI, 40, .inl (upd fgC gnq r_58))), (gM, .inl (cI, 40, .inl (upd fgM gnq 0)))] H := hP
          have hD : va_D A [(h0, .inr (2, [.ref tO, .int s_77, .int p_78, .int b_79, .int f_80])), (tO, .inr (3, [.ref sA, .int (nI nq)])), (sA, .inl (cC, 1600, .inl fs)), (g0, .inr (1, [.ref gF, .ref gK, .ref gT, .ref gC, .ref gM, .int (nI (gnq + 1)), .ref eF, .ref eC, .ref eM, .int ec, .ref hopA])), (gF, .inl (cI, 40, .inl (upd fgF gnq r_7))), (gK, .inl (cI, 40, .inl (upd fgK gnq r_24))), (gT, .inl (cI, 40, .inl (upd fgT gnq r_41))), (gC, .inl (cI, 40, .inl (upd fgC gnq r_58))), (gM, .inl (cI, 40, .inl (upd fgM gnq 0)))] := hD
          have hP9 := hP.sub (ws' := [(h0, .inr (2, [.ref tO, .int s_77, .int p_78, .int b_79, .int f_80])), (tO, .inr (3, [.ref sA, .int (nI nq)])), (sA, .inl (cC, 1600, .inl fs)), (g0, .inr (1, [.ref gF, .ref gK, .ref gT, .ref gC, .ref gM, .int (nI (gnq + 1)), .ref eF, .ref eC, .ref eM, .int ec, .ref hopA])), (gF, .inl (cI, 40, .inl (upd fgF gnq r_7))), (gK, .inl (cI, 40, .inl (upd fgK gnq r_24))), (gT, .inl (cI, 40, .inl (upd fgT gnq r_41))), (gC, .inl (cI, 40, .inl (upd fgC gnq r_58))), (gM, .inl (cI, 40, .inl (upd fgM gnq 0)))]) [0, 1, 2, 3, 4, 5, 6, 7, 8] rfl
          have hD9 := hD.sub (ws' := [(h0, .inr (2, [.ref tO, .int s_77, .int p_78, .int b_79, .int f_80])), (tO, .inr (3, [.ref sA, .int (nI nq)])), (sA, .inl (cC, 1600, .inl fs)), (g0, .inr (1, [.ref gF, .ref gK, .ref gT, .ref gC, .ref gM, .int (nI (gnq + 1)), .ref eF, .ref eC, .ref eM, .int ec, .ref hopA])), (gF, .inl (cI, 40, .inl (upd fgF gnq r_7))), (gK, .inl (cI, 40, .inl (upd fgK gnq r_24))), (gT, .inl (cI, 40, .inl (upd fgT gnq r_41))), (gC, .inl (cI, 40, .inl (upd fgC gnq r_58))), (gM, .inl (cI, 40, .inl (upd fgM gnq 0)))]) [0, 1, 2, 3, 4, 5, 6, 7, 8] (by decide) rfl
          have hens0 : rOK fs nq (rgQ (tkO fs nq) gnq qs) s_77 p_78 b_79 f_80 := (rOK_of he_81 (by unfold rgQ; rw [if_neg (by omega)]; exact zE.symm))
          have hens1 : addD f_80 gnq (gnq + 1) (lgL (tkO fs nq) qs) fgF fgK fgT fgC fgM (upd fgF gnq r_7) (upd fgK gnq r_24) (upd fgT gnq r_41) (upd fgC gnq r_58) (upd fgM gnq 0) := (addD_y c_138 (by unfold lgL; rw [zB1, zC1, zD1, ← zq1, ← he_12, ← he_29, ← he_46, ← he_63, show nI (moV (tkO fs nq) (lgD (tkO fs nq) qs)) = 0 from by unfold moV; rw [zD, if_pos hw4]; rfl]))
          exact W.vret hx hb hr (fun t ht hW => ⟨⟨(s_77, p_78, b_79, f_80, (gnq + 1), (upd fgF gnq r_7), (upd fgK gnq r_24), (upd fgT gnq r_41), (upd fgC gnq r_58), (upd fgM gnq 0)), rfl, ⟨hens0, hens1⟩, by rw [ht]; exact hP9, hD9⟩, hS.F ht⟩) hS.2.2 dX2_readGo_153
    · skip
      have hw4 : ¬ (tkO fs nq).T q_65.1 4 = 0 := fun z => c_89 (he_67.trans z)
      refine lv_aload_n hx hb dX2_readGo_92 rfl (lv_at hl 5 rfl) ?_
      refine lv_iconst (v := 1) hx hb dX2_readGo_93 (by decide) ?_
      have hPc := hP.sub (ws' := [(h0, .inr (2, [.ref tO, .int s_59, .int p_60, .int b_61, .int f_62])), (tO, .inr (3, [.ref sA, .int (nI nq)])), (sA, .inl (cC, 1600, .inl fs))]) [6, 7, 8] rfl
      have hDc := hD.sub (ws' := [(h0, .inr (2, [.ref tO, .int s_59, .int p_60, .int b_61, .int f_62])), (tO, .inr (3, [.ref sA, .int (nI nq)])), (sA, .inl (cC, 1600, .inl fs))]) [6, 7, 8] (by decide) rfl
      have hFc := va_free (wc := [(h0, .inr (2, [.ref tO, .int s_59, .int p_60, .int b_61, .int f_62])), (tO, .inr (3, [.ref sA, .int (nI nq)])), (sA, .inl (cC, 1600, .inl fs))]) hD hS hA [6, 7, 8] rfl
      refine va_callv (va_runV (As := [.int 1]) (rest := []) ⟨hx, hb, hml, hown, hts⟩ (k_passIf l dC dI cI cZ cC cJ H.size  h0 tO s_59 p_60 b_61 f_62 sA nq fs 1 q_65 (by first | assumption | decide | omega) he_64) (cwV 1 hts gX2_readGo_X2_passIf rfl rfl rfl (by decide +kernel) ⟨Nat.le_of_ble_eq_true rfl, Nat.le_of_ble_eq_true rfl⟩) ⟨sPre_blind, va_recv hK hPc (ci := 2) (q0 := 0) rfl rfl, fun U hU hW => ⟨rfl, sPre_ok hsk hPc hDc hU hW⟩⟩ rfl rfl hl.1 rfl (lv_room (Nat.le_of_ble_eq_true rfl)) dX2_readGo_94 ⟨(show 0 + 0 ≤ 0 by omega), (show 0 + 0 ≤ 0 by omega)⟩) hS (fun q _ h => hFc q h) hFc (fun u t H1 locs ht hvm hw hB hz1 hk1 hS => ?_)
      obtain ⟨s_85, p_86, b_87, f_88⟩ := u
      try dsimp only at hw hB
      have he_89 := hw
      have he_89 : rOK fs nq (stX (tkO fs nq) 1 q_65) s_85 p_86 b_87 f_88 := he_89
      obtain ⟨q_90, eq_90⟩ : ∃ x9 : Nat × Int32, x9 = stX (tkO fs nq) 1 q_65 := ⟨_, rfl⟩
      rw [← eq_90] at he_89
      obtain ⟨hP1, hD1⟩ := hB
      rw [ht] at hP1
      obtain ⟨hP, hD⟩ := va_join (wr := [(g0, .inr (1, [.ref gF, .ref gK, .ref gT, .ref gC, .ref gM, .int (nI gnq), .ref eF, .ref eC, .ref eM, .int ec, .ref hopA])), (gF, .inl (cI, 40, .inl fgF)), (gK, .inl (cI, 40, .inl fgK)), (gT, .inl (cI, 40, .inl fgT)), (gC, .inl (cI, 40, .inl fgC)), (gM, .inl (cI, 40, .inl fgM))]) (w1 := [(h0, .inr (2, [.ref tO, .int s_85, .int p_86, .int b_87, .int f_88])), (tO, .inr (3, [.ref sA, .int (nI nq)])), (sA, .inl (cC, 1600, .inl fs))]) hP hD [6, 7, 8] [0, 1, 2, 3, 4, 5] rfl rfl (by decide) (by decide) hk1 hFc hP1 hD1
      generalize H1 = H at hP hS ⊢
      have hP : va_P (dC, dI) vwCl [(g0, .inr (1, [.ref gF, .ref gK, .ref gT, .ref gC, .ref gM, .int (nI gnq), .ref eF, .ref eC, .ref eM, .int ec, .ref hopA])), (gF, .inl (cI, 40, .inl fgF)), (gK, .inl (cI, 40, .inl fgK)), (gT, .inl (cI, 40, .inl fgT)), (gC, .inl (cI, 40, .inl fgC)), (gM, .inl (cI, 40, .inl fgM)), (h0, .inr (2, [.ref tO, .int s_85, .int p_86, .int b_87, .int f_88])), (tO, .inr (3, [.ref sA, .int (nI nq)])), (sA, .inl (cC, 1600, .inl fs))] H := hP
      have hD : va_D A [(g0, .inr (1, [.ref gF, .ref gK, .ref gT, .ref gC, .ref gM, .int (nI gnq), .ref eF, .ref eC, .ref eM, .int ec, .ref hopA])), (gF, .inl (cI, 40, .inl fgF)), (gK, .inl (cI, 40, .inl fgK)), (gT, .inl (cI, 40, .inl fgT)), (gC, .inl (cI, 40, .inl fgC)), (gM, .inl (cI, 40, .inl fgM)), (h0, .inr (2, [.ref tO, .int s_85, .int p_86, .int b_87, .int f_88])), (tO, .inr (3, [.ref sA, .int (nI nq)])), (sA, .inl (cC, 1600, .inl fs))] := hD
      refine lv_aload_n hx hb dX2_readGo_97 rfl (lv_at hl 5 rfl) ?_
      have hPc := hP.sub (ws' := [(h0, .inr (2, [.ref tO, .int s_85, .int p_86, .int b_87, .int f_88])), (tO, .inr (3, [.ref sA, .int (nI nq)])), (sA, .inl (cC, 1600, .inl fs))]) [6, 7, 8] rfl
      have hDc := hD.sub (ws' := [(h0, .inr (2, [.ref tO, .int s_85, .int p_86, .int b_87, .int f_88])), (tO, .inr (3, [.ref sA, .int (nI nq)])), (sA, .inl (cC, 1600, .inl fs))]) [6, 7, 8] (by decide) rfl
      have hFc := va_free (wc := [(h0, .inr (2, [.ref tO, .int s_85, .int p_86, .int b_87, .int f_88])), (tO, .inr (3, [.ref sA, .int (nI nq)])), (sA, .inl (cC, 1600, .inl fs))]) hD hS hA [6, 7, 8] rfl
      refine va_calli (va_runV (As := []) (rest := []) ⟨hx, hb, hml, hown, hts⟩ (k_goMarkHere l dC dI cI cZ cC cJ H.size adK adV h0 tO s_85 p_86 b_87 f_88 sA nq fs q_90 (by first | assumption | decide | omega) he_89) (cwV 0 hts gX2_readGo_X2_goMarkHere rfl rfl rfl (by decide +kernel) ⟨Nat.le_of_ble_eq_true rfl, Nat.le_of_ble_eq_true rfl⟩) ⟨tW_blind, va_recv hK hPc (ci := 2) (q0 := 0) rfl rfl, fun U hU hW => ⟨rfl, sPre_ok hsk hPc hDc hU hW, tW_warm hW hU hS (fun q h => hFc q h) htw⟩⟩ rfl rfl hl.1 rfl (lv_room (Nat.le_of_ble_eq_true rfl)) dX2_readGo_98 ⟨(show 0 + 0 ≤ 0 by omega), (show 0 + 0 ≤ 0 by omega)⟩) hS (fun q _ h => hFc q h) hFc (fun r_91 u t H1 locs ht hvm hw hB hz1 hk1 hS => ?_)
      try dsimp only at hw hB
      have he_92 := hw
      have he_92 : (r_91 : Int32) = nI (mkV (tkO fs nq) 5 q_90.1) := he_92
      obtain ⟨hP1, hD1⟩ := hB
      rw [ht] at hP1
      obtain ⟨hP, hD⟩ := va_join (wr := [(g0, .inr (1, [.ref gF, .ref gK, .ref gT, .ref gC, .ref gM, .int (nI gnq), .ref eF, .ref eC, .ref eM, .int ec, .ref hopA])), (gF, .inl (cI, 40, .inl fgF)), (gK, .inl (cI, 40, .inl fgK)), (gT, .inl (cI, 40, .inl fgT)), (gC, .inl (cI, 40, .inl fgC)), (gM, .inl (cI, 40, .inl fgM))]) (w1 := [(h0, .inr (2, [.ref tO, .int s_85, .int p_86, .int b_87, .int f_88])), (tO, .inr (3, [.ref sA, .int (nI nq)])), (sA, .inl (cC, 1600, .inl fs))]) hP hD [6, 7, 8] [0, 1, 2, 3, 4, 5] rfl rfl (by decide) (by decide) hk1 hFc hP1 hD1
      generalize H1 = H at hP hS ⊢
      have hP : va_P (dC, dI) vwCl [(g0, .inr (1, [.ref gF, .ref gK, .ref gT, .ref gC, .ref gM, .int (nI gnq), .ref eF, .ref eC, .ref eM, .int ec, .ref hopA])), (gF, .inl (cI, 40, .inl fgF)), (gK, .inl (cI, 40, .inl fgK)), (gT, .inl (cI, 40, .inl fgT)), (gC, .inl (cI, 40, .inl fgC)), (gM, .inl (cI, 40, .inl fgM)), (h0, .inr (2, [.ref tO, .int s_85, .int p_86, .int b_87, .int f_88])), (tO, .inr (3, [.ref sA, .int (nI nq)])), (sA, .inl (cC, 1600, .inl fs))] H := hP
      have hD : va_D A [(g0, .inr (1, [.ref gF, .ref gK, .ref gT, .ref gC, .ref gM, .int (nI gnq), .ref eF, .ref eC, .ref eM, .int ec, .ref hopA])), (gF, .inl (cI, 40, .inl fgF)), (gK, .inl (cI, 40, .inl fgK)), (gT, .inl (cI, 40, .inl fgT)), (gC, .inl (cI, 40, .inl fgC)), (gM, .inl (cI, 40, .inl fgM)), (h0, .inr (2, [.ref tO, .int s_85, .int p_86, .int b_87, .int f_88])), (tO, .inr (3, [.ref sA, .int (nI nq)])), (sA, .inl (cC, 1600, .inl fs))] := hD
      refine lv_istore (lv' := [(6, .int r_91), (5, .int r_58), (4, .int r_41), (3, .int r_24), (2, .int r_7), (0, .ref h0), (1, .ref g0)]) hx hb dX2_readGo_101 hl (by decide) rfl (fun ls hl => ?_)
      refine lv_aload_n hx hb dX2_readGo_103 rfl (lv_at hl 5 rfl) ?_
      refine lv_iload hx hb dX2_readGo_104 (lv_at hl 0 rfl) ?_
      refine lv_if_eq (tgt := 113) hx hb dX2_readGo_106 (by decide) (fun c_106 => ?_) (fun c_106 => ?_)
      · skip
        refine lv_iconst (v := 0) hx hb dX2_readGo_113 (by decide) ?_
        have hPc := hP.sub (ws' := [(h0, .inr (2, [.ref tO, .int s_85, .int p_86, .int b_87, .int f_88])), (tO, .inr (3, [.ref sA, .int (nI nq)])), (sA, .inl (cC, 1600, .inl fs))]) [6, 7, 8] rfl
        have hDc := hD.sub (ws' := [(h0, .inr (2, [.ref tO, .int s_85, .int p_86, .int b_87, .int f_88])), (tO, .inr (3, [.ref sA, .int (nI nq)])), (sA, .inl (cC, 1600, .inl fs))]) [6, 7, 8] (by decide) rfl
        have hFc := va_free (wc := [(h0, .inr (2, [.ref tO, .int s_85, .int p_86, .int b_87, .int f_88])), (tO, .inr (3, [.ref sA, .int (nI nq)])), (sA, .inl (cC, 1600, .inl fs))]) hD hS hA [6, 7, 8] rfl
        refine va_callv (va_runV (As := [.int 0]) (rest := []) ⟨hx, hb, hml, hown, hts⟩ (k_passIf l dC dI cI cZ cC cJ H.size  h0 tO s_85 p_86 b_87 f_88 sA nq fs 0 q_90 (by first | assumption | decide | omega) he_89) (cwV 1 hts gX2_readGo_X2_passIf rfl rfl rfl (by decide +kernel) ⟨Nat.le_of_ble_eq_true rfl, Nat.le_of_ble_eq_true rfl⟩) ⟨sPre_blind, va_recv hK hPc (ci := 2) (q0 := 0) rfl rfl, fun U hU hW => ⟨rfl, sPre_ok hsk hPc hDc hU hW⟩⟩ rfl rfl hl.1 rfl (lv_room (Nat.le_of_ble_eq_true rfl)) dX2_readGo_114 ⟨(show 0 + 0 ≤ 0 by omega), (show 0 + 0 ≤ 0 by omega)⟩) hS (fun q _ h => hFc q h) hFc (fun u t H1 locs ht hvm hw hB hz1 hk1 hS => ?_)
        obtain ⟨s_94, p_95, b_96, f_97⟩ := u
        try dsimp only at hw hB
        have he_98 := hw
        have he_98 : rOK fs nq (stX (tkO fs nq) 0 q_90) s_94 p_95 b_96 f_97 := he_98
        obtain ⟨q_99, eq_99⟩ : ∃ x9 : Nat × Int32, x9 = stX (tkO fs nq) 0 q_90 := ⟨_, rfl⟩
        rw [← eq_99] at he_98
        obtain ⟨hP1, hD1⟩ := hB
        rw [ht] at hP1
        obtain ⟨hP, hD⟩ := va_join (wr := [(g0, .inr (1, [.ref gF, .ref gK, .ref gT, .ref gC, .ref gM, .int (nI gnq), .ref eF, .ref eC, .ref eM, .int ec, .ref hopA])), (gF, .inl (cI, 40, .inl fgF)), (gK, .inl (cI, 40, .inl fgK)), (gT, .inl (cI, 40, .inl fgT)), (gC, .inl (cI, 40, .inl fgC)), (gM, .inl (cI, 40, .inl fgM))]) (w1 := [(h0, .inr (2, [.ref tO, .int s_94, .int p_95, .int b_96, .int f_97])), (tO, .inr (3, [.ref sA, .int (nI nq)])), (sA, .inl (cC, 1600, .inl fs))]) hP hD [6, 7, 8] [0, 1, 2, 3, 4, 5] rfl rfl (by decide) (by decide) hk1 hFc hP1 hD1
        generalize H1 = H at hP hS ⊢
        have hP : va_P (dC, dI) vwCl [(g0, .inr (1, [.ref gF, .ref gK, .ref gT, .ref gC, .ref gM, .int (nI gnq), .ref eF, .ref eC, .ref eM, .int ec, .ref hopA])), (gF, .inl (cI, 40, .inl fgF)), (gK, .inl (cI, 40, .inl fgK)), (gT, .inl (cI, 40, .inl fgT)), (gC, .inl (cI, 40, .inl fgC)), (gM, .inl (cI, 40, .inl fgM)), (h0, .inr (2, [.ref tO, .int s_94, .int p_95, .int b_96, .int f_97])), (tO, .inr (3, [.ref sA, .int (nI nq)])), (sA, .inl (cC, 1600, .inl fs))] H := hP
        have hD : va_D A [(g0, .inr (1, [.ref gF, .ref gK, .ref gT, .ref gC, .ref gM, .int (nI gnq), .ref eF, .ref eC, .ref eM, .int ec, .ref hopA])), (gF, .inl (cI, 40, .inl fgF)), (gK, .inl (cI, 40, .inl fgK)), (gT, .inl (cI, 40, .inl fgT)), (gC, .inl (cI, 40, .inl fgC)), (gM, .inl (cI, 40, .inl fgM)), (h0, .inr (2, [.ref tO, .int s_94, .int p_95, .int b_96, .int f_97])), (tO, .inr (3, [.ref sA, .int (nI nq)])), (sA, .inl (cC, 1600, .inl fs))] := hD
        have zO : stO (tkO fs nq) (lgD (tkO fs nq) qs) = q_99 := by rw [zD, eq_99, eq_90]; exact stO_w hw4 (⟨fun _ => by rw [← eq_90]; exact mkV_0.mp (he_92.symm.trans c_106), fun _ => rfl⟩)
        refine lv_aload_n hx hb dX2_readGo_117 rfl (lv_at hl 5 rfl) ?_
        refine lv_aload_n hx hb dX2_readGo_118 rfl (lv_at hl 5 rfl) ?_
        refine va_get (D := (dC, dI)) (ci := 2) (v := .int s_94) (C := RX2) (T := TX2) (N := 5) hx hb hts i2 hown hK hP 6 rfl rfl 1 (by decide) (hts (.fieldLink RX2 32 "StopSetter$Reader" "sort" "I") (by decide +kernel)) (fun _ h9 => h9) rfl dX2_readGo_119 ?_
        refine lv_iconst (v := 4) hx hb dX2_readGo_122 (by decide) ?_
        refine lv_icmp_ne (tgt := 130) hx hb dX2_readGo_123 (by decide) (fun c_123 => ?_) (fun c_123 => ?_)
        · skip
          refine lv_iconst (v := 0) hx hb dX2_readGo_130 (by decide) ?_
          have hPc := hP.sub (ws' := [(h0, .inr (2, [.ref tO, .int s_94, .int p_95, .int b_96, .int f_97])), (tO, .inr (3, [.ref sA, .int (nI nq)])), (sA, .inl (cC, 1600, .inl fs))]) [6, 7, 8] rfl
          have hDc := hD.sub (ws' := [(h0, .inr (2, [.ref tO, .int s_94, .int p_95, .int b_96, .int f_97])), (tO, .inr (3, [.ref sA, .int (nI nq)])), (sA, .inl (cC, 1600, .inl fs))]) [6, 7, 8] (by decide) rfl
          have hFc := va_free (wc := [(h0, .inr (2, [.ref tO, .int s_94, .int p_95, .int b_96, .int f_97])), (tO, .inr (3, [.ref sA, .int (nI nq)])), (sA, .inl (cC, 1600, .inl fs))]) hD hS hA [6, 7, 8] rfl
          refine va_callv (va_runV (As := [.int 0]) (rest := []) ⟨hx, hb, hml, hown, hts⟩ (k_passIf l dC dI cI cZ cC cJ H.size  h0 tO s_94 p_95 b_96 f_97 sA nq fs 0 q_99 (by first | assumption | decide | omega) he_98) (cwV 1 hts gX2_readGo_X2_passIf rfl rfl rfl (by decide +kernel) ⟨Nat.le_of_ble_eq_true rfl, Nat.le_of_ble_eq_true rfl⟩) ⟨sPre_blind, va_recv hK hPc (ci := 2) (q0 := 0) rfl rfl, fun U hU hW => ⟨rfl, sPre_ok hsk hPc hDc hU hW⟩⟩ rfl rfl hl.1 rfl (lv_room (Nat.le_of_ble_eq_true rfl)) dX2_readGo_131 ⟨(show 0 + 0 ≤ 0 by omega), (show 0 + 0 ≤ 0 by omega)⟩) hS (fun q _ h => hFc q h) hFc (fun u t H1 locs ht hvm hw hB hz1 hk1 hS => ?_)
          obtain ⟨s_101, p_102, b_103, f_104⟩ := u
          try dsimp only at hw hB
          have he_105 := hw
          have he_105 : rOK fs nq (stX (tkO fs nq) 0 q_99) s_101 p_102 b_103 f_104 := he_105
          obtain ⟨q_106, eq_106⟩ : ∃ x9 : Nat × Int32, x9 = stX (tkO fs nq) 0 q_99 := ⟨_, rfl⟩
          rw [← eq_106] at he_105
          obtain ⟨hP1, hD1⟩ := hB
          rw [ht] at hP1
          obtain ⟨hP, hD⟩ := va_join (wr := [(g0, .inr (1, [.ref gF, .ref gK, .ref gT, .ref gC, .ref gM, .int (nI gnq), .ref eF, .ref eC, .ref eM, .int ec, .ref hopA])), (gF, .inl (cI, 40, .inl fgF)), (gK, .inl (cI, 40, .inl fgK)), (gT, .inl (cI, 40, .inl fgT)), (gC, .inl (cI, 40, .inl fgC)), (gM, .inl (cI, 40, .inl fgM))]) (w1 := [(h0, .inr (2, [.ref tO, .int s_101, .int p_102, .int b_103, .int f_104])), (tO, .inr (3, [.ref sA, .int (nI nq)])), (sA, .inl (cC, 1600, .inl fs))]) hP hD [6, 7, 8] [0, 1, 2, 3, 4, 5] rfl rfl (by decide) (by decide) hk1 hFc hP1 hD1
          generalize H1 = H at hP hS ⊢
          have hP : va_P (dC, dI) vwCl [(g0, .inr (1, [.ref gF, .ref gK, .ref gT, .ref gC, .ref gM, .int (nI gnq), .ref eF, .ref eC, .ref eM, .int ec, .ref hopA])), (gF, .inl (cI, 40, .inl fgF)), (gK, .inl (cI, 40, .inl fgK)), (gT, .inl (cI, 40, .inl fgT)), (gC, .inl (cI, 40, .inl fgC)), (gM, .inl (cI, 40, .inl fgM)), (h0, .inr (2, [.ref tO, .int s_101, .int p_102, .int b_103, .int f_104])), (tO, .inr (3, [.ref sA, .int (nI nq)])), (sA, .inl (cC, 1600, .inl fs))] H := hP
          have hD : va_D A [(g0, .inr (1, [.ref gF, .ref gK, .ref gT, .ref gC, .ref gM, .int (nI gnq), .ref eF, .ref eC, .ref eM, .int ec, .ref hopA])), (gF, .inl (cI, 40, .inl fgF)), (gK, .inl (cI, 40, .inl fgK)), (gT, .inl (cI, 40, .inl fgT)), (gC, .inl (cI, 40, .inl fgC)), (gM, .inl (cI, 40, .inl fgM)), (h0, .inr (2, [.ref tO, .int s_101, .int p_102, .int b_103, .int f_104])), (tO, .inr (3, [.ref sA, .int (nI nq)])), (sA, .inl (cC, 1600, .inl fs))] := hD
          have zE : lgE (tkO fs nq) qs = q_106 := by unfold lgE; rw [zO, eq_106]; exact stS_0 (show ¬ (tkO fs nq).S q_99.1 = 4 from fun z => c_123 (he_98.1.trans z))
          refine lv_aload_n hx hb dX2_readGo_134 rfl (lv_at hl 5 rfl) ?_
          refine va_get (D := (dC, dI)) (ci := 2) (v := .int f_104) (C := RX2) (T := TX2) (N := 5) hx hb hts i2 hown hK hP 6 rfl rfl 4 (by decide) (hts (.fieldLink RX2 20 "StopSetter$Reader" "fault" "I") (by decide +kernel)) (fun _ h9 => h9) rfl dX2_readGo_135 ?_
          refine lv_if_ne (tgt := 153) hx hb dX2_readGo_138 (by decide) (fun c_138 => ?_) (fun c_138 => ?_)
          · skip
            have hP9 := hP.sub (ws' := [(h0, .inr (2, [.ref tO, .int s_101, .int p_102, .int b_103, .int f_104])), (tO, .inr (3, [.ref sA, .int (nI nq)])), (sA, .inl (cC, 1600, .inl fs)), (g0, .inr (1, [.ref gF, .ref gK, .ref gT, .ref gC, .ref gM, .int (nI gnq), .ref eF, .ref eC, .ref eM, .int ec, .ref hopA])), (gF, .inl (cI, 40, .inl fgF)), (gK, .inl (cI, 40, .inl fgK)), (gT, .inl (cI, 40, .inl fgT)), (gC, .inl (cI, 40, .inl fgC)), (gM, .inl (cI, 40, .inl fgM))]) [6, 7, 8, 0, 1, 2, 3, 4, 5] rfl
            have hD9 := hD.sub (ws' := [(h0, .inr (2, [.ref tO, .int s_101, .int p_102, .int b_103, .int f_104])), (tO, .inr (3, [.ref sA, .int (nI nq)])), (sA, .inl (cC, 1600, .inl fs)), (g0, .inr (1, [.ref gF, .ref gK, .ref gT, .ref gC, .ref gM, .int (nI gnq), .ref eF, .ref eC, .ref eM, .int ec, .ref hopA])), (gF, .inl (cI, 40, .inl fgF)), (gK, .inl (cI, 40, .inl fgK)), (gT, .inl (cI, 40, .inl fgT)), (gC, .inl (cI, 40, .inl fgC)), (gM, .inl (cI, 40, .inl fgM))]) [6, 7, 8, 0, 1, 2, 3, 4, 5] (by decide) rfl
            have hens0 : rOK fs nq (rgQ (tkO fs nq) gnq qs) s_101 p_102 b_103 f_104 := (rOK_of he_105 (by unfold rgQ; rw [if_neg (by omega)]; exact zE.symm))
            have hens1 : addD f_104 gnq gnq (lgL (tkO fs nq) qs) fgF fgK fgT fgC fgM fgF fgK fgT fgC fgM := (addD_n c_138)
            exact W.vret hx hb hr (fun t ht hW => ⟨⟨(s_101, p_102, b_103, f_104, gnq, fgF, fgK, fgT, fgC, fgM), rfl, ⟨hens0, hens1⟩, by rw [ht]; exact hP9, hD9⟩, hS.F ht⟩) hS.2.2 dX2_readGo_153
          · skip
            refine lv_aload_n hx hb dX2_readGo_141 rfl (lv_at hl 6 rfl) ?_
            refine lv_iload_n hx hb dX2_readGo_142 rfl (lv_at hl 4 rfl) ?_
            refine lv_iload_n hx hb dX2_readGo_143 rfl (lv_at hl 3 rfl) ?_
            refine lv_iload hx hb dX2_readGo_144 (lv_at hl 2 rfl) ?_
            refine lv_iload hx hb dX2_readGo_146 (lv_at hl 1 rfl) ?_
            refine lv_iload hx hb dX2_readGo_148 (lv_at hl 0 rfl) ?_
            have hPc := hP.sub (ws' := [(g0, .inr (1, [.ref gF, .ref gK, .ref gT, .ref gC, .ref gM, .int (nI gnq), .ref eF, .ref eC, .ref eM, .int ec, .ref hopA])), (gF, .inl (cI, 40, .inl fgF)), (gK, .inl (cI, 40, .inl fgK)), (gT, .inl (cI, 40, .inl fgT)), (gC, .inl (cI, 40, .inl fgC)), (gM, .inl (cI, 40, .inl fgM))]) [0, 1, 2, 3, 4, 5] rfl
            have hDc := hD.sub (ws' := [(g0, .inr (1, [.ref gF, .ref gK, .ref gT, .ref gC, .ref gM, .int (nI gnq), .ref eF, .ref eC, .ref eM, .int ec, .ref hopA])), (gF, .inl (cI, 40, .inl fgF)), (gK, .inl (cI, 40, .inl fgK)), (gT, .inl (cI, 40, .inl fgT)), (gC, .inl (cI, 40, .inl fgC)), (gM, .inl (cI, 40, .inl fgM))]) [0, 1, 2, 3, 4, 5] (by decide) rfl
            have hFc := va_free (wc := [(g0, .inr (1, [.ref gF, .ref gK, .ref gT, .ref gC, .ref gM, .int (nI gnq), .ref eF, .ref eC, .ref eM, .int ec, .ref hopA])), (gF, .inl (cI, 40, .inl fgF)), (gK, .inl (cI, 40, .inl fgK)), (gT, .inl (cI, 40, .inl fgT)), (gC, .inl (cI, 40, .inl fgC)), (gM, .inl (cI, 40, .inl fgM))]) hD hS hA [0, 1, 2, 3, 4, 5] rfl
            refine va_callv (va_runV (As := [.int r_7, .int r_24, .int r_41, .int r_58, .int r_91]) (rest := []) ⟨hx, hb, hml, hown, hts⟩ (k_addGo l dC dI cI cZ cC cJ H.size  g0 gF gK gT gC gM gnq eF eC eM ec hopA fgF fgK fgT fgC fgM r_7 r_24 r_41 r_58 r_91 hg40) (cwV 5 hts gX2_readGo_X1_addGo rfl rfl rfl (by decide +kernel) ⟨Nat.le_of_ble_eq_true rfl, Nat.le_of_ble_eq_true rfl⟩) ⟨sPre_blind, va_recv hK hPc (ci := 1) (q0 := 0) rfl rfl, fun U hU hW => ⟨rfl, sPre_ok hsk hPc hDc hU hW⟩⟩ rfl rfl hl.1 rfl (lv_room (Nat.le_of_ble_eq_true rfl)) dX2_readGo_150 ⟨(show 0 + 0 ≤ 0 by omega), (show 0 + 0 ≤ 0 by omega)⟩) hS (fun q _ h => hFc q h) hFc (fun u t H1 locs ht hvm hw hB hz1 hk1 hS => ?_)
            try dsimp only at hw hB
            obtain ⟨hP1, hD1⟩ := hB
            rw [ht] at hP1
            obtain ⟨hP, hD⟩ := va_join (wr := [(h0, .inr (2, [.ref tO, .int s_101, .int p_102, .int b_103, .int f_104])), (tO, .inr (3, [.ref sA, .int (nI nq)])), (sA, .inl (cC, 1600, .inl fs))]) (w1 := [(g0, .inr (1, [.ref gF, .ref gK, .ref gT, .ref gC, .ref gM, .int (nI (gnq + 1)), .ref eF, .ref eC, .ref eM, .int ec, .ref hopA])), (gF, .inl (cI, 40, .inl (upd fgF gnq r_7))), (gK, .inl (cI, 40, .inl (upd fgK gnq r_24))), (gT, .inl (cI, 40, .inl (upd fgT gnq r_41))), (gC, .inl (cI, 40, .inl (upd fgC gnq r_58))), (gM, .inl (cI, 40, .inl (upd fgM gnq r_91)))]) hP hD [0, 1, 2, 3, 4, 5] [6, 7, 8] rfl rfl (by decide) (by decide) hk1 hFc hP1 hD1
            generalize H1 = H at hP hS ⊢
            have hP : va_P (dC, dI) vwCl [(h0, .inr (2, [.ref tO, .int s_101, .int p_102, .int b_103, .int f_104])), (tO, .inr (3, [.ref sA, .int (nI nq)])), (sA, .inl (cC, 1600, .inl fs)), (g0, .inr (1, [.ref gF, .ref gK, .ref gT, .ref gC, .ref gM, .int (nI (gnq + 1)), .ref eF, .ref eC, .ref eM, .int ec, .ref hopA])), (gF, .inl (cI, 40, .inl (upd fgF gnq r_7))), (gK, .inl (cI, 40, .inl (upd fgK gnq r_24))), (gT, .inl (cI, 40, .inl (upd fgT gnq r_41))), (gC, .inl (cI, 40, .inl (upd fgC gnq r_58))), (gM, .inl (cI, 40, .inl (upd fgM gnq r_91)))] H := hP
            have hD : va_D A [(h0, .inr (2, [.ref tO, .int s_101, .int p_102, .int b_103, .int f_104])), (tO, .inr (3, [.ref sA, .int (nI nq)])), (sA, .inl (cC, 1600, .inl fs)), (g0, .inr (1, [.ref gF, .ref gK, .ref gT, .ref gC, .ref gM, .int (nI (gnq + 1)), .ref eF, .ref eC, .ref eM, .int ec, .ref hopA])), (gF, .inl (cI, 40, .inl (upd fgF gnq r_7))), (gK, .inl (cI, 40, .inl (upd fgK gnq r_24))), (gT, .inl (cI, 40, .inl (upd fgT gnq r_41))), (gC, .inl (cI, 40, .inl (upd fgC gnq r_58))), (gM, .inl (cI, 40, .inl (upd fgM gnq r_91)))] := hD
            have hP9 := hP.sub (ws' := [(h0, .inr (2, [.ref tO, .int s_101, .int p_102, .int b_103, .int f_104])), (tO, .inr (3, [.ref sA, .int (nI nq)])), (sA, .inl (cC, 1600, .inl fs)), (g0, .inr (1, [.ref gF, .ref gK, .ref gT, .ref gC, .ref gM, .int (nI (gnq + 1)), .ref eF, .ref eC, .ref eM, .int ec, .ref hopA])), (gF, .inl (cI, 40, .inl (upd fgF gnq r_7))), (gK, .inl (cI, 40, .inl (upd fgK gnq r_24))), (gT, .inl (cI, 40, .inl (upd fgT gnq r_41))), (gC, .inl (cI, 40, .inl (upd fgC gnq r_58))), (gM, .inl (cI, 40, .inl (upd fgM gnq r_91)))]) [0, 1, 2, 3, 4, 5, 6, 7, 8] rfl
            have hD9 := hD.sub (ws' := [(h0, .inr (2, [.ref tO, .int s_101, .int p_102, .int b_103, .int f_104])), (tO, .inr (3, [.ref sA, .int (nI nq)])), (sA, .inl (cC, 1600, .inl fs)), (g0, .inr (1, [.ref gF, .ref gK, .ref gT, .ref gC, .ref gM, .int (nI (gnq + 1)), .ref eF, .ref eC, .ref eM, .int ec, .ref hopA])), (gF, .inl (cI, 40, .inl (upd fgF gnq r_7))), (gK, .inl (cI, 40, .inl (upd fgK gnq r_24))), (gT, .inl (cI, 40, .inl (upd fgT gnq r_41))), (gC, .inl (cI, 40, .inl (upd fgC gnq r_58))), (gM, .inl (cI, 40, .inl (upd fgM gnq r_91)))]) [0, 1, 2, 3, 4, 5, 6, 7, 8] (by decide) rfl
            have hens0 : rOK fs nq (rgQ (tkO fs nq) gnq qs) s_101 p_102 b_103 f_104 := (rOK_of he_105 (by unfold rgQ; rw [if_neg (by omega)]; exact zE.symm))
            have hens1 : addD f_104 gnq (gnq + 1) (lgL (tkO fs nq) qs) fgF fgK fgT fgC fgM (upd fgF gnq r_7) (upd fgK gnq r_24) (upd fgT gnq r_41) (upd fgC gnq r_58) (upd fgM gnq r_91) := (addD_y c_138 (by unfold lgL; rw [zB1, zC1, zD1, ← zq1, ← he_12, ← he_29, ← he_46, ← he_63, show nI (moV (tkO fs nq) (lgD (tkO fs nq) qs)) = r_91 from by rw [zD, moV_w hw4 (b := 0) (by rw [← eq_90, ← eq_99]; exact stX_z (t := (tkO fs nq)) (b := 0) (by rw [← eq_106, ← he_105.2.2.2]; exact c_138)), ← eq_90]; exact he_92.symm]))
            exact W.vret hx hb hr (fun t ht hW => ⟨⟨(s_101, p_102, b_103, f_104, (gnq + 1), (upd fgF gnq r_7), (upd fgK gnq r_24), (upd fgT gnq r_41), (upd fgC gnq r_58), (upd fgM gnq r_91)), rfl, ⟨hens0, hens1⟩, by rw [ht]; exact hP9, hD9⟩, hS.F ht⟩) hS.2.2 dX2_readGo_153
        · skip
          refine lv_iconst (v := 1) hx hb dX2_readGo_126 (by decide) ?_
          refine lv_goto (tgt := 131) hx hb dX2_readGo_127 (by decide) ?_
          have hPc := hP.sub (ws' := [(h0, .inr (2, [.ref tO, .int s_94, .int p_95, .int b_96, .int f_97])), (tO, .inr (3, [.ref sA, .int (nI nq)])), (sA, .inl (cC, 1600, .inl fs))]) [6, 7, 8] rfl
          have hDc := hD.sub (ws' := [(h0, .inr (2, [.ref tO, .int s_94, .int p_95, .int b_96, .int f_97])), (tO, .inr (3, [.ref sA, .int (nI nq)])), (sA, .inl (cC, 1600, .inl fs))]) [6, 7, 8] (by decide) rfl
          have hFc := va_free (wc := [(h0, .inr (2, [.ref tO, .int s_94, .int p_95, .int b_96, .int f_97])), (tO, .inr (3, [.ref sA, .int (nI nq)])), (sA, .inl (cC, 1600, .inl fs))]) hD hS hA [6, 7, 8] rfl
          refine va_callv (va_runV (As := [.int 1]) (rest := []) ⟨hx, hb, hml, hown, hts⟩ (k_passIf l dC dI cI cZ cC cJ H.size  h0 tO s_94 p_95 b_96 f_97 sA nq fs 1 q_99 (by first | assumption | decide | omega) he_98) (cwV 1 hts gX2_readGo_X2_passIf rfl rfl rfl (by decide +kernel) ⟨Nat.le_of_ble_eq_true rfl, Nat.le_of_ble_eq_true rfl⟩) ⟨sPre_blind, va_recv hK hPc (ci := 2) (q0 := 0) rfl rfl, fun U hU hW => ⟨rfl, sPre_ok hsk hPc hDc hU hW⟩⟩ rfl rfl hl.1 rfl (lv_room (Nat.le_of_ble_eq_true rfl)) dX2_readGo_131 ⟨(show 0 + 0 ≤ 0 by omega), (show 0 + 0 ≤ 0 by omega)⟩) hS (fun q _ h => hFc q h) hFc (fun u t H1 locs ht hvm hw hB hz1 hk1 hS => ?_)
          obtain ⟨s_109, p_110, b_111, f_112⟩ := u
          try dsimp only at hw hB
          have he_113 := hw
          have he_113 : rOK fs nq (stX (tkO fs nq) 1 q_99) s_109 p_110 b_111 f_112 := he_113
          obtain ⟨q_114, eq_114⟩ : ∃ x9 : Nat × Int32, x9 = stX (tkO fs nq) 1 q_99 := ⟨_, rfl⟩
          rw [← eq_114] at he_113
          obtain ⟨hP1, hD1⟩ := hB
          rw [ht] at hP1
          obtain ⟨hP, hD⟩ := va_join (wr := [(g0, .inr (1, [.ref gF, .ref gK, .ref gT, .ref gC, .ref gM, .int (nI gnq), .ref eF, .ref eC, .ref eM, .int ec, .ref hopA])), (gF, .inl (cI, 40, .inl fgF)), (gK, .inl (cI, 40, .inl fgK)), (gT, .inl (cI, 40, .inl fgT)), (gC, .inl (cI, 40, .inl fgC)), (gM, .inl (cI, 40, .inl fgM))]) (w1 := [(h0, .inr (2, [.ref tO, .int s_109, .int p_110, .int b_111, .int f_112])), (tO, .inr (3, [.ref sA, .int (nI nq)])), (sA, .inl (cC, 1600, .inl fs))]) hP hD [6, 7, 8] [0, 1, 2, 3, 4, 5] rfl rfl (by decide) (by decide) hk1 hFc hP1 hD1
          generalize H1 = H at hP hS ⊢
          have hP : va_P (dC, dI) vwCl [(g0, .inr (1, [.ref gF, .ref gK, .ref gT, .ref gC, .ref gM, .int (nI gnq), .ref eF, .ref eC, .ref eM, .int ec, .ref hopA])), (gF, .inl (cI, 40, .inl fgF)), (gK, .inl (cI, 40, .inl fgK)), (gT, .inl (cI, 40, .inl fgT)), (gC, .inl (cI, 40, .inl fgC)), (gM, .inl (cI, 40, .inl fgM)), (h0, .inr (2, [.ref tO, .int s_109, .int p_110, .int b_111, .int f_112])), (tO, .inr (3, [.ref sA, .int (nI nq)])), (sA, .inl (cC, 1600, .inl fs))] H := hP
          have hD : va_D A [(g0, .inr (1, [.ref gF, .ref gK, .ref gT, .ref gC, .ref gM, .int (nI gnq), .ref eF, .ref eC, .ref eM, .int ec, .ref hopA])), (gF, .inl (cI, 40, .inl fgF)), (gK, .inl (cI, 40, .inl fgK)), (gT, .inl (cI, 40, .inl fgT)), (gC, .inl (cI, 40, .inl fgC)), (gM, .inl (cI, 40, .inl fgM)), (h0, .inr (2, [.ref tO, .int s_109, .int p_110, .int b_111, .int f_112])), (tO, .inr (3, [.ref sA, .int (nI nq)])), (sA, .inl (cC, 1600, .inl fs))] := hD
          have zE : lgE (tkO fs nq) qs = q_114 := by unfold lgE; rw [zO, eq_114]; exact stS_1 (show (tkO fs nq).S q_99.1 = 4 from he_98.1.symm.trans c_123)
          refine lv_aload_n hx hb dX2_readGo_134 rfl (lv_at hl 5 rfl) ?_
          refine va_get (D := (dC, dI)) (ci := 2) (v := .int f_112) (C := RX2) (T := TX2) (N := 5) hx hb hts i2 hown hK hP 6 rfl rfl 4 (by decide) (hts (.fieldLink RX2 20 "StopSetter$Reader" "fault" "I") (by decide +kernel)) (fun _ h9 => h9) rfl dX2_readGo_135 ?_
          refine lv_if_ne (tgt := 153) hx hb dX2_readGo_138 (by decide) (fun c_138 => ?_) (fun c_138 => ?_)
          · skip
            have hP9 := hP.sub (ws' := [(h0, .inr (2, [.ref tO, .int s_109, .int p_110, .int b_111, .int f_112])), (tO, .inr (3, [.ref sA, .int (nI nq)])), (sA, .inl (cC, 1600, .inl fs)), (g0, .inr (1, [.ref gF, .ref gK, .ref gT, .ref gC, .ref gM, .int (nI gnq), .ref eF, .ref eC, .ref eM, .int ec, .ref hopA])), (gF, .inl (cI, 40, .inl fgF)), (gK, .inl (cI, 40, .inl fgK)), (gT, .inl (cI, 40, .inl fgT)), (gC, .inl (cI, 40, .inl fgC)), (gM, .inl (cI, 40, .inl fgM))]) [6, 7, 8, 0, 1, 2, 3, 4, 5] rfl
            have hD9 := hD.sub (ws' := [(h0, .inr (2, [.ref tO, .int s_109, .int p_110, .int b_111, .int f_112])), (tO, .inr (3, [.ref sA, .int (nI nq)])), (sA, .inl (cC, 1600, .inl fs)), (g0, .inr (1, [.ref gF, .ref gK, .ref gT, .ref gC, .ref gM, .int (nI gnq), .ref eF, .ref eC, .ref eM, .int ec, .ref hopA])), (gF, .inl (cI, 40, .inl fgF)), (gK, .inl (cI, 40, .inl fgK)), (gT, .inl (cI, 40, .inl fgT)), (gC, .inl (cI, 40, .inl fgC)), (gM, .inl (cI, 40, .inl fgM))]) [6, 7, 8, 0, 1, 2, 3, 4, 5] (by decide) rfl
            have hens0 : rOK fs nq (rgQ (tkO fs nq) gnq qs) s_109 p_110 b_111 f_112 := (rOK_of he_113 (by unfold rgQ; rw [if_neg (by omega)]; exact zE.symm))
            have hens1 : addD f_112 gnq gnq (lgL (tkO fs nq) qs) fgF fgK fgT fgC fgM fgF fgK fgT fgC fgM := (addD_n c_138)
            exact W.vret hx hb hr (fun t ht hW => ⟨⟨(s_109, p_110, b_111, f_112, gnq, fgF, fgK, fgT, fgC, fgM), rfl, ⟨hens0, hens1⟩, by rw [ht]; exact hP9, hD9⟩, hS.F ht⟩) hS.2.2 dX2_readGo_153
          · skip
            refine lv_aload_n hx hb dX2_readGo_141 rfl (lv_at hl 6 rfl) ?_
            refine lv_iload_n hx hb dX2_readGo_142 rfl (lv_at hl 4 rfl) ?_
            refine lv_iload_n hx hb dX2_readGo_143 rfl (lv_at hl 3 rfl) ?_
            refine lv_iload hx hb dX2_readGo_144 (lv_at hl 2 rfl) ?_
            refine lv_iload hx hb dX2_readGo_146 (lv_at hl 1 rfl) ?_
            refine lv_iload hx hb dX2_readGo_148 (lv_at hl 0 rfl) ?_
            have hPc := hP.sub (ws' := [(g0, .inr (1, [.ref gF, .ref gK, .ref gT, .ref gC, .ref gM, .int (nI gnq), .ref eF, .ref eC, .ref eM, .int ec, .ref hopA])), (gF, .inl (cI, 40, .inl fgF)), (gK, .inl (cI, 40, .inl fgK)), (gT, .inl (cI, 40, .inl fgT)), (gC, .inl (cI, 40, .inl fgC)), (gM, .inl (cI, 40, .inl fgM))]) [0, 1, 2, 3, 4, 5] rfl
            have hDc := hD.sub (ws' := [(g0, .inr (1, [.ref gF, .ref gK, .ref gT, .ref gC, .ref gM, .int (nI gnq), .ref eF, .ref eC, .ref eM, .int ec, .ref hopA])), (gF, .inl (cI, 40, .inl fgF)), (gK, .inl (cI, 40, .inl fgK)), (gT, .inl (cI, 40, .inl fgT)), (gC, .inl (cI, 40, .inl fgC)), (gM, .inl (cI, 40, .inl fgM))]) [0, 1, 2, 3, 4, 5] (by decide) rfl
            have hFc := va_free (wc := [(g0, .inr (1, [.ref gF, .ref gK, .ref gT, .ref gC, .ref gM, .int (nI gnq), .ref eF, .ref eC, .ref eM, .int ec, .ref hopA])), (gF, .inl (cI, 40, .inl fgF)), (gK, .inl (cI, 40, .inl fgK)), (gT, .inl (cI, 40, .inl fgT)), (gC, .inl (cI, 40, .inl fgC)), (gM, .inl (cI, 40, .inl fgM))]) hD hS hA [0, 1, 2, 3, 4, 5] rfl
            refine va_callv (va_runV (As := [.int r_7, .int r_24, .int r_41, .int r_58, .int r_91]) (rest := []) ⟨hx, hb, hml, hown, hts⟩ (k_addGo l dC dI cI cZ cC cJ H.size  g0 gF gK gT gC gM gnq eF eC eM ec hopA fgF fgK fgT fgC fgM r_7 r_24 r_41 r_58 r_91 hg40) (cwV 5 hts gX2_readGo_X1_addGo rfl rfl rfl (by decide +kernel) ⟨Nat.le_of_ble_eq_true rfl, Nat.le_of_ble_eq_true rfl⟩) ⟨sPre_blind, va_recv hK hPc (ci := 1) (q0 := 0) rfl rfl, fun U hU hW => ⟨rfl, sPre_ok hsk hPc hDc hU hW⟩⟩ rfl rfl hl.1 rfl (lv_room (Nat.le_of_ble_eq_true rfl)) dX2_readGo_150 ⟨(show 0 + 0 ≤ 0 by omega), (show 0 + 0 ≤ 0 by omega)⟩) hS (fun q _ h => hFc q h) hFc (fun u t H1 locs ht hvm hw hB hz1 hk1 hS => ?_)
            try dsimp only at hw hB
            obtain ⟨hP1, hD1⟩ := hB
            rw [ht] at hP1
            obtain ⟨hP, hD⟩ := va_join (wr := [(h0, .inr (2, [.ref tO, .int s_109, .int p_110, .int b_111, .int f_112])), (tO, .inr (3, [.ref sA, .int (nI nq)])), (sA, .inl (cC, 1600, .inl fs))]) (w1 := [(g0, .inr (1, [.ref gF, .ref gK, .ref gT, .ref gC, .ref gM, .int (nI (gnq + 1)), .ref eF, .ref eC, .ref eM, .int ec, .ref hopA])), (gF, .inl (cI, 40, .inl (upd fgF gnq r_7))), (gK, .inl (cI, 40, .inl (upd fgK gnq r_24))), (gT, .inl (cI, 40, .inl (upd fgT gnq r_41))), (gC, .inl (cI, 40, .inl (upd fgC gnq r_58))), (gM, .inl (cI, 40, .inl (upd fgM gnq r_91)))]) hP hD [0, 1, 2, 3, 4, 5] [6, 7, 8] rfl rfl (by decide) (by decide) hk1 hFc hP1 hD1
            generalize H1 = H at hP hS ⊢
            have hP : va_P (dC, dI) vwCl [(h0, .inr (2, [.ref tO, .int s_109, .int p_110, .int b_111, .int f_112])), (tO, .inr (3, [.ref sA, .int (nI nq)])), (sA, .inl (cC, 1600, .inl fs)), (g0, .inr (1, [.ref gF, .ref gK, .ref gT, .ref gC, .ref gM, .int (nI (gnq + 1)), .ref eF, .ref eC, .ref eM, .int ec, .ref hopA])), (gF, .inl (cI, 40, .inl (upd fgF gnq r_7))), (gK, .inl (cI, 40, .inl (upd fgK gnq r_24))), (gT, .inl (cI, 40, .inl (upd fgT gnq r_41))), (gC, .inl (cI, 40, .inl (upd fgC gnq r_58))), (gM, .inl (cI, 40, .inl (upd fgM gnq r_91)))] H := hP
            have hD : va_D A [(h0, .inr (2, [.ref tO, .int s_109, .int p_110, .int b_111, .int f_112])), (tO, .inr (3, [.ref sA, .int (nI nq)])), (sA, .inl (cC, 1600, .inl fs)), (g0, .inr (1, [.ref gF, .ref gK, .ref gT, .ref gC, .ref gM, .int (nI (gnq + 1)), .ref eF, .ref eC, .ref eM, .int ec, .ref hopA])), (gF, .inl (cI, 40, .inl (upd fgF gnq r_7))), (gK, .inl (cI, 40, .inl (upd fgK gnq r_24))), (gT, .inl (cI, 40, .inl (upd fgT gnq r_41))), (gC, .inl (cI, 40, .inl (upd fgC gnq r_58))), (gM, .inl (cI, 40, .inl (upd fgM gnq r_91)))] := hD
            have hP9 := hP.sub (ws' := [(h0, .inr (2, [.ref tO, .int s_109, .int p_110, .int b_111, .int f_112])), (tO, .inr (3, [.ref sA, .int (nI nq)])), (sA, .inl (cC, 1600, .inl fs)), (g0, .inr (1, [.ref gF, .ref gK, .ref gT, .ref gC, .ref gM, .int (nI (gnq + 1)), .ref eF, .ref eC, .ref eM, .int ec, .ref hopA])), (gF, .inl (cI, 40, .inl (upd fgF gnq r_7))), (gK, .inl (cI, 40, .inl (upd fgK gnq r_24))), (gT, .inl (cI, 40, .inl (upd fgT gnq r_41))), (gC, .inl (cI, 40, .inl (upd fgC gnq r_58))), (gM, .inl (cI, 40, .inl (upd fgM gnq r_91)))]) [0, 1, 2, 3, 4, 5, 6, 7, 8] rfl
            have hD9 := hD.sub (ws' := [(h0, .inr (2, [.ref tO, .int s_109, .int p_110, .int b_111, .int f_112])), (tO, .inr (3, [.ref sA, .int (nI nq)])), (sA, .inl (cC, 1600, .inl fs)), (g0, .inr (1, [.ref gF, .ref gK, .ref gT, .ref gC, .ref gM, .int (nI (gnq + 1)), .ref eF, .ref eC, .ref eM, .int ec, .ref hopA])), (gF, .inl (cI, 40, .inl (upd fgF gnq r_7))), (gK, .inl (cI, 40, .inl (upd fgK gnq r_24))), (gT, .inl (cI, 40, .inl (upd fgT gnq r_41))), (gC, .inl (cI, 40, .inl (upd fgC gnq r_58))), (gM, .inl (cI, 40, .inl (upd fgM gnq r_91)))]) [0, 1, 2, 3, 4, 5, 6, 7, 8] (by decide) rfl
            have hens0 : rOK fs nq (rgQ (tkO fs nq) gnq qs) s_109 p_110 b_111 f_112 := (rOK_of he_113 (by unfold rgQ; rw [if_neg (by omega)]; exact zE.symm))
            have hens1 : addD f_112 gnq (gnq + 1) (lgL (tkO fs nq) qs) fgF fgK fgT fgC fgM (upd fgF gnq r_7) (upd fgK gnq r_24) (upd fgT gnq r_41) (upd fgC gnq r_58) (upd fgM gnq r_91) := (addD_y c_138 (by unfold lgL; rw [zB1, zC1, zD1, ← zq1, ← he_12, ← he_29, ← he_46, ← he_63, show nI (moV (tkO fs nq) (lgD (tkO fs nq) qs)) = r_91 from by rw [zD, moV_w hw4 (b := 0) (by rw [← eq_90, ← eq_99]; exact stX_z (t := (tkO fs nq)) (b := 1) (by rw [← eq_114, ← he_113.2.2.2]; exact c_138)), ← eq_90]; exact he_92.symm]))
            exact W.vret hx hb hr (fun t ht hW => ⟨⟨(s_109, p_110, b_111, f_112, (gnq + 1), (upd fgF gnq r_7), (upd fgK gnq r_24), (upd fgT gnq r_41), (upd fgC gnq r_58), (upd fgM gnq r_91)), rfl, ⟨hens0, hens1⟩, by rw [ht]; exact hP9, hD9⟩, hS.F ht⟩) hS.2.2 dX2_readGo_153
      · skip
        refine lv_iconst (v := 1) hx hb dX2_readGo_109 (by decide) ?_
        refine lv_goto (tgt := 114) hx hb dX2_readGo_110 (by decide) ?_
        have hPc := hP.sub (ws' := [(h0, .inr (2, [.ref tO, .int s_85, .int p_86, .int b_87, .int f_88])), (tO, .inr (3, [.ref sA, .int (nI nq)])), (sA, .inl (cC, 1600, .inl fs))]) [6, 7, 8] rfl
        have hDc := hD.sub (ws' := [(h0, .inr (2, [.ref tO, .int s_85, .int p_86, .int b_87, .int f_88])), (tO, .inr (3, [.ref sA, .int (nI nq)])), (sA, .inl (cC, 1600, .inl fs))]) [6, 7, 8] (by decide) rfl
        have hFc := va_free (wc := [(h0, .inr (2, [.ref tO, .int s_85, .int p_86, .int b_87, .int f_88])), (tO, .inr (3, [.ref sA, .int (nI nq)])), (sA, .inl (cC, 1600, .inl fs))]) hD hS hA [6, 7, 8] rfl
        refine va_callv (va_runV (As := [.int 1]) (rest := []) ⟨hx, hb, hml, hown, hts⟩ (k_passIf l dC dI cI cZ cC cJ H.size  h0 tO s_85 p_86 b_87 f_88 sA nq fs 1 q_90 (by first | assumption | decide | omega) he_89) (cwV 1 hts gX2_readGo_X2_passIf rfl rfl rfl (by decide +kernel) ⟨Nat.le_of_ble_eq_true rfl, Nat.le_of_ble_eq_true rfl⟩) ⟨sPre_blind, va_recv hK hPc (ci := 2) (q0 := 0) rfl rfl, fun U hU hW => ⟨rfl, sPre_ok hsk hPc hDc hU hW⟩⟩ rfl rfl hl.1 rfl (lv_room (Nat.le_of_ble_eq_true rfl)) dX2_readGo_114 ⟨(show 0 + 0 ≤ 0 by omega), (show 0 + 0 ≤ 0 by omega)⟩) hS (fun q _ h => hFc q h) hFc (fun u t H1 locs ht hvm hw hB hz1 hk1 hS => ?_)
        obtain ⟨s_117, p_118, b_119, f_120⟩ := u
        try dsimp only at hw hB
        have he_121 := hw
        have he_121 : rOK fs nq (stX (tkO fs nq) 1 q_90) s_117 p_118 b_119 f_120 := he_121
        obtain ⟨q_122, eq_122⟩ : ∃ x9 : Nat × Int32, x9 = stX (tkO fs nq) 1 q_90 := ⟨_, rfl⟩
        rw [← eq_122] at he_121
        obtain ⟨hP1, hD1⟩ := hB
        rw [ht] at hP1
        obtain ⟨hP, hD⟩ := va_join (wr := [(g0, .inr (1, [.ref gF, .ref gK, .ref gT, .ref gC, .ref gM, .int (nI gnq), .ref eF, .ref eC, .ref eM, .int ec, .ref hopA])), (gF, .inl (cI, 40, .inl fgF)), (gK, .inl (cI, 40, .inl fgK)), (gT, .inl (cI, 40, .inl fgT)), (gC, .inl (cI, 40, .inl fgC)), (gM, .inl (cI, 40, .inl fgM))]) (w1 := [(h0, .inr (2, [.ref tO, .int s_117, .int p_118, .int b_119, .int f_120])), (tO, .inr (3, [.ref sA, .int (nI nq)])), (sA, .inl (cC, 1600, .inl fs))]) hP hD [6, 7, 8] [0, 1, 2, 3, 4, 5] rfl rfl (by decide) (by decide) hk1 hFc hP1 hD1
        generalize H1 = H at hP hS ⊢
        have hP : va_P (dC, dI) vwCl [(g0, .inr (1, [.ref gF, .ref gK, .ref gT, .ref gC, .ref gM, .int (nI gnq), .ref eF, .ref eC, .ref eM, .int ec, .ref hopA])), (gF, .inl (cI, 40, .inl fgF)), (gK, .inl (cI, 40, .inl fgK)), (gT, .inl (cI, 40, .inl fgT)), (gC, .inl (cI, 40, .inl fgC)), (gM, .inl (cI, 40, .inl fgM)), (h0, .inr (2, [.ref tO, .int s_117, .int p_118, .int b_119, .int f_120])), (tO, .inr (3, [.ref sA, .int (nI nq)])), (sA, .inl (cC, 1600, .inl fs))] H := hP
        have hD : va_D A [(g0, .inr (1, [.ref gF, .ref gK, .ref gT, .ref gC, .ref gM, .int (nI gnq), .ref eF, .ref eC, .ref eM, .int ec, .ref hopA])), (gF, .inl (cI, 40, .inl fgF)), (gK, .inl (cI, 40, .inl fgK)), (gT, .inl (cI, 40, .inl fgT)), (gC, .inl (cI, 40, .inl fgC)), (gM, .inl (cI, 40, .inl fgM)), (h0, .inr (2, [.ref tO, .int s_117, .int p_118, .int b_119, .int f_120])), (tO, .inr (3, [.ref sA, .int (nI nq)])), (sA, .inl (cC, 1600, .inl fs))] := hD
        have zO : stO (tkO fs nq) (lgD (tkO fs nq) qs) = q_122 := by rw [zD, eq_122, eq_90]; exact stO_w hw4 (⟨fun z => absurd z (by decide), fun z => absurd (he_92.trans (mkV_0.mpr (by rw [← eq_90] at z; exact z))) c_106⟩)
        refine lv_aload_n hx hb dX2_readGo_117 rfl (lv_at hl 5 rfl) ?_
        refine lv_aload_n hx hb dX2_readGo_118 rfl (lv_at hl 5 rfl) ?_
        refine va_get (D := (dC, dI)) (ci := 2) (v := .int s_117) (C := RX2) (T := TX2) (N := 5) hx hb hts i2 hown hK hP 6 rfl rfl 1 (by decide) (hts (.fieldLink RX2 32 "StopSetter$Reader" "sort" "I") (by decide +kernel)) (fun _ h9 => h9) rfl dX2_readGo_119 ?_
        refine lv_iconst (v := 4) hx hb dX2_readGo_122 (by decide) ?_
        refine lv_icmp_ne (tgt := 130) hx hb dX2_readGo_123 (by decide) (fun c_123 => ?_) (fun c_123 => ?_)
        · skip
          refine lv_iconst (v := 0) hx hb dX2_readGo_130 (by decide) ?_
          have hPc := hP.sub (ws' := [(h0, .inr (2, [.ref tO, .int s_117, .int p_118, .int b_119, .int f_120])), (tO, .inr (3, [.ref sA, .int (nI nq)])), (sA, .inl (cC, 1600, .inl fs))]) [6, 7, 8] rfl
          have hDc := hD.sub (ws' := [(h0, .inr (2, [.ref tO, .int s_117, .int p_118, .int b_119, .int f_120])), (tO, .inr (3, [.ref sA, .int (nI nq)])), (sA, .inl (cC, 1600, .inl fs))]) [6, 7, 8] (by decide) rfl
          have hFc := va_free (wc := [(h0, .inr (2, [.ref tO, .int s_117, .int p_118, .int b_119, .int f_120])), (tO, .inr (3, [.ref sA, .int (nI nq)])), (sA, .inl (cC, 1600, .inl fs))]) hD hS hA [6, 7, 8] rfl
          refine va_callv (va_runV (As := [.int 0]) (rest := []) ⟨hx, hb, hml, hown, hts⟩ (k_passIf l dC dI cI cZ cC cJ H.size  h0 tO s_117 p_118 b_119 f_120 sA nq fs 0 q_122 (by first | assumption | decide | omega) he_121) (cwV 1 hts gX2_readGo_X2_passIf rfl rfl rfl (by decide +kernel) ⟨Nat.le_of_ble_eq_true rfl, Nat.le_of_ble_eq_true rfl⟩) ⟨sPre_blind, va_recv hK hPc (ci := 2) (q0 := 0) rfl rfl, fun U hU hW => ⟨rfl, sPre_ok hsk hPc hDc hU hW⟩⟩ rfl rfl hl.1 rfl (lv_room (Nat.le_of_ble_eq_true rfl)) dX2_readGo_131 ⟨(show 0 + 0 ≤ 0 by omega), (show 0 + 0 ≤ 0 by omega)⟩) hS (fun q _ h => hFc q h) hFc (fun u t H1 locs ht hvm hw hB hz1 hk1 hS => ?_)
          obtain ⟨s_124, p_125, b_126, f_127⟩ := u
          try dsimp only at hw hB
          have he_128 := hw
          have he_128 : rOK fs nq (stX (tkO fs nq) 0 q_122) s_124 p_125 b_126 f_127 := he_128
          obtain ⟨q_129, eq_129⟩ : ∃ x9 : Nat × Int32, x9 = stX (tkO fs nq) 0 q_122 := ⟨_, rfl⟩
          rw [← eq_129] at he_128
          obtain ⟨hP1, hD1⟩ := hB
          rw [ht] at hP1
          obtain ⟨hP, hD⟩ := va_join (wr := [(g0, .inr (1, [.ref gF, .ref gK, .ref gT, .ref gC, .ref gM, .int (nI gnq), .ref eF, .ref eC, .ref eM, .int ec, .ref hopA])), (gF, .inl (cI, 40, .inl fgF)), (gK, .inl (cI, 40, .inl fgK)), (gT, .inl (cI, 40, .inl fgT)), (gC, .inl (cI, 40, .inl fgC)), (gM, .inl (cI, 40, .inl fgM))]) (w1 := [(h0, .inr (2, [.ref tO, .int s_124, .int p_125, .int b_126, .int f_127])), (tO, .inr (3, [.ref sA, .int (nI nq)])), (sA, .inl (cC, 1600, .inl fs))]) hP hD [6, 7, 8] [0, 1, 2, 3, 4, 5] rfl rfl (by decide) (by decide) hk1 hFc hP1 hD1
          generalize H1 = H at hP hS ⊢
          have hP : va_P (dC, dI) vwCl [(g0, .inr (1, [.ref gF, .ref gK, .ref gT, .ref gC, .ref gM, .int (nI gnq), .ref eF, .ref eC, .ref eM, .int ec, .ref hopA])), (gF, .inl (cI, 40, .inl fgF)), (gK, .inl (cI, 40, .inl fgK)), (gT, .inl (cI, 40, .inl fgT)), (gC, .inl (cI, 40, .inl fgC)), (gM, .inl (cI, 40, .inl fgM)), (h0, .inr (2, [.ref tO, .int s_124, .int p_125, .int b_126, .int f_127])), (tO, .inr (3, [.ref sA, .int (nI nq)])), (sA, .inl (cC, 1600, .inl fs))] H := hP
          have hD : va_D A [(g0, .inr (1, [.ref gF, .ref gK, .ref gT, .ref gC, .ref gM, .int (nI gnq), .ref eF, .ref eC, .ref eM, .int ec, .ref hopA])), (gF, .inl (cI, 40, .inl fgF)), (gK, .inl (cI, 40, .inl fgK)), (gT, .inl (cI, 40, .inl fgT)), (gC, .inl (cI, 40, .inl fgC)), (gM, .inl (cI, 40, .inl fgM)), (h0, .inr (2, [.ref tO, .int s_124, .int p_125, .int b_126, .int f_127])), (tO, .inr (3, [.ref sA, .int (nI nq)])), (sA, .inl (cC, 1600, .inl fs))] := hD
          have zE : lgE (tkO fs nq) qs = q_129 := by unfold lgE; rw [zO, eq_129]; exact stS_0 (show ¬ (tkO fs nq).S q_122.1 = 4 from fun z => c_123 (he_121.1.trans z))
          refine lv_aload_n hx hb dX2_readGo_134 rfl (lv_at hl 5 rfl) ?_
          refine va_get (D := (dC, dI)) (ci := 2) (v := .int f_127) (C := RX2) (T := TX2) (N := 5) hx hb hts i2 hown hK hP 6 rfl rfl 4 (by decide) (hts (.fieldLink RX2 20 "StopSetter$Reader" "fault" "I") (by decide +kernel)) (fun _ h9 => h9) rfl dX2_readGo_135 ?_
          refine lv_if_ne (tgt := 153) hx hb dX2_readGo_138 (by decide) (fun c_138 => ?_) (fun c_138 => ?_)
          · skip
            have hP9 := hP.sub (ws' := [(h0, .inr (2, [.ref tO, .int s_124, .int p_125, .int b_126, .int f_127])), (tO, .inr (3, [.ref sA, .int (nI nq)])), (sA, .inl (cC, 1600, .inl fs)), (g0, .inr (1, [.ref gF, .ref gK, .ref gT, .ref gC, .ref gM, .int (nI gnq), .ref eF, .ref eC, .ref eM, .int ec, .ref hopA])), (gF, .inl (cI, 40, .inl fgF)), (gK, .inl (cI, 40, .inl fgK)), (gT, .inl (cI, 40, .inl fgT)), (gC, .inl (cI, 40, .inl fgC)), (gM, .inl (cI, 40, .inl fgM))]) [6, 7, 8, 0, 1, 2, 3, 4, 5] rfl
            have hD9 := hD.sub (ws' := [(h0, .inr (2, [.ref tO, .int s_124, .int p_125, .int b_126, .int f_127])), (tO, .inr (3, [.ref sA, .int (nI nq)])), (sA, .inl (cC, 1600, .inl fs)), (g0, .inr (1, [.ref gF, .ref gK, .ref gT, .ref gC, .ref gM, .int (nI gnq), .ref eF, .ref eC, .ref eM, .int ec, .ref hopA])), (gF, .inl (cI, 40, .inl fgF)), (gK, .inl (cI, 40, .inl fgK)), (gT, .inl (cI, 40, .inl fgT)), (gC, .inl (cI, 40, .inl fgC)), (gM, .inl (cI, 40, .inl fgM))]) [6, 7, 8, 0, 1, 2, 3, 4, 5] (by decide) rfl
            have hens0 : rOK fs nq (rgQ (tkO fs nq) gnq qs) s_124 p_125 b_126 f_127 := (rOK_of he_128 (by unfold rgQ; rw [if_neg (by omega)]; exact zE.symm))
            have hens1 : addD f_127 gnq gnq (lgL (tkO fs nq) qs) fgF fgK fgT fgC fgM fgF fgK fgT fgC fgM := (addD_n c_138)
            exact W.vret hx hb hr (fun t ht hW => ⟨⟨(s_124, p_125, b_126, f_127, gnq, fgF, fgK, fgT, fgC, fgM), rfl, ⟨hens0, hens1⟩, by rw [ht]; exact hP9, hD9⟩, hS.F ht⟩) hS.2.2 dX2_readGo_153
          · skip
            refine lv_aload_n hx hb dX2_readGo_141 rfl (lv_at hl 6 rfl) ?_
            refine lv_iload_n hx hb dX2_readGo_142 rfl (lv_at hl 4 rfl) ?_
            refine lv_iload_n hx hb dX2_readGo_143 rfl (lv_at hl 3 rfl) ?_
            refine lv_iload hx hb dX2_readGo_144 (lv_at hl 2 rfl) ?_
            refine lv_iload hx hb dX2_readGo_146 (lv_at hl 1 rfl) ?_
            refine lv_iload hx hb dX2_readGo_148 (lv_at hl 0 rfl) ?_
            have hPc := hP.sub (ws' := [(g0, .inr (1, [.ref gF, .ref gK, .ref gT, .ref gC, .ref gM, .int (nI gnq), .ref eF, .ref eC, .ref eM, .int ec, .ref hopA])), (gF, .inl (cI, 40, .inl fgF)), (gK, .inl (cI, 40, .inl fgK)), (gT, .inl (cI, 40, .inl fgT)), (gC, .inl (cI, 40, .inl fgC)), (gM, .inl (cI, 40, .inl fgM))]) [0, 1, 2, 3, 4, 5] rfl
            have hDc := hD.sub (ws' := [(g0, .inr (1, [.ref gF, .ref gK, .ref gT, .ref gC, .ref gM, .int (nI gnq), .ref eF, .ref eC, .ref eM, .int ec, .ref hopA])), (gF, .inl (cI, 40, .inl fgF)), (gK, .inl (cI, 40, .inl fgK)), (gT, .inl (cI, 40, .inl fgT)), (gC, .inl (cI, 40, .inl fgC)), (gM, .inl (cI, 40, .inl fgM))]) [0, 1, 2, 3, 4, 5] (by decide) rfl
            have hFc := va_free (wc := [(g0, .inr (1, [.ref gF, .ref gK, .ref gT, .ref gC, .ref gM, .int (nI gnq), .ref eF, .ref eC, .ref eM, .int ec, .ref hopA])), (gF, .inl (cI, 40, .inl fgF)), (gK, .inl (cI, 40, .inl fgK)), (gT, .inl (cI, 40, .inl fgT)), (gC, .inl (cI, 40, .inl fgC)), (gM, .inl (cI, 40, .inl fgM))]) hD hS hA [0, 1, 2, 3, 4, 5] rfl
            refine va_callv (va_runV (As := [.int r_7, .int r_24, .int r_41, .int r_58, .int r_91]) (rest := []) ⟨hx, hb, hml, hown, hts⟩ (k_addGo l dC dI cI cZ cC cJ H.size  g0 gF gK gT gC gM gnq eF eC eM ec hopA fgF fgK fgT fgC fgM r_7 r_24 r_41 r_58 r_91 hg40) (cwV 5 hts gX2_readGo_X1_addGo rfl rfl rfl (by decide +kernel) ⟨Nat.le_of_ble_eq_true rfl, Nat.le_of_ble_eq_true rfl⟩) ⟨sPre_blind, va_recv hK hPc (ci := 1) (q0 := 0) rfl rfl, fun U hU hW => ⟨rfl, sPre_ok hsk hPc hDc hU hW⟩⟩ rfl rfl hl.1 rfl (lv_room (Nat.le_of_ble_eq_true rfl)) dX2_readGo_150 ⟨(show 0 + 0 ≤ 0 by omega), (show 0 + 0 ≤ 0 by omega)⟩) hS (fun q _ h => hFc q h) hFc (fun u t H1 locs ht hvm hw hB hz1 hk1 hS => ?_)
            try dsimp only at hw hB
            obtain ⟨hP1, hD1⟩ := hB
            rw [ht] at hP1
            obtain ⟨hP, hD⟩ := va_join (wr := [(h0, .inr (2, [.ref tO, .int s_124, .int p_125, .int b_126, .int f_127])), (tO, .inr (3, [.ref sA, .int (nI nq)])), (sA, .inl (cC, 1600, .inl fs))]) (w1 := [(g0, .inr (1, [.ref gF, .ref gK, .ref gT, .ref gC, .ref gM, .int (nI (gnq + 1)), .ref eF, .ref eC, .ref eM, .int ec, .ref hopA])), (gF, .inl (cI, 40, .inl (upd fgF gnq r_7))), (gK, .inl (cI, 40, .inl (upd fgK gnq r_24))), (gT, .inl (cI, 40, .inl (upd fgT gnq r_41))), (gC, .inl (cI, 40, .inl (upd fgC gnq r_58))), (gM, .inl (cI, 40, .inl (upd fgM gnq r_91)))]) hP hD [0, 1, 2, 3, 4, 5] [6, 7, 8] rfl rfl (by decide) (by decide) hk1 hFc hP1 hD1
            generalize H1 = H at hP hS ⊢
            have hP : va_P (dC, dI) vwCl [(h0, .inr (2, [.ref tO, .int s_124, .int p_125, .int b_126, .int f_127])), (tO, .inr (3, [.ref sA, .int (nI nq)])), (sA, .inl (cC, 1600, .inl fs)), (g0, .inr (1, [.ref gF, .ref gK, .ref gT, .ref gC, .ref gM, .int (nI (gnq + 1)), .ref eF, .ref eC, .ref eM, .int ec, .ref hopA])), (gF, .inl (cI, 40, .inl (upd fgF gnq r_7))), (gK, .inl (cI, 40, .inl (upd fgK gnq r_24))), (gT, .inl (cI, 40, .inl (upd fgT gnq r_41))), (gC, .inl (cI, 40, .inl (upd fgC gnq r_58))), (gM, .inl (cI, 40, .inl (upd fgM gnq r_91)))] H := hP
            have hD : va_D A [(h0, .inr (2, [.ref tO, .int s_124, .int p_125, .int b_126, .int f_127])), (tO, .inr (3, [.ref sA, .int (nI nq)])), (sA, .inl (cC, 1600, .inl fs)), (g0, .inr (1, [.ref gF, .ref gK, .ref gT, .ref gC, .ref gM, .int (nI (gnq + 1)), .ref eF, .ref eC, .ref eM, .int ec, .ref hopA])), (gF, .inl (cI, 40, .inl (upd fgF gnq r_7))), (gK, .inl (cI, 40, .inl (upd fgK gnq r_24))), (gT, .inl (cI, 40, .inl (upd fgT gnq r_41))), (gC, .inl (cI, 40, .inl (upd fgC gnq r_58))), (gM, .inl (cI, 40, .inl (upd fgM gnq r_91)))] := hD
            have hP9 := hP.sub (ws' := [(h0, .inr (2, [.ref tO, .int s_124, .int p_125, .int b_126, .int f_127])), (tO, .inr (3, [.ref sA, .int (nI nq)])), (sA, .inl (cC, 1600, .inl fs)), (g0, .inr (1, [.ref gF, .ref gK, .ref gT, .ref gC, .ref gM, .int (nI (gnq + 1)), .ref eF, .ref eC, .ref eM, .int ec, .ref hopA])), (gF, .inl (cI, 40, .inl (upd fgF gnq r_7))), (gK, .inl (cI, 40, .inl (upd fgK gnq r_24))), (gT, .inl (cI, 40, .inl (upd fgT gnq r_41))), (gC, .inl (cI, 40, .inl (upd fgC gnq r_58))), (gM, .inl (cI, 40, .inl (upd fgM gnq r_91)))]) [0, 1, 2, 3, 4, 5, 6, 7, 8] rfl
            have hD9 := hD.sub (ws' := [(h0, .inr (2, [.ref tO, .int s_124, .int p_125, .int b_126, .int f_127])), (tO, .inr (3, [.ref sA, .int (nI nq)])), (sA, .inl (cC, 1600, .inl fs)), (g0, .inr (1, [.ref gF, .ref gK, .ref gT, .ref gC, .ref gM, .int (nI (gnq + 1)), .ref eF, .ref eC, .ref eM, .int ec, .ref hopA])), (gF, .inl (cI, 40, .inl (upd fgF gnq r_7))), (gK, .inl (cI, 40, .inl (upd fgK gnq r_24))), (gT, .inl (cI, 40, .inl (upd fgT gnq r_41))), (gC, .inl (cI, 40, .inl (upd fgC gnq r_58))), (gM, .inl (cI, 40, .inl (upd fgM gnq r_91)))]) [0, 1, 2, 3, 4, 5, 6, 7, 8] (by decide) rfl
            have hens0 : rOK fs nq (rgQ (tkO fs nq) gnq qs) s_124 p_125 b_126 f_127 := (rOK_of he_128 (by unfold rgQ; rw [if_neg (by omega)]; exact zE.symm))
            have hens1 : addD f_127 gnq (gnq + 1) (lgL (tkO fs nq) qs) fgF fgK fgT fgC fgM (upd fgF gnq r_7) (upd fgK gnq r_24) (upd fgT gnq r_41) (upd fgC gnq r_58) (upd fgM gnq r_91) := (addD_y c_138 (by unfold lgL; rw [zB1, zC1, zD1, ← zq1, ← he_12, ← he_29, ← he_46, ← he_63, show nI (moV (tkO fs nq) (lgD (tkO fs nq) qs)) = r_91 from by rw [zD, moV_w hw4 (b := 1) (by rw [← eq_90, ← eq_122]; exact stX_z (t := (tkO fs nq)) (b := 0) (by rw [← eq_129, ← he_128.2.2.2]; exact c_138)), ← eq_90]; exact he_92.symm]))
            exact W.vret hx hb hr (fun t ht hW => ⟨⟨(s_124, p_125, b_126, f_127, (gnq + 1), (upd fgF gnq r_7), (upd fgK gnq r_24), (upd fgT gnq r_41), (upd fgC gnq r_58), (upd fgM gnq r_91)), rfl, ⟨hens0, hens1⟩, by rw [ht]; exact hP9, hD9⟩, hS.F ht⟩) hS.2.2 dX2_readGo_153
        · skip
          refine lv_iconst (v := 1) hx hb dX2_readGo_126 (by decide) ?_
          refine lv_goto (tgt := 131) hx hb dX2_readGo_127 (by decide) ?_
          have hPc := hP.sub (ws' := [(h0, .inr (2, [.ref tO, .int s_117, .int p_118, .int b_119, .int f_120])), (tO, .inr (3, [.ref sA, .int (nI nq)])), (sA, .inl (cC, 1600, .inl fs))]) [6, 7, 8] rfl
          have hDc := hD.sub (ws' := [(h0, .inr (2, [.ref tO, .int s_117, .int p_118, .int b_119, .int f_120])), (tO, .inr (3, [.ref sA, .int (nI nq)])), (sA, .inl (cC, 1600, .inl fs))]) [6, 7, 8] (by decide) rfl
          have hFc := va_free (wc := [(h0, .inr (2, [.ref tO, .int s_117, .int p_118, .int b_119, .int f_120])), (tO, .inr (3, [.ref sA, .int (nI nq)])), (sA, .inl (cC, 1600, .inl fs))]) hD hS hA [6, 7, 8] rfl
          refine va_callv (va_runV (As := [.int 1]) (rest := []) ⟨hx, hb, hml, hown, hts⟩ (k_passIf l dC dI cI cZ cC cJ H.size  h0 tO s_117 p_118 b_119 f_120 sA nq fs 1 q_122 (by first | assumption | decide | omega) he_121) (cwV 1 hts gX2_readGo_X2_passIf rfl rfl rfl (by decide +kernel) ⟨Nat.le_of_ble_eq_true rfl, Nat.le_of_ble_eq_true rfl⟩) ⟨sPre_blind, va_recv hK hPc (ci := 2) (q0 := 0) rfl rfl, fun U hU hW => ⟨rfl, sPre_ok hsk hPc hDc hU hW⟩⟩ rfl rfl hl.1 rfl (lv_room (Nat.le_of_ble_eq_true rfl)) dX2_readGo_131 ⟨(show 0 + 0 ≤ 0 by omega), (show 0 + 0 ≤ 0 by omega)⟩) hS (fun q _ h => hFc q h) hFc (fun u t H1 locs ht hvm hw hB hz1 hk1 hS => ?_)
          obtain ⟨s_132, p_133, b_134, f_135⟩ := u
          try dsimp only at hw hB
          have he_136 := hw
          have he_136 : rOK fs nq (stX (tkO fs nq) 1 q_122) s_132 p_133 b_134 f_135 := he_136
          obtain ⟨q_137, eq_137⟩ : ∃ x9 : Nat × Int32, x9 = stX (tkO fs nq) 1 q_122 := ⟨_, rfl⟩
          rw [← eq_137] at he_136
          obtain ⟨hP1, hD1⟩ := hB
          rw [ht] at hP1
          obtain ⟨hP, hD⟩ := va_join (wr := [(g0, .inr (1, [.ref gF, .ref gK, .ref gT, .ref gC, .ref gM, .int (nI gnq), .ref eF, .ref eC, .ref eM, .int ec, .ref hopA])), (gF, .inl (cI, 40, .inl fgF)), (gK, .inl (cI, 40, .inl fgK)), (gT, .inl (cI, 40, .inl fgT)), (gC, .inl (cI, 40, .inl fgC)), (gM, .inl (cI, 40, .inl fgM))]) (w1 := [(h0, .inr (2, [.ref tO, .int s_132, .int p_133, .int b_134, .int f_135])), (tO, .inr (3, [.ref sA, .int (nI nq)])), (sA, .inl (cC, 1600, .inl fs))]) hP hD [6, 7, 8] [0, 1, 2, 3, 4, 5] rfl rfl (by decide) (by decide) hk1 hFc hP1 hD1
          generalize H1 = H at hP hS ⊢
          have hP : va_P (dC, dI) vwCl [(g0, .inr (1, [.ref gF, .ref gK, .ref gT, .ref gC, .ref gM, .int (nI gnq), .ref eF, .ref eC, .ref eM, .int ec, .ref hopA])), (gF, .inl (cI, 40, .inl fgF)), (gK, .inl (cI, 40, .inl fgK)), (gT, .inl (cI, 40, .inl fgT)), (gC, .inl (cI, 40, .inl fgC)), (gM, .inl (cI, 40, .inl fgM)), (h0, .inr (2, [.ref tO, .int s_132, .int p_133, .int b_134, .int f_135])), (tO, .inr (3, [.ref sA, .int (nI nq)])), (sA, .inl (cC, 1600, .inl fs))] H := hP
          have hD : va_D A [(g0, .inr (1, [.ref gF, .ref gK, .ref gT, .ref gC, .ref gM, .int (nI gnq), .ref eF, .ref eC, .ref eM, .int ec, .ref hopA])), (gF, .inl (cI, 40, .inl fgF)), (gK, .inl (cI, 40, .inl fgK)), (gT, .inl (cI, 40, .inl fgT)), (gC, .inl (cI, 40, .inl fgC)), (gM, .inl (cI, 40, .inl fgM)), (h0, .inr (2, [.ref tO, .int s_132, .int p_133, .int b_134, .int f_135])), (tO, .inr (3, [.ref sA, .int (nI nq)])), (sA, .inl (cC, 1600, .inl fs))] := hD
          have zE : lgE (tkO fs nq) qs = q_137 := by unfold lgE; rw [zO, eq_137]; exact stS_1 (show (tkO fs nq).S q_122.1 = 4 from he_121.1.symm.trans c_123)
          refine lv_aload_n hx hb dX2_readGo_134 rfl (lv_at hl 5 rfl) ?_
          refine va_get (D := (dC, dI)) (ci := 2) (v := .int f_135) (C := RX2) (T := TX2) (N := 5) hx hb hts i2 hown hK hP 6 rfl rfl 4 (by decide) (hts (.fieldLink RX2 20 "StopSetter$Reader" "fault" "I") (by decide +kernel)) (fun _ h9 => h9) rfl dX2_readGo_135 ?_
          refine lv_if_ne (tgt := 153) hx hb dX2_readGo_138 (by decide) (fun c_138 => ?_) (fun c_138 => ?_)
          · skip
            have hP9 := hP.sub (ws' := [(h0, .inr (2, [.ref tO, .int s_132, .int p_133, .int b_134, .int f_135])), (tO, .inr (3, [.ref sA, .int (nI nq)])), (sA, .inl (cC, 1600, .inl fs)), (g0, .inr (1, [.ref gF, .ref gK, .ref gT, .ref gC, .ref gM, .int (nI gnq), .ref eF, .ref eC, .ref eM, .int ec, .ref hopA])), (gF, .inl (cI, 40, .inl fgF)), (gK, .inl (cI, 40, .inl fgK)), (gT, .inl (cI, 40, .inl fgT)), (gC, .inl (cI, 40, .inl fgC)), (gM, .inl (cI, 40, .inl fgM))]) [6, 7, 8, 0, 1, 2, 3, 4, 5] rfl
            have hD9 := hD.sub (ws' := [(h0, .inr (2, [.ref tO, .int s_132, .int p_133, .int b_134, .int f_135])), (tO, .inr (3, [.ref sA, .int (nI nq)])), (sA, .inl (cC, 1600, .inl fs)), (g0, .inr (1, [.ref gF, .ref gK, .ref gT, .ref gC, .ref gM, .int (nI gnq), .ref eF, .ref eC, .ref eM, .int ec, .ref hopA])), (gF, .inl (cI, 40, .inl fgF)), (gK, .inl (cI, 40, .inl fgK)), (gT, .inl (cI, 40, .inl fgT)), (gC, .inl (cI, 40, .inl fgC)), (gM, .inl (cI, 40, .inl fgM))]) [6, 7, 8, 0, 1, 2, 3, 4, 5] (by decide) rfl
            have hens0 : rOK fs nq (rgQ (tkO fs nq) gnq qs) s_132 p_133 b_134 f_135 := (rOK_of he_136 (by unfold rgQ; rw [if_neg (by omega)]; exact zE.symm))
            have hens1 : addD f_135 gnq gnq (lgL (tkO fs nq) qs) fgF fgK fgT fgC fgM fgF fgK fgT fgC fgM := (addD_n c_138)
            exact W.vret hx hb hr (fun t ht hW => ⟨⟨(s_132, p_133, b_134, f_135, gnq, fgF, fgK, fgT, fgC, fgM), rfl, ⟨hens0, hens1⟩, by rw [ht]; exact hP9, hD9⟩, hS.F ht⟩) hS.2.2 dX2_readGo_153
          · skip
            refine lv_aload_n hx hb dX2_readGo_141 rfl (lv_at hl 6 rfl) ?_
            refine lv_iload_n hx hb dX2_readGo_142 rfl (lv_at hl 4 rfl) ?_
            refine lv_iload_n hx hb dX2_readGo_143 rfl (lv_at hl 3 rfl) ?_
            refine lv_iload hx hb dX2_readGo_144 (lv_at hl 2 rfl) ?_
            refine lv_iload hx hb dX2_readGo_146 (lv_at hl 1 rfl) ?_
            refine lv_iload hx hb dX2_readGo_148 (lv_at hl 0 rfl) ?_
            have hPc := hP.sub (ws' := [(g0, .inr (1, [.ref gF, .ref gK, .ref gT, .ref gC, .ref gM, .int (nI gnq), .ref eF, .ref eC, .ref eM, .int ec, .ref hopA])), (gF, .inl (cI, 40, .inl fgF)), (gK, .inl (cI, 40, .inl fgK)), (gT, .inl (cI, 40, .inl fgT)), (gC, .inl (cI, 40, .inl fgC)), (gM, .inl (cI, 40, .inl fgM))]) [0, 1, 2, 3, 4, 5] rfl
            have hDc := hD.sub (ws' := [(g0, .inr (1, [.ref gF, .ref gK, .ref gT, .ref gC, .ref gM, .int (nI gnq), .ref eF, .ref eC, .ref eM, .int ec, .ref hopA])), (gF, .inl (cI, 40, .inl fgF)), (gK, .inl (cI, 40, .inl fgK)), (gT, .inl (cI, 40, .inl fgT)), (gC, .inl (cI, 40, .inl fgC)), (gM, .inl (cI, 40, .inl fgM))]) [0, 1, 2, 3, 4, 5] (by decide) rfl
            have hFc := va_free (wc := [(g0, .inr (1, [.ref gF, .ref gK, .ref gT, .ref gC, .ref gM, .int (nI gnq), .ref eF, .ref eC, .ref eM, .int ec, .ref hopA])), (gF, .inl (cI, 40, .inl fgF)), (gK, .inl (cI, 40, .inl fgK)), (gT, .inl (cI, 40, .inl fgT)), (gC, .inl (cI, 40, .inl fgC)), (gM, .inl (cI, 40, .inl fgM))]) hD hS hA [0, 1, 2, 3, 4, 5] rfl
            refine va_callv (va_runV (As := [.int r_7, .int r_24, .int r_41, .int r_58, .int r_91]) (rest := []) ⟨hx, hb, hml, hown, hts⟩ (k_addGo l dC dI cI cZ cC cJ H.size  g0 gF gK gT gC gM gnq eF eC eM ec hopA fgF fgK fgT fgC fgM r_7 r_24 r_41 r_58 r_91 hg40) (cwV 5 hts gX2_readGo_X1_addGo rfl rfl rfl (by decide +kernel) ⟨Nat.le_of_ble_eq_true rfl, Nat.le_of_ble_eq_true rfl⟩) ⟨sPre_blind, va_recv hK hPc (ci := 1) (q0 := 0) rfl rfl, fun U hU hW => ⟨rfl, sPre_ok hsk hPc hDc hU hW⟩⟩ rfl rfl hl.1 rfl (lv_room (Nat.le_of_ble_eq_true rfl)) dX2_readGo_150 ⟨(show 0 + 0 ≤ 0 by omega), (show 0 + 0 ≤ 0 by omega)⟩) hS (fun q _ h => hFc q h) hFc (fun u t H1 locs ht hvm hw hB hz1 hk1 hS => ?_)
            try dsimp only at hw hB
            obtain ⟨hP1, hD1⟩ := hB
            rw [ht] at hP1
            obtain ⟨hP, hD⟩ := va_join (wr := [(h0, .inr (2, [.ref tO, .int s_132, .int p_133, .int b_134, .int f_135])), (tO, .inr (3, [.ref sA, .int (nI nq)])), (sA, .inl (cC, 1600, .inl fs))]) (w1 := [(g0, .inr (1, [.ref gF, .ref gK, .ref gT, .ref gC, .ref gM, .int (nI (gnq + 1)), .ref eF, .ref eC, .ref eM, .int ec, .ref hopA])), (gF, .inl (cI, 40, .inl (upd fgF gnq r_7))), (gK, .inl (cI, 40, .inl (upd fgK gnq r_24))), (gT, .inl (cI, 40, .inl (upd fgT gnq r_41))), (gC, .inl (cI, 40, .inl (upd fgC gnq r_58))), (gM, .inl (cI, 40, .inl (upd fgM gnq r_91)))]) hP hD [0, 1, 2, 3, 4, 5] [6, 7, 8] rfl rfl (by decide) (by decide) hk1 hFc hP1 hD1
            generalize H1 = H at hP hS ⊢
            have hP : va_P (dC, dI) vwCl [(h0, .inr (2, [.ref tO, .int s_132, .int p_133, .int b_134, .int f_135])), (tO, .inr (3, [.ref sA, .int (nI nq)])), (sA, .inl (cC, 1600, .inl fs)), (g0, .inr (1, [.ref gF, .ref gK, .ref gT, .ref gC, .ref gM, .int (nI (gnq + 1)), .ref eF, .ref eC, .ref eM, .int ec, .ref hopA])), (gF, .inl (cI, 40, .inl (upd fgF gnq r_7))), (gK, .inl (cI, 40, .inl (upd fgK gnq r_24))), (gT, .inl (cI, 40, .inl (upd fgT gnq r_41))), (gC, .inl (cI, 40, .inl (upd fgC gnq r_58))), (gM, .inl (cI, 40, .inl (upd fgM gnq r_91)))] H := hP
            have hD : va_D A [(h0, .inr (2, [.ref tO, .int s_132, .int p_133, .int b_134, .int f_135])), (tO, .inr (3, [.ref sA, .int (nI nq)])), (sA, .inl (cC, 1600, .inl fs)), (g0, .inr (1, [.ref gF, .ref gK, .ref gT, .ref gC, .ref gM, .int (nI (gnq + 1)), .ref eF, .ref eC, .ref eM, .int ec, .ref hopA])), (gF, .inl (cI, 40, .inl (upd fgF gnq r_7))), (gK, .inl (cI, 40, .inl (upd fgK gnq r_24))), (gT, .inl (cI, 40, .inl (upd fgT gnq r_41))), (gC, .inl (cI, 40, .inl (upd fgC gnq r_58))), (gM, .inl (cI, 40, .inl (upd fgM gnq r_91)))] := hD
            have hP9 := hP.sub (ws' := [(h0, .inr (2, [.ref tO, .int s_132, .int p_133, .int b_134, .int f_135])), (tO, .inr (3, [.ref sA, .int (nI nq)])), (sA, .inl (cC, 1600, .inl fs)), (g0, .inr (1, [.ref gF, .ref gK, .ref gT, .ref gC, .ref gM, .int (nI (gnq + 1)), .ref eF, .ref eC, .ref eM, .int ec, .ref hopA])), (gF, .inl (cI, 40, .inl (upd fgF gnq r_7))), (gK, .inl (cI, 40, .inl (upd fgK gnq r_24))), (gT, .inl (cI, 40, .inl (upd fgT gnq r_41))), (gC, .inl (cI, 40, .inl (upd fgC gnq r_58))), (gM, .inl (cI, 40, .inl (upd fgM gnq r_91)))]) [0, 1, 2, 3, 4, 5, 6, 7, 8] rfl
            have hD9 := hD.sub (ws' := [(h0, .inr (2, [.ref tO, .int s_132, .int p_133, .int b_134, .int f_135])), (tO, .inr (3, [.ref sA, .int (nI nq)])), (sA, .inl (cC, 1600, .inl fs)), (g0, .inr (1, [.ref gF, .ref gK, .ref gT, .ref gC, .ref gM, .int (nI (gnq + 1)), .ref eF, .ref eC, .ref eM, .int ec, .ref hopA])), (gF, .inl (cI, 40, .inl (upd fgF gnq r_7))), (gK, .inl (cI, 40, .inl (upd fgK gnq r_24))), (gT, .inl (cI, 40, .inl (upd fgT gnq r_41))), (gC, .inl (cI, 40, .inl (upd fgC gnq r_58))), (gM, .inl (cI, 40, .inl (upd fgM gnq r_91)))]) [0, 1, 2, 3, 4, 5, 6, 7, 8] (by decide) rfl
            have hens0 : rOK fs nq (rgQ (tkO fs nq) gnq qs) s_132 p_133 b_134 f_135 := (rOK_of he_136 (by unfold rgQ; rw [if_neg (by omega)]; exact zE.symm))
            have hens1 : addD f_135 gnq (gnq + 1) (lgL (tkO fs nq) qs) fgF fgK fgT fgC fgM (upd fgF gnq r_7) (upd fgK gnq r_24) (upd fgT gnq r_41) (upd fgC gnq r_58) (upd fgM gnq r_91) := (addD_y c_138 (by unfold lgL; rw [zB1, zC1, zD1, ← zq1, ← he_12, ← he_29, ← he_46, ← he_63, show nI (moV (tkO fs nq) (lgD (tkO fs nq) qs)) = r_91 from by rw [zD, moV_w hw4 (b := 1) (by rw [← eq_90, ← eq_122]; exact stX_z (t := (tkO fs nq)) (b := 1) (by rw [← eq_137, ← he_136.2.2.2]; exact c_138)), ← eq_90]; exact he_92.symm]))
            exact W.vret hx hb hr (fun t ht hW => ⟨⟨(s_132, p_133, b_134, f_135, (gnq + 1), (upd fgF gnq r_7), (upd fgK gnq r_24), (upd fgT gnq r_41), (upd fgC gnq r_58), (upd fgM gnq r_91)), rfl, ⟨hens0, hens1⟩, by rw [ht]; exact hP9, hD9⟩, hS.F ht⟩) hS.2.2 dX2_readGo_153
  · skip
    have hrg : rgQ (tkO fs nq) gnq qs = flt (tkO fs nq) 5 qs := by unfold rgQ; rw [if_pos (by have : ¬ gnq < 40 := fun z => c_6 (nI_lt (a := gnq) (b := 40) z (by decide)); omega)]
    refine lv_aload_n hx hb dX2_readGo_9 rfl (lv_at hl 0 rfl) ?_
    refine lv_iconst (v := 5) hx hb dX2_readGo_10 (by decide) ?_
    have hPc := hP.sub (ws' := [(h0, .inr (2, [.ref tO, .int so, .int pl, .int bh, .int fa_]))]) [0] rfl
    have hDc := hD.sub (ws' := [(h0, .inr (2, [.ref tO, .int so, .int pl, .int bh, .int fa_]))]) [0] (by decide) rfl
    have hFc := va_free (wc := [(h0, .inr (2, [.ref tO, .int so, .int pl, .int bh, .int fa_]))]) hD hS hA [0] rfl
    refine va_callv (va_runV (As := [.int 5]) (rest := []) ⟨hx, hb, hml, hown, hts⟩ (k_refuse l dC dI cI cZ cC cJ s.heap.size  h0 tO so pl bh fa_ 5 fs nq qs hR) (cwV 1 hts gX2_readGo_X2_refuse rfl rfl rfl (by decide +kernel) ⟨Nat.le_of_ble_eq_true rfl, Nat.le_of_ble_eq_true rfl⟩) ⟨sPre_blind, va_recv hK hPc (ci := 2) (q0 := 0) rfl rfl, fun U hU hW => ⟨rfl, sPre_ok hsk hPc hDc hU hW⟩⟩ rfl rfl hl.1 rfl (lv_room (Nat.le_of_ble_eq_true rfl)) dX2_readGo_11 ⟨(show 0 + 0 ≤ 0 by omega), (show 0 + 0 ≤ 0 by omega)⟩) hS (fun q _ h => hFc q h) hFc (fun u t H1 locs ht hvm hw hB hz1 hk1 hS => ?_)
    obtain ⟨f_140, rfl⟩ : ∃ z, z = u := ⟨_, rfl⟩
    try dsimp only at hw hB
    have he_141 := hw
    have he_141 : rOK fs nq (stR (tkO fs nq) 5 qs) so pl bh f_140 := he_141
    obtain ⟨q_142, eq_142⟩ : ∃ x9 : Nat × Int32, x9 = stR (tkO fs nq) 5 qs := ⟨_, rfl⟩
    rw [← eq_142] at he_141
    obtain ⟨hP1, hD1⟩ := hB
    rw [ht] at hP1
    obtain ⟨hP, hD⟩ := va_join (wr := [(tO, .inr (3, [.ref sA, .int (nI nq)])), (sA, .inl (cC, 1600, .inl fs)), (g0, .inr (1, [.ref gF, .ref gK, .ref gT, .ref gC, .ref gM, .int (nI gnq), .ref eF, .ref eC, .ref eM, .int ec, .ref hopA])), (gF, .inl (cI, 40, .inl fgF)), (gK, .inl (cI, 40, .inl fgK)), (gT, .inl (cI, 40, .inl fgT)), (gC, .inl (cI, 40, .inl fgC)), (gM, .inl (cI, 40, .inl fgM))]) (w1 := [(h0, .inr (2, [.ref tO, .int so, .int pl, .int bh, .int f_140]))]) hP hD [0] [1, 2, 3, 4, 5, 6, 7, 8] rfl rfl (by decide) (by decide) hk1 hFc hP1 hD1
    generalize H1 = H at hP hS ⊢
    have hP : va_P (dC, dI) vwCl [(tO, .inr (3, [.ref sA, .int (nI nq)])), (sA, .inl (cC, 1600, .inl fs)), (g0, .inr (1, [.ref gF, .ref gK, .ref gT, .ref gC, .ref gM, .int (nI gnq), .ref eF, .ref eC, .ref eM, .int ec, .ref hopA])), (gF, .inl (cI, 40, .inl fgF)), (gK, .inl (cI, 40, .inl fgK)), (gT, .inl (cI, 40, .inl fgT)), (gC, .inl (cI, 40, .inl fgC)), (gM, .inl (cI, 40, .inl fgM)), (h0, .inr (2, [.ref tO, .int so, .int pl, .int bh, .int f_140]))] H := hP
    have hD : va_D A [(tO, .inr (3, [.ref sA, .int (nI nq)])), (sA, .inl (cC, 1600, .inl fs)), (g0, .inr (1, [.ref gF, .ref gK, .ref gT, .ref gC, .ref gM, .int (nI gnq), .ref eF, .ref eC, .ref eM, .int ec, .ref hopA])), (gF, .inl (cI, 40, .inl fgF)), (gK, .inl (cI, 40, .inl fgK)), (gT, .inl (cI, 40, .inl fgT)), (gC, .inl (cI, 40, .inl fgC)), (gM, .inl (cI, 40, .inl fgM)), (h0, .inr (2, [.ref tO, .int so, .int pl, .int bh, .int f_140]))] := hD
    have hP9 := hP.sub (ws' := [(h0, .inr (2, [.ref tO, .int so, .int pl, .int bh, .int f_140])), (tO, .inr (3, [.ref sA, .int (nI nq)])), (sA, .inl (cC, 1600, .inl fs)), (g0, .inr (1, [.ref gF, .ref gK, .ref gT, .ref gC, .ref gM, .int (nI gnq), .ref eF, .ref eC, .ref eM, .int ec, .ref hopA])), (gF, .inl (cI, 40, .inl fgF)), (gK, .inl (cI, 40, .inl fgK)), (gT, .inl (cI, 40, .inl fgT)), (gC, .inl (cI, 40, .inl fgC)), (gM, .inl (cI, 40, .inl fgM))]) [8, 0, 1, 2, 3, 4, 5, 6, 7] rfl
    have hD9 := hD.sub (ws' := [(h0, .inr (2, [.ref tO, .int so, .int pl, .int bh, .int f_140])), (tO, .inr (3, [.ref sA, .int (nI nq)])), (sA, .inl (cC, 1600, .inl fs)), (g0, .inr (1, [.ref gF, .ref gK, .ref gT, .ref gC, .ref gM, .int (nI gnq), .ref eF, .ref eC, .ref eM, .int ec, .ref hopA])), (gF, .inl (cI, 40, .inl fgF)), (gK, .inl (cI, 40, .inl fgK)), (gT, .inl (cI, 40, .inl fgT)), (gC, .inl (cI, 40, .inl fgC)), (gM, .inl (cI, 40, .inl fgM))]) [8, 0, 1, 2, 3, 4, 5, 6, 7] (by decide) rfl
    have hens0 : rOK fs nq (rgQ (tkO fs nq) gnq qs) so pl bh f_140 := (rOK_of he_141 ((eq_142.trans hst).trans hrg.symm))
    have hens1 : addD f_140 gnq gnq (lgL (tkO fs nq) qs) fgF fgK fgT fgC fgM fgF fgK fgT fgC fgM := (addD_n (fun z => flt_ne (f := fs) (n := nq) (k := 5) (q := qs) hnq (by decide) (by decide) (((congrArg Prod.snd (eq_142.trans hst)).symm.trans he_141.2.2.2.symm).trans z)))
    exact W.vret hx hb hr (fun t ht hW => ⟨⟨(so, pl, bh, f_140, gnq, fgF, fgK, fgT, fgC, fgM), rfl, ⟨hens0, hens1⟩, by rw [ht]; exact hP9, hD9⟩, hS.F ht⟩) hS.2.2 dX2_readGo_14
set_option maxHeartbeats 4000000 in
set_option maxRecDepth 100000 in
theorem k_readEnd (l : Launch) (dC : Nat → ClassId) (dI : Nat → Nat → Nat) (cI cZ cC cJ : ClassId) (sz : Nat) (adK adV : Nat → Nat) (h0 : Nat) (tO : Nat) (so : Int32) (pl : Int32) (bh : Int32) (fa_ : Int32) (sA : Nat) (nq : Nat) (fs : Nat → Int32) (g0 : Nat) (gF : Nat) (gK : Nat) (gT : Nat) (gC : Nat) (gM : Nat) (gc : Int32) (eF : Nat) (eC : Nat) (eM : Nat) (enq : Nat) (hopA : Nat) (feF : Nat → Int32) (feC : Nat → Int32) (feM : Nat → Int32) (qs : Nat × Int32) (hnq : nq ≤ 1600) (hR : rOK fs nq qs so pl bh fa_) (h0_ : qs.2 = 0) (hgn : enq ≤ 10) : Met l yX2_readEnd wsX2_readEnd ({ frames := 6, cells := 0, slots := 0, locals := 127 }) (va_Pc [.ref h0, .ref g0] (fun U => sPre dC dI cI cZ cC cJ [(h0, .inr (2, [.ref tO, .int so, .int pl, .int bh, .int fa_])), (tO, .inr (3, [.ref sA, .int (nI nq)])), (sA, .inl (cC, 1600, .inl fs)), (g0, .inr (1, [.ref gF, .ref gK, .ref gT, .ref gC, .ref gM, .int gc, .ref eF, .ref eC, .ref eM, .int (nI enq), .ref hopA])), (eF, .inl (cI, 10, .inl feF)), (eC, .inl (cI, 10, .inl feC)), (eM, .inl (cI, 10, .inl feM))] sz U ∧ tW adK adV (va_A [(h0, .inr (2, [.ref tO, .int so, .int pl, .int bh, .int fa_])), (tO, .inr (3, [.ref sA, .int (nI nq)])), (sA, .inl (cC, 1600, .inl fs)), (g0, .inr (1, [.ref gF, .ref gK, .ref gT, .ref gC, .ref gM, .int gc, .ref eF, .ref eC, .ref eM, .int (nI enq), .ref hopA])), (eF, .inl (cI, 10, .inl feF)), (eC, .inl (cI, 10, .inl feC)), (eM, .inl (cI, 10, .inl feM))] sz) U)) (va_Qv (fun (u : (Int32) × (Int32) × (Int32) × (Int32) × (Nat) × (Nat → Int32) × (Nat → Int32) × (Nat → Int32)) => match u with | (so2, pl2, bh2, fa_2, enq2, feF2, feC2, feM2) => (rOK fs nq (reQ (tkO fs nq) enq qs) so2 pl2 bh2 fa_2) ∧ (addE3 fa_2 enq enq2 (leL (tkO fs nq) qs) feF feC feM feF2 feC2 feM2)) (fun (u : (Int32) × (Int32) × (Int32) × (Int32) × (Nat) × (Nat → Int32) × (Nat → Int32) × (Nat → Int32)) t => match u with | (so2, pl2, bh2, fa_2, enq2, feF2, feC2, feM2) => sB dC dI (va_A [(h0, .inr (2, [.ref tO, .int so, .int pl, .int bh, .int fa_])), (tO, .inr (3, [.ref sA, .int (nI nq)])), (sA, .inl (cC, 1600, .inl fs)), (g0, .inr (1, [.ref gF, .ref gK, .ref gT, .ref gC, .ref gM, .int gc, .ref eF, .ref eC, .ref eM, .int (nI enq), .ref hopA])), (eF, .inl (cI, 10, .inl feF)), (eC, .inl (cI, 10, .inl feC)), (eM, .inl (cI, 10, .inl feM))] sz) [(h0, .inr (2, [.ref tO, .int so2, .int pl2, .int bh2, .int fa_2])), (tO, .inr (3, [.ref sA, .int (nI nq)])), (sA, .inl (cC, 1600, .inl fs)), (g0, .inr (1, [.ref gF, .ref gK, .ref gT, .ref gC, .ref gM, .int gc, .ref eF, .ref eC, .ref eM, .int (nI enq2), .ref hopA])), (eF, .inl (cI, 10, .inl feF2)), (eC, .inl (cI, 10, .inl feC2)), (eM, .inl (cI, 10, .inl feM2))] t) (va_A [(h0, .inr (2, [.ref tO, .int so, .int pl, .int bh, .int fa_])), (tO, .inr (3, [.ref sA, .int (nI nq)])), (sA, .inl (cC, 1600, .inl fs)), (g0, .inr (1, [.ref gF, .ref gK, .ref gT, .ref gC, .ref gM, .int gc, .ref eF, .ref eC, .ref eM, .int (nI enq), .ref hopA])), (eF, .inl (cI, 10, .inl feF)), (eC, .inl (cI, 10, .inl feC)), (eM, .inl (cI, 10, .inl feM))] sz)) 0 0 (va_A [(h0, .inr (2, [.ref tO, .int so, .int pl, .int bh, .int fa_])), (tO, .inr (3, [.ref sA, .int (nI nq)])), (sA, .inl (cC, 1600, .inl fs)), (g0, .inr (1, [.ref gF, .ref gK, .ref gT, .ref gC, .ref gM, .int gc, .ref eF, .ref eC, .ref eM, .int (nI enq), .ref hopA])), (eF, .inl (cI, 10, .inl feF)), (eC, .inl (cI, 10, .inl feC)), (eM, .inl (cI, 10, .inl feM))] sz) := by
  refine Met.ofW (cc := cX2_readEnd) (maxL := 5) (ret := none) (by decide) rfl ?_
  intro p e s m args below meth c s₁ B hml hv
  obtain ⟨rfl, ⟨hsz, hP, hsk, hD0⟩, htw⟩ := hv
  have hx := B.exec
  have hb := B.bytes
  have hr := B.returns
  have hts := atoms_spec (ws := wsX2_readEnd) B.pre
  have hown : s.vm.findClass RX2 = some m.cls := findClass_of_methodNamed B.named
  have hlocks := B.notSynchronized
  have hK := hsk.1
  have i1 : ∀ w ∈ wsX10, w ∈ wsX2_readEnd := by decide +kernel
  have i2 : ∀ w ∈ wsX20, w ∈ wsX2_readEnd := by decide +kernel
  subst hsz
  have hD := hD0.self (sz := s.heap.size)
  generalize hAe : va_A [(h0, .inr (2, [.ref tO, .int so, .int pl, .int bh, .int fa_])), (tO, .inr (3, [.ref sA, .int (nI nq)])), (sA, .inl (cC, 1600, .inl fs)), (g0, .inr (1, [.ref gF, .ref gK, .ref gT, .ref gC, .ref gM, .int gc, .ref eF, .ref eC, .ref eM, .int (nI enq), .ref hopA])), (eF, .inl (cI, 10, .inl feF)), (eC, .inl (cI, 10, .inl feC)), (eM, .inl (cI, 10, .inl feM))] s.heap.size = A at hD htw ⊢
  have hA : ∀ q : Nat, s.heap.size ≤ q → A q := fun q h => by rw [← hAe]; exact Or.inr h
  have hS : va_S A s.heap s.heap [] := va_S.rf
  have hl := lv_entry ([.ref h0, .ref g0]) (n := 5) (Nat.le_of_ble_eq_true rfl)
  rw [lg_entry_eq]
  generalize (lg_sl ([.ref h0, .ref g0]) ++ List.replicate (5 - (lg_sl ([.ref h0, .ref g0])).length) Slot.unset).toArray = ls at hl ⊢
  have hl : lv_has ls 5 [(0, .ref h0), (1, .ref g0)] := hl
  have hfa0 : fa_ = 0 := hR.2.2.2.trans h0_
  have hst : stR (tkO fs nq) 5 qs = flt (tkO fs nq) 5 qs := by unfold stR; rw [if_pos h0_]
  refine lv_aload_n hx hb dX2_readEnd_0 rfl (lv_at hl 1 rfl) ?_
  refine va_getN (D := (dC, dI)) (ci := 1) (v := .int (nI enq)) (C := RX1) (T := TX1) (N := 11) hx hb hts i1 hown hK hP 3 rfl rfl 9 (by decide) (va_Nw.use rfl (hsk.2.1 ("StopSetter$Reader", 81, "StopSetter$Grammar", "endCount", "I", "StopSetter") (by decide +kernel))) (fun _ h9 => h9) rfl dX2_readEnd_1 ?_
  refine lv_bipush (v := 10) hx hb dX2_readEnd_4 (by decide) ?_
  refine lv_icmp_lt (tgt := 15) hx hb dX2_readEnd_6 (by decide) (fun c_6 => ?_) (fun c_6 => ?_)
  · skip
    have hg40 : enq < 10 := (nI_ltI (a := enq) (b := 10) (by omega) (by decide)).mp c_6
    refine lv_aload_n hx hb dX2_readEnd_15 rfl (lv_at hl 0 rfl) ?_
    have hPc := hP.sub (ws' := [(h0, .inr (2, [.ref tO, .int so, .int pl, .int bh, .int fa_])), (tO, .inr (3, [.ref sA, .int (nI nq)])), (sA, .inl (cC, 1600, .inl fs))]) [0, 1, 2] rfl
    have hDc := hD.sub (ws' := [(h0, .inr (2, [.ref tO, .int so, .int pl, .int bh, .int fa_])), (tO, .inr (3, [.ref sA, .int (nI nq)])), (sA, .inl (cC, 1600, .inl fs))]) [0, 1, 2] (by decide) rfl
    have hFc := va_free (wc := [(h0, .inr (2, [.ref tO, .int so, .int pl, .int bh, .int fa_])), (tO, .inr (3, [.ref sA, .int (nI nq)])), (sA, .inl (cC, 1600, .inl fs))]) hD hS hA [0, 1, 2] rfl
    refine va_callv (va_runV (As := []) (rest := []) ⟨hx, hb, hml, hown, hts⟩ (k_advance l dC dI cI cZ cC cJ s.heap.size  h0 tO so pl bh fa_ sA nq fs (qs.1 + 1) (by first | assumption | decide | omega) hR.2.2.1) (cwV 0 hts gX2_readEnd_X2_advance rfl rfl rfl (by decide +kernel) ⟨Nat.le_of_ble_eq_true rfl, Nat.le_of_ble_eq_true rfl⟩) ⟨sPre_blind, va_recv hK hPc (ci := 2) (q0 := 0) rfl rfl, fun U hU hW => ⟨rfl, sPre_ok hsk hPc hDc hU hW⟩⟩ rfl rfl hl.1 rfl (lv_room (Nat.le_of_ble_eq_true rfl)) dX2_readEnd_16 ⟨(show 0 + 0 ≤ 0 by omega), (show 0 + 0 ≤ 0 by omega)⟩) hS (fun q _ h => hFc q h) hFc (fun u t H1 locs ht hvm hw hB hz1 hk1 hS => ?_)
    obtain ⟨s_2, p_3, b_4⟩ := u
    try dsimp only at hw hB
    have he_5 := hw
    have he_5 : rOK fs nq ((qs.1 + 1), fa_) s_2 p_3 b_4 fa_ := he_5
    obtain ⟨q_6, eq_6⟩ : ∃ x9 : Nat × Int32, x9 = ((qs.1 + 1), fa_) := ⟨_, rfl⟩
    rw [← eq_6] at he_5
    obtain ⟨hP1, hD1⟩ := hB
    rw [ht] at hP1
    obtain ⟨hP, hD⟩ := va_join (wr := [(g0, .inr (1, [.ref gF, .ref gK, .ref gT, .ref gC, .ref gM, .int gc, .ref eF, .ref eC, .ref eM, .int (nI enq), .ref hopA])), (eF, .inl (cI, 10, .inl feF)), (eC, .inl (cI, 10, .inl feC)), (eM, .inl (cI, 10, .inl feM))]) (w1 := [(h0, .inr (2, [.ref tO, .int s_2, .int p_3, .int b_4, .int fa_])), (tO, .inr (3, [.ref sA, .int (nI nq)])), (sA, .inl (cC, 1600, .inl fs))]) hP hD [0, 1, 2] [3, 4, 5, 6] rfl rfl (by decide) (by decide) hk1 hFc hP1 hD1
    generalize H1 = H at hP hS ⊢
    have hP : va_P (dC, dI) vwCl [(g0, .inr (1, [.ref gF, .ref gK, .ref gT, .ref gC, .ref gM, .int gc, .ref eF, .ref eC, .ref eM, .int (nI enq), .ref hopA])), (eF, .inl (cI, 10, .inl feF)), (eC, .inl (cI, 10, .inl feC)), (eM, .inl (cI, 10, .inl feM)), (h0, .inr (2, [.ref tO, .int s_2, .int p_3, .int b_4, .int fa_])), (tO, .inr (3, [.ref sA, .int (nI nq)])), (sA, .inl (cC, 1600, .inl fs))] H := hP
    have hD : va_D A [(g0, .inr (1, [.ref gF, .ref gK, .ref gT, .ref gC, .ref gM, .int gc, .ref eF, .ref eC, .ref eM, .int (nI enq), .ref hopA])), (eF, .inl (cI, 10, .inl feF)), (eC, .inl (cI, 10, .inl feC)), (eM, .inl (cI, 10, .inl feM)), (h0, .inr (2, [.ref tO, .int s_2, .int p_3, .int b_4, .int fa_])), (tO, .inr (3, [.ref sA, .int (nI nq)])), (sA, .inl (cC, 1600, .inl fs))] := hD
    have zq1 : q_6 = (qs.1 + 1, 0) := by rw [eq_6, hfa0]
    refine lv_aload_n hx hb dX2_readEnd_19 rfl (lv_at hl 0 rfl) ?_
    refine lv_bipush (v := 9) hx hb dX2_readEnd_20 (by decide) ?_
    have hPc := hP.sub (ws' := [(h0, .inr (2, [.ref tO, .int s_2, .int p_3, .int b_4, .int fa_])), (tO, .inr (3, [.ref sA, .int (nI nq)])), (sA, .inl (cC, 1600, .inl fs))]) [4, 5, 6] rfl
    have hDc := hD.sub (ws' := [(h0, .inr (2, [.ref tO, .int s_2, .int p_3, .int b_4, .int fa_])), (tO, .inr (3, [.ref sA, .int (nI nq)])), (sA, .inl (cC, 1600, .inl fs))]) [4, 5, 6] (by decide) rfl
    have hFc := va_free (wc := [(h0, .inr (2, [.ref tO, .int s_2, .int p_3, .int b_4, .int fa_])), (tO, .inr (3, [.ref sA, .int (nI nq)])), (sA, .inl (cC, 1600, .inl fs))]) hD hS hA [4, 5, 6] rfl
    refine va_calli (va_runV (As := [.int 9]) (rest := []) ⟨hx, hb, hml, hown, hts⟩ (k_readNumber l dC dI cI cZ cC cJ H.size  h0 tO s_2 p_3 b_4 fa_ sA nq fs 9 q_6 (by first | assumption | decide | omega) he_5) (cwV 1 hts gX2_readEnd_X2_readNumber rfl rfl rfl (by decide +kernel) ⟨Nat.le_of_ble_eq_true rfl, Nat.le_of_ble_eq_true rfl⟩) ⟨sPre_blind, va_recv hK hPc (ci := 2) (q0 := 0) rfl rfl, fun U hU hW => ⟨rfl, sPre_ok hsk hPc hDc hU hW⟩⟩ rfl rfl hl.1 rfl (lv_room (Nat.le_of_ble_eq_true rfl)) dX2_readEnd_22 ⟨(show 0 + 0 ≤ 0 by omega), (show 0 + 0 ≤ 0 by omega)⟩) hS (fun q _ h => hFc q h) hFc (fun r_7 u t H1 locs ht hvm hw hB hz1 hk1 hS => ?_)
    obtain ⟨s_8, p_9, b_10, f_11⟩ := u
    try dsimp only at hw hB
    obtain ⟨he_12, he_13⟩ := hw
    have he_12 : (r_7 : Int32) = nV (tkO fs nq) q_6 := he_12
    have he_13 : rOK fs nq (stN (tkO fs nq) 9 q_6) s_8 p_9 b_10 f_11 := he_13
    obtain ⟨q_14, eq_14⟩ : ∃ x9 : Nat × Int32, x9 = stN (tkO fs nq) 9 q_6 := ⟨_, rfl⟩
    rw [← eq_14] at he_13
    obtain ⟨hP1, hD1⟩ := hB
    rw [ht] at hP1
    obtain ⟨hP, hD⟩ := va_join (wr := [(g0, .inr (1, [.ref gF, .ref gK, .ref gT, .ref gC, .ref gM, .int gc, .ref eF, .ref eC, .ref eM, .int (nI enq), .ref hopA])), (eF, .inl (cI, 10, .inl feF)), (eC, .inl (cI, 10, .inl feC)), (eM, .inl (cI, 10, .inl feM))]) (w1 := [(h0, .inr (2, [.ref tO, .int s_8, .int p_9, .int b_10, .int f_11])), (tO, .inr (3, [.ref sA, .int (nI nq)])), (sA, .inl (cC, 1600, .inl fs))]) hP hD [4, 5, 6] [0, 1, 2, 3] rfl rfl (by decide) (by decide) hk1 hFc hP1 hD1
    generalize H1 = H at hP hS ⊢
    have hP : va_P (dC, dI) vwCl [(g0, .inr (1, [.ref gF, .ref gK, .ref gT, .ref gC, .ref gM, .int gc, .ref eF, .ref eC, .ref eM, .int (nI enq), .ref hopA])), (eF, .inl (cI, 10, .inl feF)), (eC, .inl (cI, 10, .inl feC)), (eM, .inl (cI, 10, .inl feM)), (h0, .inr (2, [.ref tO, .int s_8, .int p_9, .int b_10, .int f_11])), (tO, .inr (3, [.ref sA, .int (nI nq)])), (sA, .inl (cC, 1600, .inl fs))] H := hP
    have hD : va_D A [(g0, .inr (1, [.ref gF, .ref gK, .ref gT, .ref gC, .ref gM, .int gc, .ref eF, .ref eC, .ref eM, .int (nI enq), .ref hopA])), (eF, .inl (cI, 10, .inl feF)), (eC, .inl (cI, 10, .inl feC)), (eM, .inl (cI, 10, .inl feM)), (h0, .inr (2, [.ref tO, .int s_8, .int p_9, .int b_10, .int f_11])), (tO, .inr (3, [.ref sA, .int (nI nq)])), (sA, .inl (cC, 1600, .inl fs))] := hD
    have zA : leA (tkO fs nq) qs = q_14 := by unfold leA; rw [eq_14, zq1]
    refine lv_istore_n (lv' := [(2, .int r_7), (0, .ref h0), (1, .ref g0)]) hx hb dX2_readEnd_25 rfl hl (by decide) rfl (fun ls hl => ?_)
    refine lv_aload_n hx hb dX2_readEnd_26 rfl (lv_at hl 1 rfl) ?_
    refine lv_aload_n hx hb dX2_readEnd_27 rfl (lv_at hl 1 rfl) ?_
    refine va_ldcS (own := RX2) (index := 69) (tx := "cost") hx hb hown (htw.2.1 3 (by decide)) dX2_readEnd_28 ?_
    have hPc := hP.sub (ws' := [(h0, .inr (2, [.ref tO, .int s_8, .int p_9, .int b_10, .int f_11])), (tO, .inr (3, [.ref sA, .int (nI nq)])), (sA, .inl (cC, 1600, .inl fs))]) [4, 5, 6] rfl
    have hDc := hD.sub (ws' := [(h0, .inr (2, [.ref tO, .int s_8, .int p_9, .int b_10, .int f_11])), (tO, .inr (3, [.ref sA, .int (nI nq)])), (sA, .inl (cC, 1600, .inl fs))]) [4, 5, 6] (by decide) rfl
    have hFc := va_free (wc := [(h0, .inr (2, [.ref tO, .int s_8, .int p_9, .int b_10, .int f_11])), (tO, .inr (3, [.ref sA, .int (nI nq)])), (sA, .inl (cC, 1600, .inl fs))]) hD hS hA [4, 5, 6] rfl
    refine va_calli (va_runV (As := [.ref (adK 3)]) (rest := [.ref h0]) ⟨hx, hb, hml, hown, hts⟩ (k_isText l dC dI cI cZ cC cJ H.size adK adV h0 tO s_8 p_9 b_10 f_11 sA nq fs 3 q_14 (by first | assumption | decide | omega) (by decide) he_13) (cwV 1 hts gX2_readEnd_X2_isText rfl rfl rfl (by decide +kernel) ⟨Nat.le_of_ble_eq_true rfl, Nat.le_of_ble_eq_true rfl⟩) ⟨tW_blind, va_recv hK hPc (ci := 2) (q0 := 0) rfl rfl, fun U hU hW => ⟨rfl, sPre_ok hsk hPc hDc hU hW, tW_warm hW hU hS (fun q h => hFc q h) htw⟩⟩ rfl rfl hl.1 rfl (lv_room (Nat.le_of_ble_eq_true rfl)) dX2_readEnd_30 ⟨(show 0 + 0 ≤ 0 by omega), (show 0 + 0 ≤ 0 by omega)⟩) hS (fun q _ h => hFc q h) hFc (fun r_15 u t H1 locs ht hvm hw hB hz1 hk1 hS => ?_)
    try dsimp only at hw hB
    have he_16 := hw
    have he_16 : (r_15 : Int32) = tI fs nq q_14.1 3 := he_16
    obtain ⟨hP1, hD1⟩ := hB
    rw [ht] at hP1
    obtain ⟨hP, hD⟩ := va_join (wr := [(g0, .inr (1, [.ref gF, .ref gK, .ref gT, .ref gC, .ref gM, .int gc, .ref eF, .ref eC, .ref eM, .int (nI enq), .ref hopA])), (eF, .inl (cI, 10, .inl feF)), (eC, .inl (cI, 10, .inl feC)), (eM, .inl (cI, 10, .inl feM))]) (w1 := [(h0, .inr (2, [.ref tO, .int s_8, .int p_9, .int b_10, .int f_11])), (tO, .inr (3, [.ref sA, .int (nI nq)])), (sA, .inl (cC, 1600, .inl fs))]) hP hD [4, 5, 6] [0, 1, 2, 3] rfl rfl (by decide) (by decide) hk1 hFc hP1 hD1
    generalize H1 = H at hP hS ⊢
    have hP : va_P (dC, dI) vwCl [(g0, .inr (1, [.ref gF, .ref gK, .ref gT, .ref gC, .ref gM, .int gc, .ref eF, .ref eC, .ref eM, .int (nI enq), .ref hopA])), (eF, .inl (cI, 10, .inl feF)), (eC, .inl (cI, 10, .inl feC)), (eM, .inl (cI, 10, .inl feM)), (h0, .inr (2, [.ref tO, .int s_8, .int p_9, .int b_10, .int f_11])), (tO, .inr (3, [.ref sA, .int (nI nq)])), (sA, .inl (cC, 1600, .inl fs))] H := hP
    have hD : va_D A [(g0, .inr (1, [.ref gF, .ref gK, .ref gT, .ref gC, .ref gM, .int gc, .ref eF, .ref eC, .ref eM, .int (nI enq), .ref hopA])), (eF, .inl (cI, 10, .inl feF)), (eC, .inl (cI, 10, .inl feC)), (eM, .inl (cI, 10, .inl feM)), (h0, .inr (2, [.ref tO, .int s_8, .int p_9, .int b_10, .int f_11])), (tO, .inr (3, [.ref sA, .int (nI nq)])), (sA, .inl (cC, 1600, .inl fs))] := hD
    have hPc := hP.sub (ws' := [(h0, .inr (2, [.ref tO, .int s_8, .int p_9, .int b_10, .int f_11])), (tO, .inr (3, [.ref sA, .int (nI nq)])), (sA, .inl (cC, 1600, .inl fs))]) [4, 5, 6] rfl
    have hDc := hD.sub (ws' := [(h0, .inr (2, [.ref tO, .int s_8, .int p_9, .int b_10, .int f_11])), (tO, .inr (3, [.ref sA, .int (nI nq)])), (sA, .inl (cC, 1600, .inl fs))]) [4, 5, 6] (by decide) rfl
    have hFc := va_free (wc := [(h0, .inr (2, [.ref tO, .int s_8, .int p_9, .int b_10, .int f_11])), (tO, .inr (3, [.ref sA, .int (nI nq)])), (sA, .inl (cC, 1600, .inl fs))]) hD hS hA [4, 5, 6] rfl
    refine va_callv (va_runV (As := [.int r_15]) (rest := []) ⟨hx, hb, hml, hown, hts⟩ (k_passIf l dC dI cI cZ cC cJ H.size  h0 tO s_8 p_9 b_10 f_11 sA nq fs r_15 q_14 (by first | assumption | decide | omega) he_13) (cwV 1 hts gX2_readEnd_X2_passIf rfl rfl rfl (by decide +kernel) ⟨Nat.le_of_ble_eq_true rfl, Nat.le_of_ble_eq_true rfl⟩) ⟨sPre_blind, va_recv hK hPc (ci := 2) (q0 := 0) rfl rfl, fun U hU hW => ⟨rfl, sPre_ok hsk hPc hDc hU hW⟩⟩ rfl rfl hl.1 rfl (lv_room (Nat.le_of_ble_eq_true rfl)) dX2_readEnd_33 ⟨(show 0 + 0 ≤ 0 by omega), (show 0 + 0 ≤ 0 by omega)⟩) hS (fun q _ h => hFc q h) hFc (fun u t H1 locs ht hvm hw hB hz1 hk1 hS => ?_)
    obtain ⟨s_18, p_19, b_20, f_21⟩ := u
    try dsimp only at hw hB
    have he_22 := hw
    have he_22 : rOK fs nq (stX (tkO fs nq) r_15 q_14) s_18 p_19 b_20 f_21 := he_22
    obtain ⟨q_23, eq_23⟩ : ∃ x9 : Nat × Int32, x9 = stX (tkO fs nq) r_15 q_14 := ⟨_, rfl⟩
    rw [← eq_23] at he_22
    obtain ⟨hP1, hD1⟩ := hB
    rw [ht] at hP1
    obtain ⟨hP, hD⟩ := va_join (wr := [(g0, .inr (1, [.ref gF, .ref gK, .ref gT, .ref gC, .ref gM, .int gc, .ref eF, .ref eC, .ref eM, .int (nI enq), .ref hopA])), (eF, .inl (cI, 10, .inl feF)), (eC, .inl (cI, 10, .inl feC)), (eM, .inl (cI, 10, .inl feM))]) (w1 := [(h0, .inr (2, [.ref tO, .int s_18, .int p_19, .int b_20, .int f_21])), (tO, .inr (3, [.ref sA, .int (nI nq)])), (sA, .inl (cC, 1600, .inl fs))]) hP hD [4, 5, 6] [0, 1, 2, 3] rfl rfl (by decide) (by decide) hk1 hFc hP1 hD1
    generalize H1 = H at hP hS ⊢
    have hP : va_P (dC, dI) vwCl [(g0, .inr (1, [.ref gF, .ref gK, .ref gT, .ref gC, .ref gM, .int gc, .ref eF, .ref eC, .ref eM, .int (nI enq), .ref hopA])), (eF, .inl (cI, 10, .inl feF)), (eC, .inl (cI, 10, .inl feC)), (eM, .inl (cI, 10, .inl feM)), (h0, .inr (2, [.ref tO, .int s_18, .int p_19, .int b_20, .int f_21])), (tO, .inr (3, [.ref sA, .int (nI nq)])), (sA, .inl (cC, 1600, .inl fs))] H := hP
    have hD : va_D A [(g0, .inr (1, [.ref gF, .ref gK, .ref gT, .ref gC, .ref gM, .int gc, .ref eF, .ref eC, .ref eM, .int (nI enq), .ref hopA])), (eF, .inl (cI, 10, .inl feF)), (eC, .inl (cI, 10, .inl feC)), (eM, .inl (cI, 10, .inl feM)), (h0, .inr (2, [.ref tO, .int s_18, .int p_19, .int b_20, .int f_21])), (tO, .inr (3, [.ref sA, .int (nI nq)])), (sA, .inl (cC, 1600, .inl fs))] := hD
    have zB1 : stW (tkO fs nq) 3 (leA (tkO fs nq) qs) = q_23 := by rw [zA, eq_23, he_16]; rfl
    refine lv_aload_n hx hb dX2_readEnd_36 rfl (lv_at hl 1 rfl) ?_
    refine lv_sipush (v := 999) hx hb dX2_readEnd_37 (by decide) ?_
    have hPc := hP.sub (ws' := [(h0, .inr (2, [.ref tO, .int s_18, .int p_19, .int b_20, .int f_21])), (tO, .inr (3, [.ref sA, .int (nI nq)])), (sA, .inl (cC, 1600, .inl fs))]) [4, 5, 6] rfl
    have hDc := hD.sub (ws' := [(h0, .inr (2, [.ref tO, .int s_18, .int p_19, .int b_20, .int f_21])), (tO, .inr (3, [.ref sA, .int (nI nq)])), (sA, .inl (cC, 1600, .inl fs))]) [4, 5, 6] (by decide) rfl
    have hFc := va_free (wc := [(h0, .inr (2, [.ref tO, .int s_18, .int p_19, .int b_20, .int f_21])), (tO, .inr (3, [.ref sA, .int (nI nq)])), (sA, .inl (cC, 1600, .inl fs))]) hD hS hA [4, 5, 6] rfl
    refine va_calli (va_runV (As := [.int 999]) (rest := []) ⟨hx, hb, hml, hown, hts⟩ (k_readNumber l dC dI cI cZ cC cJ H.size  h0 tO s_18 p_19 b_20 f_21 sA nq fs 999 q_23 (by first | assumption | decide | omega) he_22) (cwV 1 hts gX2_readEnd_X2_readNumber rfl rfl rfl (by decide +kernel) ⟨Nat.le_of_ble_eq_true rfl, Nat.le_of_ble_eq_true rfl⟩) ⟨sPre_blind, va_recv hK hPc (ci := 2) (q0 := 0) rfl rfl, fun U hU hW => ⟨rfl, sPre_ok hsk hPc hDc hU hW⟩⟩ rfl rfl hl.1 rfl (lv_room (Nat.le_of_ble_eq_true rfl)) dX2_readEnd_40 ⟨(show 0 + 0 ≤ 0 by omega), (show 0 + 0 ≤ 0 by omega)⟩) hS (fun q _ h => hFc q h) hFc (fun r_24 u t H1 locs ht hvm hw hB hz1 hk1 hS => ?_)
    obtain ⟨s_25, p_26, b_27, f_28⟩ := u
    try dsimp only at hw hB
    obtain ⟨he_29, he_30⟩ := hw
    have he_29 : (r_24 : Int32) = nV (tkO fs nq) q_23 := he_29
    have he_30 : rOK fs nq (stN (tkO fs nq) 999 q_23) s_25 p_26 b_27 f_28 := he_30
    obtain ⟨q_31, eq_31⟩ : ∃ x9 : Nat × Int32, x9 = stN (tkO fs nq) 999 q_23 := ⟨_, rfl⟩
    rw [← eq_31] at he_30
    obtain ⟨hP1, hD1⟩ := hB
    rw [ht] at hP1
    obtain ⟨hP, hD⟩ := va_join (wr := [(g0, .inr (1, [.ref gF, .ref gK, .ref gT, .ref gC, .ref gM, .int gc, .ref eF, .ref eC, .ref eM, .int (nI enq), .ref hopA])), (eF, .inl (cI, 10, .inl feF)), (eC, .inl (cI, 10, .inl feC)), (eM, .inl (cI, 10, .inl feM))]) (w1 := [(h0, .inr (2, [.ref tO, .int s_25, .int p_26, .int b_27, .int f_28])), (tO, .inr (3, [.ref sA, .int (nI nq)])), (sA, .inl (cC, 1600, .inl fs))]) hP hD [4, 5, 6] [0, 1, 2, 3] rfl rfl (by decide) (by decide) hk1 hFc hP1 hD1
    generalize H1 = H at hP hS ⊢
    have hP : va_P (dC, dI) vwCl [(g0, .inr (1, [.ref gF, .ref gK, .ref gT, .ref gC, .ref gM, .int gc, .ref eF, .ref eC, .ref eM, .int (nI enq), .ref hopA])), (eF, .inl (cI, 10, .inl feF)), (eC, .inl (cI, 10, .inl feC)), (eM, .inl (cI, 10, .inl feM)), (h0, .inr (2, [.ref tO, .int s_25, .int p_26, .int b_27, .int f_28])), (tO, .inr (3, [.ref sA, .int (nI nq)])), (sA, .inl (cC, 1600, .inl fs))] H := hP
    have hD : va_D A [(g0, .inr (1, [.ref gF, .ref gK, .ref gT, .ref gC, .ref gM, .int gc, .ref eF, .ref eC, .ref eM, .int (nI enq), .ref hopA])), (eF, .inl (cI, 10, .inl feF)), (eC, .inl (cI, 10, .inl feC)), (eM, .inl (cI, 10, .inl feM)), (h0, .inr (2, [.ref tO, .int s_25, .int p_26, .int b_27, .int f_28])), (tO, .inr (3, [.ref sA, .int (nI nq)])), (sA, .inl (cC, 1600, .inl fs))] := hD
    have zB : leB (tkO fs nq) qs = q_31 := by unfold leB; rw [zB1, eq_31]
    refine lv_istore_n (lv' := [(3, .int r_24), (2, .int r_7), (0, .ref h0), (1, .ref g0)]) hx hb dX2_readEnd_43 rfl hl (by decide) rfl (fun ls hl => ?_)
    refine lv_aload_n hx hb dX2_readEnd_44 rfl (lv_at hl 2 rfl) ?_
    refine lv_aload_n hx hb dX2_readEnd_45 rfl (lv_at hl 2 rfl) ?_
    refine va_ldcS (own := RX2) (index := 71) (tx := "with") hx hb hown (htw.2.1 4 (by decide)) dX2_readEnd_46 ?_
    have hPc := hP.sub (ws' := [(h0, .inr (2, [.ref tO, .int s_25, .int p_26, .int b_27, .int f_28])), (tO, .inr (3, [.ref sA, .int (nI nq)])), (sA, .inl (cC, 1600, .inl fs))]) [4, 5, 6] rfl
    have hDc := hD.sub (ws' := [(h0, .inr (2, [.ref tO, .int s_25, .int p_26, .int b_27, .int f_28])), (tO, .inr (3, [.ref sA, .int (nI nq)])), (sA, .inl (cC, 1600, .inl fs))]) [4, 5, 6] (by decide) rfl
    have hFc := va_free (wc := [(h0, .inr (2, [.ref tO, .int s_25, .int p_26, .int b_27, .int f_28])), (tO, .inr (3, [.ref sA, .int (nI nq)])), (sA, .inl (cC, 1600, .inl fs))]) hD hS hA [4, 5, 6] rfl
    refine va_calli (va_runV (As := [.ref (adK 4)]) (rest := [.ref h0]) ⟨hx, hb, hml, hown, hts⟩ (k_isText l dC dI cI cZ cC cJ H.size adK adV h0 tO s_25 p_26 b_27 f_28 sA nq fs 4 q_31 (by first | assumption | decide | omega) (by decide) he_30) (cwV 1 hts gX2_readEnd_X2_isText rfl rfl rfl (by decide +kernel) ⟨Nat.le_of_ble_eq_true rfl, Nat.le_of_ble_eq_true rfl⟩) ⟨tW_blind, va_recv hK hPc (ci := 2) (q0 := 0) rfl rfl, fun U hU hW => ⟨rfl, sPre_ok hsk hPc hDc hU hW, tW_warm hW hU hS (fun q h => hFc q h) htw⟩⟩ rfl rfl hl.1 rfl (lv_room (Nat.le_of_ble_eq_true rfl)) dX2_readEnd_48 ⟨(show 0 + 0 ≤ 0 by omega), (show 0 + 0 ≤ 0 by omega)⟩) hS (fun q _ h => hFc q h) hFc (fun r_32 u t H1 locs ht hvm hw hB hz1 hk1 hS => ?_)
    try dsimp only at hw hB
    have he_33 := hw
    have he_33 : (r_32 : Int32) = tI fs nq q_31.1 4 := he_33
    obtain ⟨hP1, hD1⟩ := hB
    rw [ht] at hP1
    obtain ⟨hP, hD⟩ := va_join (wr := [(g0, .inr (1, [.ref gF, .ref gK, .ref gT, .ref gC, .ref gM, .int gc, .ref eF, .ref eC, .ref eM, .int (nI enq), .ref hopA])), (eF, .inl (cI, 10, .inl feF)), (eC, .inl (cI, 10, .inl feC)), (eM, .inl (cI, 10, .inl feM))]) (w1 := [(h0, .inr (2, [.ref tO, .int s_25, .int p_26, .int b_27, .int f_28])), (tO, .inr (3, [.ref sA, .int (nI nq)])), (sA, .inl (cC, 1600, .inl fs))]) hP hD [4, 5, 6] [0, 1, 2, 3] rfl rfl (by decide) (by decide) hk1 hFc hP1 hD1
    generalize H1 = H at hP hS ⊢
    have hP : va_P (dC, dI) vwCl [(g0, .inr (1, [.ref gF, .ref gK, .ref gT, .ref gC, .ref gM, .int gc, .ref eF, .ref eC, .ref eM, .int (nI enq), .ref hopA])), (eF, .inl (cI, 10, .inl feF)), (eC, .inl (cI, 10, .inl feC)), (eM, .inl (cI, 10, .inl feM)), (h0, .inr (2, [.ref tO, .int s_25, .int p_26, .int b_27, .int f_28])), (tO, .inr (3, [.ref sA, .int (nI nq)])), (sA, .inl (cC, 1600, .inl fs))] H := hP
    have hD : va_D A [(g0, .inr (1, [.ref gF, .ref gK, .ref gT, .ref gC, .ref gM, .int gc, .ref eF, .ref eC, .ref eM, .int (nI enq), .ref hopA])), (eF, .inl (cI, 10, .inl feF)), (eC, .inl (cI, 10, .inl feC)), (eM, .inl (cI, 10, .inl feM)), (h0, .inr (2, [.ref tO, .int s_25, .int p_26, .int b_27, .int f_28])), (tO, .inr (3, [.ref sA, .int (nI nq)])), (sA, .inl (cC, 1600, .inl fs))] := hD
    have hPc := hP.sub (ws' := [(h0, .inr (2, [.ref tO, .int s_25, .int p_26, .int b_27, .int f_28])), (tO, .inr (3, [.ref sA, .int (nI nq)])), (sA, .inl (cC, 1600, .inl fs))]) [4, 5, 6] rfl
    have hDc := hD.sub (ws' := [(h0, .inr (2, [.ref tO, .int s_25, .int p_26, .int b_27, .int f_28])), (tO, .inr (3, [.ref sA, .int (nI nq)])), (sA, .inl (cC, 1600, .inl fs))]) [4, 5, 6] (by decide) rfl
    have hFc := va_free (wc := [(h0, .inr (2, [.ref tO, .int s_25, .int p_26, .int b_27, .int f_28])), (tO, .inr (3, [.ref sA, .int (nI nq)])), (sA, .inl (cC, 1600, .inl fs))]) hD hS hA [4, 5, 6] rfl
    refine va_callv (va_runV (As := [.int r_32]) (rest := []) ⟨hx, hb, hml, hown, hts⟩ (k_passIf l dC dI cI cZ cC cJ H.size  h0 tO s_25 p_26 b_27 f_28 sA nq fs r_32 q_31 (by first | assumption | decide | omega) he_30) (cwV 1 hts gX2_readEnd_X2_passIf rfl rfl rfl (by decide +kernel) ⟨Nat.le_of_ble_eq_true rfl, Nat.le_of_ble_eq_true rfl⟩) ⟨sPre_blind, va_recv hK hPc (ci := 2) (q0 := 0) rfl rfl, fun U hU hW => ⟨rfl, sPre_ok hsk hPc hDc hU hW⟩⟩ rfl rfl hl.1 rfl (lv_room (Nat.le_of_ble_eq_true rfl)) dX2_readEnd_51 ⟨(show 0 + 0 ≤ 0 by omega), (show 0 + 0 ≤ 0 by omega)⟩) hS (fun q _ h => hFc q h) hFc (fun u t H1 locs ht hvm hw hB hz1 hk1 hS => ?_)
    obtain ⟨s_35, p_36, b_37, f_38⟩ := u
    try dsimp only at hw hB
    have he_39 := hw
    have he_39 : rOK fs nq (stX (tkO fs nq) r_32 q_31) s_35 p_36 b_37 f_38 := he_39
    obtain ⟨q_40, eq_40⟩ : ∃ x9 : Nat × Int32, x9 = stX (tkO fs nq) r_32 q_31 := ⟨_, rfl⟩
    rw [← eq_40] at he_39
    obtain ⟨hP1, hD1⟩ := hB
    rw [ht] at hP1
    obtain ⟨hP, hD⟩ := va_join (wr := [(g0, .inr (1, [.ref gF, .ref gK, .ref gT, .ref gC, .ref gM, .int gc, .ref eF, .ref eC, .ref eM, .int (nI enq), .ref hopA])), (eF, .inl (cI, 10, .inl feF)), (eC, .inl (cI, 10, .inl feC)), (eM, .inl (cI, 10, .inl feM))]) (w1 := [(h0, .inr (2, [.ref tO, .int s_35, .int p_36, .int b_37, .int f_38])), (tO, .inr (3, [.ref sA, .int (nI nq)])), (sA, .inl (cC, 1600, .inl fs))]) hP hD [4, 5, 6] [0, 1, 2, 3] rfl rfl (by decide) (by decide) hk1 hFc hP1 hD1
    generalize H1 = H at hP hS ⊢
    have hP : va_P (dC, dI) vwCl [(g0, .inr (1, [.ref gF, .ref gK, .ref gT, .ref gC, .ref gM, .int gc, .ref eF, .ref eC, .ref eM, .int (nI enq), .ref hopA])), (eF, .inl (cI, 10, .inl feF)), (eC, .inl (cI, 10, .inl feC)), (eM, .inl (cI, 10, .inl feM)), (h0, .inr (2, [.ref tO, .int s_35, .int p_36, .int b_37, .int f_38])), (tO, .inr (3, [.ref sA, .int (nI nq)])), (sA, .inl (cC, 1600, .inl fs))] H := hP
    have hD : va_D A [(g0, .inr (1, [.ref gF, .ref gK, .ref gT, .ref gC, .ref gM, .int gc, .ref eF, .ref eC, .ref eM, .int (nI enq), .ref hopA])), (eF, .inl (cI, 10, .inl feF)), (eC, .inl (cI, 10, .inl feC)), (eM, .inl (cI, 10, .inl feM)), (h0, .inr (2, [.ref tO, .int s_35, .int p_36, .int b_37, .int f_38])), (tO, .inr (3, [.ref sA, .int (nI nq)])), (sA, .inl (cC, 1600, .inl fs))] := hD
    have zC1 : stW (tkO fs nq) 4 (leB (tkO fs nq) qs) = q_40 := by rw [zB, eq_40, he_33]; rfl
    refine lv_aload_n hx hb dX2_readEnd_54 rfl (lv_at hl 2 rfl) ?_
    have hPc := hP.sub (ws' := [(h0, .inr (2, [.ref tO, .int s_35, .int p_36, .int b_37, .int f_38])), (tO, .inr (3, [.ref sA, .int (nI nq)])), (sA, .inl (cC, 1600, .inl fs))]) [4, 5, 6] rfl
    have hDc := hD.sub (ws' := [(h0, .inr (2, [.ref tO, .int s_35, .int p_36, .int b_37, .int f_38])), (tO, .inr (3, [.ref sA, .int (nI nq)])), (sA, .inl (cC, 1600, .inl fs))]) [4, 5, 6] (by decide) rfl
    have hFc := va_free (wc := [(h0, .inr (2, [.ref tO, .int s_35, .int p_36, .int b_37, .int f_38])), (tO, .inr (3, [.ref sA, .int (nI nq)])), (sA, .inl (cC, 1600, .inl fs))]) hD hS hA [4, 5, 6] rfl
    refine va_calli (va_runV (As := []) (rest := []) ⟨hx, hb, hml, hown, hts⟩ (k_endMarkHere l dC dI cI cZ cC cJ H.size adK adV h0 tO s_35 p_36 b_37 f_38 sA nq fs q_40 (by first | assumption | decide | omega) he_39) (cwV 0 hts gX2_readEnd_X2_endMarkHere rfl rfl rfl (by decide +kernel) ⟨Nat.le_of_ble_eq_true rfl, Nat.le_of_ble_eq_true rfl⟩) ⟨tW_blind, va_recv hK hPc (ci := 2) (q0 := 0) rfl rfl, fun U hU hW => ⟨rfl, sPre_ok hsk hPc hDc hU hW, tW_warm hW hU hS (fun q h => hFc q h) htw⟩⟩ rfl rfl hl.1 rfl (lv_room (Nat.le_of_ble_eq_true rfl)) dX2_readEnd_55 ⟨(show 0 + 0 ≤ 0 by omega), (show 0 + 0 ≤ 0 by omega)⟩) hS (fun q _ h => hFc q h) hFc (fun r_41 u t H1 locs ht hvm hw hB hz1 hk1 hS => ?_)
    try dsimp only at hw hB
    have he_42 := hw
    have he_42 : (r_41 : Int32) = emV (tkO fs nq) q_40.1 := he_42
    obtain ⟨hP1, hD1⟩ := hB
    rw [ht] at hP1
    obtain ⟨hP, hD⟩ := va_join (wr := [(g0, .inr (1, [.ref gF, .ref gK, .ref gT, .ref gC, .ref gM, .int gc, .ref eF, .ref eC, .ref eM, .int (nI enq), .ref hopA])), (eF, .inl (cI, 10, .inl feF)), (eC, .inl (cI, 10, .inl feC)), (eM, .inl (cI, 10, .inl feM))]) (w1 := [(h0, .inr (2, [.ref tO, .int s_35, .int p_36, .int b_37, .int f_38])), (tO, .inr (3, [.ref sA, .int (nI nq)])), (sA, .inl (cC, 1600, .inl fs))]) hP hD [4, 5, 6] [0, 1, 2, 3] rfl rfl (by decide) (by decide) hk1 hFc hP1 hD1
    generalize H1 = H at hP hS ⊢
    have hP : va_P (dC, dI) vwCl [(g0, .inr (1, [.ref gF, .ref gK, .ref gT, .ref gC, .ref gM, .int gc, .ref eF, .ref eC, .ref eM, .int (nI enq), .ref hopA])), (eF, .inl (cI, 10, .inl feF)), (eC, .inl (cI, 10, .inl feC)), (eM, .inl (cI, 10, .inl feM)), (h0, .inr (2, [.ref tO, .int s_35, .int p_36, .int b_37, .int f_38])), (tO, .inr (3, [.ref sA, .int (nI nq)])), (sA, .inl (cC, 1600, .inl fs))] H := hP
    have hD : va_D A [(g0, .inr (1, [.ref gF, .ref gK, .ref gT, .ref gC, .ref gM, .int gc, .ref eF, .ref eC, .ref eM, .int (nI enq), .ref hopA])), (eF, .inl (cI, 10, .inl feF)), (eC, .inl (cI, 10, .inl feC)), (eM, .inl (cI, 10, .inl feM)), (h0, .inr (2, [.ref tO, .int s_35, .int p_36, .int b_37, .int f_38])), (tO, .inr (3, [.ref sA, .int (nI nq)])), (sA, .inl (cC, 1600, .inl fs))] := hD
    refine lv_istore (lv' := [(4, .int r_41), (3, .int r_24), (2, .int r_7), (0, .ref h0), (1, .ref g0)]) hx hb dX2_readEnd_58 hl (by decide) rfl (fun ls hl => ?_)
    refine lv_aload_n hx hb dX2_readEnd_60 rfl (lv_at hl 3 rfl) ?_
    refine lv_iload hx hb dX2_readEnd_61 (lv_at hl 0 rfl) ?_
    refine lv_if_eq (tgt := 70) hx hb dX2_readEnd_63 (by decide) (fun c_63 => ?_) (fun c_63 => ?_)
    · skip
      refine lv_iconst (v := 0) hx hb dX2_readEnd_70 (by decide) ?_
      have hPc := hP.sub (ws' := [(h0, .inr (2, [.ref tO, .int s_35, .int p_36, .int b_37, .int f_38])), (tO, .inr (3, [.ref sA, .int (nI nq)])), (sA, .inl (cC, 1600, .inl fs))]) [4, 5, 6] rfl
      have hDc := hD.sub (ws' := [(h0, .inr (2, [.ref tO, .int s_35, .int p_36, .int b_37, .int f_38])), (tO, .inr (3, [.ref sA, .int (nI nq)])), (sA, .inl (cC, 1600, .inl fs))]) [4, 5, 6] (by decide) rfl
      have hFc := va_free (wc := [(h0, .inr (2, [.ref tO, .int s_35, .int p_36, .int b_37, .int f_38])), (tO, .inr (3, [.ref sA, .int (nI nq)])), (sA, .inl (cC, 1600, .inl fs))]) hD hS hA [4, 5, 6] rfl
      refine va_callv (va_runV (As := [.int 0]) (rest := []) ⟨hx, hb, hml, hown, hts⟩ (k_passIf l dC dI cI cZ cC cJ H.size  h0 tO s_35 p_36 b_37 f_38 sA nq fs 0 q_40 (by first | assumption | decide | omega) he_39) (cwV 1 hts gX2_readEnd_X2_passIf rfl rfl rfl (by decide +kernel) ⟨Nat.le_of_ble_eq_true rfl, Nat.le_of_ble_eq_true rfl⟩) ⟨sPre_blind, va_recv hK hPc (ci := 2) (q0 := 0) rfl rfl, fun U hU hW => ⟨rfl, sPre_ok hsk hPc hDc hU hW⟩⟩ rfl rfl hl.1 rfl (lv_room (Nat.le_of_ble_eq_true rfl)) dX2_readEnd_71 ⟨(show 0 + 0 ≤ 0 by omega), (show 0 + 0 ≤ 0 by omega)⟩) hS (fun q _ h => hFc q h) hFc (fun u t H1 locs ht hvm hw hB hz1 hk1 hS => ?_)
      obtain ⟨s_44, p_45, b_46, f_47⟩ := u
      try dsimp only at hw hB
      have he_48 := hw
      have he_48 : rOK fs nq (stX (tkO fs nq) 0 q_40) s_44 p_45 b_46 f_47 := he_48
      obtain ⟨q_49, eq_49⟩ : ∃ x9 : Nat × Int32, x9 = stX (tkO fs nq) 0 q_40 := ⟨_, rfl⟩
      rw [← eq_49] at he_48
      obtain ⟨hP1, hD1⟩ := hB
      rw [ht] at hP1
      obtain ⟨hP, hD⟩ := va_join (wr := [(g0, .inr (1, [.ref gF, .ref gK, .ref gT, .ref gC, .ref gM, .int gc, .ref eF, .ref eC, .ref eM, .int (nI enq), .ref hopA])), (eF, .inl (cI, 10, .inl feF)), (eC, .inl (cI, 10, .inl feC)), (eM, .inl (cI, 10, .inl feM))]) (w1 := [(h0, .inr (2, [.ref tO, .int s_44, .int p_45, .int b_46, .int f_47])), (tO, .inr (3, [.ref sA, .int (nI nq)])), (sA, .inl (cC, 1600, .inl fs))]) hP hD [4, 5, 6] [0, 1, 2, 3] rfl rfl (by decide) (by decide) hk1 hFc hP1 hD1
      generalize H1 = H at hP hS ⊢
      have hP : va_P (dC, dI) vwCl [(g0, .inr (1, [.ref gF, .ref gK, .ref gT, .ref gC, .ref gM, .int gc, .ref eF, .ref eC, .ref eM, .int (nI enq), .ref hopA])), (eF, .inl (cI, 10, .inl feF)), (eC, .inl (cI, 10, .inl feC)), (eM, .inl (cI, 10, .inl feM)), (h0, .inr (2, [.ref tO, .int s_44, .int p_45, .int b_46, .int f_47])), (tO, .inr (3, [.ref sA, .int (nI nq)])), (sA, .inl (cC, 1600, .inl fs))] H := hP
      have hD : va_D A [(g0, .inr (1, [.ref gF, .ref gK, .ref gT, .ref gC, .ref gM, .int gc, .ref eF, .ref eC, .ref eM, .int (nI enq), .ref hopA])), (eF, .inl (cI, 10, .inl feF)), (eC, .inl (cI, 10, .inl feC)), (eM, .inl (cI, 10, .inl feM)), (h0, .inr (2, [.ref tO, .int s_44, .int p_45, .int b_46, .int f_47])), (tO, .inr (3, [.ref sA, .int (nI nq)])), (sA, .inl (cC, 1600, .inl fs))] := hD
      have zO : stM (tkO fs nq) 9 (stW (tkO fs nq) 4 (leB (tkO fs nq) qs)) = q_49 := by rw [zC1, eq_49]; exact stM_iff (⟨fun _ => emV_0.mp (he_42.symm.trans c_63), fun _ => rfl⟩)
      refine lv_aload_n hx hb dX2_readEnd_74 rfl (lv_at hl 3 rfl) ?_
      refine lv_aload_n hx hb dX2_readEnd_75 rfl (lv_at hl 3 rfl) ?_
      refine va_get (D := (dC, dI)) (ci := 2) (v := .int s_44) (C := RX2) (T := TX2) (N := 5) hx hb hts i2 hown hK hP 4 rfl rfl 1 (by decide) (hts (.fieldLink RX2 32 "StopSetter$Reader" "sort" "I") (by decide +kernel)) (fun _ h9 => h9) rfl dX2_readEnd_76 ?_
      refine lv_iconst (v := 4) hx hb dX2_readEnd_79 (by decide) ?_
      refine lv_icmp_ne (tgt := 87) hx hb dX2_readEnd_80 (by decide) (fun c_80 => ?_) (fun c_80 => ?_)
      · skip
        refine lv_iconst (v := 0) hx hb dX2_readEnd_87 (by decide) ?_
        have hPc := hP.sub (ws' := [(h0, .inr (2, [.ref tO, .int s_44, .int p_45, .int b_46, .int f_47])), (tO, .inr (3, [.ref sA, .int (nI nq)])), (sA, .inl (cC, 1600, .inl fs))]) [4, 5, 6] rfl
        have hDc := hD.sub (ws' := [(h0, .inr (2, [.ref tO, .int s_44, .int p_45, .int b_46, .int f_47])), (tO, .inr (3, [.ref sA, .int (nI nq)])), (sA, .inl (cC, 1600, .inl fs))]) [4, 5, 6] (by decide) rfl
        have hFc := va_free (wc := [(h0, .inr (2, [.ref tO, .int s_44, .int p_45, .int b_46, .int f_47])), (tO, .inr (3, [.ref sA, .int (nI nq)])), (sA, .inl (cC, 1600, .inl fs))]) hD hS hA [4, 5, 6] rfl
        refine va_callv (va_runV (As := [.int 0]) (rest := []) ⟨hx, hb, hml, hown, hts⟩ (k_passIf l dC dI cI cZ cC cJ H.size  h0 tO s_44 p_45 b_46 f_47 sA nq fs 0 q_49 (by first | assumption | decide | omega) he_48) (cwV 1 hts gX2_readEnd_X2_passIf rfl rfl rfl (by decide +kernel) ⟨Nat.le_of_ble_eq_true rfl, Nat.le_of_ble_eq_true rfl⟩) ⟨sPre_blind, va_recv hK hPc (ci := 2) (q0 := 0) rfl rfl, fun U hU hW => ⟨rfl, sPre_ok hsk hPc hDc hU hW⟩⟩ rfl rfl hl.1 rfl (lv_room (Nat.le_of_ble_eq_true rfl)) dX2_readEnd_88 ⟨(show 0 + 0 ≤ 0 by omega), (show 0 + 0 ≤ 0 by omega)⟩) hS (fun q _ h => hFc q h) hFc (fun u t H1 locs ht hvm hw hB hz1 hk1 hS => ?_)
        obtain ⟨s_51, p_52, b_53, f_54⟩ := u
        try dsimp only at hw hB
        have he_55 := hw
        have he_55 : rOK fs nq (stX (tkO fs nq) 0 q_49) s_51 p_52 b_53 f_54 := he_55
        obtain ⟨q_56, eq_56⟩ : ∃ x9 : Nat × Int32, x9 = stX (tkO fs nq) 0 q_49 := ⟨_, rfl⟩
        rw [← eq_56] at he_55
        obtain ⟨hP1, hD1⟩ := hB
        rw [ht] at hP1
        obtain ⟨hP, hD⟩ := va_join (wr := [(g0, .inr (1, [.ref gF, .ref gK, .ref gT, .ref gC, .ref gM, .int gc, .ref eF, .ref eC, .ref eM, .int (nI enq), .ref hopA])), (eF, .inl (cI, 10, .inl feF)), (eC, .inl (cI, 10, .inl feC)), (eM, .inl (cI, 10, .inl feM))]) (w1 := [(h0, .inr (2, [.ref tO, .int s_51, .int p_52, .int b_53, .int f_54])), (tO, .inr (3, [.ref sA, .int (nI nq)])), (sA, .inl (cC, 1600, .inl fs))]) hP hD [4, 5, 6] [0, 1, 2, 3] rfl rfl (by decide) (by decide) hk1 hFc hP1 hD1
        generalize H1 = H at hP hS ⊢
        have hP : va_P (dC, dI) vwCl [(g0, .inr (1, [.ref gF, .ref gK, .ref gT, .ref gC, .ref gM, .int gc, .ref eF, .ref eC, .ref eM, .int (nI enq), .ref hopA])), (eF, .inl (cI, 10, .inl feF)), (eC, .inl (cI, 10, .inl feC)), (eM, .inl (cI, 10, .inl feM)), (h0, .inr (2, [.ref tO, .int s_51, .int p_52, .int b_53, .int f_54])), (tO, .inr (3, [.ref sA, .int (nI nq)])), (sA, .inl (cC, 1600, .inl fs))] H := hP
        have hD : va_D A [(g0, .inr (1, [.ref gF, .ref gK, .ref gT, .ref gC, .ref gM, .int gc, .ref eF, .ref eC, .ref eM, .int (nI enq), .ref hopA])), (eF, .inl (cI, 10, .inl feF)), (eC, .inl (cI, 10, .inl feC)), (eM, .inl (cI, 10, .inl feM)), (h0, .inr (2, [.ref tO, .int s_51, .int p_52, .int b_53, .int f_54])), (tO, .inr (3, [.ref sA, .int (nI nq)])), (sA, .inl (cC, 1600, .inl fs))] := hD
        have zE : leC (tkO fs nq) qs = q_56 := by unfold leC; rw [zO, eq_56]; exact stS_0 (show ¬ (tkO fs nq).S q_49.1 = 4 from fun z => c_80 (he_48.1.trans z))
        refine lv_aload_n hx hb dX2_readEnd_91 rfl (lv_at hl 3 rfl) ?_
        refine va_get (D := (dC, dI)) (ci := 2) (v := .int f_54) (C := RX2) (T := TX2) (N := 5) hx hb hts i2 hown hK hP 4 rfl rfl 4 (by decide) (hts (.fieldLink RX2 20 "StopSetter$Reader" "fault" "I") (by decide +kernel)) (fun _ h9 => h9) rfl dX2_readEnd_92 ?_
        refine lv_if_ne (tgt := 106) hx hb dX2_readEnd_95 (by decide) (fun c_95 => ?_) (fun c_95 => ?_)
        · skip
          have hP9 := hP.sub (ws' := [(h0, .inr (2, [.ref tO, .int s_51, .int p_52, .int b_53, .int f_54])), (tO, .inr (3, [.ref sA, .int (nI nq)])), (sA, .inl (cC, 1600, .inl fs)), (g0, .inr (1, [.ref gF, .ref gK, .ref gT, .ref gC, .ref gM, .int gc, .ref eF, .ref eC, .ref eM, .int (nI enq), .ref hopA])), (eF, .inl (cI, 10, .inl feF)), (eC, .inl (cI, 10, .inl feC)), (eM, .inl (cI, 10, .inl feM))]) [4, 5, 6, 0, 1, 2, 3] rfl
          have hD9 := hD.sub (ws' := [(h0, .inr (2, [.ref tO, .int s_51, .int p_52, .int b_53, .int f_54])), (tO, .inr (3, [.ref sA, .int (nI nq)])), (sA, .inl (cC, 1600, .inl fs)), (g0, .inr (1, [.ref gF, .ref gK, .ref gT, .ref gC, .ref gM, .int gc, .ref eF, .ref eC, .ref eM, .int (nI enq), .ref hopA])), (eF, .inl (cI, 10, .inl feF)), (eC, .inl (cI, 10, .inl feC)), (eM, .inl (cI, 10, .inl feM))]) [4, 5, 6, 0, 1, 2, 3] (by decide) rfl
          have hens0 : rOK fs nq (reQ (tkO fs nq) enq qs) s_51 p_52 b_53 f_54 := (rOK_of he_55 (by unfold reQ; rw [if_neg (by omega)]; exact zE.symm))
          have hens1 : addE3 f_54 enq enq (leL (tkO fs nq) qs) feF feC feM feF feC feM := (addE3_n c_95)
          exact W.vret hx hb hr (fun t ht hW => ⟨⟨(s_51, p_52, b_53, f_54, enq, feF, feC, feM), rfl, ⟨hens0, hens1⟩, by rw [ht]; exact hP9, hD9⟩, hS.F ht⟩) hS.2.2 dX2_readEnd_106
        · skip
          refine lv_aload_n hx hb dX2_readEnd_98 rfl (lv_at hl 4 rfl) ?_
          refine lv_iload_n hx hb dX2_readEnd_99 rfl (lv_at hl 2 rfl) ?_
          refine lv_iload_n hx hb dX2_readEnd_100 rfl (lv_at hl 1 rfl) ?_
          refine lv_iload hx hb dX2_readEnd_101 (lv_at hl 0 rfl) ?_
          have hPc := hP.sub (ws' := [(g0, .inr (1, [.ref gF, .ref gK, .ref gT, .ref gC, .ref gM, .int gc, .ref eF, .ref eC, .ref eM, .int (nI enq), .ref hopA])), (eF, .inl (cI, 10, .inl feF)), (eC, .inl (cI, 10, .inl feC)), (eM, .inl (cI, 10, .inl feM))]) [0, 1, 2, 3] rfl
          have hDc := hD.sub (ws' := [(g0, .inr (1, [.ref gF, .ref gK, .ref gT, .ref gC, .ref gM, .int gc, .ref eF, .ref eC, .ref eM, .int (nI enq), .ref hopA])), (eF, .inl (cI, 10, .inl feF)), (eC, .inl (cI, 10, .inl feC)), (eM, .inl (cI, 10, .inl feM))]) [0, 1, 2, 3] (by decide) rfl
          have hFc := va_free (wc := [(g0, .inr (1, [.ref gF, .ref gK, .ref gT, .ref gC, .ref gM, .int gc, .ref eF, .ref eC, .ref eM, .int (nI enq), .ref hopA])), (eF, .inl (cI, 10, .inl feF)), (eC, .inl (cI, 10, .inl feC)), (eM, .inl (cI, 10, .inl feM))]) hD hS hA [0, 1, 2, 3] rfl
          refine va_callv (va_runV (As := [.int r_7, .int r_24, .int r_41]) (rest := []) ⟨hx, hb, hml, hown, hts⟩ (k_addEnd l dC dI cI cZ cC cJ H.size  g0 gF gK gT gC gM gc eF eC eM enq hopA feF feC feM r_7 r_24 r_41 hg40) (cwV 3 hts gX2_readEnd_X1_addEnd rfl rfl rfl (by decide +kernel) ⟨Nat.le_of_ble_eq_true rfl, Nat.le_of_ble_eq_true rfl⟩) ⟨sPre_blind, va_recv hK hPc (ci := 1) (q0 := 0) rfl rfl, fun U hU hW => ⟨rfl, sPre_ok hsk hPc hDc hU hW⟩⟩ rfl rfl hl.1 rfl (lv_room (Nat.le_of_ble_eq_true rfl)) dX2_readEnd_103 ⟨(show 0 + 0 ≤ 0 by omega), (show 0 + 0 ≤ 0 by omega)⟩) hS (fun q _ h => hFc q h) hFc (fun u t H1 locs ht hvm hw hB hz1 hk1 hS => ?_)
          try dsimp only at hw hB
          obtain ⟨hP1, hD1⟩ := hB
          rw [ht] at hP1
          obtain ⟨hP, hD⟩ := va_join (wr := [(h0, .inr (2, [.ref tO, .int s_51, .int p_52, .int b_53, .int f_54])), (tO, .inr (3, [.ref sA, .int (nI nq)])), (sA, .inl (cC, 1600, .inl fs))]) (w1 := [(g0, .inr (1, [.ref gF, .ref gK, .ref gT, .ref gC, .ref gM, .int gc, .ref eF, .ref eC, .ref eM, .int (nI (enq + 1)), .ref hopA])), (eF, .inl (cI, 10, .inl (upd feF enq r_7))), (eC, .inl (cI, 10, .inl (upd feC enq r_24))), (eM, .inl (cI, 10, .inl (upd feM enq r_41)))]) hP hD [0, 1, 2, 3] [4, 5, 6] rfl rfl (by decide) (by decide) hk1 hFc hP1 hD1
          generalize H1 = H at hP hS ⊢
          have hP : va_P (dC, dI) vwCl [(h0, .inr (2, [.ref tO, .int s_51, .int p_52, .int b_53, .int f_54])), (tO, .inr (3, [.ref sA, .int (nI nq)])), (sA, .inl (cC, 1600, .inl fs)), (g0, .inr (1, [.ref gF, .ref gK, .ref gT, .ref gC, .ref gM, .int gc, .ref eF, .ref eC, .ref eM, .int (nI (enq + 1)), .ref hopA])), (eF, .inl (cI, 10, .inl (upd feF enq r_7))), (eC, .inl (cI, 10, .inl (upd feC enq r_24))), (eM, .inl (cI, 10, .inl (upd feM enq r_41)))] H := hP
          have hD : va_D A [(h0, .inr (2, [.ref tO, .int s_51, .int p_52, .int b_53, .int f_54])), (tO, .inr (3, [.ref sA, .int (nI nq)])), (sA, .inl (cC, 1600, .inl fs)), (g0, .inr (1, [.ref gF, .ref gK, .ref gT, .ref gC, .ref gM, .int gc, .ref eF, .ref eC, .ref eM, .int (nI (enq + 1)), .ref hopA])), (eF, .inl (cI, 10, .inl (upd feF enq r_7))), (eC, .inl (cI, 10, .inl (upd feC enq r_24))), (eM, .inl (cI, 10, .inl (upd feM enq r_41)))] := hD
          have hP9 := hP.sub (ws' := [(h0, .inr (2, [.ref tO, .int s_51, .int p_52, .int b_53, .int f_54])), (tO, .inr (3, [.ref sA, .int (nI nq)])), (sA, .inl (cC, 1600, .inl fs)), (g0, .inr (1, [.ref gF, .ref gK, .ref gT, .ref gC, .ref gM, .int gc, .ref eF, .ref eC, .ref eM, .int (nI (enq + 1)), .ref hopA])), (eF, .inl (cI, 10, .inl (upd feF enq r_7))), (eC, .inl (cI, 10, .inl (upd feC enq r_24))), (eM, .inl (cI, 10, .inl (upd feM enq r_41)))]) [0, 1, 2, 3, 4, 5, 6] rfl
          have hD9 := hD.sub (ws' := [(h0, .inr (2, [.ref tO, .int s_51, .int p_52, .int b_53, .int f_54])), (tO, .inr (3, [.ref sA, .int (nI nq)])), (sA, .inl (cC, 1600, .inl fs)), (g0, .inr (1, [.ref gF, .ref gK, .ref gT, .ref gC, .ref gM, .int gc, .ref eF, .ref eC, .ref eM, .int (nI (enq + 1)), .ref hopA])), (eF, .inl (cI, 10, .inl (upd feF enq r_7))), (eC, .inl (cI, 10, .inl (upd feC enq r_24))), (eM, .inl (cI, 10, .inl (upd feM enq r_41)))]) [0, 1, 2, 3, 4, 5, 6] (by decide) rfl
          have hens0 : rOK fs nq (reQ (tkO fs nq) enq qs) s_51 p_52 b_53 f_54 := (rOK_of he_55 (by unfold reQ; rw [if_neg (by omega)]; exact zE.symm))
          have hens1 : addE3 f_54 enq (enq + 1) (leL (tkO fs nq) qs) feF feC feM (upd feF enq r_7) (upd feC enq r_24) (upd feM enq r_41) := (absurd (show (stX (tkO fs nq) 0 q_40).2 = 0 by rw [← eq_49]; exact stX_z (t := (tkO fs nq)) (b := 0) (by rw [← eq_56, ← he_55.2.2.2]; exact c_95)) (stX0_ne hnq))
          exact W.vret hx hb hr (fun t ht hW => ⟨⟨(s_51, p_52, b_53, f_54, (enq + 1), (upd feF enq r_7), (upd feC enq r_24), (upd feM enq r_41)), rfl, ⟨hens0, hens1⟩, by rw [ht]; exact hP9, hD9⟩, hS.F ht⟩) hS.2.2 dX2_readEnd_106
      · skip
        refine lv_iconst (v := 1) hx hb dX2_readEnd_83 (by decide) ?_
        refine lv_goto (tgt := 88) hx hb dX2_readEnd_84 (by decide) ?_
        have hPc := hP.sub (ws' := [(h0, .inr (2, [.ref tO, .int s_44, .int p_45, .int b_46, .int f_47])), (tO, .inr (3, [.ref sA, .int (nI nq)])), (sA, .inl (cC, 1600, .inl fs))]) [4, 5, 6] rfl
        have hDc := hD.sub (ws' := [(h0, .inr (2, [.ref tO, .int s_44, .int p_45, .int b_46, .int f_47])), (tO, .inr (3, [.ref sA, .int (nI nq)])), (sA, .inl (cC, 1600, .inl fs))]) [4, 5, 6] (by decide) rfl
        have hFc := va_free (wc := [(h0, .inr (2, [.ref tO, .int s_44, .int p_45, .int b_46, .int f_47])), (tO, .inr (3, [.ref sA, .int (nI nq)])), (sA, .inl (cC, 1600, .inl fs))]) hD hS hA [4, 5, 6] rfl
        refine va_callv (va_runV (As := [.int 1]) (rest := []) ⟨hx, hb, hml, hown, hts⟩ (k_passIf l dC dI cI cZ cC cJ H.size  h0 tO s_44 p_45 b_46 f_47 sA nq fs 1 q_49 (by first | assumption | decide | omega) he_48) (cwV 1 hts gX2_readEnd_X2_passIf rfl rfl rfl (by decide +kernel) ⟨Nat.le_of_ble_eq_true rfl, Nat.le_of_ble_eq_true rfl⟩) ⟨sPre_blind, va_recv hK hPc (ci := 2) (q0 := 0) rfl rfl, fun U hU hW => ⟨rfl, sPre_ok hsk hPc hDc hU hW⟩⟩ rfl rfl hl.1 rfl (lv_room (Nat.le_of_ble_eq_true rfl)) dX2_readEnd_88 ⟨(show 0 + 0 ≤ 0 by omega), (show 0 + 0 ≤ 0 by omega)⟩) hS (fun q _ h => hFc q h) hFc (fun u t H1 locs ht hvm hw hB hz1 hk1 hS => ?_)
        obtain ⟨s_59, p_60, b_61, f_62⟩ := u
        try dsimp only at hw hB
        have he_63 := hw
        have he_63 : rOK fs nq (stX (tkO fs nq) 1 q_49) s_59 p_60 b_61 f_62 := he_63
        obtain ⟨q_64, eq_64⟩ : ∃ x9 : Nat × Int32, x9 = stX (tkO fs nq) 1 q_49 := ⟨_, rfl⟩
        rw [← eq_64] at he_63
        obtain ⟨hP1, hD1⟩ := hB
        rw [ht] at hP1
        obtain ⟨hP, hD⟩ := va_join (wr := [(g0, .inr (1, [.ref gF, .ref gK, .ref gT, .ref gC, .ref gM, .int gc, .ref eF, .ref eC, .ref eM, .int (nI enq), .ref hopA])), (eF, .inl (cI, 10, .inl feF)), (eC, .inl (cI, 10, .inl feC)), (eM, .inl (cI, 10, .inl feM))]) (w1 := [(h0, .inr (2, [.ref tO, .int s_59, .int p_60, .int b_61, .int f_62])), (tO, .inr (3, [.ref sA, .int (nI nq)])), (sA, .inl (cC, 1600, .inl fs))]) hP hD [4, 5, 6] [0, 1, 2, 3] rfl rfl (by decide) (by decide) hk1 hFc hP1 hD1
        generalize H1 = H at hP hS ⊢
        have hP : va_P (dC, dI) vwCl [(g0, .inr (1, [.ref gF, .ref gK, .ref gT, .ref gC, .ref gM, .int gc, .ref eF, .ref eC, .ref eM, .int (nI enq), .ref hopA])), (eF, .inl (cI, 10, .inl feF)), (eC, .inl (cI, 10, .inl feC)), (eM, .inl (cI, 10, .inl feM)), (h0, .inr (2, [.ref tO, .int s_59, .int p_60, .int b_61, .int f_62])), (tO, .inr (3, [.ref sA, .int (nI nq)])), (sA, .inl (cC, 1600, .inl fs))] H := hP
        have hD : va_D A [(g0, .inr (1, [.ref gF, .ref gK, .ref gT, .ref gC, .ref gM, .int gc, .ref eF, .ref eC, .ref eM, .int (nI enq), .ref hopA])), (eF, .inl (cI, 10, .inl feF)), (eC, .inl (cI, 10, .inl feC)), (eM, .inl (cI, 10, .inl feM)), (h0, .inr (2, [.ref tO, .int s_59, .int p_60, .int b_61, .int f_62])), (tO, .inr (3, [.ref sA, .int (nI nq)])), (sA, .inl (cC, 1600, .inl fs))] := hD
        have zE : leC (tkO fs nq) qs = q_64 := by unfold leC; rw [zO, eq_64]; exact stS_1 (show (tkO fs nq).S q_49.1 = 4 from he_48.1.symm.trans c_80)
        refine lv_aload_n hx hb dX2_readEnd_91 rfl (lv_at hl 3 rfl) ?_
        refine va_get (D := (dC, dI)) (ci := 2) (v := .int f_62) (C := RX2) (T := TX2) (N := 5) hx hb hts i2 hown hK hP 4 rfl rfl 4 (by decide) (hts (.fieldLink RX2 20 "StopSetter$Reader" "fault" "I") (by decide +kernel)) (fun _ h9 => h9) rfl dX2_readEnd_92 ?_
        refine lv_if_ne (tgt := 106) hx hb dX2_readEnd_95 (by decide) (fun c_95 => ?_) (fun c_95 => ?_)
        · skip
          have hP9 := hP.sub (ws' := [(h0, .inr (2, [.ref tO, .int s_59, .int p_60, .int b_61, .int f_62])), (tO, .inr (3, [.ref sA, .int (nI nq)])), (sA, .inl (cC, 1600, .inl fs)), (g0, .inr (1, [.ref gF, .ref gK, .ref gT, .ref gC, .ref gM, .int gc, .ref eF, .ref eC, .ref eM, .int (nI enq), .ref hopA])), (eF, .inl (cI, 10, .inl feF)), (eC, .inl (cI, 10, .inl feC)), (eM, .inl (cI, 10, .inl feM))]) [4, 5, 6, 0, 1, 2, 3] rfl
          have hD9 := hD.sub (ws' := [(h0, .inr (2, [.ref tO, .int s_59, .int p_60, .int b_61, .int f_62])), (tO, .inr (3, [.ref sA, .int (nI nq)])), (sA, .inl (cC, 1600, .inl fs)), (g0, .inr (1, [.ref gF, .ref gK, .ref gT, .ref gC, .ref gM, .int gc, .ref eF, .ref eC, .ref eM, .int (nI enq), .ref hopA])), (eF, .inl (cI, 10, .inl feF)), (eC, .inl (cI, 10, .inl feC)), (eM, .inl (cI, 10, .inl feM))]) [4, 5, 6, 0, 1, 2, 3] (by decide) rfl
          have hens0 : rOK fs nq (reQ (tkO fs nq) enq qs) s_59 p_60 b_61 f_62 := (rOK_of he_63 (by unfold reQ; rw [if_neg (by omega)]; exact zE.symm))
          have hens1 : addE3 f_62 enq enq (leL (tkO fs nq) qs) feF feC feM feF feC feM := (addE3_n c_95)
          exact W.vret hx hb hr (fun t ht hW => ⟨⟨(s_59, p_60, b_61, f_62, enq, feF, feC, feM), rfl, ⟨hens0, hens1⟩, by rw [ht]; exact hP9, hD9⟩, hS.F ht⟩) hS.2.2 dX2_readEnd_106
        · skip
          refine lv_aload_n hx hb dX2_readEnd_98 rfl (lv_at hl 4 rfl) ?_
          refine lv_iload_n hx hb dX2_readEnd_99 rfl (lv_at hl 2 rfl) ?_
          refine lv_iload_n hx hb dX2_readEnd_100 rfl (lv_at hl 1 rfl) ?_
          refine lv_iload hx hb dX2_readEnd_101 (lv_at hl 0 rfl) ?_
          have hPc := hP.sub (ws' := [(g0, .inr (1, [.ref gF, .ref gK, .ref gT, .ref gC, .ref gM, .int gc, .ref eF, .ref eC, .ref eM, .int (nI enq), .ref hopA])), (eF, .inl (cI, 10, .inl feF)), (eC, .inl (cI, 10, .inl feC)), (eM, .inl (cI, 10, .inl feM))]) [0, 1, 2, 3] rfl
          have hDc := hD.sub (ws' := [(g0, .inr (1, [.ref gF, .ref gK, .ref gT, .ref gC, .ref gM, .int gc, .ref eF, .ref eC, .ref eM, .int (nI enq), .ref hopA])), (eF, .inl (cI, 10, .inl feF)), (eC, .inl (cI, 10, .inl feC)), (eM, .inl (cI, 10, .inl feM))]) [0, 1, 2, 3] (by decide) rfl
          have hFc := va_free (wc := [(g0, .inr (1, [.ref gF, .ref gK, .ref gT, .ref gC, .ref gM, .int gc, .ref eF, .ref eC, .ref eM, .int (nI enq), .ref hopA])), (eF, .inl (cI, 10, .inl feF)), (eC, .inl (cI, 10, .inl feC)), (eM, .inl (cI, 10, .inl feM))]) hD hS hA [0, 1, 2, 3] rfl
          refine va_callv (va_runV (As := [.int r_7, .int r_24, .int r_41]) (rest := []) ⟨hx, hb, hml, hown, hts⟩ (k_addEnd l dC dI cI cZ cC cJ H.size  g0 gF gK gT gC gM gc eF eC eM enq hopA feF feC feM r_7 r_24 r_41 hg40) (cwV 3 hts gX2_readEnd_X1_addEnd rfl rfl rfl (by decide +kernel) ⟨Nat.le_of_ble_eq_true rfl, Nat.le_of_ble_eq_true rfl⟩) ⟨sPre_blind, va_recv hK hPc (ci := 1) (q0 := 0) rfl rfl, fun U hU hW => ⟨rfl, sPre_ok hsk hPc hDc hU hW⟩⟩ rfl rfl hl.1 rfl (lv_room (Nat.le_of_ble_eq_true rfl)) dX2_readEnd_103 ⟨(show 0 + 0 ≤ 0 by omega), (show 0 + 0 ≤ 0 by omega)⟩) hS (fun q _ h => hFc q h) hFc (fun u t H1 locs ht hvm hw hB hz1 hk1 hS => ?_)
          try dsimp only at hw hB
          obtain ⟨hP1, hD1⟩ := hB
          rw [ht] at hP1
          obtain ⟨hP, hD⟩ := va_join (wr := [(h0, .inr (2, [.ref tO, .int s_59, .int p_60, .int b_61, .int f_62])), (tO, .inr (3, [.ref sA, .int (nI nq)])), (sA, .inl (cC, 1600, .inl fs))]) (w1 := [(g0, .inr (1, [.ref gF, .ref gK, .ref gT, .ref gC, .ref gM, .int gc, .ref eF, .ref eC, .ref eM, .int (nI (enq + 1)), .ref hopA])), (eF, .inl (cI, 10, .inl (upd feF enq r_7))), (eC, .inl (cI, 10, .inl (upd feC enq r_24))), (eM, .inl (cI, 10, .inl (upd feM enq r_41)))]) hP hD [0, 1, 2, 3] [4, 5, 6] rfl rfl (by decide) (by decide) hk1 hFc hP1 hD1
          generalize H1 = H at hP hS ⊢
          have hP : va_P (dC, dI) vwCl [(h0, .inr (2, [.ref tO, .int s_59, .int p_60, .int b_61, .int f_62])), (tO, .inr (3, [.ref sA, .int (nI nq)])), (sA, .inl (cC, 1600, .inl fs)), (g0, .inr (1, [.ref gF, .ref gK, .ref gT, .ref gC, .ref gM, .int gc, .ref eF, .ref eC, .ref eM, .int (nI (enq + 1)), .ref hopA])), (eF, .inl (cI, 10, .inl (upd feF enq r_7))), (eC, .inl (cI, 10, .inl (upd feC enq r_24))), (eM, .inl (cI, 10, .inl (upd feM enq r_41)))] H := hP
          have hD : va_D A [(h0, .inr (2, [.ref tO, .int s_59, .int p_60, .int b_61, .int f_62])), (tO, .inr (3, [.ref sA, .int (nI nq)])), (sA, .inl (cC, 1600, .inl fs)), (g0, .inr (1, [.ref gF, .ref gK, .ref gT, .ref gC, .ref gM, .int gc, .ref eF, .ref eC, .ref eM, .int (nI (enq + 1)), .ref hopA])), (eF, .inl (cI, 10, .inl (upd feF enq r_7))), (eC, .inl (cI, 10, .inl (upd feC enq r_24))), (eM, .inl (cI, 10, .inl (upd feM enq r_41)))] := hD
          have hP9 := hP.sub (ws' := [(h0, .inr (2, [.ref tO, .int s_59, .int p_60, .int b_61, .int f_62])), (tO, .inr (3, [.ref sA, .int (nI nq)])), (sA, .inl (cC, 1600, .inl fs)), (g0, .inr (1, [.ref gF, .ref gK, .ref gT, .ref gC, .ref gM, .int gc, .ref eF, .ref eC, .ref eM, .int (nI (enq + 1)), .ref hopA])), (eF, .inl (cI, 10, .inl (upd feF enq r_7))), (eC, .inl (cI, 10, .inl (upd feC enq r_24))), (eM, .inl (cI, 10, .inl (upd feM enq r_41)))]) [0, 1, 2, 3, 4, 5, 6] rfl
          have hD9 := hD.sub (ws' := [(h0, .inr (2, [.ref tO, .int s_59, .int p_60, .int b_61, .int f_62])), (tO, .inr (3, [.ref sA, .int (nI nq)])), (sA, .inl (cC, 1600, .inl fs)), (g0, .inr (1, [.ref gF, .ref gK, .ref gT, .ref gC, .ref gM, .int gc, .ref eF, .ref eC, .ref eM, .int (nI (enq + 1)), .ref hopA])), (eF, .inl (cI, 10, .inl (upd feF enq r_7))), (eC, .inl (cI, 10, .inl (upd feC enq r_24))), (eM, .inl (cI, 10, .inl (upd feM enq r_41)))]) [0, 1, 2, 3, 4, 5, 6] (by decide) rfl
          have hens0 : rOK fs nq (reQ (tkO fs nq) enq qs) s_59 p_60 b_61 f_62 := (rOK_of he_63 (by unfold reQ; rw [if_neg (by omega)]; exact zE.symm))
          have hens1 : addE3 f_62 enq (enq + 1) (leL (tkO fs nq) qs) feF feC feM (upd feF enq r_7) (upd feC enq r_24) (upd feM enq r_41) := (absurd (show (stX (tkO fs nq) 0 q_40).2 = 0 by rw [← eq_49]; exact stX_z (t := (tkO fs nq)) (b := 1) (by rw [← eq_64, ← he_63.2.2.2]; exact c_95)) (stX0_ne hnq))
          exact W.vret hx hb hr (fun t ht hW => ⟨⟨(s_59, p_60, b_61, f_62, (enq + 1), (upd feF enq r_7), (upd feC enq r_24), (upd feM enq r_41)), rfl, ⟨hens0, hens1⟩, by rw [ht]; exact hP9, hD9⟩, hS.F ht⟩) hS.2.2 dX2_readEnd_106
    · skip
      refine lv_iconst (v := 1) hx hb dX2_readEnd_66 (by decide) ?_
      refine lv_goto (tgt := 71) hx hb dX2_readEnd_67 (by decide) ?_
      have hPc := hP.sub (ws' := [(h0, .inr (2, [.ref tO, .int s_35, .int p_36, .int b_37, .int f_38])), (tO, .inr (3, [.ref sA, .int (nI nq)])), (sA, .inl (cC, 1600, .inl fs))]) [4, 5, 6] rfl
      have hDc := hD.sub (ws' := [(h0, .inr (2, [.ref tO, .int s_35, .int p_36, .int b_37, .int f_38])), (tO, .inr (3, [.ref sA, .int (nI nq)])), (sA, .inl (cC, 1600, .inl fs))]) [4, 5, 6] (by decide) rfl
      have hFc := va_free (wc := [(h0, .inr (2, [.ref tO, .int s_35, .int p_36, .int b_37, .int f_38])), (tO, .inr (3, [.ref sA, .int (nI nq)])), (sA, .inl (cC, 1600, .inl fs))]) hD hS hA [4, 5, 6] rfl
      refine va_callv (va_runV (As := [.int 1]) (rest := []) ⟨hx, hb, hml, hown, hts⟩ (k_passIf l dC dI cI cZ cC cJ H.size  h0 tO s_35 p_36 b_37 f_38 sA nq fs 1 q_40 (by first | assumption | decide | omega) he_39) (cwV 1 hts gX2_readEnd_X2_passIf rfl rfl rfl (by decide +kernel) ⟨Nat.le_of_ble_eq_true rfl, Nat.le_of_ble_eq_true rfl⟩) ⟨sPre_blind, va_recv hK hPc (ci := 2) (q0 := 0) rfl rfl, fun U hU hW => ⟨rfl, sPre_ok hsk hPc hDc hU hW⟩⟩ rfl rfl hl.1 rfl (lv_room (Nat.le_of_ble_eq_true rfl)) dX2_readEnd_71 ⟨(show 0 + 0 ≤ 0 by omega), (show 0 + 0 ≤ 0 by omega)⟩) hS (fun q _ h => hFc q h) hFc (fun u t H1 locs ht hvm hw hB hz1 hk1 hS => ?_)
      obtain ⟨s_67, p_68, b_69, f_70⟩ := u
      try dsimp only at hw hB
      have he_71 := hw
      have he_71 : rOK fs nq (stX (tkO fs nq) 1 q_40) s_67 p_68 b_69 f_70 := he_71
      obtain ⟨q_72, eq_72⟩ : ∃ x9 : Nat × Int32, x9 = stX (tkO fs nq) 1 q_40 := ⟨_, rfl⟩
      rw [← eq_72] at he_71
      obtain ⟨hP1, hD1⟩ := hB
      rw [ht] at hP1
      obtain ⟨hP, hD⟩ := va_join (wr := [(g0, .inr (1, [.ref gF, .ref gK, .ref gT, .ref gC, .ref gM, .int gc, .ref eF, .ref eC, .ref eM, .int (nI enq), .ref hopA])), (eF, .inl (cI, 10, .inl feF)), (eC, .inl (cI, 10, .inl feC)), (eM, .inl (cI, 10, .inl feM))]) (w1 := [(h0, .inr (2, [.ref tO, .int s_67, .int p_68, .int b_69, .int f_70])), (tO, .inr (3, [.ref sA, .int (nI nq)])), (sA, .inl (cC, 1600, .inl fs))]) hP hD [4, 5, 6] [0, 1, 2, 3] rfl rfl (by decide) (by decide) hk1 hFc hP1 hD1
      generalize H1 = H at hP hS ⊢
      have hP : va_P (dC, dI) vwCl [(g0, .inr (1, [.ref gF, .ref gK, .ref gT, .ref gC, .ref gM, .int gc, .ref eF, .ref eC, .ref eM, .int (nI enq), .ref hopA])), (eF, .inl (cI, 10, .inl feF)), (eC, .inl (cI, 10, .inl feC)), (eM, .inl (cI, 10, .inl feM)), (h0, .inr (2, [.ref tO, .int s_67, .int p_68, .int b_69, .int f_70])), (tO, .inr (3, [.ref sA, .int (nI nq)])), (sA, .inl (cC, 1600, .inl fs))] H := hP
      have hD : va_D A [(g0, .inr (1, [.ref gF, .ref gK, .ref gT, .ref gC, .ref gM, .int gc, .ref eF, .ref eC, .ref eM, .int (nI enq), .ref hopA])), (eF, .inl (cI, 10, .inl feF)), (eC, .inl (cI, 10, .inl feC)), (eM, .inl (cI, 10, .inl feM)), (h0, .inr (2, [.ref tO, .int s_67, .int p_68, .int b_69, .int f_70])), (tO, .inr (3, [.ref sA, .int (nI nq)])), (sA, .inl (cC, 1600, .inl fs))] := hD
      have zO : stM (tkO fs nq) 9 (stW (tkO fs nq) 4 (leB (tkO fs nq) qs)) = q_72 := by rw [zC1, eq_72]; exact stM_iff (⟨fun z => absurd z (by decide), fun z => absurd (he_42.trans (emV_0.mpr z)) c_63⟩)
      refine lv_aload_n hx hb dX2_readEnd_74 rfl (lv_at hl 3 rfl) ?_
      refine lv_aload_n hx hb dX2_readEnd_75 rfl (lv_at hl 3 rfl) ?_
      refine va_get (D := (dC, dI)) (ci := 2) (v := .int s_67) (C := RX2) (T := TX2) (N := 5) hx hb hts i2 hown hK hP 4 rfl rfl 1 (by decide) (hts (.fieldLink RX2 32 "StopSetter$Reader" "sort" "I") (by decide +kernel)) (fun _ h9 => h9) rfl dX2_readEnd_76 ?_
      refine lv_iconst (v := 4) hx hb dX2_readEnd_79 (by decide) ?_
      refine lv_icmp_ne (tgt := 87) hx hb dX2_readEnd_80 (by decide) (fun c_80 => ?_) (fun c_80 => ?_)
      · skip
        refine lv_iconst (v := 0) hx hb dX2_readEnd_87 (by decide) ?_
        have hPc := hP.sub (ws' := [(h0, .inr (2, [.ref tO, .int s_67, .int p_68, .int b_69, .int f_70])), (tO, .inr (3, [.ref sA, .int (nI nq)])), (sA, .inl (cC, 1600, .inl fs))]) [4, 5, 6] rfl
        have hDc := hD.sub (ws' := [(h0, .inr (2, [.ref tO, .int s_67, .int p_68, .int b_69, .int f_70])), (tO, .inr (3, [.ref sA, .int (nI nq)])), (sA, .inl (cC, 1600, .inl fs))]) [4, 5, 6] (by decide) rfl
        have hFc := va_free (wc := [(h0, .inr (2, [.ref tO, .int s_67, .int p_68, .int b_69, .int f_70])), (tO, .inr (3, [.ref sA, .int (nI nq)])), (sA, .inl (cC, 1600, .inl fs))]) hD hS hA [4, 5, 6] rfl
        refine va_callv (va_runV (As := [.int 0]) (rest := []) ⟨hx, hb, hml, hown, hts⟩ (k_passIf l dC dI cI cZ cC cJ H.size  h0 tO s_67 p_68 b_69 f_70 sA nq fs 0 q_72 (by first | assumption | decide | omega) he_71) (cwV 1 hts gX2_readEnd_X2_passIf rfl rfl rfl (by decide +kernel) ⟨Nat.le_of_ble_eq_true rfl, Nat.le_of_ble_eq_true rfl⟩) ⟨sPre_blind, va_recv hK hPc (ci := 2) (q0 := 0) rfl rfl, fun U hU hW => ⟨rfl, sPre_ok hsk hPc hDc hU hW⟩⟩ rfl rfl hl.1 rfl (lv_room (Nat.le_of_ble_eq_true rfl)) dX2_readEnd_88 ⟨(show 0 + 0 ≤ 0 by omega), (show 0 + 0 ≤ 0 by omega)⟩) hS (fun q _ h => hFc q h) hFc (fun u t H1 locs ht hvm hw hB hz1 hk1 hS => ?_)
        obtain ⟨s_74, p_75, b_76, f_77⟩ := u
        try dsimp only at hw hB
        have he_78 := hw
        have he_78 : rOK fs nq (stX (tkO fs nq) 0 q_72) s_74 p_75 b_76 f_77 := he_78
        obtain ⟨q_79, eq_79⟩ : ∃ x9 : Nat × Int32, x9 = stX (tkO fs nq) 0 q_72 := ⟨_, rfl⟩
        rw [← eq_79] at he_78
        obtain ⟨hP1, hD1⟩ := hB
        rw [ht] at hP1
        obtain ⟨hP, hD⟩ := va_join (wr := [(g0, .inr (1, [.ref gF, .ref gK, .ref gT, .ref gC, .ref gM, .int gc, .ref eF, .ref eC, .ref eM, .int (nI enq), .ref hopA])), (eF, .inl (cI, 10, .inl feF)), (eC, .inl (cI, 10, .inl feC)), (eM, .inl (cI, 10, .inl feM))]) (w1 := [(h0, .inr (2, [.ref tO, .int s_74, .int p_75, .int b_76, .int f_77])), (tO, .inr (3, [.ref sA, .int (nI nq)])), (sA, .inl (cC, 1600, .inl fs))]) hP hD [4, 5, 6] [0, 1, 2, 3] rfl rfl (by decide) (by decide) hk1 hFc hP1 hD1
        generalize H1 = H at hP hS ⊢
        have hP : va_P (dC, dI) vwCl [(g0, .inr (1, [.ref gF, .ref gK, .ref gT, .ref gC, .ref gM, .int gc, .ref eF, .ref eC, .ref eM, .int (nI enq), .ref hopA])), (eF, .inl (cI, 10, .inl feF)), (eC, .inl (cI, 10, .inl feC)), (eM, .inl (cI, 10, .inl feM)), (h0, .inr (2, [.ref tO, .int s_74, .int p_75, .int b_76, .int f_77])), (tO, .inr (3, [.ref sA, .int (nI nq)])), (sA, .inl (cC, 1600, .inl fs))] H := hP
        have hD : va_D A [(g0, .inr (1, [.ref gF, .ref gK, .ref gT, .ref gC, .ref gM, .int gc, .ref eF, .ref eC, .ref eM, .int (nI enq), .ref hopA])), (eF, .inl (cI, 10, .inl feF)), (eC, .inl (cI, 10, .inl feC)), (eM, .inl (cI, 10, .inl feM)), (h0, .inr (2, [.ref tO, .int s_74, .int p_75, .int b_76, .int f_77])), (tO, .inr (3, [.ref sA, .int (nI nq)])), (sA, .inl (cC, 1600, .inl fs))] := hD
        have zE : leC (tkO fs nq) qs = q_79 := by unfold leC; rw [zO, eq_79]; exact stS_0 (show ¬ (tkO fs nq).S q_72.1 = 4 from fun z => c_80 (he_71.1.trans z))
        refine lv_aload_n hx hb dX2_readEnd_91 rfl (lv_at hl 3 rfl) ?_
        refine va_get (D := (dC, dI)) (ci := 2) (v := .int f_77) (C := RX2) (T := TX2) (N := 5) hx hb hts i2 hown hK hP 4 rfl rfl 4 (by decide) (hts (.fieldLink RX2 20 "StopSetter$Reader" "fault" "I") (by decide +kernel)) (fun _ h9 => h9) rfl dX2_readEnd_92 ?_
        refine lv_if_ne (tgt := 106) hx hb dX2_readEnd_95 (by decide) (fun c_95 => ?_) (fun c_95 => ?_)
        · skip
          have hP9 := hP.sub (ws' := [(h0, .inr (2, [.ref tO, .int s_74, .int p_75, .int b_76, .int f_77])), (tO, .inr (3, [.ref sA, .int (nI nq)])), (sA, .inl (cC, 1600, .inl fs)), (g0, .inr (1, [.ref gF, .ref gK, .ref gT, .ref gC, .ref gM, .int gc, .ref eF, .ref eC, .ref eM, .int (nI enq), .ref hopA])), (eF, .inl (cI, 10, .inl feF)), (eC, .inl (cI, 10, .inl feC)), (eM, .inl (cI, 10, .inl feM))]) [4, 5, 6, 0, 1, 2, 3] rfl
          have hD9 := hD.sub (ws' := [(h0, .inr (2, [.ref tO, .int s_74, .int p_75, .int b_76, .int f_77])), (tO, .inr (3, [.ref sA, .int (nI nq)])), (sA, .inl (cC, 1600, .inl fs)), (g0, .inr (1, [.ref gF, .ref gK, .ref gT, .ref gC, .ref gM, .int gc, .ref eF, .ref eC, .ref eM, .int (nI enq), .ref hopA])), (eF, .inl (cI, 10, .inl feF)), (eC, .inl (cI, 10, .inl feC)), (eM, .inl (cI, 10, .inl feM))]) [4, 5, 6, 0, 1, 2, 3] (by decide) rfl
          have hens0 : rOK fs nq (reQ (tkO fs nq) enq qs) s_74 p_75 b_76 f_77 := (rOK_of he_78 (by unfold reQ; rw [if_neg (by omega)]; exact zE.symm))
          have hens1 : addE3 f_77 enq enq (leL (tkO fs nq) qs) feF feC feM feF feC feM := (addE3_n c_95)
          exact W.vret hx hb hr (fun t ht hW => ⟨⟨(s_74, p_75, b_76, f_77, enq, feF, feC, feM), rfl, ⟨hens0, hens1⟩, by rw [ht]; exact hP9, hD9⟩, hS.F ht⟩) hS.2.2 dX2_readEnd_106
        · skip
          refine lv_aload_n hx hb dX2_readEnd_98 rfl (lv_at hl 4 rfl) ?_
          refine lv_iload_n hx hb dX2_readEnd_99 rfl (lv_at hl 2 rfl) ?_
          refine lv_iload_n hx hb dX2_readEnd_100 rfl (lv_at hl 1 rfl) ?_
          refine lv_iload hx hb dX2_readEnd_101 (lv_at hl 0 rfl) ?_
          have hPc := hP.sub (ws' := [(g0, .inr (1, [.ref gF, .ref gK, .ref gT, .ref gC, .ref gM, .int gc, .ref eF, .ref eC, .ref eM, .int (nI enq), .ref hopA])), (eF, .inl (cI, 10, .inl feF)), (eC, .inl (cI, 10, .inl feC)), (eM, .inl (cI, 10, .inl feM))]) [0, 1, 2, 3] rfl
          have hDc := hD.sub (ws' := [(g0, .inr (1, [.ref gF, .ref gK, .ref gT, .ref gC, .ref gM, .int gc, .ref eF, .ref eC, .ref eM, .int (nI enq), .ref hopA])), (eF, .inl (cI, 10, .inl feF)), (eC, .inl (cI, 10, .inl feC)), (eM, .inl (cI, 10, .inl feM))]) [0, 1, 2, 3] (by decide) rfl
          have hFc := va_free (wc := [(g0, .inr (1, [.ref gF, .ref gK, .ref gT, .ref gC, .ref gM, .int gc, .ref eF, .ref eC, .ref eM, .int (nI enq), .ref hopA])), (eF, .inl (cI, 10, .inl feF)), (eC, .inl (cI, 10, .inl feC)), (eM, .inl (cI, 10, .inl feM))]) hD hS hA [0, 1, 2, 3] rfl
          refine va_callv (va_runV (As := [.int r_7, .int r_24, .int r_41]) (rest := []) ⟨hx, hb, hml, hown, hts⟩ (k_addEnd l dC dI cI cZ cC cJ H.size  g0 gF gK gT gC gM gc eF eC eM enq hopA feF feC feM r_7 r_24 r_41 hg40) (cwV 3 hts gX2_readEnd_X1_addEnd rfl rfl rfl (by decide +kernel) ⟨Nat.le_of_ble_eq_true rfl, Nat.le_of_ble_eq_true rfl⟩) ⟨sPre_blind, va_recv hK hPc (ci := 1) (q0 := 0) rfl rfl, fun U hU hW => ⟨rfl, sPre_ok hsk hPc hDc hU hW⟩⟩ rfl rfl hl.1 rfl (lv_room (Nat.le_of_ble_eq_true rfl)) dX2_readEnd_103 ⟨(show 0 + 0 ≤ 0 by omega), (show 0 + 0 ≤ 0 by omega)⟩) hS (fun q _ h => hFc q h) hFc (fun u t H1 locs ht hvm hw hB hz1 hk1 hS => ?_)
          try dsimp only at hw hB
          obtain ⟨hP1, hD1⟩ := hB
          rw [ht] at hP1
          obtain ⟨hP, hD⟩ := va_join (wr := [(h0, .inr (2, [.ref tO, .int s_74, .int p_75, .int b_76, .int f_77])), (tO, .inr (3, [.ref sA, .int (nI nq)])), (sA, .inl (cC, 1600, .inl fs))]) (w1 := [(g0, .inr (1, [.ref gF, .ref gK, .ref gT, .ref gC, .ref gM, .int gc, .ref eF, .ref eC, .ref eM, .int (nI (enq + 1)), .ref hopA])), (eF, .inl (cI, 10, .inl (upd feF enq r_7))), (eC, .inl (cI, 10, .inl (upd feC enq r_24))), (eM, .inl (cI, 10, .inl (upd feM enq r_41)))]) hP hD [0, 1, 2, 3] [4, 5, 6] rfl rfl (by decide) (by decide) hk1 hFc hP1 hD1
          generalize H1 = H at hP hS ⊢
          have hP : va_P (dC, dI) vwCl [(h0, .inr (2, [.ref tO, .int s_74, .int p_75, .int b_76, .int f_77])), (tO, .inr (3, [.ref sA, .int (nI nq)])), (sA, .inl (cC, 1600, .inl fs)), (g0, .inr (1, [.ref gF, .ref gK, .ref gT, .ref gC, .ref gM, .int gc, .ref eF, .ref eC, .ref eM, .int (nI (enq + 1)), .ref hopA])), (eF, .inl (cI, 10, .inl (upd feF enq r_7))), (eC, .inl (cI, 10, .inl (upd feC enq r_24))), (eM, .inl (cI, 10, .inl (upd feM enq r_41)))] H := hP
          have hD : va_D A [(h0, .inr (2, [.ref tO, .int s_74, .int p_75, .int b_76, .int f_77])), (tO, .inr (3, [.ref sA, .int (nI nq)])), (sA, .inl (cC, 1600, .inl fs)), (g0, .inr (1, [.ref gF, .ref gK, .ref gT, .ref gC, .ref gM, .int gc, .ref eF, .ref eC, .ref eM, .int (nI (enq + 1)), .ref hopA])), (eF, .inl (cI, 10, .inl (upd feF enq r_7))), (eC, .inl (cI, 10, .inl (upd feC enq r_24))), (eM, .inl (cI, 10, .inl (upd feM enq r_41)))] := hD
          have hP9 := hP.sub (ws' := [(h0, .inr (2, [.ref tO, .int s_74, .int p_75, .int b_76, .int f_77])), (tO, .inr (3, [.ref sA, .int (nI nq)])), (sA, .inl (cC, 1600, .inl fs)), (g0, .inr (1, [.ref gF, .ref gK, .ref gT, .ref gC, .ref gM, .int gc, .ref eF, .ref eC, .ref eM, .int (nI (enq + 1)), .ref hopA])), (eF, .inl (cI, 10, .inl (upd feF enq r_7))), (eC, .inl (cI, 10, .inl (upd feC enq r_24))), (eM, .inl (cI, 10, .inl (upd feM enq r_41)))]) [0, 1, 2, 3, 4, 5, 6] rfl
          have hD9 := hD.sub (ws' := [(h0, .inr (2, [.ref tO, .int s_74, .int p_75, .int b_76, .int f_77])), (tO, .inr (3, [.ref sA, .int (nI nq)])), (sA, .inl (cC, 1600, .inl fs)), (g0, .inr (1, [.ref gF, .ref gK, .ref gT, .ref gC, .ref gM, .int gc, .ref eF, .ref eC, .ref eM, .int (nI (enq + 1)), .ref hopA])), (eF, .inl (cI, 10, .inl (upd feF enq r_7))), (eC, .inl (cI, 10, .inl (upd feC enq r_24))), (eM, .inl (cI, 10, .inl (upd feM enq r_41)))]) [0, 1, 2, 3, 4, 5, 6] (by decide) rfl
          have hens0 : rOK fs nq (reQ (tkO fs nq) enq qs) s_74 p_75 b_76 f_77 := (rOK_of he_78 (by unfold reQ; rw [if_neg (by omega)]; exact zE.symm))
          have hens1 : addE3 f_77 enq (enq + 1) (leL (tkO fs nq) qs) feF feC feM (upd feF enq r_7) (upd feC enq r_24) (upd feM enq r_41) := (addE3_y c_95 (by unfold leL; rw [zB1, zC1, ← zq1, ← he_12, ← he_29, ← emV_n (fun z => c_63 (he_42.trans (emV_0.mpr z))), ← he_42]))
          exact W.vret hx hb hr (fun t ht hW => ⟨⟨(s_74, p_75, b_76, f_77, (enq + 1), (upd feF enq r_7), (upd feC enq r_24), (upd feM enq r_41)), rfl, ⟨hens0, hens1⟩, by rw [ht]; exact hP9, hD9⟩, hS.F ht⟩) hS.2.2 dX2_readEnd_106
      · skip
        refine lv_iconst (v := 1) hx hb dX2_readEnd_83 (by decide) ?_
        refine lv_goto (tgt := 88) hx hb dX2_readEnd_84 (by decide) ?_
        have hPc := hP.sub (ws' := [(h0, .inr (2, [.ref tO, .int s_67, .int p_68, .int b_69, .int f_70])), (tO, .inr (3, [.ref sA, .int (nI nq)])), (sA, .inl (cC, 1600, .inl fs))]) [4, 5, 6] rfl
        have hDc := hD.sub (ws' := [(h0, .inr (2, [.ref tO, .int s_67, .int p_68, .int b_69, .int f_70])), (tO, .inr (3, [.ref sA, .int (nI nq)])), (sA, .inl (cC, 1600, .inl fs))]) [4, 5, 6] (by decide) rfl
        have hFc := va_free (wc := [(h0, .inr (2, [.ref tO, .int s_67, .int p_68, .int b_69, .int f_70])), (tO, .inr (3, [.ref sA, .int (nI nq)])), (sA, .inl (cC, 1600, .inl fs))]) hD hS hA [4, 5, 6] rfl
        refine va_callv (va_runV (As := [.int 1]) (rest := []) ⟨hx, hb, hml, hown, hts⟩ (k_passIf l dC dI cI cZ cC cJ H.size  h0 tO s_67 p_68 b_69 f_70 sA nq fs 1 q_72 (by first | assumption | decide | omega) he_71) (cwV 1 hts gX2_readEnd_X2_passIf rfl rfl rfl (by decide +kernel) ⟨Nat.le_of_ble_eq_true rfl, Nat.le_of_ble_eq_true rfl⟩) ⟨sPre_blind, va_recv hK hPc (ci := 2) (q0 := 0) rfl rfl, fun U hU hW => ⟨rfl, sPre_ok hsk hPc hDc hU hW⟩⟩ rfl rfl hl.1 rfl (lv_room (Nat.le_of_ble_eq_true rfl)) dX2_readEnd_88 ⟨(show 0 + 0 ≤ 0 by omega), (show 0 + 0 ≤ 0 by omega)⟩) hS (fun q _ h => hFc q h) hFc (fun u t H1 locs ht hvm hw hB hz1 hk1 hS => ?_)
        obtain ⟨s_82, p_83, b_84, f_85⟩ := u
        try dsimp only at hw hB
        have he_86 := hw
        have he_86 : rOK fs nq (stX (tkO fs nq) 1 q_72) s_82 p_83 b_84 f_85 := he_86
        obtain ⟨q_87, eq_87⟩ : ∃ x9 : Nat × Int32, x9 = stX (tkO fs nq) 1 q_72 := ⟨_, rfl⟩
        rw [← eq_87] at he_86
        obtain ⟨hP1, hD1⟩ := hB
        rw [ht] at hP1
        obtain ⟨hP, hD⟩ := va_join (wr := [(g0, .inr (1, [.ref gF, .ref gK, .ref gT, .ref gC, .ref gM, .int gc, .ref eF, .ref eC, .ref eM, .int (nI enq), .ref hopA])), (eF, .inl (cI, 10, .inl feF)), (eC, .inl (cI, 10, .inl feC)), (eM, .inl (cI, 10, .inl feM))]) (w1 := [(h0, .inr (2, [.ref tO, .int s_82, .int p_83, .int b_84, .int f_85])), (tO, .inr (3, [.ref sA, .int (nI nq)])), (sA, .inl (cC, 1600, .inl fs))]) hP hD [4, 5, 6] [0, 1, 2, 3] rfl rfl (by decide) (by decide) hk1 hFc hP1 hD1
        generalize H1 = H at hP hS ⊢
        have hP : va_P (dC, dI) vwCl [(g0, .inr (1, [.ref gF, .ref gK, .ref gT, .ref gC, .ref gM, .int gc, .ref eF, .ref eC, .ref eM, .int (nI enq), .ref hopA])), (eF, .inl (cI, 10, .inl feF)), (eC, .inl (cI, 10, .inl feC)), (eM, .inl (cI, 10, .inl feM)), (h0, .inr (2, [.ref tO, .int s_82, .int p_83, .int b_84, .int f_85])), (tO, .inr (3, [.ref sA, .int (nI nq)])), (sA, .inl (cC, 1600, .inl fs))] H := hP
        have hD : va_D A [(g0, .inr (1, [.ref gF, .ref gK, .ref gT, .ref gC, .ref gM, .int gc, .ref eF, .ref eC, .ref eM, .int (nI enq), .ref hopA])), (eF, .inl (cI, 10, .inl feF)), (eC, .inl (cI, 10, .inl feC)), (eM, .inl (cI, 10, .inl feM)), (h0, .inr (2, [.ref tO, .int s_82, .int p_83, .int b_84, .int f_85])), (tO, .inr (3, [.ref sA, .int (nI nq)])), (sA, .inl (cC, 1600, .inl fs))] := hD
        have zE : leC (tkO fs nq) qs = q_87 := by unfold leC; rw [zO, eq_87]; exact stS_1 (show (tkO fs nq).S q_72.1 = 4 from he_71.1.symm.trans c_80)
        refine lv_aload_n hx hb dX2_readEnd_91 rfl (lv_at hl 3 rfl) ?_
        refine va_get (D := (dC, dI)) (ci := 2) (v := .int f_85) (C := RX2) (T := TX2) (N := 5) hx hb hts i2 hown hK hP 4 rfl rfl 4 (by decide) (hts (.fieldLink RX2 20 "StopSetter$Reader" "fault" "I") (by decide +kernel)) (fun _ h9 => h9) rfl dX2_readEnd_92 ?_
        refine lv_if_ne (tgt := 106) hx hb dX2_readEnd_95 (by decide) (fun c_95 => ?_) (fun c_95 => ?_)
        · skip
          have hP9 := hP.sub (ws' := [(h0, .inr (2, [.ref tO, .int s_82, .int p_83, .int b_84, .int f_85])), (tO, .inr (3, [.ref sA, .int (nI nq)])), (sA, .inl (cC, 1600, .inl fs)), (g0, .inr (1, [.ref gF, .ref gK, .ref gT, .ref gC, .ref gM, .int gc, .ref eF, .ref eC, .ref eM, .int (nI enq), .ref hopA])), (eF, .inl (cI, 10, .inl feF)), (eC, .inl (cI, 10, .inl feC)), (eM, .inl (cI, 10, .inl feM))]) [4, 5, 6, 0, 1, 2, 3] rfl
          have hD9 := hD.sub (ws' := [(h0, .inr (2, [.ref tO, .int s_82, .int p_83, .int b_84, .int f_85])), (tO, .inr (3, [.ref sA, .int (nI nq)])), (sA, .inl (cC, 1600, .inl fs)), (g0, .inr (1, [.ref gF, .ref gK, .ref gT, .ref gC, .ref gM, .int gc, .ref eF, .ref eC, .ref eM, .int (nI enq), .ref hopA])), (eF, .inl (cI, 10, .inl feF)), (eC, .inl (cI, 10, .inl feC)), (eM, .inl (cI, 10, .inl feM))]) [4, 5, 6, 0, 1, 2, 3] (by decide) rfl
          have hens0 : rOK fs nq (reQ (tkO fs nq) enq qs) s_82 p_83 b_84 f_85 := (rOK_of he_86 (by unfold reQ; rw [if_neg (by omega)]; exact zE.symm))
          have hens1 : addE3 f_85 enq enq (leL (tkO fs nq) qs) feF feC feM feF feC feM := (addE3_n c_95)
          exact W.vret hx hb hr (fun t ht hW => ⟨⟨(s_82, p_83, b_84, f_85, enq, feF, feC, feM), rfl, ⟨hens0, hens1⟩, by rw [ht]; exact hP9, hD9⟩, hS.F ht⟩) hS.2.2 dX2_readEnd_106
        · skip
          refine lv_aload_n hx hb dX2_readEnd_98 rfl (lv_at hl 4 rfl) ?_
          refine lv_iload_n hx hb dX2_readEnd_99 rfl (lv_at hl 2 rfl) ?_
          refine lv_iload_n hx hb dX2_readEnd_100 rfl (lv_at hl 1 rfl) ?_
          refine lv_iload hx hb dX2_readEnd_101 (lv_at hl 0 rfl) ?_
          have hPc := hP.sub (ws' := [(g0, .inr (1, [.ref gF, .ref gK, .ref gT, .ref gC, .ref gM, .int gc, .ref eF, .ref eC, .ref eM, .int (nI enq), .ref hopA])), (eF, .inl (cI, 10, .inl feF)), (eC, .inl (cI, 10, .inl feC)), (eM, .inl (cI, 10, .inl feM))]) [0, 1, 2, 3] rfl
          have hDc := hD.sub (ws' := [(g0, .inr (1, [.ref gF, .ref gK, .ref gT, .ref gC, .ref gM, .int gc, .ref eF, .ref eC, .ref eM, .int (nI enq), .ref hopA])), (eF, .inl (cI, 10, .inl feF)), (eC, .inl (cI, 10, .inl feC)), (eM, .inl (cI, 10, .inl feM))]) [0, 1, 2, 3] (by decide) rfl
          have hFc := va_free (wc := [(g0, .inr (1, [.ref gF, .ref gK, .ref gT, .ref gC, .ref gM, .int gc, .ref eF, .ref eC, .ref eM, .int (nI enq), .ref hopA])), (eF, .inl (cI, 10, .inl feF)), (eC, .inl (cI, 10, .inl feC)), (eM, .inl (cI, 10, .inl feM))]) hD hS hA [0, 1, 2, 3] rfl
          refine va_callv (va_runV (As := [.int r_7, .int r_24, .int r_41]) (rest := []) ⟨hx, hb, hml, hown, hts⟩ (k_addEnd l dC dI cI cZ cC cJ H.size  g0 gF gK gT gC gM gc eF eC eM enq hopA feF feC feM r_7 r_24 r_41 hg40) (cwV 3 hts gX2_readEnd_X1_addEnd rfl rfl rfl (by decide +kernel) ⟨Nat.le_of_ble_eq_true rfl, Nat.le_of_ble_eq_true rfl⟩) ⟨sPre_blind, va_recv hK hPc (ci := 1) (q0 := 0) rfl rfl, fun U hU hW => ⟨rfl, sPre_ok hsk hPc hDc hU hW⟩⟩ rfl rfl hl.1 rfl (lv_room (Nat.le_of_ble_eq_true rfl)) dX2_readEnd_103 ⟨(show 0 + 0 ≤ 0 by omega), (show 0 + 0 ≤ 0 by omega)⟩) hS (fun q _ h => hFc q h) hFc (fun u t H1 locs ht hvm hw hB hz1 hk1 hS => ?_)
          try dsimp only at hw hB
          obtain ⟨hP1, hD1⟩ := hB
          rw [ht] at hP1
          obtain ⟨hP, hD⟩ := va_join (wr := [(h0, .inr (2, [.ref tO, .int s_82, .int p_83, .int b_84, .int f_85])), (tO, .inr (3, [.ref sA, .int (nI nq)])), (sA, .inl (cC, 1600, .inl fs))]) (w1 := [(g0, .inr (1, [.ref gF, .ref gK, .ref gT, .ref gC, .ref gM, .int gc, .ref eF, .ref eC, .ref eM, .int (nI (enq + 1)), .ref hopA])), (eF, .inl (cI, 10, .inl (upd feF enq r_7))), (eC, .inl (cI, 10, .inl (upd feC enq r_24))), (eM, .inl (cI, 10, .inl (upd feM enq r_41)))]) hP hD [0, 1, 2, 3] [4, 5, 6] rfl rfl (by decide) (by decide) hk1 hFc hP1 hD1
          generalize H1 = H at hP hS ⊢
          have hP : va_P (dC, dI) vwCl [(h0, .inr (2, [.ref tO, .int s_82, .int p_83, .int b_84, .int f_85])), (tO, .inr (3, [.ref sA, .int (nI nq)])), (sA, .inl (cC, 1600, .inl fs)), (g0, .inr (1, [.ref gF, .ref gK, .ref gT, .ref gC, .ref gM, .int gc, .ref eF, .ref eC, .ref eM, .int (nI (enq + 1)), .ref hopA])), (eF, .inl (cI, 10, .inl (upd feF enq r_7))), (eC, .inl (cI, 10, .inl (upd feC enq r_24))), (eM, .inl (cI, 10, .inl (upd feM enq r_41)))] H := hP
          have hD : va_D A [(h0, .inr (2, [.ref tO, .int s_82, .int p_83, .int b_84, .int f_85])), (tO, .inr (3, [.ref sA, .int (nI nq)])), (sA, .inl (cC, 1600, .inl fs)), (g0, .inr (1, [.ref gF, .ref gK, .ref gT, .ref gC, .ref gM, .int gc, .ref eF, .ref eC, .ref eM, .int (nI (enq + 1)), .ref hopA])), (eF, .inl (cI, 10, .inl (upd feF enq r_7))), (eC, .inl (cI, 10, .inl (upd feC enq r_24))), (eM, .inl (cI, 10, .inl (upd feM enq r_41)))] := hD
          have hP9 := hP.sub (ws' := [(h0, .inr (2, [.ref tO, .int s_82, .int p_83, .int b_84, .int f_85])), (tO, .inr (3, [.ref sA, .int (nI nq)])), (sA, .inl (cC, 1600, .inl fs)), (g0, .inr (1, [.ref gF, .ref gK, .ref gT, .ref gC, .ref gM, .int gc, .ref eF, .ref eC, .ref eM, .int (nI (enq + 1)), .ref hopA])), (eF, .inl (cI, 10, .inl (upd feF enq r_7))), (eC, .inl (cI, 10, .inl (upd feC enq r_24))), (eM, .inl (cI, 10, .inl (upd feM enq r_41)))]) [0, 1, 2, 3, 4, 5, 6] rfl
          have hD9 := hD.sub (ws' := [(h0, .inr (2, [.ref tO, .int s_82, .int p_83, .int b_84, .int f_85])), (tO, .inr (3, [.ref sA, .int (nI nq)])), (sA, .inl (cC, 1600, .inl fs)), (g0, .inr (1, [.ref gF, .ref gK, .ref gT, .ref gC, .ref gM, .int gc, .ref eF, .ref eC, .ref eM, .int (nI (enq + 1)), .ref hopA])), (eF, .inl (cI, 10, .inl (upd feF enq r_7))), (eC, .inl (cI, 10, .inl (upd feC enq r_24))), (eM, .inl (cI, 10, .inl (upd feM enq r_41)))]) [0, 1, 2, 3, 4, 5, 6] (by decide) rfl
          have hens0 : rOK fs nq (reQ (tkO fs nq) enq qs) s_82 p_83 b_84 f_85 := (rOK_of he_86 (by unfold reQ; rw [if_neg (by omega)]; exact zE.symm))
          have hens1 : addE3 f_85 enq (enq + 1) (leL (tkO fs nq) qs) feF feC feM (upd feF enq r_7) (upd feC enq r_24) (upd feM enq r_41) := (addE3_y c_95 (by unfold leL; rw [zB1, zC1, ← zq1, ← he_12, ← he_29, ← emV_n (fun z => c_63 (he_42.trans (emV_0.mpr z))), ← he_42]))
          exact W.vret hx hb hr (fun t ht hW => ⟨⟨(s_82, p_83, b_84, f_85, (enq + 1), (upd feF enq r_7), (upd feC enq r_24), (upd feM enq r_41)), rfl, ⟨hens0, hens1⟩, by rw [ht]; exact hP9, hD9⟩, hS.F ht⟩) hS.2.2 dX2_readEnd_106
  · skip
    have hrg : reQ (tkO fs nq) enq qs = flt (tkO fs nq) 5 qs := by unfold reQ; rw [if_pos (by have : ¬ enq < 10 := fun z => c_6 (nI_lt (a := enq) (b := 10) z (by decide)); omega)]
    refine lv_aload_n hx hb dX2_readEnd_9 rfl (lv_at hl 0 rfl) ?_
    refine lv_iconst (v := 5) hx hb dX2_readEnd_10 (by decide) ?_
    have hPc := hP.sub (ws' := [(h0, .inr (2, [.ref tO, .int so, .int pl, .int bh, .int fa_]))]) [0] rfl
    have hDc := hD.sub (ws' := [(h0, .inr (2, [.ref tO, .int so, .int pl, .int bh, .int fa_]))]) [0] (by decide) rfl
    have hFc := va_free (wc := [(h0, .inr (2, [.ref tO, .int so, .int pl, .int bh, .int fa_]))]) hD hS hA [0] rfl
    refine va_callv (va_runV (As := [.int 5]) (rest := []) ⟨hx, hb, hml, hown, hts⟩ (k_refuse l dC dI cI cZ cC cJ s.heap.size  h0 tO so pl bh fa_ 5 fs nq qs hR) (cwV 1 hts gX2_readEnd_X2_refuse rfl rfl rfl (by decide +kernel) ⟨Nat.le_of_ble_eq_true rfl, Nat.le_of_ble_eq_true rfl⟩) ⟨sPre_blind, va_recv hK hPc (ci := 2) (q0 := 0) rfl rfl, fun U hU hW => ⟨rfl, sPre_ok hsk hPc hDc hU hW⟩⟩ rfl rfl hl.1 rfl (lv_room (Nat.le_of_ble_eq_true rfl)) dX2_readEnd_11 ⟨(show 0 + 0 ≤ 0 by omega), (show 0 + 0 ≤ 0 by omega)⟩) hS (fun q _ h => hFc q h) hFc (fun u t H1 locs ht hvm hw hB hz1 hk1 hS => ?_)
    obtain ⟨f_90, rfl⟩ : ∃ z, z = u := ⟨_, rfl⟩
    try dsimp only at hw hB
    have he_91 := hw
    have he_91 : rOK fs nq (stR (tkO fs nq) 5 qs) so pl bh f_90 := he_91
    obtain ⟨q_92, eq_92⟩ : ∃ x9 : Nat × Int32, x9 = stR (tkO fs nq) 5 qs := ⟨_, rfl⟩
    rw [← eq_92] at he_91
    obtain ⟨hP1, hD1⟩ := hB
    rw [ht] at hP1
    obtain ⟨hP, hD⟩ := va_join (wr := [(tO, .inr (3, [.ref sA, .int (nI nq)])), (sA, .inl (cC, 1600, .inl fs)), (g0, .inr (1, [.ref gF, .ref gK, .ref gT, .ref gC, .ref gM, .int gc, .ref eF, .ref eC, .ref eM, .int (nI enq), .ref hopA])), (eF, .inl (cI, 10, .inl feF)), (eC, .inl (cI, 10, .inl feC)), (eM, .inl (cI, 10, .inl feM))]) (w1 := [(h0, .inr (2, [.ref tO, .int so, .int pl, .int bh, .int f_90]))]) hP hD [0] [1, 2, 3, 4, 5, 6] rfl rfl (by decide) (by decide) hk1 hFc hP1 hD1
    generalize H1 = H at hP hS ⊢
    have hP : va_P (dC, dI) vwCl [(tO, .inr (3, [.ref sA, .int (nI nq)])), (sA, .inl (cC, 1600, .inl fs)), (g0, .inr (1, [.ref gF, .ref gK, .ref gT, .ref gC, .ref gM, .int gc, .ref eF, .ref eC, .ref eM, .int (nI enq), .ref hopA])), (eF, .inl (cI, 10, .inl feF)), (eC, .inl (cI, 10, .inl feC)), (eM, .inl (cI, 10, .inl feM)), (h0, .inr (2, [.ref tO, .int so, .int pl, .int bh, .int f_90]))] H := hP
    have hD : va_D A [(tO, .inr (3, [.ref sA, .int (nI nq)])), (sA, .inl (cC, 1600, .inl fs)), (g0, .inr (1, [.ref gF, .ref gK, .ref gT, .ref gC, .ref gM, .int gc, .ref eF, .ref eC, .ref eM, .int (nI enq), .ref hopA])), (eF, .inl (cI, 10, .inl feF)), (eC, .inl (cI, 10, .inl feC)), (eM, .inl (cI, 10, .inl feM)), (h0, .inr (2, [.ref tO, .int so, .int pl, .int bh, .int f_90]))] := hD
    have hP9 := hP.sub (ws' := [(h0, .inr (2, [.ref tO, .int so, .int pl, .int bh, .int f_90])), (tO, .inr (3, [.ref sA, .int (nI nq)])), (sA, .inl (cC, 1600, .inl fs)), (g0, .inr (1, [.ref gF, .ref gK, .ref gT, .ref gC, .ref gM, .int gc, .ref eF, .ref eC, .ref eM, .int (nI enq), .ref hopA])), (eF, .inl (cI, 10, .inl feF)), (eC, .inl (cI, 10, .inl feC)), (eM, .inl (cI, 10, .inl feM))]) [6, 0, 1, 2, 3, 4, 5] rfl
    have hD9 := hD.sub (ws' := [(h0, .inr (2, [.ref tO, .int so, .int pl, .int bh, .int f_90])), (tO, .inr (3, [.ref sA, .int (nI nq)])), (sA, .inl (cC, 1600, .inl fs)), (g0, .inr (1, [.ref gF, .ref gK, .ref gT, .ref gC, .ref gM, .int gc, .ref eF, .ref eC, .ref eM, .int (nI enq), .ref hopA])), (eF, .inl (cI, 10, .inl feF)), (eC, .inl (cI, 10, .inl feC)), (eM, .inl (cI, 10, .inl feM))]) [6, 0, 1, 2, 3, 4, 5] (by decide) rfl
    have hens0 : rOK fs nq (reQ (tkO fs nq) enq qs) so pl bh f_90 := (rOK_of he_91 ((eq_92.trans hst).trans hrg.symm))
    have hens1 : addE3 f_90 enq enq (leL (tkO fs nq) qs) feF feC feM feF feC feM := (addE3_n (fun z => flt_ne (f := fs) (n := nq) (k := 5) (q := qs) hnq (by decide) (by decide) (((congrArg Prod.snd (eq_92.trans hst)).symm.trans he_91.2.2.2.symm).trans z)))
    exact W.vret hx hb hr (fun t ht hW => ⟨⟨(so, pl, bh, f_90, enq, feF, feC, feM), rfl, ⟨hens0, hens1⟩, by rw [ht]; exact hP9, hD9⟩, hS.F ht⟩) hS.2.2 dX2_readEnd_14
set_option maxHeartbeats 4000000 in
set_option maxRecDepth 100000 in
theorem k_read (l : Launch) (dC : Nat → ClassId) (dI : Nat → Nat → Nat) (cI cZ cC cJ : ClassId) (sz : Nat) (adK adV : Nat → Nat) (h0 : Nat) (tO : Nat) (so : Int32) (pl : Int32) (bh : Int32) (fa_ : Int32) (sA : Nat) (nq : Nat) (fs : Nat → Int32) (g0 : Nat) (gF : Nat) (gK : Nat) (gT : Nat) (gC : Nat) (gM : Nat) (gc : Int32) (eF : Nat) (eC : Nat) (eM : Nat) (ec : Int32) (hopA : Nat) (fgF : Nat → Int32) (fgK : Nat → Int32) (fgT : Nat → Int32) (fgC : Nat → Int32) (fgM : Nat → Int32) (feF : Nat → Int32) (feC : Nat → Int32) (feM : Nat → Int32) (hnq : nq ≤ 1600) : Met l yX2_read wsX2_read ({ frames := 7, cells := 0, slots := 0, locals := 153 }) (va_Pc [.ref h0, .ref g0] (fun U => sPre dC dI cI cZ cC cJ [(h0, .inr (2, [.ref tO, .int so, .int pl, .int bh, .int fa_])), (tO, .inr (3, [.ref sA, .int (nI nq)])), (sA, .inl (cC, 1600, .inl fs)), (g0, .inr (1, [.ref gF, .ref gK, .ref gT, .ref gC, .ref gM, .int gc, .ref eF, .ref eC, .ref eM, .int ec, .ref hopA])), (gF, .inl (cI, 40, .inl fgF)), (gK, .inl (cI, 40, .inl fgK)), (gT, .inl (cI, 40, .inl fgT)), (gC, .inl (cI, 40, .inl fgC)), (gM, .inl (cI, 40, .inl fgM)), (eF, .inl (cI, 10, .inl feF)), (eC, .inl (cI, 10, .inl feC)), (eM, .inl (cI, 10, .inl feM))] sz U ∧ tW adK adV (va_A [(h0, .inr (2, [.ref tO, .int so, .int pl, .int bh, .int fa_])), (tO, .inr (3, [.ref sA, .int (nI nq)])), (sA, .inl (cC, 1600, .inl fs)), (g0, .inr (1, [.ref gF, .ref gK, .ref gT, .ref gC, .ref gM, .int gc, .ref eF, .ref eC, .ref eM, .int ec, .ref hopA])), (gF, .inl (cI, 40, .inl fgF)), (gK, .inl (cI, 40, .inl fgK)), (gT, .inl (cI, 40, .inl fgT)), (gC, .inl (cI, 40, .inl fgC)), (gM, .inl (cI, 40, .inl fgM)), (eF, .inl (cI, 10, .inl feF)), (eC, .inl (cI, 10, .inl feC)), (eM, .inl (cI, 10, .inl feM))] sz) U)) (va_Qi (fun (r : Int32) (u : (Int32) × (Int32) × (Int32) × (Int32) × (Int32) × (Nat → Int32) × (Nat → Int32) × (Nat → Int32) × (Nat → Int32) × (Nat → Int32) × (Int32) × (Nat → Int32) × (Nat → Int32) × (Nat → Int32)) => match u with | (so2, pl2, bh2, fa_2, gc2, fgF2, fgK2, fgT2, fgC2, fgM2, ec2, feF2, feC2, feM2) => ((r : Int32) = (rdAll (tkO fs nq)).1.2) ∧ (lnC (rdAll (tkO fs nq)).2 gc2 ec2 fgF2 fgK2 fgT2 fgC2 fgM2 feF2 feC2 feM2)) (fun (u : (Int32) × (Int32) × (Int32) × (Int32) × (Int32) × (Nat → Int32) × (Nat → Int32) × (Nat → Int32) × (Nat → Int32) × (Nat → Int32) × (Int32) × (Nat → Int32) × (Nat → Int32) × (Nat → Int32)) t => match u with | (so2, pl2, bh2, fa_2, gc2, fgF2, fgK2, fgT2, fgC2, fgM2, ec2, feF2, feC2, feM2) => sB dC dI (va_A [(h0, .inr (2, [.ref tO, .int so, .int pl, .int bh, .int fa_])), (tO, .inr (3, [.ref sA, .int (nI nq)])), (sA, .inl (cC, 1600, .inl fs)), (g0, .inr (1, [.ref gF, .ref gK, .ref gT, .ref gC, .ref gM, .int gc, .ref eF, .ref eC, .ref eM, .int ec, .ref hopA])), (gF, .inl (cI, 40, .inl fgF)), (gK, .inl (cI, 40, .inl fgK)), (gT, .inl (cI, 40, .inl fgT)), (gC, .inl (cI, 40, .inl fgC)), (gM, .inl (cI, 40, .inl fgM)), (eF, .inl (cI, 10, .inl feF)), (eC, .inl (cI, 10, .inl feC)), (eM, .inl (cI, 10, .inl feM))] sz) [(h0, .inr (2, [.ref tO, .int so2, .int pl2, .int bh2, .int fa_2])), (tO, .inr (3, [.ref sA, .int (nI nq)])), (sA, .inl (cC, 1600, .inl fs)), (g0, .inr (1, [.ref gF, .ref gK, .ref gT, .ref gC, .ref gM, .int gc2, .ref eF, .ref eC, .ref eM, .int ec2, .ref hopA])), (gF, .inl (cI, 40, .inl fgF2)), (gK, .inl (cI, 40, .inl fgK2)), (gT, .inl (cI, 40, .inl fgT2)), (gC, .inl (cI, 40, .inl fgC2)), (gM, .inl (cI, 40, .inl fgM2)), (eF, .inl (cI, 10, .inl feF2)), (eC, .inl (cI, 10, .inl feC2)), (eM, .inl (cI, 10, .inl feM2))] t) (va_A [(h0, .inr (2, [.ref tO, .int so, .int pl, .int bh, .int fa_])), (tO, .inr (3, [.ref sA, .int (nI nq)])), (sA, .inl (cC, 1600, .inl fs)), (g0, .inr (1, [.ref gF, .ref gK, .ref gT, .ref gC, .ref gM, .int gc, .ref eF, .ref eC, .ref eM, .int ec, .ref hopA])), (gF, .inl (cI, 40, .inl fgF)), (gK, .inl (cI, 40, .inl fgK)), (gT, .inl (cI, 40, .inl fgT)), (gC, .inl (cI, 40, .inl fgC)), (gM, .inl (cI, 40, .inl fgM)), (eF, .inl (cI, 10, .inl feF)), (eC, .inl (cI, 10, .inl feC)), (eM, .inl (cI, 10, .inl feM))] sz)) 0 0 (va_A [(h0, .inr (2, [.ref tO, .int so, .int pl, .int bh, .int fa_])), (tO, .inr (3, [.ref sA, .int (nI nq)])), (sA, .inl (cC, 1600, .inl fs)), (g0, .inr (1, [.ref gF, .ref gK, .ref gT, .ref gC, .ref gM, .int gc, .ref eF, .ref eC, .ref eM, .int ec, .ref hopA])), (gF, .inl (cI, 40, .inl fgF)), (gK, .inl (cI, 40, .inl fgK)), (gT, .inl (cI, 40, .inl fgT)), (gC, .inl (cI, 40, .inl fgC)), (gM, .inl (cI, 40, .inl fgM)), (eF, .inl (cI, 10, .inl feF)), (eC, .inl (cI, 10, .inl feC)), (eM, .inl (cI, 10, .inl feM))] sz) := by
  refine Met.ofW (cc := cX2_read) (maxL := 3) (ret := (some .int)) (by decide) rfl ?_
  intro p e s m args below meth c s₁ B hml hv
  obtain ⟨rfl, ⟨hsz, hP, hsk, hD0⟩, htw⟩ := hv
  have hx := B.exec
  have hb := B.bytes
  have hr := B.returns
  have hts := atoms_spec (ws := wsX2_read) B.pre
  have hown : s.vm.findClass RX2 = some m.cls := findClass_of_methodNamed B.named
  have hlocks := B.notSynchronized
  have hK := hsk.1
  have i2 : ∀ w ∈ wsX20, w ∈ wsX2_read := by decide +kernel
  subst hsz
  have hD := hD0.self (sz := s.heap.size)
  generalize hAe : va_A [(h0, .inr (2, [.ref tO, .int so, .int pl, .int bh, .int fa_])), (tO, .inr (3, [.ref sA, .int (nI nq)])), (sA, .inl (cC, 1600, .inl fs)), (g0, .inr (1, [.ref gF, .ref gK, .ref gT, .ref gC, .ref gM, .int gc, .ref eF, .ref eC, .ref eM, .int ec, .ref hopA])), (gF, .inl (cI, 40, .inl fgF)), (gK, .inl (cI, 40, .inl fgK)), (gT, .inl (cI, 40, .inl fgT)), (gC, .inl (cI, 40, .inl fgC)), (gM, .inl (cI, 40, .inl fgM)), (eF, .inl (cI, 10, .inl feF)), (eC, .inl (cI, 10, .inl feC)), (eM, .inl (cI, 10, .inl feM))] s.heap.size = A at hD htw ⊢
  have hA : ∀ q : Nat, s.heap.size ≤ q → A q := fun q h => by rw [← hAe]; exact Or.inr h
  have hS : va_S A s.heap s.heap [] := va_S.rf
  have hl := lv_entry ([.ref h0, .ref g0]) (n := 3) (Nat.le_of_ble_eq_true rfl)
  rw [lg_entry_eq]
  generalize (lg_sl ([.ref h0, .ref g0]) ++ List.replicate (3 - (lg_sl ([.ref h0, .ref g0])).length) Slot.unset).toArray = ls at hl ⊢
  have hl : lv_has ls 3 [(0, .ref h0), (1, .ref g0)] := hl
  obtain ⟨Rq, eRq⟩ : ∃ x9 : RdS, x9 = rdAll (tkO fs nq) := ⟨_, rfl⟩
  refine lv_aload_n hx hb dX2_read_0 rfl (lv_at hl 1 rfl) ?_
  have hPc := hP.sub (ws' := [(g0, .inr (1, [.ref gF, .ref gK, .ref gT, .ref gC, .ref gM, .int gc, .ref eF, .ref eC, .ref eM, .int ec, .ref hopA]))]) [3] rfl
  have hDc := hD.sub (ws' := [(g0, .inr (1, [.ref gF, .ref gK, .ref gT, .ref gC, .ref gM, .int gc, .ref eF, .ref eC, .ref eM, .int ec, .ref hopA]))]) [3] (by decide) rfl
  have hFc := va_free (wc := [(g0, .inr (1, [.ref gF, .ref gK, .ref gT, .ref gC, .ref gM, .int gc, .ref eF, .ref eC, .ref eM, .int ec, .ref hopA]))]) hD hS hA [3] rfl
  refine va_callv (va_runV (As := []) (rest := []) ⟨hx, hb, hml, hown, hts⟩ (k_gempty l dC dI cI cZ cC cJ s.heap.size  g0 gF gK gT gC gM gc eF eC eM ec hopA ) (cwV 0 hts gX2_read_X1_empty rfl rfl rfl (by decide +kernel) ⟨Nat.le_of_ble_eq_true rfl, Nat.le_of_ble_eq_true rfl⟩) ⟨sPre_blind, va_recv hK hPc (ci := 1) (q0 := 0) rfl rfl, fun U hU hW => ⟨rfl, sPre_ok hsk hPc hDc hU hW⟩⟩ rfl rfl hl.1 rfl (lv_room (Nat.le_of_ble_eq_true rfl)) dX2_read_1 ⟨(show 0 + 0 ≤ 0 by omega), (show 0 + 0 ≤ 0 by omega)⟩) hS (fun q _ h => hFc q h) hFc (fun u t H1 locs ht hvm hw hB hz1 hk1 hS => ?_)
  try dsimp only at hw hB
  obtain ⟨hP1, hD1⟩ := hB
  rw [ht] at hP1
  obtain ⟨hP, hD⟩ := va_join (wr := [(h0, .inr (2, [.ref tO, .int so, .int pl, .int bh, .int fa_])), (tO, .inr (3, [.ref sA, .int (nI nq)])), (sA, .inl (cC, 1600, .inl fs)), (gF, .inl (cI, 40, .inl fgF)), (gK, .inl (cI, 40, .inl fgK)), (gT, .inl (cI, 40, .inl fgT)), (gC, .inl (cI, 40, .inl fgC)), (gM, .inl (cI, 40, .inl fgM)), (eF, .inl (cI, 10, .inl feF)), (eC, .inl (cI, 10, .inl feC)), (eM, .inl (cI, 10, .inl feM))]) (w1 := [(g0, .inr (1, [.ref gF, .ref gK, .ref gT, .ref gC, .ref gM, .int 0, .ref eF, .ref eC, .ref eM, .int 0, .ref hopA]))]) hP hD [3] [0, 1, 2, 4, 5, 6, 7, 8, 9, 10, 11] rfl rfl (by decide) (by decide) hk1 hFc hP1 hD1
  generalize H1 = H at hP hS ⊢
  have hP : va_P (dC, dI) vwCl [(h0, .inr (2, [.ref tO, .int so, .int pl, .int bh, .int fa_])), (tO, .inr (3, [.ref sA, .int (nI nq)])), (sA, .inl (cC, 1600, .inl fs)), (gF, .inl (cI, 40, .inl fgF)), (gK, .inl (cI, 40, .inl fgK)), (gT, .inl (cI, 40, .inl fgT)), (gC, .inl (cI, 40, .inl fgC)), (gM, .inl (cI, 40, .inl fgM)), (eF, .inl (cI, 10, .inl feF)), (eC, .inl (cI, 10, .inl feC)), (eM, .inl (cI, 10, .inl feM)), (g0, .inr (1, [.ref gF, .ref gK, .ref gT, .ref gC, .ref gM, .int 0, .ref eF, .ref eC, .ref eM, .int 0, .ref hopA]))] H := hP
  have hD : va_D A [(h0, .inr (2, [.ref tO, .int so, .int pl, .int bh, .int fa_])), (tO, .inr (3, [.ref sA, .int (nI nq)])), (sA, .inl (cC, 1600, .inl fs)), (gF, .inl (cI, 40, .inl fgF)), (gK, .inl (cI, 40, .inl fgK)), (gT, .inl (cI, 40, .inl fgT)), (gC, .inl (cI, 40, .inl fgC)), (gM, .inl (cI, 40, .inl fgM)), (eF, .inl (cI, 10, .inl feF)), (eC, .inl (cI, 10, .inl feC)), (eM, .inl (cI, 10, .inl feM)), (g0, .inr (1, [.ref gF, .ref gK, .ref gT, .ref gC, .ref gM, .int 0, .ref eF, .ref eC, .ref eM, .int 0, .ref hopA]))] := hD
  refine lv_aload_n hx hb dX2_read_4 rfl (lv_at hl 0 rfl) ?_
  refine lv_iconst (v := 0) hx hb dX2_read_5 (by decide) ?_
  refine va_put (D := (dC, dI)) (ci := 2) (v := .int 0) (ty := tyX2 4) (C := RX2) (T := TX2) (N := 5) hx hb hts i2 tyX2 tyX2_ok nmX2 hown hK hP hD hS 0 rfl rfl 4 (by decide) (hts (.fieldLink RX2 20 "StopSetter$Reader" "fault" "I") (by decide +kernel)) (fun _ h9 => h9) rfl (by decide +kernel) rfl rfl (Nat.le_of_ble_eq_true rfl) dX2_read_6 (fun H locs hP hD hS => ?_)
  have hP : va_P (dC, dI) vwCl [(h0, .inr (2, [.ref tO, .int so, .int pl, .int bh, .int 0])), (tO, .inr (3, [.ref sA, .int (nI nq)])), (sA, .inl (cC, 1600, .inl fs)), (gF, .inl (cI, 40, .inl fgF)), (gK, .inl (cI, 40, .inl fgK)), (gT, .inl (cI, 40, .inl fgT)), (gC, .inl (cI, 40, .inl fgC)), (gM, .inl (cI, 40, .inl fgM)), (eF, .inl (cI, 10, .inl feF)), (eC, .inl (cI, 10, .inl feC)), (eM, .inl (cI, 10, .inl feM)), (g0, .inr (1, [.ref gF, .ref gK, .ref gT, .ref gC, .ref gM, .int 0, .ref eF, .ref eC, .ref eM, .int 0, .ref hopA]))] H := hP
  have hD : va_D A [(h0, .inr (2, [.ref tO, .int so, .int pl, .int bh, .int 0])), (tO, .inr (3, [.ref sA, .int (nI nq)])), (sA, .inl (cC, 1600, .inl fs)), (gF, .inl (cI, 40, .inl fgF)), (gK, .inl (cI, 40, .inl fgK)), (gT, .inl (cI, 40, .inl fgT)), (gC, .inl (cI, 40, .inl fgC)), (gM, .inl (cI, 40, .inl fgM)), (eF, .inl (cI, 10, .inl feF)), (eC, .inl (cI, 10, .inl feC)), (eM, .inl (cI, 10, .inl feM)), (g0, .inr (1, [.ref gF, .ref gK, .ref gT, .ref gC, .ref gM, .int 0, .ref eF, .ref eC, .ref eM, .int 0, .ref hopA]))] := hD
  refine lv_aload_n hx hb dX2_read_9 rfl (lv_at hl 0 rfl) ?_
  refine lv_iconst (v := 0) hx hb dX2_read_10 (by decide) ?_
  refine va_put (D := (dC, dI)) (ci := 2) (v := .int 0) (ty := tyX2 3) (C := RX2) (T := TX2) (N := 5) hx hb hts i2 tyX2 tyX2_ok nmX2 hown hK hP hD hS 0 rfl rfl 3 (by decide) (hts (.fieldLink RX2 24 "StopSetter$Reader" "behind" "I") (by decide +kernel)) (fun _ h9 => h9) rfl (by decide +kernel) rfl rfl (Nat.le_of_ble_eq_true rfl) dX2_read_11 (fun H locs hP hD hS => ?_)
  have hP : va_P (dC, dI) vwCl [(h0, .inr (2, [.ref tO, .int so, .int pl, .int 0, .int 0])), (tO, .inr (3, [.ref sA, .int (nI nq)])), (sA, .inl (cC, 1600, .inl fs)), (gF, .inl (cI, 40, .inl fgF)), (gK, .inl (cI, 40, .inl fgK)), (gT, .inl (cI, 40, .inl fgT)), (gC, .inl (cI, 40, .inl fgC)), (gM, .inl (cI, 40, .inl fgM)), (eF, .inl (cI, 10, .inl feF)), (eC, .inl (cI, 10, .inl feC)), (eM, .inl (cI, 10, .inl feM)), (g0, .inr (1, [.ref gF, .ref gK, .ref gT, .ref gC, .ref gM, .int 0, .ref eF, .ref eC, .ref eM, .int 0, .ref hopA]))] H := hP
  have hD : va_D A [(h0, .inr (2, [.ref tO, .int so, .int pl, .int 0, .int 0])), (tO, .inr (3, [.ref sA, .int (nI nq)])), (sA, .inl (cC, 1600, .inl fs)), (gF, .inl (cI, 40, .inl fgF)), (gK, .inl (cI, 40, .inl fgK)), (gT, .inl (cI, 40, .inl fgT)), (gC, .inl (cI, 40, .inl fgC)), (gM, .inl (cI, 40, .inl fgM)), (eF, .inl (cI, 10, .inl feF)), (eC, .inl (cI, 10, .inl feC)), (eM, .inl (cI, 10, .inl feM)), (g0, .inr (1, [.ref gF, .ref gK, .ref gT, .ref gC, .ref gM, .int 0, .ref eF, .ref eC, .ref eM, .int 0, .ref hopA]))] := hD
  refine lv_aload_n hx hb dX2_read_14 rfl (lv_at hl 0 rfl) ?_
  have hPc := hP.sub (ws' := [(h0, .inr (2, [.ref tO, .int so, .int pl, .int 0, .int 0])), (tO, .inr (3, [.ref sA, .int (nI nq)])), (sA, .inl (cC, 1600, .inl fs))]) [0, 1, 2] rfl
  have hDc := hD.sub (ws' := [(h0, .inr (2, [.ref tO, .int so, .int pl, .int 0, .int 0])), (tO, .inr (3, [.ref sA, .int (nI nq)])), (sA, .inl (cC, 1600, .inl fs))]) [0, 1, 2] (by decide) rfl
  have hFc := va_free (wc := [(h0, .inr (2, [.ref tO, .int so, .int pl, .int 0, .int 0])), (tO, .inr (3, [.ref sA, .int (nI nq)])), (sA, .inl (cC, 1600, .inl fs))]) hD hS hA [0, 1, 2] rfl
  refine va_callv (va_runV (As := []) (rest := []) ⟨hx, hb, hml, hown, hts⟩ (k_advance l dC dI cI cZ cC cJ H.size  h0 tO so pl 0 0 sA nq fs 0 (by first | assumption | decide | omega) rfl) (cwV 0 hts gX2_read_X2_advance rfl rfl rfl (by decide +kernel) ⟨Nat.le_of_ble_eq_true rfl, Nat.le_of_ble_eq_true rfl⟩) ⟨sPre_blind, va_recv hK hPc (ci := 2) (q0 := 0) rfl rfl, fun U hU hW => ⟨rfl, sPre_ok hsk hPc hDc hU hW⟩⟩ rfl rfl hl.1 rfl (lv_room (Nat.le_of_ble_eq_true rfl)) dX2_read_15 ⟨(show 0 + 0 ≤ 0 by omega), (show 0 + 0 ≤ 0 by omega)⟩) hS (fun q _ h => hFc q h) hFc (fun u t H1 locs ht hvm hw hB hz1 hk1 hS => ?_)
  obtain ⟨s_3, p_4, b_5⟩ := u
  try dsimp only at hw hB
  have he_6 := hw
  have he_6 : rOK fs nq (0, 0) s_3 p_4 b_5 0 := he_6
  obtain ⟨q_7, eq_7⟩ : ∃ x9 : Nat × Int32, x9 = (0, 0) := ⟨_, rfl⟩
  rw [← eq_7] at he_6
  obtain ⟨hP1, hD1⟩ := hB
  rw [ht] at hP1
  obtain ⟨hP, hD⟩ := va_join (wr := [(gF, .inl (cI, 40, .inl fgF)), (gK, .inl (cI, 40, .inl fgK)), (gT, .inl (cI, 40, .inl fgT)), (gC, .inl (cI, 40, .inl fgC)), (gM, .inl (cI, 40, .inl fgM)), (eF, .inl (cI, 10, .inl feF)), (eC, .inl (cI, 10, .inl feC)), (eM, .inl (cI, 10, .inl feM)), (g0, .inr (1, [.ref gF, .ref gK, .ref gT, .ref gC, .ref gM, .int 0, .ref eF, .ref eC, .ref eM, .int 0, .ref hopA]))]) (w1 := [(h0, .inr (2, [.ref tO, .int s_3, .int p_4, .int b_5, .int 0])), (tO, .inr (3, [.ref sA, .int (nI nq)])), (sA, .inl (cC, 1600, .inl fs))]) hP hD [0, 1, 2] [3, 4, 5, 6, 7, 8, 9, 10, 11] rfl rfl (by decide) (by decide) hk1 hFc hP1 hD1
  generalize H1 = H at hP hS ⊢
  have hP : va_P (dC, dI) vwCl [(gF, .inl (cI, 40, .inl fgF)), (gK, .inl (cI, 40, .inl fgK)), (gT, .inl (cI, 40, .inl fgT)), (gC, .inl (cI, 40, .inl fgC)), (gM, .inl (cI, 40, .inl fgM)), (eF, .inl (cI, 10, .inl feF)), (eC, .inl (cI, 10, .inl feC)), (eM, .inl (cI, 10, .inl feM)), (g0, .inr (1, [.ref gF, .ref gK, .ref gT, .ref gC, .ref gM, .int 0, .ref eF, .ref eC, .ref eM, .int 0, .ref hopA])), (h0, .inr (2, [.ref tO, .int s_3, .int p_4, .int b_5, .int 0])), (tO, .inr (3, [.ref sA, .int (nI nq)])), (sA, .inl (cC, 1600, .inl fs))] H := hP
  have hD : va_D A [(gF, .inl (cI, 40, .inl fgF)), (gK, .inl (cI, 40, .inl fgK)), (gT, .inl (cI, 40, .inl fgT)), (gC, .inl (cI, 40, .inl fgC)), (gM, .inl (cI, 40, .inl fgM)), (eF, .inl (cI, 10, .inl feF)), (eC, .inl (cI, 10, .inl feC)), (eM, .inl (cI, 10, .inl feM)), (g0, .inr (1, [.ref gF, .ref gK, .ref gT, .ref gC, .ref gM, .int 0, .ref eF, .ref eC, .ref eM, .int 0, .ref hopA])), (h0, .inr (2, [.ref tO, .int s_3, .int p_4, .int b_5, .int 0])), (tO, .inr (3, [.ref sA, .int (nI nq)])), (sA, .inl (cC, 1600, .inl fs))] := hD
  refine lv_iconst (v := 0) hx hb dX2_read_18 (by decide) ?_
  refine lv_istore_n (lv' := [(2, .int 0), (0, .ref h0), (1, .ref g0)]) hx hb dX2_read_19 rfl hl (by decide) rfl (fun ls hl => ?_)
  have lp_20 : ∀ (n_20 : Nat) (k : Nat) (sq : RdS) (so : Int32) (pl : Int32) (bh : Int32) (fa_ : Int32) (gnq : Nat) (enq : Nat) (fgF : Nat → Int32) (fgK : Nat → Int32) (fgT : Nat → Int32) (fgC : Nat → Int32) (fgM : Nat → Int32) (feF : Nat → Int32) (feC : Nat → Int32) (feM : Nat → Int32), 1600 + 1 ≤ k + n_20 → k ≤ 1600 → rOK fs nq sq.1 so pl bh fa_ → lnK sq.2 gnq enq fgF fgK fgT fgC fgM feF feC feM → rdR (tkO fs nq) (1600 - k) sq = Rq → ∀ (H : Heap) (locs : List Loc) (ls : Array Slot), va_P (dC, dI) vwCl [(gF, .inl (cI, 40, .inl fgF)), (gK, .inl (cI, 40, .inl fgK)), (gT, .inl (cI, 40, .inl fgT)), (gC, .inl (cI, 40, .inl fgC)), (gM, .inl (cI, 40, .inl fgM)), (eF, .inl (cI, 10, .inl feF)), (eC, .inl (cI, 10, .inl feC)), (eM, .inl (cI, 10, .inl feM)), (g0, .inr (1, [.ref gF, .ref gK, .ref gT, .ref gC, .ref gM, .int (nI gnq), .ref eF, .ref eC, .ref eM, .int (nI enq), .ref hopA])), (h0, .inr (2, [.ref tO, .int so, .int pl, .int bh, .int fa_])), (tO, .inr (3, [.ref sA, .int (nI nq)])), (sA, .inl (cC, 1600, .inl fs))] H → va_D A [(gF, .inl (cI, 40, .inl fgF)), (gK, .inl (cI, 40, .inl fgK)), (gT, .inl (cI, 40, .inl fgT)), (gC, .inl (cI, 40, .inl fgC)), (gM, .inl (cI, 40, .inl fgM)), (eF, .inl (cI, 10, .inl feF)), (eC, .inl (cI, 10, .inl feC)), (eM, .inl (cI, 10, .inl feM)), (g0, .inr (1, [.ref gF, .ref gK, .ref gT, .ref gC, .ref gM, .int (nI gnq), .ref eF, .ref eC, .ref eM, .int (nI enq), .ref hopA])), (h0, .inr (2, [.ref tO, .int so, .int pl, .int bh, .int fa_])), (tO, .inr (3, [.ref sA, .int (nI nq)])), (sA, .inl (cC, 1600, .inl fs))] → va_S A s.heap H locs → lv_has ls 3 [(2, .int (nI k)), (0, .ref h0), (1, .ref g0)] → W p l e (headSpec wsX2_read ({ frames := 7, cells := 0, slots := 0, locals := 153 })).room s m ([.ref h0, .ref g0]).toArray below meth c H locs 0 0 (MQ below (va_Qi (fun (r : Int32) (u : (Int32) × (Int32) × (Int32) × (Int32) × (Int32) × (Nat → Int32) × (Nat → Int32) × (Nat → Int32) × (Nat → Int32) × (Nat → Int32) × (Int32) × (Nat → Int32) × (Nat → Int32) × (Nat → Int32)) => match u with | (so2, pl2, bh2, fa_2, gc2, fgF2, fgK2, fgT2, fgC2, fgM2, ec2, feF2, feC2, feM2) => ((r : Int32) = (rdAll (tkO fs nq)).1.2) ∧ (lnC (rdAll (tkO fs nq)).2 gc2 ec2 fgF2 fgK2 fgT2 fgC2 fgM2 feF2 feC2 feM2)) (fun (u : (Int32) × (Int32) × (Int32) × (Int32) × (Int32) × (Nat → Int32) × (Nat → Int32) × (Nat → Int32) × (Nat → Int32) × (Nat → Int32) × (Int32) × (Nat → Int32) × (Nat → Int32) × (Nat → Int32)) t => match u with | (so2, pl2, bh2, fa_2, gc2, fgF2, fgK2, fgT2, fgC2, fgM2, ec2, feF2, feC2, feM2) => sB dC dI A [(h0, .inr (2, [.ref tO, .int so2, .int pl2, .int bh2, .int fa_2])), (tO, .inr (3, [.ref sA, .int (nI nq)])), (sA, .inl (cC, 1600, .inl fs)), (g0, .inr (1, [.ref gF, .ref gK, .ref gT, .ref gC, .ref gM, .int gc2, .ref eF, .ref eC, .ref eM, .int ec2, .ref hopA])), (gF, .inl (cI, 40, .inl fgF2)), (gK, .inl (cI, 40, .inl fgK2)), (gT, .inl (cI, 40, .inl fgT2)), (gC, .inl (cI, 40, .inl fgC2)), (gM, .inl (cI, 40, .inl fgM2)), (eF, .inl (cI, 10, .inl feF2)), (eC, .inl (cI, 10, .inl feC2)), (eM, .inl (cI, 10, .inl feM2))] t) A) ([.ref h0, .ref g0]).toArray s 0 0 A) (F0 m 20 ls []) := by
    intro n_20
    induction n_20 with
    | zero =>
      intro k sq so pl bh fa_ gnq enq fgF fgK fgT fgC fgM feF feC feM fuel_20 hk_20 hR hLn hRun
      exact absurd fuel_20 (by omega)
    | succ n_20 ih_20 =>
      intro k sq so pl bh fa_ gnq enq fgF fgK fgT fgC fgM feF feC feM fuel_20 hk_20 hR hLn hRun H locs ls hP hD hS hl
      refine lv_iload_n hx hb dX2_read_20 rfl (lv_at hl 0 rfl) ?_
      refine lv_sipush (v := 1600) hx hb dX2_read_21 (by decide) ?_
      refine lv_icmp_ge (tgt := 86) hx hb dX2_read_24 (by decide) (fun c_24 => ?_) (fun c_24 => ?_)
      · skip
        refine lv_aload_n hx hb dX2_read_86 rfl (lv_at hl 1 rfl) ?_
        refine va_get (D := (dC, dI)) (ci := 2) (v := .int fa_) (C := RX2) (T := TX2) (N := 5) hx hb hts i2 hown hK hP 9 rfl rfl 4 (by decide) (hts (.fieldLink RX2 20 "StopSetter$Reader" "fault" "I") (by decide +kernel)) (fun _ h9 => h9) rfl dX2_read_87 ?_
        have hP9 := hP.sub (ws' := [(h0, .inr (2, [.ref tO, .int so, .int pl, .int bh, .int fa_])), (tO, .inr (3, [.ref sA, .int (nI nq)])), (sA, .inl (cC, 1600, .inl fs)), (g0, .inr (1, [.ref gF, .ref gK, .ref gT, .ref gC, .ref gM, .int (nI gnq), .ref eF, .ref eC, .ref eM, .int (nI enq), .ref hopA])), (gF, .inl (cI, 40, .inl fgF)), (gK, .inl (cI, 40, .inl fgK)), (gT, .inl (cI, 40, .inl fgT)), (gC, .inl (cI, 40, .inl fgC)), (gM, .inl (cI, 40, .inl fgM)), (eF, .inl (cI, 10, .inl feF)), (eC, .inl (cI, 10, .inl feC)), (eM, .inl (cI, 10, .inl feM))]) [9, 10, 11, 8, 0, 1, 2, 3, 4, 5, 6, 7] rfl
        have hD9 := hD.sub (ws' := [(h0, .inr (2, [.ref tO, .int so, .int pl, .int bh, .int fa_])), (tO, .inr (3, [.ref sA, .int (nI nq)])), (sA, .inl (cC, 1600, .inl fs)), (g0, .inr (1, [.ref gF, .ref gK, .ref gT, .ref gC, .ref gM, .int (nI gnq), .ref eF, .ref eC, .ref eM, .int (nI enq), .ref hopA])), (gF, .inl (cI, 40, .inl fgF)), (gK, .inl (cI, 40, .inl fgK)), (gT, .inl (cI, 40, .inl fgT)), (gC, .inl (cI, 40, .inl fgC)), (gM, .inl (cI, 40, .inl fgM)), (eF, .inl (cI, 10, .inl feF)), (eC, .inl (cI, 10, .inl feC)), (eM, .inl (cI, 10, .inl feM))]) [9, 10, 11, 8, 0, 1, 2, 3, 4, 5, 6, 7] (by decide) rfl
        have hens0 : (fa_ : Int32) = (rdAll (tkO fs nq)).1.2 := (by have hsq : sq = rdAll (tkO fs nq) := (by rw [← eRq, ← hRun, show 1600 - k = 0 by have := (nI_leI (a := 1600) (b := k) (by omega) (by omega)).mp c_24; omega]; rfl); rw [← hsq]; exact hR.2.2.2)
        have hens1 : lnC (rdAll (tkO fs nq)).2 (nI gnq) (nI enq) fgF fgK fgT fgC fgM feF feC feM := ⟨gnq, enq, rfl, rfl, by have hsq : sq = rdAll (tkO fs nq) := (by rw [← eRq, ← hRun, show 1600 - k = 0 by have := (nI_leI (a := 1600) (b := k) (by omega) (by omega)).mp c_24; omega]; rfl); rw [← hsq]; exact hLn⟩
        exact W.iret (v := fa_) hx hb hr (fun t ht hW => ⟨⟨fa_, (so, pl, bh, fa_, (nI gnq), fgF, fgK, fgT, fgC, fgM, (nI enq), feF, feC, feM), rfl, ⟨hens0, hens1⟩, by rw [ht]; exact hP9, hD9⟩, hS.F ht⟩) hS.2.2 dX2_read_90
      · skip
        have hk3_20 : k < 1600 := nk_lt (N := 1600) rfl c_24 (by omega)
        refine lv_aload_n hx hb dX2_read_27 rfl (lv_at hl 1 rfl) ?_
        refine va_get (D := (dC, dI)) (ci := 2) (v := .int fa_) (C := RX2) (T := TX2) (N := 5) hx hb hts i2 hown hK hP 9 rfl rfl 4 (by decide) (hts (.fieldLink RX2 20 "StopSetter$Reader" "fault" "I") (by decide +kernel)) (fun _ h9 => h9) rfl dX2_read_28 ?_
        refine lv_if_ne (tgt := 86) hx hb dX2_read_31 (by decide) (fun c_31 => ?_) (fun c_31 => ?_)
        · skip
          refine lv_aload_n hx hb dX2_read_86 rfl (lv_at hl 1 rfl) ?_
          refine va_get (D := (dC, dI)) (ci := 2) (v := .int fa_) (C := RX2) (T := TX2) (N := 5) hx hb hts i2 hown hK hP 9 rfl rfl 4 (by decide) (hts (.fieldLink RX2 20 "StopSetter$Reader" "fault" "I") (by decide +kernel)) (fun _ h9 => h9) rfl dX2_read_87 ?_
          have hP9 := hP.sub (ws' := [(h0, .inr (2, [.ref tO, .int so, .int pl, .int bh, .int fa_])), (tO, .inr (3, [.ref sA, .int (nI nq)])), (sA, .inl (cC, 1600, .inl fs)), (g0, .inr (1, [.ref gF, .ref gK, .ref gT, .ref gC, .ref gM, .int (nI gnq), .ref eF, .ref eC, .ref eM, .int (nI enq), .ref hopA])), (gF, .inl (cI, 40, .inl fgF)), (gK, .inl (cI, 40, .inl fgK)), (gT, .inl (cI, 40, .inl fgT)), (gC, .inl (cI, 40, .inl fgC)), (gM, .inl (cI, 40, .inl fgM)), (eF, .inl (cI, 10, .inl feF)), (eC, .inl (cI, 10, .inl feC)), (eM, .inl (cI, 10, .inl feM))]) [9, 10, 11, 8, 0, 1, 2, 3, 4, 5, 6, 7] rfl
          have hD9 := hD.sub (ws' := [(h0, .inr (2, [.ref tO, .int so, .int pl, .int bh, .int fa_])), (tO, .inr (3, [.ref sA, .int (nI nq)])), (sA, .inl (cC, 1600, .inl fs)), (g0, .inr (1, [.ref gF, .ref gK, .ref gT, .ref gC, .ref gM, .int (nI gnq), .ref eF, .ref eC, .ref eM, .int (nI enq), .ref hopA])), (gF, .inl (cI, 40, .inl fgF)), (gK, .inl (cI, 40, .inl fgK)), (gT, .inl (cI, 40, .inl fgT)), (gC, .inl (cI, 40, .inl fgC)), (gM, .inl (cI, 40, .inl fgM)), (eF, .inl (cI, 10, .inl feF)), (eC, .inl (cI, 10, .inl feC)), (eM, .inl (cI, 10, .inl feM))]) [9, 10, 11, 8, 0, 1, 2, 3, 4, 5, 6, 7] (by decide) rfl
          have hens0 : (fa_ : Int32) = (rdAll (tkO fs nq)).1.2 := (by have hsq : sq = rdAll (tkO fs nq) := (by rw [← eRq, ← hRun]; exact (rdR_end (t := (tkO fs nq)) (s := sq) (fun z => absurd (hR.2.2.2.trans z) c_31) _).symm); rw [← hsq]; exact hR.2.2.2)
          have hens1 : lnC (rdAll (tkO fs nq)).2 (nI gnq) (nI enq) fgF fgK fgT fgC fgM feF feC feM := ⟨gnq, enq, rfl, rfl, by have hsq : sq = rdAll (tkO fs nq) := (by rw [← eRq, ← hRun]; exact (rdR_end (t := (tkO fs nq)) (s := sq) (fun z => absurd (hR.2.2.2.trans z) c_31) _).symm); rw [← hsq]; exact hLn⟩
          exact W.iret (v := fa_) hx hb hr (fun t ht hW => ⟨⟨fa_, (so, pl, bh, fa_, (nI gnq), fgF, fgK, fgT, fgC, fgM, (nI enq), feF, feC, feM), rfl, ⟨hens0, hens1⟩, by rw [ht]; exact hP9, hD9⟩, hS.F ht⟩) hS.2.2 dX2_read_90
        · skip
          have hz_ : sq.1.2 = 0 := hR.2.2.2.symm.trans c_31
          refine lv_aload_n hx hb dX2_read_34 rfl (lv_at hl 1 rfl) ?_
          refine va_get (D := (dC, dI)) (ci := 2) (v := .int so) (C := RX2) (T := TX2) (N := 5) hx hb hts i2 hown hK hP 9 rfl rfl 1 (by decide) (hts (.fieldLink RX2 32 "StopSetter$Reader" "sort" "I") (by decide +kernel)) (fun _ h9 => h9) rfl dX2_read_35 ?_
          refine lv_if_eq (tgt := 86) hx hb dX2_read_38 (by decide) (fun c_38 => ?_) (fun c_38 => ?_)
          · skip
            refine lv_aload_n hx hb dX2_read_86 rfl (lv_at hl 1 rfl) ?_
            refine va_get (D := (dC, dI)) (ci := 2) (v := .int fa_) (C := RX2) (T := TX2) (N := 5) hx hb hts i2 hown hK hP 9 rfl rfl 4 (by decide) (hts (.fieldLink RX2 20 "StopSetter$Reader" "fault" "I") (by decide +kernel)) (fun _ h9 => h9) rfl dX2_read_87 ?_
            have hP9 := hP.sub (ws' := [(h0, .inr (2, [.ref tO, .int so, .int pl, .int bh, .int fa_])), (tO, .inr (3, [.ref sA, .int (nI nq)])), (sA, .inl (cC, 1600, .inl fs)), (g0, .inr (1, [.ref gF, .ref gK, .ref gT, .ref gC, .ref gM, .int (nI gnq), .ref eF, .ref eC, .ref eM, .int (nI enq), .ref hopA])), (gF, .inl (cI, 40, .inl fgF)), (gK, .inl (cI, 40, .inl fgK)), (gT, .inl (cI, 40, .inl fgT)), (gC, .inl (cI, 40, .inl fgC)), (gM, .inl (cI, 40, .inl fgM)), (eF, .inl (cI, 10, .inl feF)), (eC, .inl (cI, 10, .inl feC)), (eM, .inl (cI, 10, .inl feM))]) [9, 10, 11, 8, 0, 1, 2, 3, 4, 5, 6, 7] rfl
            have hD9 := hD.sub (ws' := [(h0, .inr (2, [.ref tO, .int so, .int pl, .int bh, .int fa_])), (tO, .inr (3, [.ref sA, .int (nI nq)])), (sA, .inl (cC, 1600, .inl fs)), (g0, .inr (1, [.ref gF, .ref gK, .ref gT, .ref gC, .ref gM, .int (nI gnq), .ref eF, .ref eC, .ref eM, .int (nI enq), .ref hopA])), (gF, .inl (cI, 40, .inl fgF)), (gK, .inl (cI, 40, .inl fgK)), (gT, .inl (cI, 40, .inl fgT)), (gC, .inl (cI, 40, .inl fgC)), (gM, .inl (cI, 40, .inl fgM)), (eF, .inl (cI, 10, .inl feF)), (eC, .inl (cI, 10, .inl feC)), (eM, .inl (cI, 10, .inl feM))]) [9, 10, 11, 8, 0, 1, 2, 3, 4, 5, 6, 7] (by decide) rfl
            have hens0 : (fa_ : Int32) = (rdAll (tkO fs nq)).1.2 := (by have hsq : sq = rdAll (tkO fs nq) := (by rw [← eRq, ← hRun]; exact (rdR_end (t := (tkO fs nq)) (s := sq) (fun _ => hR.1.symm.trans c_38) _).symm); rw [← hsq]; exact hR.2.2.2)
            have hens1 : lnC (rdAll (tkO fs nq)).2 (nI gnq) (nI enq) fgF fgK fgT fgC fgM feF feC feM := ⟨gnq, enq, rfl, rfl, by have hsq : sq = rdAll (tkO fs nq) := (by rw [← eRq, ← hRun]; exact (rdR_end (t := (tkO fs nq)) (s := sq) (fun _ => hR.1.symm.trans c_38) _).symm); rw [← hsq]; exact hLn⟩
            exact W.iret (v := fa_) hx hb hr (fun t ht hW => ⟨⟨fa_, (so, pl, bh, fa_, (nI gnq), fgF, fgK, fgT, fgC, fgM, (nI enq), feF, feC, feM), rfl, ⟨hens0, hens1⟩, by rw [ht]; exact hP9, hD9⟩, hS.F ht⟩) hS.2.2 dX2_read_90
          · skip
            have hSn : ¬ (tkO fs nq).S sq.1.1 = 0 := fun z => c_38 (hR.1.trans z)
            refine lv_aload_n hx hb dX2_read_41 rfl (lv_at hl 1 rfl) ?_
            refine va_ldcS (own := RX2) (index := 35) (tx := "go") hx hb hown (htw.2.1 0 (by decide)) dX2_read_42 ?_
            have hPc := hP.sub (ws' := [(h0, .inr (2, [.ref tO, .int so, .int pl, .int bh, .int fa_])), (tO, .inr (3, [.ref sA, .int (nI nq)])), (sA, .inl (cC, 1600, .inl fs))]) [9, 10, 11] rfl
            have hDc := hD.sub (ws' := [(h0, .inr (2, [.ref tO, .int so, .int pl, .int bh, .int fa_])), (tO, .inr (3, [.ref sA, .int (nI nq)])), (sA, .inl (cC, 1600, .inl fs))]) [9, 10, 11] (by decide) rfl
            have hFc := va_free (wc := [(h0, .inr (2, [.ref tO, .int so, .int pl, .int bh, .int fa_])), (tO, .inr (3, [.ref sA, .int (nI nq)])), (sA, .inl (cC, 1600, .inl fs))]) hD hS hA [9, 10, 11] rfl
            refine va_calli (va_runV (As := [.ref (adK 0)]) (rest := []) ⟨hx, hb, hml, hown, hts⟩ (k_isText l dC dI cI cZ cC cJ H.size adK adV h0 tO so pl bh fa_ sA nq fs 0 sq.1 (by first | assumption | decide | omega) (by decide) hR) (cwV 1 hts gX2_read_X2_isText rfl rfl rfl (by decide +kernel) ⟨Nat.le_of_ble_eq_true rfl, Nat.le_of_ble_eq_true rfl⟩) ⟨tW_blind, va_recv hK hPc (ci := 2) (q0 := 0) rfl rfl, fun U hU hW => ⟨rfl, sPre_ok hsk hPc hDc hU hW, tW_warm hW hU hS (fun q h => hFc q h) htw⟩⟩ rfl rfl hl.1 rfl (lv_room (Nat.le_of_ble_eq_true rfl)) dX2_read_44 ⟨(show 0 + 0 ≤ 0 by omega), (show 0 + 0 ≤ 0 by omega)⟩) hS (fun q _ h => hFc q h) hFc (fun r_8 u t H1 locs ht hvm hw hB hz1 hk1 hS => ?_)
            try dsimp only at hw hB
            have he_9 := hw
            have he_9 : (r_8 : Int32) = tI fs nq sq.1.1 0 := he_9
            obtain ⟨hP1, hD1⟩ := hB
            rw [ht] at hP1
            obtain ⟨hP, hD⟩ := va_join (wr := [(gF, .inl (cI, 40, .inl fgF)), (gK, .inl (cI, 40, .inl fgK)), (gT, .inl (cI, 40, .inl fgT)), (gC, .inl (cI, 40, .inl fgC)), (gM, .inl (cI, 40, .inl fgM)), (eF, .inl (cI, 10, .inl feF)), (eC, .inl (cI, 10, .inl feC)), (eM, .inl (cI, 10, .inl feM)), (g0, .inr (1, [.ref gF, .ref gK, .ref gT, .ref gC, .ref gM, .int (nI gnq), .ref eF, .ref eC, .ref eM, .int (nI enq), .ref hopA]))]) (w1 := [(h0, .inr (2, [.ref tO, .int so, .int pl, .int bh, .int fa_])), (tO, .inr (3, [.ref sA, .int (nI nq)])), (sA, .inl (cC, 1600, .inl fs))]) hP hD [9, 10, 11] [0, 1, 2, 3, 4, 5, 6, 7, 8] rfl rfl (by decide) (by decide) hk1 hFc hP1 hD1
            generalize H1 = H at hP hS ⊢
            have hP : va_P (dC, dI) vwCl [(gF, .inl (cI, 40, .inl fgF)), (gK, .inl (cI, 40, .inl fgK)), (gT, .inl (cI, 40, .inl fgT)), (gC, .inl (cI, 40, .inl fgC)), (gM, .inl (cI, 40, .inl fgM)), (eF, .inl (cI, 10, .inl feF)), (eC, .inl (cI, 10, .inl feC)), (eM, .inl (cI, 10, .inl feM)), (g0, .inr (1, [.ref gF, .ref gK, .ref gT, .ref gC, .ref gM, .int (nI gnq), .ref eF, .ref eC, .ref eM, .int (nI enq), .ref hopA])), (h0, .inr (2, [.ref tO, .int so, .int pl, .int bh, .int fa_])), (tO, .inr (3, [.ref sA, .int (nI nq)])), (sA, .inl (cC, 1600, .inl fs))] H := hP
            have hD : va_D A [(gF, .inl (cI, 40, .inl fgF)), (gK, .inl (cI, 40, .inl fgK)), (gT, .inl (cI, 40, .inl fgT)), (gC, .inl (cI, 40, .inl fgC)), (gM, .inl (cI, 40, .inl fgM)), (eF, .inl (cI, 10, .inl feF)), (eC, .inl (cI, 10, .inl feC)), (eM, .inl (cI, 10, .inl feM)), (g0, .inr (1, [.ref gF, .ref gK, .ref gT, .ref gC, .ref gM, .int (nI gnq), .ref eF, .ref eC, .ref eM, .int (nI enq), .ref hopA])), (h0, .inr (2, [.ref tO, .int so, .int pl, .int bh, .int fa_])), (tO, .inr (3, [.ref sA, .int (nI nq)])), (sA, .inl (cC, 1600, .inl fs))] := hD
            refine lv_if_eq (tgt := 58) hx hb dX2_read_47 (by decide) (fun c_47 => ?_) (fun c_47 => ?_)
            · skip
              refine lv_aload_n hx hb dX2_read_58 rfl (lv_at hl 1 rfl) ?_
              refine va_ldcS (own := RX2) (index := 45) (tx := "end") hx hb hown (htw.2.1 8 (by decide)) dX2_read_59 ?_
              have hPc := hP.sub (ws' := [(h0, .inr (2, [.ref tO, .int so, .int pl, .int bh, .int fa_])), (tO, .inr (3, [.ref sA, .int (nI nq)])), (sA, .inl (cC, 1600, .inl fs))]) [9, 10, 11] rfl
              have hDc := hD.sub (ws' := [(h0, .inr (2, [.ref tO, .int so, .int pl, .int bh, .int fa_])), (tO, .inr (3, [.ref sA, .int (nI nq)])), (sA, .inl (cC, 1600, .inl fs))]) [9, 10, 11] (by decide) rfl
              have hFc := va_free (wc := [(h0, .inr (2, [.ref tO, .int so, .int pl, .int bh, .int fa_])), (tO, .inr (3, [.ref sA, .int (nI nq)])), (sA, .inl (cC, 1600, .inl fs))]) hD hS hA [9, 10, 11] rfl
              refine va_calli (va_runV (As := [.ref (adK 8)]) (rest := []) ⟨hx, hb, hml, hown, hts⟩ (k_isText l dC dI cI cZ cC cJ H.size adK adV h0 tO so pl bh fa_ sA nq fs 8 sq.1 (by first | assumption | decide | omega) (by decide) hR) (cwV 1 hts gX2_read_X2_isText rfl rfl rfl (by decide +kernel) ⟨Nat.le_of_ble_eq_true rfl, Nat.le_of_ble_eq_true rfl⟩) ⟨tW_blind, va_recv hK hPc (ci := 2) (q0 := 0) rfl rfl, fun U hU hW => ⟨rfl, sPre_ok hsk hPc hDc hU hW, tW_warm hW hU hS (fun q h => hFc q h) htw⟩⟩ rfl rfl hl.1 rfl (lv_room (Nat.le_of_ble_eq_true rfl)) dX2_read_61 ⟨(show 0 + 0 ≤ 0 by omega), (show 0 + 0 ≤ 0 by omega)⟩) hS (fun q _ h => hFc q h) hFc (fun r_10 u t H1 locs ht hvm hw hB hz1 hk1 hS => ?_)
              try dsimp only at hw hB
              have he_11 := hw
              have he_11 : (r_10 : Int32) = tI fs nq sq.1.1 8 := he_11
              obtain ⟨hP1, hD1⟩ := hB
              rw [ht] at hP1
              obtain ⟨hP, hD⟩ := va_join (wr := [(gF, .inl (cI, 40, .inl fgF)), (gK, .inl (cI, 40, .inl fgK)), (gT, .inl (cI, 40, .inl fgT)), (gC, .inl (cI, 40, .inl fgC)), (gM, .inl (cI, 40, .inl fgM)), (eF, .inl (cI, 10, .inl feF)), (eC, .inl (cI, 10, .inl feC)), (eM, .inl (cI, 10, .inl feM)), (g0, .inr (1, [.ref gF, .ref gK, .ref gT, .ref gC, .ref gM, .int (nI gnq), .ref eF, .ref eC, .ref eM, .int (nI enq), .ref hopA]))]) (w1 := [(h0, .inr (2, [.ref tO, .int so, .int pl, .int bh, .int fa_])), (tO, .inr (3, [.ref sA, .int (nI nq)])), (sA, .inl (cC, 1600, .inl fs))]) hP hD [9, 10, 11] [0, 1, 2, 3, 4, 5, 6, 7, 8] rfl rfl (by decide) (by decide) hk1 hFc hP1 hD1
              generalize H1 = H at hP hS ⊢
              have hP : va_P (dC, dI) vwCl [(gF, .inl (cI, 40, .inl fgF)), (gK, .inl (cI, 40, .inl fgK)), (gT, .inl (cI, 40, .inl fgT)), (gC, .inl (cI, 40, .inl fgC)), (gM, .inl (cI, 40, .inl fgM)), (eF, .inl (cI, 10, .inl feF)), (eC, .inl (cI, 10, .inl feC)), (eM, .inl (cI, 10, .inl feM)), (g0, .inr (1, [.ref gF, .ref gK, .ref gT, .ref gC, .ref gM, .int (nI gnq), .ref eF, .ref eC, .ref eM, .int (nI enq), .ref hopA])), (h0, .inr (2, [.ref tO, .int so, .int pl, .int bh, .int fa_])), (tO, .inr (3, [.ref sA, .int (nI nq)])), (sA, .inl (cC, 1600, .inl fs))] H := hP
              have hD : va_D A [(gF, .inl (cI, 40, .inl fgF)), (gK, .inl (cI, 40, .inl fgK)), (gT, .inl (cI, 40, .inl fgT)), (gC, .inl (cI, 40, .inl fgC)), (gM, .inl (cI, 40, .inl fgM)), (eF, .inl (cI, 10, .inl feF)), (eC, .inl (cI, 10, .inl feC)), (eM, .inl (cI, 10, .inl feM)), (g0, .inr (1, [.ref gF, .ref gK, .ref gT, .ref gC, .ref gM, .int (nI gnq), .ref eF, .ref eC, .ref eM, .int (nI enq), .ref hopA])), (h0, .inr (2, [.ref tO, .int so, .int pl, .int bh, .int fa_])), (tO, .inr (3, [.ref sA, .int (nI nq)])), (sA, .inl (cC, 1600, .inl fs))] := hD
              refine lv_if_eq (tgt := 75) hx hb dX2_read_64 (by decide) (fun c_64 => ?_) (fun c_64 => ?_)
              · skip
                refine lv_aload_n hx hb dX2_read_75 rfl (lv_at hl 1 rfl) ?_
                refine lv_iconst (v := 1) hx hb dX2_read_76 (by decide) ?_
                have hPc := hP.sub (ws' := [(h0, .inr (2, [.ref tO, .int so, .int pl, .int bh, .int fa_]))]) [9] rfl
                have hDc := hD.sub (ws' := [(h0, .inr (2, [.ref tO, .int so, .int pl, .int bh, .int fa_]))]) [9] (by decide) rfl
                have hFc := va_free (wc := [(h0, .inr (2, [.ref tO, .int so, .int pl, .int bh, .int fa_]))]) hD hS hA [9] rfl
                refine va_callv (va_runV (As := [.int 1]) (rest := []) ⟨hx, hb, hml, hown, hts⟩ (k_refuse l dC dI cI cZ cC cJ H.size  h0 tO so pl bh fa_ 1 fs nq sq.1 hR) (cwV 1 hts gX2_read_X2_refuse rfl rfl rfl (by decide +kernel) ⟨Nat.le_of_ble_eq_true rfl, Nat.le_of_ble_eq_true rfl⟩) ⟨sPre_blind, va_recv hK hPc (ci := 2) (q0 := 0) rfl rfl, fun U hU hW => ⟨rfl, sPre_ok hsk hPc hDc hU hW⟩⟩ rfl rfl hl.1 rfl (lv_room (Nat.le_of_ble_eq_true rfl)) dX2_read_77 ⟨(show 0 + 0 ≤ 0 by omega), (show 0 + 0 ≤ 0 by omega)⟩) hS (fun q _ h => hFc q h) hFc (fun u t H1 locs ht hvm hw hB hz1 hk1 hS => ?_)
                obtain ⟨f_13, rfl⟩ : ∃ z, z = u := ⟨_, rfl⟩
                try dsimp only at hw hB
                have he_14 := hw
                have he_14 : rOK fs nq (stR (tkO fs nq) 1 sq.1) so pl bh f_13 := he_14
                obtain ⟨q_15, eq_15⟩ : ∃ x9 : Nat × Int32, x9 = stR (tkO fs nq) 1 sq.1 := ⟨_, rfl⟩
                rw [← eq_15] at he_14
                obtain ⟨hP1, hD1⟩ := hB
                rw [ht] at hP1
                obtain ⟨hP, hD⟩ := va_join (wr := [(gF, .inl (cI, 40, .inl fgF)), (gK, .inl (cI, 40, .inl fgK)), (gT, .inl (cI, 40, .inl fgT)), (gC, .inl (cI, 40, .inl fgC)), (gM, .inl (cI, 40, .inl fgM)), (eF, .inl (cI, 10, .inl feF)), (eC, .inl (cI, 10, .inl feC)), (eM, .inl (cI, 10, .inl feM)), (g0, .inr (1, [.ref gF, .ref gK, .ref gT, .ref gC, .ref gM, .int (nI gnq), .ref eF, .ref eC, .ref eM, .int (nI enq), .ref hopA])), (tO, .inr (3, [.ref sA, .int (nI nq)])), (sA, .inl (cC, 1600, .inl fs))]) (w1 := [(h0, .inr (2, [.ref tO, .int so, .int pl, .int bh, .int f_13]))]) hP hD [9] [0, 1, 2, 3, 4, 5, 6, 7, 8, 10, 11] rfl rfl (by decide) (by decide) hk1 hFc hP1 hD1
                generalize H1 = H at hP hS ⊢
                have hP : va_P (dC, dI) vwCl [(gF, .inl (cI, 40, .inl fgF)), (gK, .inl (cI, 40, .inl fgK)), (gT, .inl (cI, 40, .inl fgT)), (gC, .inl (cI, 40, .inl fgC)), (gM, .inl (cI, 40, .inl fgM)), (eF, .inl (cI, 10, .inl feF)), (eC, .inl (cI, 10, .inl feC)), (eM, .inl (cI, 10, .inl feM)), (g0, .inr (1, [.ref gF, .ref gK, .ref gT, .ref gC, .ref gM, .int (nI gnq), .ref eF, .ref eC, .ref eM, .int (nI enq), .ref hopA])), (tO, .inr (3, [.ref sA, .int (nI nq)])), (sA, .inl (cC, 1600, .inl fs)), (h0, .inr (2, [.ref tO, .int so, .int pl, .int bh, .int f_13]))] H := hP
                have hD : va_D A [(gF, .inl (cI, 40, .inl fgF)), (gK, .inl (cI, 40, .inl fgK)), (gT, .inl (cI, 40, .inl fgT)), (gC, .inl (cI, 40, .inl fgC)), (gM, .inl (cI, 40, .inl fgM)), (eF, .inl (cI, 10, .inl feF)), (eC, .inl (cI, 10, .inl feC)), (eM, .inl (cI, 10, .inl feM)), (g0, .inr (1, [.ref gF, .ref gK, .ref gT, .ref gC, .ref gM, .int (nI gnq), .ref eF, .ref eC, .ref eM, .int (nI enq), .ref hopA])), (tO, .inr (3, [.ref sA, .int (nI nq)])), (sA, .inl (cC, 1600, .inl fs)), (h0, .inr (2, [.ref tO, .int so, .int pl, .int bh, .int f_13]))] := hD
                refine lv_iinc (v := (nI (k + 1))) (lv' := [(2, .int (nI (k + 1))), (0, .ref h0), (1, .ref g0)]) hx hb dX2_read_80 hl (k := 0) rfl (nI_1 k) (by decide) rfl (fun ls hl => ?_)
                refine lv_goto (tgt := 20) hx hb dX2_read_83 (by decide) ?_
                exact ih_20  (k + 1) (rdL (tkO fs nq) sq) so pl bh f_13 gnq enq fgF fgK fgT fgC fgM feF feC feM (by omega) (by omega) (by have h8 := rdL_no (t := (tkO fs nq)) (s := sq) (show (tkO fs nq).T sq.1.1 0 = 0 from he_9.symm.trans c_47) (show (tkO fs nq).T sq.1.1 8 = 0 from he_11.symm.trans c_64) hz_; rw [h8]; exact rOK_of he_14 eq_15) (by have h8 := rdL_no (t := (tkO fs nq)) (s := sq) (show (tkO fs nq).T sq.1.1 0 = 0 from he_9.symm.trans c_47) (show (tkO fs nq).T sq.1.1 8 = 0 from he_11.symm.trans c_64) hz_; rw [h8]; exact hLn) (by rw [← rdR_go hz_ hSn, show 1600 - (k + 1) + 1 = 1600 - k by omega]; exact hRun) _ _ _ (hP.sub [0, 1, 2, 3, 4, 5, 6, 7, 8, 11, 9, 10] rfl) (hD.sub [0, 1, 2, 3, 4, 5, 6, 7, 8, 11, 9, 10] (by decide) rfl) hS (lv_sub hl [0, 1, 2] rfl)
              · skip
                refine lv_aload_n hx hb dX2_read_67 rfl (lv_at hl 1 rfl) ?_
                refine lv_aload_n hx hb dX2_read_68 rfl (lv_at hl 2 rfl) ?_
                have hPc := hP.sub (ws' := [(h0, .inr (2, [.ref tO, .int so, .int pl, .int bh, .int fa_])), (tO, .inr (3, [.ref sA, .int (nI nq)])), (sA, .inl (cC, 1600, .inl fs)), (g0, .inr (1, [.ref gF, .ref gK, .ref gT, .ref gC, .ref gM, .int (nI gnq), .ref eF, .ref eC, .ref eM, .int (nI enq), .ref hopA])), (eF, .inl (cI, 10, .inl feF)), (eC, .inl (cI, 10, .inl feC)), (eM, .inl (cI, 10, .inl feM))]) [9, 10, 11, 8, 5, 6, 7] rfl
                have hDc := hD.sub (ws' := [(h0, .inr (2, [.ref tO, .int so, .int pl, .int bh, .int fa_])), (tO, .inr (3, [.ref sA, .int (nI nq)])), (sA, .inl (cC, 1600, .inl fs)), (g0, .inr (1, [.ref gF, .ref gK, .ref gT, .ref gC, .ref gM, .int (nI gnq), .ref eF, .ref eC, .ref eM, .int (nI enq), .ref hopA])), (eF, .inl (cI, 10, .inl feF)), (eC, .inl (cI, 10, .inl feC)), (eM, .inl (cI, 10, .inl feM))]) [9, 10, 11, 8, 5, 6, 7] (by decide) rfl
                have hFc := va_free (wc := [(h0, .inr (2, [.ref tO, .int so, .int pl, .int bh, .int fa_])), (tO, .inr (3, [.ref sA, .int (nI nq)])), (sA, .inl (cC, 1600, .inl fs)), (g0, .inr (1, [.ref gF, .ref gK, .ref gT, .ref gC, .ref gM, .int (nI gnq), .ref eF, .ref eC, .ref eM, .int (nI enq), .ref hopA])), (eF, .inl (cI, 10, .inl feF)), (eC, .inl (cI, 10, .inl feC)), (eM, .inl (cI, 10, .inl feM))]) hD hS hA [9, 10, 11, 8, 5, 6, 7] rfl
                refine va_callv (va_runV (As := [.ref g0]) (rest := []) ⟨hx, hb, hml, hown, hts⟩ (k_readEnd l dC dI cI cZ cC cJ H.size adK adV h0 tO so pl bh fa_ sA nq fs g0 gF gK gT gC gM (nI gnq) eF eC eM enq hopA feF feC feM sq.1 (by first | assumption | decide | omega) hR hz_ hLn.2.2.1) (cwV 1 hts gX2_read_X2_readEnd rfl rfl rfl (by decide +kernel) ⟨Nat.le_of_ble_eq_true rfl, Nat.le_of_ble_eq_true rfl⟩) ⟨tW_blind, va_recv hK hPc (ci := 2) (q0 := 0) rfl rfl, fun U hU hW => ⟨rfl, sPre_ok hsk hPc hDc hU hW, tW_warm hW hU hS (fun q h => hFc q h) htw⟩⟩ rfl rfl hl.1 rfl (lv_room (Nat.le_of_ble_eq_true rfl)) dX2_read_69 ⟨(show 0 + 0 ≤ 0 by omega), (show 0 + 0 ≤ 0 by omega)⟩) hS (fun q _ h => hFc q h) hFc (fun u t H1 locs ht hvm hw hB hz1 hk1 hS => ?_)
                obtain ⟨s_17, p_18, b_19, f_20, e_21, f_22, f_23, f_24⟩ := u
                try dsimp only at hw hB
                obtain ⟨he_25, he_26⟩ := hw
                have he_25 : rOK fs nq (reQ (tkO fs nq) enq sq.1) s_17 p_18 b_19 f_20 := he_25
                have he_26 : addE3 f_20 enq e_21 (leL (tkO fs nq) sq.1) feF feC feM f_22 f_23 f_24 := he_26
                obtain ⟨q_27, eq_27⟩ : ∃ x9 : Nat × Int32, x9 = reQ (tkO fs nq) enq sq.1 := ⟨_, rfl⟩
                rw [← eq_27] at he_25
                obtain ⟨hP1, hD1⟩ := hB
                rw [ht] at hP1
                obtain ⟨hP, hD⟩ := va_join (wr := [(gF, .inl (cI, 40, .inl fgF)), (gK, .inl (cI, 40, .inl fgK)), (gT, .inl (cI, 40, .inl fgT)), (gC, .inl (cI, 40, .inl fgC)), (gM, .inl (cI, 40, .inl fgM))]) (w1 := [(h0, .inr (2, [.ref tO, .int s_17, .int p_18, .int b_19, .int f_20])), (tO, .inr (3, [.ref sA, .int (nI nq)])), (sA, .inl (cC, 1600, .inl fs)), (g0, .inr (1, [.ref gF, .ref gK, .ref gT, .ref gC, .ref gM, .int (nI gnq), .ref eF, .ref eC, .ref eM, .int (nI e_21), .ref hopA])), (eF, .inl (cI, 10, .inl f_22)), (eC, .inl (cI, 10, .inl f_23)), (eM, .inl (cI, 10, .inl f_24))]) hP hD [9, 10, 11, 8, 5, 6, 7] [0, 1, 2, 3, 4] rfl rfl (by decide) (by decide) hk1 hFc hP1 hD1
                generalize H1 = H at hP hS ⊢
                have hP : va_P (dC, dI) vwCl [(gF, .inl (cI, 40, .inl fgF)), (gK, .inl (cI, 40, .inl fgK)), (gT, .inl (cI, 40, .inl fgT)), (gC, .inl (cI, 40, .inl fgC)), (gM, .inl (cI, 40, .inl fgM)), (h0, .inr (2, [.ref tO, .int s_17, .int p_18, .int b_19, .int f_20])), (tO, .inr (3, [.ref sA, .int (nI nq)])), (sA, .inl (cC, 1600, .inl fs)), (g0, .inr (1, [.ref gF, .ref gK, .ref gT, .ref gC, .ref gM, .int (nI gnq), .ref eF, .ref eC, .ref eM, .int (nI e_21), .ref hopA])), (eF, .inl (cI, 10, .inl f_22)), (eC, .inl (cI, 10, .inl f_23)), (eM, .inl (cI, 10, .inl f_24))] H := hP
                have hD : va_D A [(gF, .inl (cI, 40, .inl fgF)), (gK, .inl (cI, 40, .inl fgK)), (gT, .inl (cI, 40, .inl fgT)), (gC, .inl (cI, 40, .inl fgC)), (gM, .inl (cI, 40, .inl fgM)), (h0, .inr (2, [.ref tO, .int s_17, .int p_18, .int b_19, .int f_20])), (tO, .inr (3, [.ref sA, .int (nI nq)])), (sA, .inl (cC, 1600, .inl fs)), (g0, .inr (1, [.ref gF, .ref gK, .ref gT, .ref gC, .ref gM, .int (nI gnq), .ref eF, .ref eC, .ref eM, .int (nI e_21), .ref hopA])), (eF, .inl (cI, 10, .inl f_22)), (eC, .inl (cI, 10, .inl f_23)), (eM, .inl (cI, 10, .inl f_24))] := hD
                refine lv_goto (tgt := 80) hx hb dX2_read_72 (by decide) ?_
                refine lv_iinc (v := (nI (k + 1))) (lv' := [(2, .int (nI (k + 1))), (0, .ref h0), (1, .ref g0)]) hx hb dX2_read_80 hl (k := 0) rfl (nI_1 k) (by decide) rfl (fun ls hl => ?_)
                refine lv_goto (tgt := 20) hx hb dX2_read_83 (by decide) ?_
                exact ih_20  (k + 1) (rdL (tkO fs nq) sq) s_17 p_18 b_19 f_20 gnq e_21 fgF fgK fgT fgC fgM f_22 f_23 f_24 (by omega) (by omega) (by have h8 := rdL_en (t := (tkO fs nq)) (s := sq) (show (tkO fs nq).T sq.1.1 0 = 0 from he_9.symm.trans c_47) (show ¬ (tkO fs nq).T sq.1.1 8 = 0 from fun z => c_64 (he_11.trans z)); have h9 := rdE_ln (t := (tkO fs nq)) (s := sq) (flt_ne hnq (by decide) (by decide)) hLn (by rw [← eq_27]; exact he_25.2.2.2) he_26; rw [h8]; exact rOK_of he_25 (eq_27.trans h9.1.symm)) (by have h8 := rdL_en (t := (tkO fs nq)) (s := sq) (show (tkO fs nq).T sq.1.1 0 = 0 from he_9.symm.trans c_47) (show ¬ (tkO fs nq).T sq.1.1 8 = 0 from fun z => c_64 (he_11.trans z)); have h9 := rdE_ln (t := (tkO fs nq)) (s := sq) (flt_ne hnq (by decide) (by decide)) hLn (by rw [← eq_27]; exact he_25.2.2.2) he_26; rw [h8]; exact h9.2) (by rw [← rdR_go hz_ hSn, show 1600 - (k + 1) + 1 = 1600 - k by omega]; exact hRun) _ _ _ (hP.sub [0, 1, 2, 3, 4, 9, 10, 11, 8, 5, 6, 7] rfl) (hD.sub [0, 1, 2, 3, 4, 9, 10, 11, 8, 5, 6, 7] (by decide) rfl) hS (lv_sub hl [0, 1, 2] rfl)
            · skip
              refine lv_aload_n hx hb dX2_read_50 rfl (lv_at hl 1 rfl) ?_
              refine lv_aload_n hx hb dX2_read_51 rfl (lv_at hl 2 rfl) ?_
              have hPc := hP.sub (ws' := [(h0, .inr (2, [.ref tO, .int so, .int pl, .int bh, .int fa_])), (tO, .inr (3, [.ref sA, .int (nI nq)])), (sA, .inl (cC, 1600, .inl fs)), (g0, .inr (1, [.ref gF, .ref gK, .ref gT, .ref gC, .ref gM, .int (nI gnq), .ref eF, .ref eC, .ref eM, .int (nI enq), .ref hopA])), (gF, .inl (cI, 40, .inl fgF)), (gK, .inl (cI, 40, .inl fgK)), (gT, .inl (cI, 40, .inl fgT)), (gC, .inl (cI, 40, .inl fgC)), (gM, .inl (cI, 40, .inl fgM))]) [9, 10, 11, 8, 0, 1, 2, 3, 4] rfl
              have hDc := hD.sub (ws' := [(h0, .inr (2, [.ref tO, .int so, .int pl, .int bh, .int fa_])), (tO, .inr (3, [.ref sA, .int (nI nq)])), (sA, .inl (cC, 1600, .inl fs)), (g0, .inr (1, [.ref gF, .ref gK, .ref gT, .ref gC, .ref gM, .int (nI gnq), .ref eF, .ref eC, .ref eM, .int (nI enq), .ref hopA])), (gF, .inl (cI, 40, .inl fgF)), (gK, .inl (cI, 40, .inl fgK)), (gT, .inl (cI, 40, .inl fgT)), (gC, .inl (cI, 40, .inl fgC)), (gM, .inl (cI, 40, .inl fgM))]) [9, 10, 11, 8, 0, 1, 2, 3, 4] (by decide) rfl
              have hFc := va_free (wc := [(h0, .inr (2, [.ref tO, .int so, .int pl, .int bh, .int fa_])), (tO, .inr (3, [.ref sA, .int (nI nq)])), (sA, .inl (cC, 1600, .inl fs)), (g0, .inr (1, [.ref gF, .ref gK, .ref gT, .ref gC, .ref gM, .int (nI gnq), .ref eF, .ref eC, .ref eM, .int (nI enq), .ref hopA])), (gF, .inl (cI, 40, .inl fgF)), (gK, .inl (cI, 40, .inl fgK)), (gT, .inl (cI, 40, .inl fgT)), (gC, .inl (cI, 40, .inl fgC)), (gM, .inl (cI, 40, .inl fgM))]) hD hS hA [9, 10, 11, 8, 0, 1, 2, 3, 4] rfl
              refine va_callv (va_runV (As := [.ref g0]) (rest := []) ⟨hx, hb, hml, hown, hts⟩ (k_readGo l dC dI cI cZ cC cJ H.size adK adV h0 tO so pl bh fa_ sA nq fs g0 gF gK gT gC gM gnq eF eC eM (nI enq) hopA fgF fgK fgT fgC fgM sq.1 (by first | assumption | decide | omega) hR hz_ hLn.1.2.1) (cwV 1 hts gX2_read_X2_readGo rfl rfl rfl (by decide +kernel) ⟨Nat.le_of_ble_eq_true rfl, Nat.le_of_ble_eq_true rfl⟩) ⟨tW_blind, va_recv hK hPc (ci := 2) (q0 := 0) rfl rfl, fun U hU hW => ⟨rfl, sPre_ok hsk hPc hDc hU hW, tW_warm hW hU hS (fun q h => hFc q h) htw⟩⟩ rfl rfl hl.1 rfl (lv_room (Nat.le_of_ble_eq_true rfl)) dX2_read_52 ⟨(show 0 + 0 ≤ 0 by omega), (show 0 + 0 ≤ 0 by omega)⟩) hS (fun q _ h => hFc q h) hFc (fun u t H1 locs ht hvm hw hB hz1 hk1 hS => ?_)
              obtain ⟨s_29, p_30, b_31, f_32, g_33, f_34, f_35, f_36, f_37, f_38⟩ := u
              try dsimp only at hw hB
              obtain ⟨he_39, he_40⟩ := hw
              have he_39 : rOK fs nq (rgQ (tkO fs nq) gnq sq.1) s_29 p_30 b_31 f_32 := he_39
              have he_40 : addD f_32 gnq g_33 (lgL (tkO fs nq) sq.1) fgF fgK fgT fgC fgM f_34 f_35 f_36 f_37 f_38 := he_40
              obtain ⟨q_41, eq_41⟩ : ∃ x9 : Nat × Int32, x9 = rgQ (tkO fs nq) gnq sq.1 := ⟨_, rfl⟩
              rw [← eq_41] at he_39
              obtain ⟨hP1, hD1⟩ := hB
              rw [ht] at hP1
              obtain ⟨hP, hD⟩ := va_join (wr := [(eF, .inl (cI, 10, .inl feF)), (eC, .inl (cI, 10, .inl feC)), (eM, .inl (cI, 10, .inl feM))]) (w1 := [(h0, .inr (2, [.ref tO, .int s_29, .int p_30, .int b_31, .int f_32])), (tO, .inr (3, [.ref sA, .int (nI nq)])), (sA, .inl (cC, 1600, .inl fs)), (g0, .inr (1, [.ref gF, .ref gK, .ref gT, .ref gC, .ref gM, .int (nI g_33), .ref eF, .ref eC, .ref eM, .int (nI enq), .ref hopA])), (gF, .inl (cI, 40, .inl f_34)), (gK, .inl (cI, 40, .inl f_35)), (gT, .inl (cI, 40, .inl f_36)), (gC, .inl (cI, 40, .inl f_37)), (gM, .inl (cI, 40, .inl f_38))]) hP hD [9, 10, 11, 8, 0, 1, 2, 3, 4] [5, 6, 7] rfl rfl (by decide) (by decide) hk1 hFc hP1 hD1
              generalize H1 = H at hP hS ⊢
              have hP : va_P (dC, dI) vwCl [(eF, .inl (cI, 10, .inl feF)), (eC, .inl (cI, 10, .inl feC)), (eM, .inl (cI, 10, .inl feM)), (h0, .inr (2, [.ref tO, .int s_29, .int p_30, .int b_31, .int f_32])), (tO, .inr (3, [.ref sA, .int (nI nq)])), (sA, .inl (cC, 1600, .inl fs)), (g0, .inr (1, [.ref gF, .ref gK, .ref gT, .ref gC, .ref gM, .int (nI g_33), .ref eF, .ref eC, .ref eM, .int (nI enq), .ref hopA])), (gF, .inl (cI, 40, .inl f_34)), (gK, .inl (cI, 40, .inl f_35)), (gT, .inl (cI, 40, .inl f_36)), (gC, .inl (cI, 40, .inl f_37)), (gM, .inl (cI, 40, .inl f_38))] H := hP
              have hD : va_D A [(eF, .inl (cI, 10, .inl feF)), (eC, .inl (cI, 10, .inl feC)), (eM, .inl (cI, 10, .inl feM)), (h0, .inr (2, [.ref tO, .int s_29, .int p_30, .int b_31, .int f_32])), (tO, .inr (3, [.ref sA, .int (nI nq)])), (sA, .inl (cC, 1600, .inl fs)), (g0, .inr (1, [.ref gF, .ref gK, .ref gT, .ref gC, .ref gM, .int (nI g_33), .ref eF, .ref eC, .ref eM, .int (nI enq), .ref hopA])), (gF, .inl (cI, 40, .inl f_34)), (gK, .inl (cI, 40, .inl f_35)), (gT, .inl (cI, 40, .inl f_36)), (gC, .inl (cI, 40, .inl f_37)), (gM, .inl (cI, 40, .inl f_38))] := hD
              refine lv_goto (tgt := 80) hx hb dX2_read_55 (by decide) ?_
              refine lv_iinc (v := (nI (k + 1))) (lv' := [(2, .int (nI (k + 1))), (0, .ref h0), (1, .ref g0)]) hx hb dX2_read_80 hl (k := 0) rfl (nI_1 k) (by decide) rfl (fun ls hl => ?_)
              refine lv_goto (tgt := 20) hx hb dX2_read_83 (by decide) ?_
              exact ih_20  (k + 1) (rdL (tkO fs nq) sq) s_29 p_30 b_31 f_32 g_33 enq f_34 f_35 f_36 f_37 f_38 feF feC feM (by omega) (by omega) (by have h8 := rdL_go (t := (tkO fs nq)) (s := sq) (show ¬ (tkO fs nq).T sq.1.1 0 = 0 from fun z => c_47 (he_9.trans z)); have h9 := rdG_ln (t := (tkO fs nq)) (s := sq) (flt_ne hnq (by decide) (by decide)) hLn (by rw [← eq_41]; exact he_39.2.2.2) he_40; rw [h8]; exact rOK_of he_39 (eq_41.trans h9.1.symm)) (by have h8 := rdL_go (t := (tkO fs nq)) (s := sq) (show ¬ (tkO fs nq).T sq.1.1 0 = 0 from fun z => c_47 (he_9.trans z)); have h9 := rdG_ln (t := (tkO fs nq)) (s := sq) (flt_ne hnq (by decide) (by decide)) hLn (by rw [← eq_41]; exact he_39.2.2.2) he_40; rw [h8]; exact h9.2) (by rw [← rdR_go hz_ hSn, show 1600 - (k + 1) + 1 = 1600 - k by omega]; exact hRun) _ _ _ (hP.sub [7, 8, 9, 10, 11, 0, 1, 2, 6, 3, 4, 5] rfl) (hD.sub [7, 8, 9, 10, 11, 0, 1, 2, 6, 3, 4, 5] (by decide) rfl) hS (lv_sub hl [0, 1, 2] rfl)
  exact lp_20 1601 0 ((0, 0), [], []) s_3 p_4 b_5 0 0 0 fgF fgK fgT fgC fgM feF feC feM (by omega) (by omega) (rOK_of he_6 eq_7) (⟨⟨rfl, by omega, LG_0⟩, rfl, by omega, LE_0⟩) (eRq.symm) _ _ _ hP hD hS (lv_sub hl [0, 1, 2] rfl)

/-! THE REFERENCE'S TOKENS are the class's: what its rows hold for token j; words by base 37, numbers by base 10. -/
theorem rnE_all {f : Nat → Int32} {w : Int32} : ∀ (d a p : Nat), a ≤ p → p < rnE f w d a → srt (f p) = w
  | 0, a, p, h1, h2 => absurd h2 (by show ¬ p < a; omega)
  | d + 1, a, p, h1, h2 => by
    unfold rnE at h2
    by_cases c : srt (f a) = w
    · rw [if_pos c] at h2
      rcases Nat.lt_or_ge a p with q | q
      · exact rnE_all d (a + 1) p q h2
      · rw [show p = a by omega]; exact c
    · rw [if_neg c] at h2; omega
theorem rnE_stop {f : Nat → Int32} {w : Int32} : ∀ (d a : Nat), rnE f w d a < a + d → ¬ srt (f (rnE f w d a)) = w
  | 0, a, h => absurd h (by show ¬ a < a + 0; omega)
  | d + 1, a, h => by
    unfold rnE at h ⊢
    by_cases c : srt (f a) = w
    · rw [if_pos c] at h ⊢; exact rnE_stop d (a + 1) (by omega)
    · rw [if_neg c]; exact c
theorem srt_v (c : Int32) : srt c = 0 ∨ srt c = 1 ∨ srt c = 2 ∨ srt c = 3 ∨ srt c = 4 ∨ srt c = 5 := by
  unfold srt
  repeat' (first | exact Or.inl rfl | exact Or.inr (Or.inl rfl) | exact Or.inr (Or.inr (Or.inl rfl)) | exact Or.inr (Or.inr (Or.inr (Or.inl rfl))) | exact Or.inr (Or.inr (Or.inr (Or.inr (Or.inl rfl)))) | exact Or.inr (Or.inr (Or.inr (Or.inr (Or.inr rfl)))) | split)
theorem tkK_n1 (f : Nat → Int32) (n b : Nat) (hb : b ≤ n) : ¬ tkK f n b = 1 := by
  rcases Nat.lt_or_ge (tkP f n b) n with q | q
  · have h := rnE_stop (f := f) (w := 1) (n - b) b (by have : rnE f 1 (n - b) b < n := q; omega)
    unfold tkK sgA
    rw [if_pos q]; exact h
  · rw [tkK_end q]; decide
theorem aS_v (f : Nat → Int32) (n j : Nat) : aS f n j = 0 ∨ aS f n j = 2 ∨ aS f n j = 3 ∨ aS f n j = 4 ∨ aS f n j = 5 := by
  have h1 := tkK_n1 f n (bs f n j) (bs_le f n j)
  have h2 : tkK f n (bs f n j) = 0 ∨ tkK f n (bs f n j) = 1 ∨ tkK f n (bs f n j) = 2 ∨ tkK f n (bs f n j) = 3 ∨ tkK f n (bs f n j) = 4 ∨ tkK f n (bs f n j) = 5 := srt_v _
  unfold aS tkS
  generalize tkK f n (bs f n j) = x at h1 h2 ⊢
  rcases h2 with rfl | rfl | rfl | rfl | rfl | rfl
  · exact Or.inl rfl
  · exact absurd rfl h1
  · rw [if_pos rfl]
    split
    · exact Or.inr (Or.inr (Or.inr (Or.inr rfl)))
    · exact Or.inr (Or.inl rfl)
  · rw [if_neg (by decide), if_pos rfl]
    split
    · exact Or.inr (Or.inr (Or.inr (Or.inr rfl)))
    · exact Or.inr (Or.inr (Or.inl rfl))
  · exact Or.inr (Or.inr (Or.inr (Or.inl rfl)))
  · exact Or.inr (Or.inr (Or.inr (Or.inr rfl)))
/-- a token of the sort letters or digits is one run of them -/
theorem aS_run {f : Nat → Int32} {n j : Nat} {w : Int32} (hw : w = 2 ∨ w = 3) (h : aS f n j = w) : ∀ p : Nat, aP f n j ≤ p → p < bs f n (j + 1) → srt (f p) = w := by
  intro p h1 h2
  have hk : tkK f n (bs f n j) = w := by
    unfold aS tkS at h
    by_cases c2 : tkK f n (bs f n j) = 2
    · rw [if_pos c2] at h
      split at h
      · rcases hw with rfl | rfl <;> exact absurd h (by decide)
      · exact c2.trans h
    · rw [if_neg c2] at h
      by_cases c3 : tkK f n (bs f n j) = 3
      · rw [if_pos c3] at h
        split at h
        · rcases hw with rfl | rfl <;> exact absurd h (by decide)
        · exact c3.trans h
      · rw [if_neg c3] at h; exact h
  have hb : bs f n (j + 1) = rnE f w (n - aP f n j) (aP f n j) := by
    show tkB f n (bs f n j) = rnE f w (n - tkP f n (bs f n j)) (tkP f n (bs f n j))
    unfold tkB
    rcases hw with rfl | rfl
    · rw [if_pos hk]
    · rw [if_neg (by rw [hk]; decide), if_pos hk]
  rw [hb] at h2
  exact rnE_all _ _ p h1 h2
theorem aS_len {f : Nat → Int32} {n j : Nat} : (aS f n j = 2 → bs f n (j + 1) - aP f n j ≤ 8) ∧ (aS f n j = 3 → bs f n (j + 1) - aP f n j ≤ 4) := by
  have e1 : bs f n (j + 1) = tkB f n (bs f n j) := rfl
  have e2 : aP f n j = tkP f n (bs f n j) := rfl
  have h2 : tkK f n (bs f n j) = 0 ∨ tkK f n (bs f n j) = 1 ∨ tkK f n (bs f n j) = 2 ∨ tkK f n (bs f n j) = 3 ∨ tkK f n (bs f n j) = 4 ∨ tkK f n (bs f n j) = 5 := srt_v _
  rw [e1, e2]
  unfold aS tkS
  generalize tkK f n (bs f n j) = x at h2 ⊢
  generalize tkB f n (bs f n j) - tkP f n (bs f n j) = d
  rcases h2 with rfl | rfl | rfl | rfl | rfl | rfl
  · rw [if_neg (by decide), if_neg (by decide)]; exact ⟨fun h => absurd h (by decide), fun h => absurd h (by decide)⟩
  · rw [if_neg (by decide), if_neg (by decide)]; exact ⟨fun h => absurd h (by decide), fun h => absurd h (by decide)⟩
  · rw [if_pos rfl]
    split
    · exact ⟨fun h => absurd h (by decide), fun h => absurd h (by decide)⟩
    · exact ⟨fun _ => by omega, fun h => absurd h (by decide)⟩
  · rw [if_neg (by decide), if_pos rfl]
    split
    · exact ⟨fun h => absurd h (by decide), fun h => absurd h (by decide)⟩
    · exact ⟨fun h => absurd h (by decide), fun _ => by omega⟩
  · rw [if_neg (by decide), if_neg (by decide)]; exact ⟨fun h => absurd h (by decide), fun h => absurd h (by decide)⟩
  · rw [if_neg (by decide), if_neg (by decide)]; exact ⟨fun h => absurd h (by decide), fun h => absurd h (by decide)⟩
/-! signs: which sort, by bounds -/
theorem srt_2 {c : Int32} : srt c = 2 ↔ ¬ isL c = 0 := by
  unfold srt isL
  by_cases a1 : c = -1
  · subst a1; decide
  · rw [if_neg a1]
    by_cases a2 : c = 10
    · subst a2; decide
    · rw [if_neg a2]
      by_cases a3 : c = 32
      · subst a3; decide
      · rw [if_neg a3]
        by_cases a4 : c < 97
        · rw [if_pos a4, if_pos a4]
          repeat' split
          all_goals decide
        · rw [if_neg a4, if_neg a4]
          by_cases a5 : 122 < c
          · rw [if_pos a5, if_pos a5]
            repeat' split
            all_goals decide
          · rw [if_neg a5, if_neg a5]; decide
theorem i_lt {a b : Int32} (h : a < b) : a.toInt < b.toInt := by rw [Int32.lt_iff_toInt_lt] at h; exact h
theorem i_nlt {a b : Int32} (h : ¬ a < b) : b.toInt ≤ a.toInt := by rw [Int32.lt_iff_toInt_lt] at h; omega
theorem srt_3 {c : Int32} : srt c = 3 ↔ ¬ isD c = 0 := by
  have e97 : (97 : Int32).toInt = 97 := rfl
  have e48 : (48 : Int32).toInt = 48 := rfl
  have e57 : (57 : Int32).toInt = 57 := rfl
  have e122 : (122 : Int32).toInt = 122 := rfl
  unfold srt isD
  by_cases a1 : c = -1
  · subst a1; decide
  · rw [if_neg a1]
    by_cases a2 : c = 10
    · subst a2; decide
    · rw [if_neg a2]
      by_cases a3 : c = 32
      · subst a3; decide
      · rw [if_neg a3]
        by_cases b1 : c < 48
        · rw [if_pos b1, if_pos b1]
          repeat' split
          all_goals decide
        · rw [if_neg b1, if_neg b1]
          by_cases b2 : 57 < c
          · rw [if_pos b2, if_pos b2]
            repeat' split
            all_goals decide
          · rw [if_neg b2, if_neg b2]
            have h1 := i_nlt b2
            by_cases a4 : c < 97
            · rw [if_pos a4]; decide
            · have := i_nlt a4; omega
theorem srt_1 {c : Int32} : srt c = 1 ↔ (c = 10 ∨ c = 32) := by
  unfold srt
  by_cases a1 : c = -1
  · subst a1; decide
  · rw [if_neg a1]
    by_cases a2 : c = 10
    · rw [if_pos a2]; exact ⟨fun _ => Or.inl a2, fun _ => rfl⟩
    · rw [if_neg a2]
      by_cases a3 : c = 32
      · rw [if_pos a3]; exact ⟨fun _ => Or.inr a3, fun _ => rfl⟩
      · rw [if_neg a3]
        have hn : ¬ (c = 10 ∨ c = 32) := fun h => h.elim a2 a3
        repeat' split
        all_goals exact ⟨fun h => absurd h (by decide), fun h => absurd h hn⟩
theorem srt_s {c : Int32} (h1 : ¬ c = -1) (h2 : ¬ srt c = 1) (h3 : isL c = 0) (h4 : isD c = 0) : srt c = if c = 59 then 4 else 5 := by
  have n2 : ¬ srt c = 2 := fun h => (srt_2.mp h) h3
  have n3 : ¬ srt c = 3 := fun h => (srt_3.mp h) h4
  unfold srt at *
  rw [if_neg h1] at h2 n2 n3 ⊢
  by_cases a2 : c = 10
  · rw [if_pos a2] at h2; exact absurd rfl h2
  · rw [if_neg a2] at h2 n2 n3 ⊢
    by_cases a3 : c = 32
    · rw [if_pos a3] at h2; exact absurd rfl h2
    · rw [if_neg a3] at h2 n2 n3 ⊢
      by_cases a4 : c < 97
      · rw [if_pos a4] at n2 n3 ⊢
        by_cases b1 : c < 48
        · rw [if_pos b1]
        · rw [if_neg b1] at n2 n3 ⊢
          by_cases b2 : 57 < c
          · rw [if_pos b2]
          · rw [if_neg b2] at n3; exact absurd rfl n3
      · rw [if_neg a4] at n2 n3 ⊢
        by_cases a5 : 122 < c
        · rw [if_pos a5] at n2 n3 ⊢
          by_cases b1 : c < 48
          · rw [if_pos b1]
          · rw [if_neg b1] at n2 n3 ⊢
            by_cases b2 : 57 < c
            · rw [if_pos b2]
            · rw [if_neg b2] at n3; exact absurd rfl n3
        · rw [if_neg a5] at n2; exact absurd rfl n2
theorem lett {c : Int32} (h : srt c = 2) : ∃ k : Nat, 97 ≤ k ∧ k ≤ 122 ∧ c = nI k := by
  have h1 := srt_2.mp h
  unfold isL at h1
  by_cases a4 : c < 97
  · rw [if_pos a4] at h1; exact absurd rfl h1
  · rw [if_neg a4] at h1
    by_cases a5 : 122 < c
    · rw [if_pos a5] at h1; exact absurd rfl h1
    · have e97 : (97 : Int32).toInt = 97 := rfl
      have e122 : (122 : Int32).toInt = 122 := rfl
      have q1 := i_nlt a4
      have q2 := i_nlt a5
      obtain ⟨k, hk, rfl⟩ := nI_of (x := c) (fun z => by have := i_lt z; have e0 : (0 : Int32).toInt = 0 := rfl; omega)
      rw [nI_toInt hk] at q1 q2
      exact ⟨k, by omega, by omega, rfl⟩
theorem digi {c : Int32} (h : srt c = 3) : ∃ k : Nat, 48 ≤ k ∧ k ≤ 57 ∧ c = nI k := by
  have h1 := srt_3.mp h
  unfold isD at h1
  by_cases a4 : c < 48
  · rw [if_pos a4] at h1; exact absurd rfl h1
  · rw [if_neg a4] at h1
    by_cases a5 : 57 < c
    · rw [if_pos a5] at h1; exact absurd rfl h1
    · have e97 : (48 : Int32).toInt = 48 := rfl
      have e122 : (57 : Int32).toInt = 57 := rfl
      have q1 := i_nlt a4
      have q2 := i_nlt a5
      obtain ⟨k, hk, rfl⟩ := nI_of (x := c) (fun z => by have := i_lt z; have e0 : (0 : Int32).toInt = 0 := rfl; omega)
      rw [nI_toInt hk] at q1 q2
      exact ⟨k, by omega, by omega, rfl⟩
/-! words by base 37, numbers by base 10 -/
def wN (f : Nat → Int32) (p : Nat) : Nat → Nat
  | 0 => 0
  | c + 1 => 37 * wN f p c + ((f (p + c)).toNatClampNeg - 96)
def dN (f : Nat → Int32) (p : Nat) : Nat → Nat
  | 0 => 0
  | c + 1 => 10 * dN f p c + ((f (p + c)).toNatClampNeg - 48)
def allS (f : Nat → Int32) (w : Int32) (p c : Nat) : Prop := ∀ i : Nat, i < c → srt (f (p + i)) = w
theorem let_c {c : Int32} (h : srt c = 2) : 1 ≤ c.toNatClampNeg - 96 ∧ c.toNatClampNeg - 96 ≤ 26 := by
  obtain ⟨k, h1, h2, rfl⟩ := lett h
  rw [nI_clamp (by omega)]; omega
theorem dig_c {c : Int32} (h : srt c = 3) : c.toNatClampNeg - 48 ≤ 9 := by
  obtain ⟨k, h1, h2, rfl⟩ := digi h
  rw [nI_clamp (by omega)]; omega
theorem wN_lt {f : Nat → Int32} {p : Nat} : ∀ c : Nat, allS f 2 p c → wN f p c < 37 ^ c
  | 0, _ => by show 0 < 37 ^ 0; decide
  | c + 1, h => by
    have h1 := wN_lt c (fun i hi => h i (by omega))
    have h2 := let_c (h c (by omega))
    show 37 * wN f p c + _ < 37 ^ (c + 1)
    rw [Nat.pow_succ]; omega
theorem dN_lt {f : Nat → Int32} {p : Nat} : ∀ c : Nat, allS f 3 p c → dN f p c < 10 ^ c
  | 0, _ => by show 0 < 10 ^ 0; decide
  | c + 1, h => by
    have h1 := dN_lt c (fun i hi => h i (by omega))
    have h2 := dig_c (h c (by omega))
    show 10 * dN f p c + _ < 10 ^ (c + 1)
    rw [Nat.pow_succ]; omega
theorem wN_8 {f : Nat → Int32} {p c : Nat} (h : allS f 2 p c) (hc : c ≤ 8) : wN f p c < 37 ^ 8 := Nat.lt_of_lt_of_le (wN_lt c h) (Nat.pow_le_pow_right (by decide) hc)
theorem dN_4 {f : Nat → Int32} {p c : Nat} (h : allS f 3 p c) (hc : c ≤ 4) : dN f p c < 10 ^ 4 := Nat.lt_of_lt_of_le (dN_lt c h) (Nat.pow_le_pow_right (by decide) hc)
theorem wN_inj {f g : Nat → Int32} {p r : Nat} : ∀ (c d : Nat), allS f 2 p c → allS g 2 r d → wN f p c = wN g r d → c = d ∧ ∀ i : Nat, i < c → f (p + i) = g (r + i)
  | 0, 0, _, _, _ => ⟨rfl, fun i h => absurd h (Nat.not_lt_zero i)⟩
  | 0, d + 1, _, hg, h => by
    have h2 := let_c (hg d (by omega))
    have h3 : 0 = 37 * wN g r d + ((g (r + d)).toNatClampNeg - 96) := h
    omega
  | c + 1, 0, hf, _, h => by
    have h2 := let_c (hf c (by omega))
    have h3 : 37 * wN f p c + ((f (p + c)).toNatClampNeg - 96) = 0 := h
    omega
  | c + 1, d + 1, hf, hg, h => by
    have q1 := let_c (hf c (by omega))
    have q2 := let_c (hg d (by omega))
    have h3 : 37 * wN f p c + ((f (p + c)).toNatClampNeg - 96) = 37 * wN g r d + ((g (r + d)).toNatClampNeg - 96) := h
    obtain ⟨e1, e2⟩ := wN_inj c d (fun i hi => hf i (by omega)) (fun i hi => hg i (by omega)) (by omega)
    subst e1
    refine ⟨rfl, fun i hi => ?_⟩
    rcases Nat.lt_or_ge i c with q | q
    · exact e2 i q
    · have ei : i = c := by omega
      subst ei
      obtain ⟨k1, a1, a2, a3⟩ := lett (hf i (by omega))
      obtain ⟨k2, b1, b2, b3⟩ := lett (hg i (by omega))
      rw [a3, b3, nI_clamp (by omega), nI_clamp (by omega)] at h3
      rw [a3, b3, show k1 = k2 by omega]
theorem wN_congr {f g : Nat → Int32} {p r : Nat} : ∀ (c : Nat), (∀ i : Nat, i < c → f (p + i) = g (r + i)) → wN f p c = wN g r c
  | 0, _ => rfl
  | c + 1, h => by
    show 37 * wN f p c + _ = 37 * wN g r c + _
    rw [wN_congr c (fun i hi => h i (by omega)), h c (by omega)]
theorem eqB_yes {f : Nat → Int32} : ∀ (l : List Int32) (p : Nat), ¬ eqB f p l = 0 ↔ ∀ i : Nat, i < l.length → f (p + i) = l.getD i 0
  | [], p => ⟨fun _ i h => absurd h (Nat.not_lt_zero i), fun _ => by show ¬ (1 : Int32) = 0; decide⟩
  | x :: l, p => by
    show ¬ (if f p = x then eqB f (p + 1) l else 0) = 0 ↔ _
    by_cases c : f p = x
    · rw [if_pos c, eqB_yes l (p + 1)]
      constructor
      · intro h i hi
        cases i with
        | zero => exact c
        | succ i =>
          have := h i (by have : i + 1 < l.length + 1 := hi; omega)
          rw [show p + (i + 1) = p + 1 + i by omega]; exact this
      · intro h i hi
        have := h (i + 1) (by show i + 1 < l.length + 1; omega)
        rw [show p + 1 + i = p + (i + 1) by omega]; exact this
    · rw [if_neg c]
      exact ⟨fun h => absurd rfl h, fun h => absurd (h 0 (by show 0 < l.length + 1; omega)) c⟩
def txF (w : Nat) : Nat → Int32 := fun i => (bytS.getD w []).getD i 0
theorem txF_all : ∀ w : Nat, w < 12 → ∀ i : Nat, i < lenS.getD w 0 → srt (txF w i) = 2 := by decide
def wdL : List Nat := [274, 570026, 755, 173217, 1178088, 6400557, 781898, 6251562, 7367, 990358, 1668105520644, 6399275]
theorem txF_w : ∀ w : Nat, w < 12 → wN (txF w) 0 (lenS.getD w 0) = wdL.getD w 0 := by decide
theorem lN_inj {a b : Nat} (ha : a < 37 ^ 8) (hb : b < 37 ^ 8) (h : lN a = lN b) : a = b := by
  have e := congrArg (fun x => x.toBitVec.toNat) h
  have q : ∀ n : Nat, n < 37 ^ 8 → (lN n).toBitVec.toNat = n := fun n hn => by
    show (BitVec.ofNat 64 n).toNat = n
    rw [BitVec.toNat_ofNat]
    exact Nat.mod_eq_of_lt (Nat.lt_trans hn (by decide))
  rw [← q a ha, ← q b hb]; exact e
theorem wd_iff {f : Nat → Int32} {n j w : Nat} (hS : aS f n j = 2) (hw : w < 12) : lN (wN f (aP f n j) (bs f n (j + 1) - aP f n j)) = lN (wdL.getD w 0) ↔ ¬ tI f n j w = 0 := by
  have hl := aS_len.1 hS
  have hle : aP f n j ≤ bs f n (j + 1) := tkB_ge f n (bs f n j)
  have hall : allS f 2 (aP f n j) (bs f n (j + 1) - aP f n j) := fun i hi => aS_run (Or.inl rfl) hS _ (by omega) (by omega)
  have htx : allS (txF w) 2 0 (lenS.getD w 0) := fun i hi => by rw [Nat.zero_add]; exact txF_all w hw i hi
  have hl9 := len_lt w hw
  unfold tI
  rw [if_pos hS]
  constructor
  · intro h
    have e := lN_inj (wN_8 hall hl) (by rw [← txF_w w hw]; exact wN_8 htx (by omega)) h
    rw [← txF_w w hw] at e
    obtain ⟨e1, e2⟩ := wN_inj _ _ hall htx e
    rw [if_pos e1]
    refine (eqB_yes _ _).mpr (fun i hi => ?_)
    rw [lenS_byt] at hi
    rw [e2 i (by omega), Nat.zero_add]; rfl
  · intro h
    by_cases e1 : bs f n (j + 1) - aP f n j = lenS.getD w 0
    · rw [if_pos e1] at h
      have h2 := (eqB_yes _ _).mp h
      rw [← txF_w w hw, e1]
      refine congrArg lN (wN_congr _ (fun i hi => ?_))
      rw [h2 i (by rw [lenS_byt]; exact hi), Nat.zero_add]; rfl
    · rw [if_neg e1] at h; exact absurd rfl h
theorem nmF_dN {f : Nat → Int32} {p : Nat} : ∀ (c k : Nat), allS f 3 p (k + c) → nmF f c (p + k) (nI (dN f p k)) = nI (dN f p (k + c))
  | 0, k, _ => rfl
  | c + 1, k, h => by
    obtain ⟨d, h1, h2, h3⟩ := digi (h k (by omega))
    show nmF f c (p + k + 1) (nI (dN f p k) * 10 + f (p + k) - 48) = _
    have e : nI (dN f p k) * 10 + f (p + k) - 48 = nI (dN f p (k + 1)) := by
      rw [h3, show (10 : Int32) = nI 10 from rfl, show (48 : Int32) = nI 48 from rfl, nI_mulT, nI_add, nI_sub (by omega)]
      show _ = nI (10 * dN f p k + ((f (p + k)).toNatClampNeg - 48))
      rw [h3, nI_clamp (by omega)]
      exact congrArg nI (by omega)
    rw [e, show p + k + 1 = p + (k + 1) by omega, nmF_dN c (k + 1) (fun i hi => h i (by omega)), show k + 1 + c = k + (c + 1) by omega]
theorem aN_dN {f : Nat → Int32} {n j : Nat} (hS : aS f n j = 3) : aN f n j = nI (dN f (aP f n j) (bs f n (j + 1) - aP f n j)) ∧ dN f (aP f n j) (bs f n (j + 1) - aP f n j) < 10 ^ 4 := by
  have hl := aS_len.2 hS
  have hall : allS f 3 (aP f n j) (bs f n (j + 1) - aP f n j) := fun i hi => aS_run (Or.inr rfl) hS _ (by omega) (by omega)
  have h := nmF_dN (f := f) (p := aP f n j) (bs f n (j + 1) - aP f n j) 0 (by rw [Nat.zero_add]; exact hall)
  rw [Nat.zero_add] at h
  exact ⟨h, dN_4 hall hl⟩
/-! a row of the reference's tokens -/
def mS (x : Int32) : Int32 := if x = 0 then 0 else x - 1
def tokV (f : Nat → Int32) (n j : Nat) (s p : Int32) (v : Int64) : Prop := s = mS (aS f n j) ∧ p = nI (aP f n j) ∧ (aS f n j = 2 → v = lN (wN f (aP f n j) (bs f n (j + 1) - aP f n j))) ∧ (aS f n j = 3 → v = lN (dN f (aP f n j) (bs f n (j + 1) - aP f n j))) ∧ (aS f n j = 4 → v = 59)
theorem tokV_up {f : Nat → Int32} {n nq : Nat} {so pl : Nat → Int32} {va : Nat → Int64} {s p : Int32} {v : Int64} (h : ∀ j : Nat, j < nq → tokV f n j (so j) (pl j) (va j)) (h2 : tokV f n nq s p v) : ∀ j : Nat, j < nq + 1 → tokV f n j (upd so nq s j) (upd pl nq p j) (vp_updL va nq v j) := by
  intro j hj
  rcases Nat.lt_or_ge j nq with q | q
  · rw [pk_un (by omega), pk_un (by omega), pk_uLn (by omega)]; exact h j q
  · rw [show j = nq by omega, pk_us, pk_us, pk_uLs]; exact h2
theorem tokV_end {f : Nat → Int32} {n nq : Nat} {so pl : Nat → Int32} {va : Nat → Int64} {s p : Int32} (h : ∀ j : Nat, j < nq → tokV f n j (so j) (pl j) (va j)) (h2 : ∀ v : Int64, tokV f n nq s p v) : ∀ j : Nat, j ≤ nq → tokV f n j (upd so nq s j) (upd pl nq p j) (va j) := by
  intro j hj
  rcases Nat.lt_or_ge j nq with q | q
  · rw [pk_un (by omega), pk_un (by omega)]; exact h j q
  · rw [show j = nq by omega, pk_us, pk_us]; exact h2 _
theorem tkPl_of {f : Nat → Int32} {n nt : Nat} {so pl : Nat → Int32} {va : Nat → Int64} (hn : n ≤ 1600) (h : ∀ j : Nat, j ≤ nt → tokV f n j (so j) (pl j) (va j)) : tkPl (tkO f n) pl nt := fun j hj => ⟨Nat.le_trans (aP_le f n j) hn, (h j hj).2.1⟩
theorem tkSo_of {f : Nat → Int32} {n nt : Nat} {so pl : Nat → Int32} {va : Nat → Int64} (h : ∀ j : Nat, j ≤ nt → tokV f n j (so j) (pl j) (va j)) : tkSo (tkO f n) so nt := by
  intro j hj
  have h1 := (h j hj).1
  rw [h1]
  have hT : ¬ aS f n j = 2 → ∀ w : Nat, tI f n j w = 0 := fun c w => by unfold tI; rw [if_neg c]
  refine (?_ : _ ∧ _ ∧ _ ∧ _ ∧ _)
  have hv := aS_v f n j
  show (mS (aS f n j) = 0 ↔ aS f n j = 0) ∧ (mS (aS f n j) = 1 ↔ aS f n j = 2) ∧ (mS (aS f n j) = 2 ↔ aS f n j = 3) ∧ (mS (aS f n j) = 3 ↔ aS f n j = 4) ∧ (¬ aS f n j = 2 → ∀ w : Nat, tI f n j w = 0)
  refine ⟨?_, ?_, ?_, ?_, hT⟩ <;> (generalize aS f n j = x at hv ⊢; rcases hv with rfl | rfl | rfl | rfl | rfl <;> decide)
theorem tkVa_of {f : Nat → Int32} {n nt : Nat} {so pl : Nat → Int32} {va : Nat → Int64} (h : ∀ j : Nat, j ≤ nt → tokV f n j (so j) (pl j) (va j)) : tkVa (tkO f n) va nt := by
  intro j hj
  obtain ⟨-, -, -, h3, h4⟩ := h j hj
  refine ⟨fun hS => ?_, h4⟩
  obtain ⟨e1, e2⟩ := aN_dN hS
  have e3 : (tkO f n).V j = nI (dN f (aP f n j) (bs f n (j + 1) - aP f n j)) := e1
  rw [e3, h3 hS]
  have : (10 : Nat) ^ 4 = 10000 := by decide
  exact ⟨nI_pos (by omega), (nI_l (by omega)).symm⟩
theorem tkWo_of {f : Nat → Int32} {n nt : Nat} {so pl : Nat → Int32} {va wd : Nat → Int64} (hw : ∀ w : Nat, w < 12 → wd w = lN (wdL.getD w 0)) (h : ∀ j : Nat, j ≤ nt → tokV f n j (so j) (pl j) (va j)) : tkWo (tkO f n) va wd nt := by
  intro j hj hS w h12
  rw [(h j hj).2.2.1 hS, hw w h12]
  exact wd_iff hS h12
theorem wN_stepL {f : Nat → Int32} {kq k2 : Nat} {lv : Int64} (hk : kq ≤ k2) (h8 : k2 - kq < 8) (hlv : lv = lN (wN f kq (min (k2 - kq) 8))) (hc : srt (f k2) = 2) : 37 * lv + (if isL (f k2) = 0 then f k2 - 21 else f k2 - 96).toInt64 = lN (wN f kq (k2 + 1 - kq)) := by
  rw [if_neg (srt_2.mp hc), hlv, show min (k2 - kq) 8 = k2 - kq by omega, show k2 + 1 - kq = (k2 - kq) + 1 by omega]
  show _ = lN (37 * wN f kq (k2 - kq) + ((f (kq + (k2 - kq))).toNatClampNeg - 96))
  rw [show kq + (k2 - kq) = k2 by omega]
  obtain ⟨c, h1, h2, h3⟩ := lett hc
  rw [h3, nI_clamp (by omega), show (96 : Int32) = nI 96 from rfl, nI_sub (by omega), nI_l (by omega), show (37 : Int64) = lN 37 from rfl, lN_mul, lN_add]
theorem dN_stepL {f : Nat → Int32} {kq k2 : Nat} {lv : Int64} (hk : kq ≤ k2) (h8 : k2 - kq < 4) (hlv : lv = lN (dN f kq (min (k2 - kq) 4))) (hc : srt (f k2) = 3) : 10 * lv + (f k2).toInt64 - 48 = lN (dN f kq (k2 + 1 - kq)) := by
  rw [hlv, show min (k2 - kq) 4 = k2 - kq by omega, show k2 + 1 - kq = (k2 - kq) + 1 by omega]
  show _ = lN (10 * dN f kq (k2 - kq) + ((f (kq + (k2 - kq))).toNatClampNeg - 48))
  rw [show kq + (k2 - kq) = k2 by omega]
  obtain ⟨c, h1, h2, h3⟩ := digi hc
  rw [h3, nI_clamp (by omega), nI_l (by omega), show (10 : Int64) = lN 10 from rfl, show (48 : Int64) = lN 48 from rfl, lN_mul, lN_add, lN_sub (by omega)]
  exact congrArg lN (by omega)
theorem cut_P {f : Nat → Int32} {n nq kq : Nat} (hJ : tkP f n (bs f n nq) = rnE f 1 (n - kq) kq) (hk : kq < n) (hb : ¬ srt (f kq) = 1) : tkP f n (bs f n nq) = kq ∧ tkK f n (bs f n nq) = srt (f kq) := by
  have e : tkP f n (bs f n nq) = kq := hJ.trans (rnE_no hk hb)
  refine ⟨e, ?_⟩
  unfold tkK sgA
  rw [e, if_pos hk]
theorem cut_L {f : Nat → Int32} {n nq kq k2 : Nat} {lv : Int64} (hJ : tkP f n (bs f n nq) = rnE f 1 (n - kq) kq) (hk : kq < n) (hb : ¬ srt (f kq) = 1) (h2 : srt (f kq) = 2) (hE : rnE f 2 (n - kq) kq = k2) (hlv : lv = lN (wN f kq (min (k2 - kq) 8))) : bs f n (nq + 1) = k2 ∧ (8 < k2 - kq → tokV f n nq 4 (nI kq) lv) ∧ (¬ 8 < k2 - kq → tokV f n nq 1 (nI kq) lv) := by
  obtain ⟨eP, eK⟩ := cut_P hJ hk hb
  rw [h2] at eK
  have eB : bs f n (nq + 1) = k2 := by
    show tkB f n (bs f n nq) = k2
    unfold tkB
    rw [if_pos eK, eP]; exact hE
  have eA : aP f n nq = kq := eP
  have eS : aS f n nq = if 8 < k2 - kq then 5 else 2 := by
    show tkS f n (bs f n nq) = _
    unfold tkS
    rw [if_pos eK, eP, show tkB f n (bs f n nq) = k2 from eB]
  refine ⟨eB, fun h => ?_, fun h => ?_⟩
  · rw [if_pos h] at eS
    refine ⟨by rw [eS]; decide, by rw [eA], ?_, ?_, ?_⟩ <;> (rw [eS]; intro z; exact absurd z (by decide))
  · rw [if_neg h] at eS
    refine ⟨by rw [eS]; decide, by rw [eA], ?_, ?_, ?_⟩
    · intro _; rw [eA, eB, hlv, show min (k2 - kq) 8 = k2 - kq by omega]
    · rw [eS]; intro z; exact absurd z (by decide)
    · rw [eS]; intro z; exact absurd z (by decide)
theorem cut_D {f : Nat → Int32} {n nq kq k2 : Nat} {lv : Int64} (hJ : tkP f n (bs f n nq) = rnE f 1 (n - kq) kq) (hk : kq < n) (hb : ¬ srt (f kq) = 1) (h2 : srt (f kq) = 3) (hE : rnE f 3 (n - kq) kq = k2) (hlv : lv = lN (dN f kq (min (k2 - kq) 4))) : bs f n (nq + 1) = k2 ∧ (4 < k2 - kq → tokV f n nq 4 (nI kq) lv) ∧ (¬ 4 < k2 - kq → tokV f n nq 2 (nI kq) lv) := by
  obtain ⟨eP, eK⟩ := cut_P hJ hk hb
  rw [h2] at eK
  have n2 : ¬ tkK f n (bs f n nq) = 2 := by rw [eK]; decide
  have eB : bs f n (nq + 1) = k2 := by
    show tkB f n (bs f n nq) = k2
    unfold tkB
    rw [if_neg n2, if_pos eK, eP]; exact hE
  have eA : aP f n nq = kq := eP
  have eS : aS f n nq = if 4 < k2 - kq then 5 else 3 := by
    show tkS f n (bs f n nq) = _
    unfold tkS
    rw [if_neg n2, if_pos eK, eP, show tkB f n (bs f n nq) = k2 from eB]
  refine ⟨eB, fun h => ?_, fun h => ?_⟩
  · rw [if_pos h] at eS
    refine ⟨by rw [eS]; decide, by rw [eA], ?_, ?_, ?_⟩ <;> (rw [eS]; intro z; exact absurd z (by decide))
  · rw [if_neg h] at eS
    refine ⟨by rw [eS]; decide, by rw [eA], ?_, ?_, ?_⟩
    · rw [eS]; intro z; exact absurd z (by decide)
    · intro _; rw [eA, eB, hlv, show min (k2 - kq) 4 = k2 - kq by omega]
    · rw [eS]; intro z; exact absurd z (by decide)
theorem cut_O {f : Nat → Int32} {n nq kq : Nat} (hJ : tkP f n (bs f n nq) = rnE f 1 (n - kq) kq) (hk : kq < n) (hb : ¬ srt (f kq) = 1) (h1 : isL (f kq) = 0) (h2 : isD (f kq) = 0) (h3 : ¬ f kq = -1) : bs f n (nq + 1) = kq + 1 ∧ (f kq = 59 → tokV f n nq 3 (nI kq) (f kq).toInt64) ∧ (¬ f kq = 59 → tokV f n nq 4 (nI kq) (f kq).toInt64) := by
  obtain ⟨eP, eK⟩ := cut_P hJ hk hb
  have es := srt_s h3 hb h1 h2
  rw [es] at eK
  have hv : tkK f n (bs f n nq) = 4 ∨ tkK f n (bs f n nq) = 5 := by
    rw [eK]
    by_cases c : f kq = 59
    · rw [if_pos c]; exact Or.inl rfl
    · rw [if_neg c]; exact Or.inr rfl
  have n2 : ¬ tkK f n (bs f n nq) = 2 := by rcases hv with h | h <;> (rw [h]; decide)
  have n3 : ¬ tkK f n (bs f n nq) = 3 := by rcases hv with h | h <;> (rw [h]; decide)
  have n0 : ¬ tkK f n (bs f n nq) = 0 := by rcases hv with h | h <;> (rw [h]; decide)
  have eB : bs f n (nq + 1) = kq + 1 := by
    show tkB f n (bs f n nq) = kq + 1
    unfold tkB
    rw [if_neg n2, if_neg n3, if_neg n0, eP]
  have eA : aP f n nq = kq := eP
  have eS : aS f n nq = if f kq = 59 then 4 else 5 := by
    show tkS f n (bs f n nq) = _
    unfold tkS
    rw [if_neg n2, if_neg n3]; exact eK
  refine ⟨eB, fun h => ?_, fun h => ?_⟩
  · rw [if_pos h] at eS
    refine ⟨by rw [eS]; decide, by rw [eA], ?_, ?_, ?_⟩
    · rw [eS]; intro z; exact absurd z (by decide)
    · rw [eS]; intro z; exact absurd z (by decide)
    · intro _; rw [h]; decide
  · rw [if_neg h] at eS
    refine ⟨by rw [eS]; decide, by rw [eA], ?_, ?_, ?_⟩ <;> (rw [eS]; intro z; exact absurd z (by decide))
theorem cut_E {f : Nat → Int32} {n nq kq : Nat} (hJ : tkP f n (bs f n nq) = rnE f 1 (n - kq) kq) (hk : kq = n) (v : Int64) : tokV f n nq 0 (nI n) v := by
  have eP : tkP f n (bs f n nq) = n := hJ.trans (by rw [rnE_end (by omega), hk])
  have eK : tkK f n (bs f n nq) = 0 := tkK_end (by omega)
  have eS : aS f n nq = 0 := by
    show tkS f n (bs f n nq) = 0
    unfold tkS
    rw [eK, if_neg (by decide), if_neg (by decide)]
  have eA : aP f n nq = n := eP
  refine ⟨by rw [eS]; decide, by rw [eA], ?_, ?_, ?_⟩ <;> (rw [eS]; intro z; exact absurd z (by decide))
theorem pOK_of {f : Nat → Int32} {n nt : Nat} {so pl : Nat → Int32} {va : Nat → Int64} (hn : n ≤ 1600) (hnt : nt ≤ 1600) (h0 : so nt = 0) (h : ∀ j : Nat, j ≤ nt → tokV f n j (so j) (pl j) (va j)) : pOK so pl nt := ⟨hnt, h0, fun j hj => ⟨aP f n j, Nat.le_trans (aP_le f n j) hn, (h j hj).2.1⟩⟩
set_option maxHeartbeats 4000000 in
set_option maxRecDepth 100000 in
theorem k_cutAll (l : Launch) (dC : Nat → ClassId) (dI : Nat → Nat → Nat) (cI cZ cC cJ : ClassId) (sz : Nat) (h0 : Nat) (th : Int32) (Mtape : Nat) (tnq : Nat) (znq : Nat) (Msort : Nat) (Mplace : Nat) (Mvalue : Nat) (anq : Nat) (ft : Int32) (Mwords : Nat) (hdq : Nat) (nxq : Nat) (Mgoes : Nat) (MgoLine : Nat) (Mends : Nat) (MendLine : Nat) (Mkinds : Nat) (MisName : Nat) (mnq : Nat) (Mrow : Nat) (MbyHand : Nat) (Mleast : Nat) (Msecond : Nat) (MendAt : Nat) (MgoAt : Nat) (MnodeBehind : Nat) (lE : Int32) (MisOut : Nat) (MfirstEnd : Nat) (MfirstGo : Nat) (mtape : Nat → Int32) (msort : Nat → Int32) (mplace : Nat → Int32) (mvalue : Nat → Int64) (htn : tnq ≤ 1600) (hTp : (∀ i : Nat, i < tnq → ¬ mtape i = -1)) : Met l yX5_cutAll wsX5_cutAll ({ frames := 2, cells := 0, slots := 0, locals := 40 }) (va_Pc [.ref h0] (sPre dC dI cI cZ cC cJ [(h0, .inr (5, [.int th, .ref Mtape, .int (nI tnq), .int (nI znq), .ref Msort, .ref Mplace, .ref Mvalue, .int (nI anq), .int ft, .ref Mwords, .int (nI hdq), .int (nI nxq), .ref Mgoes, .ref MgoLine, .ref Mends, .ref MendLine, .ref Mkinds, .ref MisName, .int (nI mnq), .ref Mrow, .ref MbyHand, .ref Mleast, .ref Msecond, .ref MendAt, .ref MgoAt, .ref MnodeBehind, .int lE, .ref MisOut, .ref MfirstEnd, .ref MfirstGo])), (Mtape, .inl (cI, 1600, .inl mtape)), (Msort, .inl (cI, 1602, .inl msort)), (Mplace, .inl (cI, 1602, .inl mplace)), (Mvalue, .inl (cJ, 1602, .inr (.inl mvalue)))] sz)) (va_Qv (fun (u : (Nat → Int32) × (Nat → Int32) × (Nat → Int64)) => match u with | (msort2, mplace2, mvalue2) => (∃ n9 : Nat, pOK msort2 mplace2 n9 ∧ ∀ j : Nat, j ≤ n9 → tokV mtape tnq j (msort2 j) (mplace2 j) (mvalue2 j))) (fun (u : (Nat → Int32) × (Nat → Int32) × (Nat → Int64)) t => match u with | (msort2, mplace2, mvalue2) => sB dC dI (va_A [(h0, .inr (5, [.int th, .ref Mtape, .int (nI tnq), .int (nI znq), .ref Msort, .ref Mplace, .ref Mvalue, .int (nI anq), .int ft, .ref Mwords, .int (nI hdq), .int (nI nxq), .ref Mgoes, .ref MgoLine, .ref Mends, .ref MendLine, .ref Mkinds, .ref MisName, .int (nI mnq), .ref Mrow, .ref MbyHand, .ref Mleast, .ref Msecond, .ref MendAt, .ref MgoAt, .ref MnodeBehind, .int lE, .ref MisOut, .ref MfirstEnd, .ref MfirstGo])), (Mtape, .inl (cI, 1600, .inl mtape)), (Msort, .inl (cI, 1602, .inl msort)), (Mplace, .inl (cI, 1602, .inl mplace)), (Mvalue, .inl (cJ, 1602, .inr (.inl mvalue)))] sz) [(h0, .inr (5, [.int th, .ref Mtape, .int 0, .int (nI tnq), .ref Msort, .ref Mplace, .ref Mvalue, .int 0, .int 0, .ref Mwords, .int (nI hdq), .int (nI nxq), .ref Mgoes, .ref MgoLine, .ref Mends, .ref MendLine, .ref Mkinds, .ref MisName, .int (nI mnq), .ref Mrow, .ref MbyHand, .ref Mleast, .ref Msecond, .ref MendAt, .ref MgoAt, .ref MnodeBehind, .int lE, .ref MisOut, .ref MfirstEnd, .ref MfirstGo])), (Mtape, .inl (cI, 1600, .inl mtape)), (Msort, .inl (cI, 1602, .inl msort2)), (Mplace, .inl (cI, 1602, .inl mplace2)), (Mvalue, .inl (cJ, 1602, .inr (.inl mvalue2)))] t) (va_A [(h0, .inr (5, [.int th, .ref Mtape, .int (nI tnq), .int (nI znq), .ref Msort, .ref Mplace, .ref Mvalue, .int (nI anq), .int ft, .ref Mwords, .int (nI hdq), .int (nI nxq), .ref Mgoes, .ref MgoLine, .ref Mends, .ref MendLine, .ref Mkinds, .ref MisName, .int (nI mnq), .ref Mrow, .ref MbyHand, .ref Mleast, .ref Msecond, .ref MendAt, .ref MgoAt, .ref MnodeBehind, .int lE, .ref MisOut, .ref MfirstEnd, .ref MfirstGo])), (Mtape, .inl (cI, 1600, .inl mtape)), (Msort, .inl (cI, 1602, .inl msort)), (Mplace, .inl (cI, 1602, .inl mplace)), (Mvalue, .inl (cJ, 1602, .inr (.inl mvalue)))] sz)) 0 0 (va_A [(h0, .inr (5, [.int th, .ref Mtape, .int (nI tnq), .int (nI znq), .ref Msort, .ref Mplace, .ref Mvalue, .int (nI anq), .int ft, .ref Mwords, .int (nI hdq), .int (nI nxq), .ref Mgoes, .ref MgoLine, .ref Mends, .ref MendLine, .ref Mkinds, .ref MisName, .int (nI mnq), .ref Mrow, .ref MbyHand, .ref Mleast, .ref Msecond, .ref MendAt, .ref MgoAt, .ref MnodeBehind, .int lE, .ref MisOut, .ref MfirstEnd, .ref MfirstGo])), (Mtape, .inl (cI, 1600, .inl mtape)), (Msort, .inl (cI, 1602, .inl msort)), (Mplace, .inl (cI, 1602, .inl mplace)), (Mvalue, .inl (cJ, 1602, .inr (.inl mvalue)))] sz) := by
  refine Met.ofW (cc := cX5_cutAll) (maxL := 7) (ret := none) (by decide) rfl ?_
  intro p e s m args below meth c s₁ B hml hv
  obtain ⟨rfl, hsz, hP, hsk, hD0⟩ := hv
  have hx := B.exec
  have hb := B.bytes
  have hr := B.returns
  have hts := atoms_spec (ws := wsX5_cutAll) B.pre
  have hown : s.vm.findClass RX5 = some m.cls := findClass_of_methodNamed B.named
  have hlocks := B.notSynchronized
  have hK := hsk.1
  have i5 : ∀ w ∈ wsX50, w ∈ wsX5_cutAll := by decide +kernel
  subst hsz
  have hD := hD0.self (sz := s.heap.size)
  generalize hAe : va_A [(h0, .inr (5, [.int th, .ref Mtape, .int (nI tnq), .int (nI znq), .ref Msort, .ref Mplace, .ref Mvalue, .int (nI anq), .int ft, .ref Mwords, .int (nI hdq), .int (nI nxq), .ref Mgoes, .ref MgoLine, .ref Mends, .ref MendLine, .ref Mkinds, .ref MisName, .int (nI mnq), .ref Mrow, .ref MbyHand, .ref Mleast, .ref Msecond, .ref MendAt, .ref MgoAt, .ref MnodeBehind, .int lE, .ref MisOut, .ref MfirstEnd, .ref MfirstGo])), (Mtape, .inl (cI, 1600, .inl mtape)), (Msort, .inl (cI, 1602, .inl msort)), (Mplace, .inl (cI, 1602, .inl mplace)), (Mvalue, .inl (cJ, 1602, .inr (.inl mvalue)))] s.heap.size = A at hD ⊢
  have hA : ∀ q : Nat, s.heap.size ≤ q → A q := fun q h => by rw [← hAe]; exact Or.inr h
  have hS : va_S A s.heap s.heap [] := va_S.rf
  have hl := lv_entry ([.ref h0]) (n := 7) (Nat.le_of_ble_eq_true rfl)
  rw [lg_entry_eq]
  generalize (lg_sl ([.ref h0]) ++ List.replicate (7 - (lg_sl ([.ref h0])).length) Slot.unset).toArray = ls at hl ⊢
  have hl : lv_has ls 7 [(0, .ref h0)] := hl
  refine lv_aload_n hx hb dX5_cutAll_0 rfl (lv_at hl 0 rfl) ?_
  refine lv_aload_n hx hb dX5_cutAll_1 rfl (lv_at hl 0 rfl) ?_
  refine va_get (D := (dC, dI)) (ci := 5) (v := .int (nI tnq)) (C := RX5) (T := TX5) (N := 30) hx hb hts i5 hown hK hP 0 rfl rfl 2 (by decide) (hts (.fieldLink RX5 11 "StopSetterModel" "taped" "I") (by decide +kernel)) (fun _ h9 => h9) rfl dX5_cutAll_2 ?_
  refine va_put (D := (dC, dI)) (ci := 5) (v := .int (nI tnq)) (ty := tyX5 3) (C := RX5) (T := TX5) (N := 30) hx hb hts i5 tyX5 tyX5_ok nmX5 hown hK hP hD hS 0 rfl rfl 3 (by decide) (hts (.fieldLink RX5 114 "StopSetterModel" "size" "I") (by decide +kernel)) (fun _ h9 => h9) rfl (by decide +kernel) rfl rfl (Nat.le_of_ble_eq_true rfl) dX5_cutAll_5 (fun H locs hP hD hS => ?_)
  have hP : va_P (dC, dI) vwCl [(h0, .inr (5, [.int th, .ref Mtape, .int (nI tnq), .int (nI tnq), .ref Msort, .ref Mplace, .ref Mvalue, .int (nI anq), .int ft, .ref Mwords, .int (nI hdq), .int (nI nxq), .ref Mgoes, .ref MgoLine, .ref Mends, .ref MendLine, .ref Mkinds, .ref MisName, .int (nI mnq), .ref Mrow, .ref MbyHand, .ref Mleast, .ref Msecond, .ref MendAt, .ref MgoAt, .ref MnodeBehind, .int lE, .ref MisOut, .ref MfirstEnd, .ref MfirstGo])), (Mtape, .inl (cI, 1600, .inl mtape)), (Msort, .inl (cI, 1602, .inl msort)), (Mplace, .inl (cI, 1602, .inl mplace)), (Mvalue, .inl (cJ, 1602, .inr (.inl mvalue)))] H := hP
  have hD : va_D A [(h0, .inr (5, [.int th, .ref Mtape, .int (nI tnq), .int (nI tnq), .ref Msort, .ref Mplace, .ref Mvalue, .int (nI anq), .int ft, .ref Mwords, .int (nI hdq), .int (nI nxq), .ref Mgoes, .ref MgoLine, .ref Mends, .ref MendLine, .ref Mkinds, .ref MisName, .int (nI mnq), .ref Mrow, .ref MbyHand, .ref Mleast, .ref Msecond, .ref MendAt, .ref MgoAt, .ref MnodeBehind, .int lE, .ref MisOut, .ref MfirstEnd, .ref MfirstGo])), (Mtape, .inl (cI, 1600, .inl mtape)), (Msort, .inl (cI, 1602, .inl msort)), (Mplace, .inl (cI, 1602, .inl mplace)), (Mvalue, .inl (cJ, 1602, .inr (.inl mvalue)))] := hD
  refine lv_aload_n hx hb dX5_cutAll_8 rfl (lv_at hl 0 rfl) ?_
  refine lv_iconst (v := 0) hx hb dX5_cutAll_9 (by decide) ?_
  refine va_put (D := (dC, dI)) (ci := 5) (v := .int 0) (ty := tyX5 2) (C := RX5) (T := TX5) (N := 30) hx hb hts i5 tyX5 tyX5_ok nmX5 hown hK hP hD hS 0 rfl rfl 2 (by decide) (hts (.fieldLink RX5 11 "StopSetterModel" "taped" "I") (by decide +kernel)) (fun _ h9 => h9) rfl (by decide +kernel) rfl rfl (Nat.le_of_ble_eq_true rfl) dX5_cutAll_10 (fun H locs hP hD hS => ?_)
  have hP : va_P (dC, dI) vwCl [(h0, .inr (5, [.int th, .ref Mtape, .int 0, .int (nI tnq), .ref Msort, .ref Mplace, .ref Mvalue, .int (nI anq), .int ft, .ref Mwords, .int (nI hdq), .int (nI nxq), .ref Mgoes, .ref MgoLine, .ref Mends, .ref MendLine, .ref Mkinds, .ref MisName, .int (nI mnq), .ref Mrow, .ref MbyHand, .ref Mleast, .ref Msecond, .ref MendAt, .ref MgoAt, .ref MnodeBehind, .int lE, .ref MisOut, .ref MfirstEnd, .ref MfirstGo])), (Mtape, .inl (cI, 1600, .inl mtape)), (Msort, .inl (cI, 1602, .inl msort)), (Mplace, .inl (cI, 1602, .inl mplace)), (Mvalue, .inl (cJ, 1602, .inr (.inl mvalue)))] H := hP
  have hD : va_D A [(h0, .inr (5, [.int th, .ref Mtape, .int 0, .int (nI tnq), .ref Msort, .ref Mplace, .ref Mvalue, .int (nI anq), .int ft, .ref Mwords, .int (nI hdq), .int (nI nxq), .ref Mgoes, .ref MgoLine, .ref Mends, .ref MendLine, .ref Mkinds, .ref MisName, .int (nI mnq), .ref Mrow, .ref MbyHand, .ref Mleast, .ref Msecond, .ref MendAt, .ref MgoAt, .ref MnodeBehind, .int lE, .ref MisOut, .ref MfirstEnd, .ref MfirstGo])), (Mtape, .inl (cI, 1600, .inl mtape)), (Msort, .inl (cI, 1602, .inl msort)), (Mplace, .inl (cI, 1602, .inl mplace)), (Mvalue, .inl (cJ, 1602, .inr (.inl mvalue)))] := hD
  refine lv_iconst (v := 0) hx hb dX5_cutAll_13 (by decide) ?_
  refine lv_istore_n (lv' := [(1, .int 0), (0, .ref h0)]) hx hb dX5_cutAll_14 rfl hl (by decide) rfl (fun ls hl => ?_)
  refine lv_iconst (v := 0) hx hb dX5_cutAll_15 (by decide) ?_
  refine lv_istore_n (lv' := [(2, .int 0), (1, .int 0), (0, .ref h0)]) hx hb dX5_cutAll_16 rfl hl (by decide) rfl (fun ls hl => ?_)
  have lp_17 : ∀ (n_17 : Nat) (nq : Nat) (kq : Nat) (msort : Nat → Int32) (mplace : Nat → Int32) (mvalue : Nat → Int64), tnq + 1 ≤ kq + n_17 → nq ≤ kq → kq ≤ tnq → tkP mtape tnq (bs mtape tnq nq) = rnE mtape 1 (tnq - kq) kq → (∀ j : Nat, j < nq → tokV mtape tnq j (msort j) (mplace j) (mvalue j)) → ∀ (H : Heap) (locs : List Loc) (ls : Array Slot), va_P (dC, dI) vwCl [(h0, .inr (5, [.int th, .ref Mtape, .int 0, .int (nI tnq), .ref Msort, .ref Mplace, .ref Mvalue, .int (nI anq), .int ft, .ref Mwords, .int (nI hdq), .int (nI nxq), .ref Mgoes, .ref MgoLine, .ref Mends, .ref MendLine, .ref Mkinds, .ref MisName, .int (nI mnq), .ref Mrow, .ref MbyHand, .ref Mleast, .ref Msecond, .ref MendAt, .ref MgoAt, .ref MnodeBehind, .int lE, .ref MisOut, .ref MfirstEnd, .ref MfirstGo])), (Mtape, .inl (cI, 1600, .inl mtape)), (Msort, .inl (cI, 1602, .inl msort)), (Mplace, .inl (cI, 1602, .inl mplace)), (Mvalue, .inl (cJ, 1602, .inr (.inl mvalue)))] H → va_D A [(h0, .inr (5, [.int th, .ref Mtape, .int 0, .int (nI tnq), .ref Msort, .ref Mplace, .ref Mvalue, .int (nI anq), .int ft, .ref Mwords, .int (nI hdq), .int (nI nxq), .ref Mgoes, .ref MgoLine, .ref Mends, .ref MendLine, .ref Mkinds, .ref MisName, .int (nI mnq), .ref Mrow, .ref MbyHand, .ref Mleast, .ref Msecond, .ref MendAt, .ref MgoAt, .ref MnodeBehind, .int lE, .ref MisOut, .ref MfirstEnd, .ref MfirstGo])), (Mtape, .inl (cI, 1600, .inl mtape)), (Msort, .inl (cI, 1602, .inl msort)), (Mplace, .inl (cI, 1602, .inl mplace)), (Mvalue, .inl (cJ, 1602, .inr (.inl mvalue)))] → va_S A s.heap H locs → lv_has ls 7 [(2, .int (nI kq)), (1, .int (nI nq)), (0, .ref h0)] → W p l e (headSpec wsX5_cutAll ({ frames := 2, cells := 0, slots := 0, locals := 40 })).room s m ([.ref h0]).toArray below meth c H locs 0 0 (MQ below (va_Qv (fun (u : (Nat → Int32) × (Nat → Int32) × (Nat → Int64)) => match u with | (msort2, mplace2, mvalue2) => (∃ n9 : Nat, pOK msort2 mplace2 n9 ∧ ∀ j : Nat, j ≤ n9 → tokV mtape tnq j (msort2 j) (mplace2 j) (mvalue2 j))) (fun (u : (Nat → Int32) × (Nat → Int32) × (Nat → Int64)) t => match u with | (msort2, mplace2, mvalue2) => sB dC dI A [(h0, .inr (5, [.int th, .ref Mtape, .int 0, .int (nI tnq), .ref Msort, .ref Mplace, .ref Mvalue, .int 0, .int 0, .ref Mwords, .int (nI hdq), .int (nI nxq), .ref Mgoes, .ref MgoLine, .ref Mends, .ref MendLine, .ref Mkinds, .ref MisName, .int (nI mnq), .ref Mrow, .ref MbyHand, .ref Mleast, .ref Msecond, .ref MendAt, .ref MgoAt, .ref MnodeBehind, .int lE, .ref MisOut, .ref MfirstEnd, .ref MfirstGo])), (Mtape, .inl (cI, 1600, .inl mtape)), (Msort, .inl (cI, 1602, .inl msort2)), (Mplace, .inl (cI, 1602, .inl mplace2)), (Mvalue, .inl (cJ, 1602, .inr (.inl mvalue2)))] t) A) ([.ref h0]).toArray s 0 0 A) (F0 m 17 ls []) := by
    intro n_17
    induction n_17 with
    | zero =>
      intro nq kq msort mplace mvalue fuel_17 hnk hkt hJ hT
      exact absurd fuel_17 (by omega)
    | succ n_17 ih_17 =>
      intro nq kq msort mplace mvalue fuel_17 hnk hkt hJ hT H locs ls hP hD hS hl
      refine lv_iload_n hx hb dX5_cutAll_17 rfl (lv_at hl 0 rfl) ?_
      refine lv_aload_n hx hb dX5_cutAll_18 rfl (lv_at hl 2 rfl) ?_
      refine va_get (D := (dC, dI)) (ci := 5) (v := .int (nI tnq)) (C := RX5) (T := TX5) (N := 30) hx hb hts i5 hown hK hP 0 rfl rfl 3 (by decide) (hts (.fieldLink RX5 114 "StopSetterModel" "size" "I") (by decide +kernel)) (fun _ h9 => h9) rfl dX5_cutAll_19 ?_
      refine lv_icmp_ge (tgt := 279) hx hb dX5_cutAll_22 (by decide) (fun c_22 => ?_) (fun c_22 => ?_)
      · skip
        have ek9 : kq = tnq := by have := (nI_leI (a := tnq) (b := kq) (by omega) (by omega)).mp c_22; omega
        refine lv_aload_n hx hb dX5_cutAll_279 rfl (lv_at hl 2 rfl) ?_
        refine va_get (D := (dC, dI)) (ci := 5) (v := .ref Msort) (C := RX5) (T := TX5) (N := 30) hx hb hts i5 hown hK hP 0 rfl rfl 4 (by decide) (hts (.fieldLink RX5 24 "StopSetterModel" "sort" "[I") (by decide +kernel)) (fun _ h9 => h9) rfl dX5_cutAll_280 ?_
        refine lv_iload_n hx hb dX5_cutAll_283 rfl (lv_at hl 1 rfl) ?_
        refine lv_iconst (v := 0) hx hb dX5_cutAll_284 (by decide) ?_
        refine va_iast hx hb hK hP hD hS 2 0 rfl rfl (vp_in_nI (by omega) (by decide)) dX5_cutAll_285 (fun H locs hP hD hS => ?_)
        have hP : va_P (dC, dI) vwCl [(h0, .inr (5, [.int th, .ref Mtape, .int 0, .int (nI tnq), .ref Msort, .ref Mplace, .ref Mvalue, .int (nI anq), .int ft, .ref Mwords, .int (nI hdq), .int (nI nxq), .ref Mgoes, .ref MgoLine, .ref Mends, .ref MendLine, .ref Mkinds, .ref MisName, .int (nI mnq), .ref Mrow, .ref MbyHand, .ref Mleast, .ref Msecond, .ref MendAt, .ref MgoAt, .ref MnodeBehind, .int lE, .ref MisOut, .ref MfirstEnd, .ref MfirstGo])), (Mtape, .inl (cI, 1600, .inl mtape)), (Msort, .inl (cI, 1602, .inl (upd msort ((nI nq).toNatClampNeg) 0))), (Mplace, .inl (cI, 1602, .inl mplace)), (Mvalue, .inl (cJ, 1602, .inr (.inl mvalue)))] H := hP
        have hD : va_D A [(h0, .inr (5, [.int th, .ref Mtape, .int 0, .int (nI tnq), .ref Msort, .ref Mplace, .ref Mvalue, .int (nI anq), .int ft, .ref Mwords, .int (nI hdq), .int (nI nxq), .ref Mgoes, .ref MgoLine, .ref Mends, .ref MendLine, .ref Mkinds, .ref MisName, .int (nI mnq), .ref Mrow, .ref MbyHand, .ref Mleast, .ref Msecond, .ref MendAt, .ref MgoAt, .ref MnodeBehind, .int lE, .ref MisOut, .ref MfirstEnd, .ref MfirstGo])), (Mtape, .inl (cI, 1600, .inl mtape)), (Msort, .inl (cI, 1602, .inl (upd msort ((nI nq).toNatClampNeg) 0))), (Mplace, .inl (cI, 1602, .inl mplace)), (Mvalue, .inl (cJ, 1602, .inr (.inl mvalue)))] := hD
        rw [show (upd msort ((nI nq).toNatClampNeg) 0) = (upd msort nq 0) from by rw [nI_clamp (by omega)]] at hP hD
        have hP : va_P (dC, dI) vwCl [(h0, .inr (5, [.int th, .ref Mtape, .int 0, .int (nI tnq), .ref Msort, .ref Mplace, .ref Mvalue, .int (nI anq), .int ft, .ref Mwords, .int (nI hdq), .int (nI nxq), .ref Mgoes, .ref MgoLine, .ref Mends, .ref MendLine, .ref Mkinds, .ref MisName, .int (nI mnq), .ref Mrow, .ref MbyHand, .ref Mleast, .ref Msecond, .ref MendAt, .ref MgoAt, .ref MnodeBehind, .int lE, .ref MisOut, .ref MfirstEnd, .ref MfirstGo])), (Mtape, .inl (cI, 1600, .inl mtape)), (Msort, .inl (cI, 1602, .inl (upd msort nq 0))), (Mplace, .inl (cI, 1602, .inl mplace)), (Mvalue, .inl (cJ, 1602, .inr (.inl mvalue)))] H := hP
        have hD : va_D A [(h0, .inr (5, [.int th, .ref Mtape, .int 0, .int (nI tnq), .ref Msort, .ref Mplace, .ref Mvalue, .int (nI anq), .int ft, .ref Mwords, .int (nI hdq), .int (nI nxq), .ref Mgoes, .ref MgoLine, .ref Mends, .ref MendLine, .ref Mkinds, .ref MisName, .int (nI mnq), .ref Mrow, .ref MbyHand, .ref Mleast, .ref Msecond, .ref MendAt, .ref MgoAt, .ref MnodeBehind, .int lE, .ref MisOut, .ref MfirstEnd, .ref MfirstGo])), (Mtape, .inl (cI, 1600, .inl mtape)), (Msort, .inl (cI, 1602, .inl (upd msort nq 0))), (Mplace, .inl (cI, 1602, .inl mplace)), (Mvalue, .inl (cJ, 1602, .inr (.inl mvalue)))] := hD
        refine lv_aload_n hx hb dX5_cutAll_286 rfl (lv_at hl 2 rfl) ?_
        refine va_get (D := (dC, dI)) (ci := 5) (v := .ref Mplace) (C := RX5) (T := TX5) (N := 30) hx hb hts i5 hown hK hP 0 rfl rfl 5 (by decide) (hts (.fieldLink RX5 27 "StopSetterModel" "place" "[I") (by decide +kernel)) (fun _ h9 => h9) rfl dX5_cutAll_287 ?_
        refine lv_iload_n hx hb dX5_cutAll_290 rfl (lv_at hl 1 rfl) ?_
        refine lv_aload_n hx hb dX5_cutAll_291 rfl (lv_at hl 2 rfl) ?_
        refine va_get (D := (dC, dI)) (ci := 5) (v := .int (nI tnq)) (C := RX5) (T := TX5) (N := 30) hx hb hts i5 hown hK hP 0 rfl rfl 3 (by decide) (hts (.fieldLink RX5 114 "StopSetterModel" "size" "I") (by decide +kernel)) (fun _ h9 => h9) rfl dX5_cutAll_292 ?_
        refine va_iast hx hb hK hP hD hS 3 0 rfl rfl (vp_in_nI (by omega) (by decide)) dX5_cutAll_295 (fun H locs hP hD hS => ?_)
        have hP : va_P (dC, dI) vwCl [(h0, .inr (5, [.int th, .ref Mtape, .int 0, .int (nI tnq), .ref Msort, .ref Mplace, .ref Mvalue, .int (nI anq), .int ft, .ref Mwords, .int (nI hdq), .int (nI nxq), .ref Mgoes, .ref MgoLine, .ref Mends, .ref MendLine, .ref Mkinds, .ref MisName, .int (nI mnq), .ref Mrow, .ref MbyHand, .ref Mleast, .ref Msecond, .ref MendAt, .ref MgoAt, .ref MnodeBehind, .int lE, .ref MisOut, .ref MfirstEnd, .ref MfirstGo])), (Mtape, .inl (cI, 1600, .inl mtape)), (Msort, .inl (cI, 1602, .inl (upd msort nq 0))), (Mplace, .inl (cI, 1602, .inl (upd mplace ((nI nq).toNatClampNeg) (nI tnq)))), (Mvalue, .inl (cJ, 1602, .inr (.inl mvalue)))] H := hP
        have hD : va_D A [(h0, .inr (5, [.int th, .ref Mtape, .int 0, .int (nI tnq), .ref Msort, .ref Mplace, .ref Mvalue, .int (nI anq), .int ft, .ref Mwords, .int (nI hdq), .int (nI nxq), .ref Mgoes, .ref MgoLine, .ref Mends, .ref MendLine, .ref Mkinds, .ref MisName, .int (nI mnq), .ref Mrow, .ref MbyHand, .ref Mleast, .ref Msecond, .ref MendAt, .ref MgoAt, .ref MnodeBehind, .int lE, .ref MisOut, .ref MfirstEnd, .ref MfirstGo])), (Mtape, .inl (cI, 1600, .inl mtape)), (Msort, .inl (cI, 1602, .inl (upd msort nq 0))), (Mplace, .inl (cI, 1602, .inl (upd mplace ((nI nq).toNatClampNeg) (nI tnq)))), (Mvalue, .inl (cJ, 1602, .inr (.inl mvalue)))] := hD
        rw [show (upd mplace ((nI nq).toNatClampNeg) (nI tnq)) = (upd mplace nq (nI tnq)) from by rw [nI_clamp (by omega)]] at hP hD
        have hP : va_P (dC, dI) vwCl [(h0, .inr (5, [.int th, .ref Mtape, .int 0, .int (nI tnq), .ref Msort, .ref Mplace, .ref Mvalue, .int (nI anq), .int ft, .ref Mwords, .int (nI hdq), .int (nI nxq), .ref Mgoes, .ref MgoLine, .ref Mends, .ref MendLine, .ref Mkinds, .ref MisName, .int (nI mnq), .ref Mrow, .ref MbyHand, .ref Mleast, .ref Msecond, .ref MendAt, .ref MgoAt, .ref MnodeBehind, .int lE, .ref MisOut, .ref MfirstEnd, .ref MfirstGo])), (Mtape, .inl (cI, 1600, .inl mtape)), (Msort, .inl (cI, 1602, .inl (upd msort nq 0))), (Mplace, .inl (cI, 1602, .inl (upd mplace nq (nI tnq)))), (Mvalue, .inl (cJ, 1602, .inr (.inl mvalue)))] H := hP
        have hD : va_D A [(h0, .inr (5, [.int th, .ref Mtape, .int 0, .int (nI tnq), .ref Msort, .ref Mplace, .ref Mvalue, .int (nI anq), .int ft, .ref Mwords, .int (nI hdq), .int (nI nxq), .ref Mgoes, .ref MgoLine, .ref Mends, .ref MendLine, .ref Mkinds, .ref MisName, .int (nI mnq), .ref Mrow, .ref MbyHand, .ref Mleast, .ref Msecond, .ref MendAt, .ref MgoAt, .ref MnodeBehind, .int lE, .ref MisOut, .ref MfirstEnd, .ref MfirstGo])), (Mtape, .inl (cI, 1600, .inl mtape)), (Msort, .inl (cI, 1602, .inl (upd msort nq 0))), (Mplace, .inl (cI, 1602, .inl (upd mplace nq (nI tnq)))), (Mvalue, .inl (cJ, 1602, .inr (.inl mvalue)))] := hD
        refine lv_aload_n hx hb dX5_cutAll_296 rfl (lv_at hl 2 rfl) ?_
        refine lv_iconst (v := 0) hx hb dX5_cutAll_297 (by decide) ?_
        refine va_put (D := (dC, dI)) (ci := 5) (v := .int 0) (ty := tyX5 7) (C := RX5) (T := TX5) (N := 30) hx hb hts i5 tyX5 tyX5_ok nmX5 hown hK hP hD hS 0 rfl rfl 7 (by decide) (hts (.fieldLink RX5 133 "StopSetterModel" "at" "I") (by decide +kernel)) (fun _ h9 => h9) rfl (by decide +kernel) rfl rfl (Nat.le_of_ble_eq_true rfl) dX5_cutAll_298 (fun H locs hP hD hS => ?_)
        have hP : va_P (dC, dI) vwCl [(h0, .inr (5, [.int th, .ref Mtape, .int 0, .int (nI tnq), .ref Msort, .ref Mplace, .ref Mvalue, .int 0, .int ft, .ref Mwords, .int (nI hdq), .int (nI nxq), .ref Mgoes, .ref MgoLine, .ref Mends, .ref MendLine, .ref Mkinds, .ref MisName, .int (nI mnq), .ref Mrow, .ref MbyHand, .ref Mleast, .ref Msecond, .ref MendAt, .ref MgoAt, .ref MnodeBehind, .int lE, .ref MisOut, .ref MfirstEnd, .ref MfirstGo])), (Mtape, .inl (cI, 1600, .inl mtape)), (Msort, .inl (cI, 1602, .inl (upd msort nq 0))), (Mplace, .inl (cI, 1602, .inl (upd mplace nq (nI tnq)))), (Mvalue, .inl (cJ, 1602, .inr (.inl mvalue)))] H := hP
        have hD : va_D A [(h0, .inr (5, [.int th, .ref Mtape, .int 0, .int (nI tnq), .ref Msort, .ref Mplace, .ref Mvalue, .int 0, .int ft, .ref Mwords, .int (nI hdq), .int (nI nxq), .ref Mgoes, .ref MgoLine, .ref Mends, .ref MendLine, .ref Mkinds, .ref MisName, .int (nI mnq), .ref Mrow, .ref MbyHand, .ref Mleast, .ref Msecond, .ref MendAt, .ref MgoAt, .ref MnodeBehind, .int lE, .ref MisOut, .ref MfirstEnd, .ref MfirstGo])), (Mtape, .inl (cI, 1600, .inl mtape)), (Msort, .inl (cI, 1602, .inl (upd msort nq 0))), (Mplace, .inl (cI, 1602, .inl (upd mplace nq (nI tnq)))), (Mvalue, .inl (cJ, 1602, .inr (.inl mvalue)))] := hD
        refine lv_aload_n hx hb dX5_cutAll_301 rfl (lv_at hl 2 rfl) ?_
        refine lv_iconst (v := 0) hx hb dX5_cutAll_302 (by decide) ?_
        refine va_put (D := (dC, dI)) (ci := 5) (v := .int 0) (ty := tyX5 8) (C := RX5) (T := TX5) (N := 30) hx hb hts i5 tyX5 tyX5_ok nmX5 hown hK hP hD hS 0 rfl rfl 8 (by decide) (hts (.fieldLink RX5 136 "StopSetterModel" "fault" "I") (by decide +kernel)) (fun _ h9 => h9) rfl (by decide +kernel) rfl rfl (Nat.le_of_ble_eq_true rfl) dX5_cutAll_303 (fun H locs hP hD hS => ?_)
        have hP : va_P (dC, dI) vwCl [(h0, .inr (5, [.int th, .ref Mtape, .int 0, .int (nI tnq), .ref Msort, .ref Mplace, .ref Mvalue, .int 0, .int 0, .ref Mwords, .int (nI hdq), .int (nI nxq), .ref Mgoes, .ref MgoLine, .ref Mends, .ref MendLine, .ref Mkinds, .ref MisName, .int (nI mnq), .ref Mrow, .ref MbyHand, .ref Mleast, .ref Msecond, .ref MendAt, .ref MgoAt, .ref MnodeBehind, .int lE, .ref MisOut, .ref MfirstEnd, .ref MfirstGo])), (Mtape, .inl (cI, 1600, .inl mtape)), (Msort, .inl (cI, 1602, .inl (upd msort nq 0))), (Mplace, .inl (cI, 1602, .inl (upd mplace nq (nI tnq)))), (Mvalue, .inl (cJ, 1602, .inr (.inl mvalue)))] H := hP
        have hD : va_D A [(h0, .inr (5, [.int th, .ref Mtape, .int 0, .int (nI tnq), .ref Msort, .ref Mplace, .ref Mvalue, .int 0, .int 0, .ref Mwords, .int (nI hdq), .int (nI nxq), .ref Mgoes, .ref MgoLine, .ref Mends, .ref MendLine, .ref Mkinds, .ref MisName, .int (nI mnq), .ref Mrow, .ref MbyHand, .ref Mleast, .ref Msecond, .ref MendAt, .ref MgoAt, .ref MnodeBehind, .int lE, .ref MisOut, .ref MfirstEnd, .ref MfirstGo])), (Mtape, .inl (cI, 1600, .inl mtape)), (Msort, .inl (cI, 1602, .inl (upd msort nq 0))), (Mplace, .inl (cI, 1602, .inl (upd mplace nq (nI tnq)))), (Mvalue, .inl (cJ, 1602, .inr (.inl mvalue)))] := hD
        have hP9 := hP.sub (ws' := [(h0, .inr (5, [.int th, .ref Mtape, .int 0, .int (nI tnq), .ref Msort, .ref Mplace, .ref Mvalue, .int 0, .int 0, .ref Mwords, .int (nI hdq), .int (nI nxq), .ref Mgoes, .ref MgoLine, .ref Mends, .ref MendLine, .ref Mkinds, .ref MisName, .int (nI mnq), .ref Mrow, .ref MbyHand, .ref Mleast, .ref Msecond, .ref MendAt, .ref MgoAt, .ref MnodeBehind, .int lE, .ref MisOut, .ref MfirstEnd, .ref MfirstGo])), (Mtape, .inl (cI, 1600, .inl mtape)), (Msort, .inl (cI, 1602, .inl (upd msort nq 0))), (Mplace, .inl (cI, 1602, .inl (upd mplace nq (nI tnq)))), (Mvalue, .inl (cJ, 1602, .inr (.inl mvalue)))]) [0, 1, 2, 3, 4] rfl
        have hD9 := hD.sub (ws' := [(h0, .inr (5, [.int th, .ref Mtape, .int 0, .int (nI tnq), .ref Msort, .ref Mplace, .ref Mvalue, .int 0, .int 0, .ref Mwords, .int (nI hdq), .int (nI nxq), .ref Mgoes, .ref MgoLine, .ref Mends, .ref MendLine, .ref Mkinds, .ref MisName, .int (nI mnq), .ref Mrow, .ref MbyHand, .ref Mleast, .ref Msecond, .ref MendAt, .ref MgoAt, .ref MnodeBehind, .int lE, .ref MisOut, .ref MfirstEnd, .ref MfirstGo])), (Mtape, .inl (cI, 1600, .inl mtape)), (Msort, .inl (cI, 1602, .inl (upd msort nq 0))), (Mplace, .inl (cI, 1602, .inl (upd mplace nq (nI tnq)))), (Mvalue, .inl (cJ, 1602, .inr (.inl mvalue)))]) [0, 1, 2, 3, 4] (by decide) rfl
        have hens0 : ∃ n9 : Nat, pOK (upd msort nq 0) (upd mplace nq (nI tnq)) n9 ∧ ∀ j : Nat, j ≤ n9 → tokV mtape tnq j ((upd msort nq 0) j) ((upd mplace nq (nI tnq)) j) (mvalue j) := ⟨nq, pOK_of htn (by omega) upd_self (tokV_end hT (cut_E hJ ek9)), tokV_end hT (cut_E hJ ek9)⟩
        exact W.vret hx hb hr (fun t ht hW => ⟨⟨((upd msort nq 0), (upd mplace nq (nI tnq)), mvalue), rfl, hens0, by rw [ht]; exact hP9, hD9⟩, hS.F ht⟩) hS.2.2 dX5_cutAll_306
      · skip
        have hk9 : kq < tnq := nk_lt rfl c_22 (by omega)
        refine lv_aload_n hx hb dX5_cutAll_25 rfl (lv_at hl 2 rfl) ?_
        refine va_get (D := (dC, dI)) (ci := 5) (v := .ref Mtape) (C := RX5) (T := TX5) (N := 30) hx hb hts i5 hown hK hP 0 rfl rfl 1 (by decide) (hts (.fieldLink RX5 14 "StopSetterModel" "tape" "[I") (by decide +kernel)) (fun _ h9 => h9) rfl dX5_cutAll_26 ?_
        refine lv_iload_n hx hb dX5_cutAll_29 rfl (lv_at hl 0 rfl) ?_
        refine va_iald hx hb hK hP 1 0 rfl rfl (vp_in_nI (by omega) (by decide)) dX5_cutAll_30 ?_
        refine lv_topi (fun v_ ev_ => ?_)
        obtain rfl : v_ = (mtape kq) := ev_.trans (by rw [nI_clamp (by omega)])
        refine lv_istore_n (lv' := [(3, .int (mtape kq)), (2, .int (nI kq)), (1, .int (nI nq)), (0, .ref h0)]) hx hb dX5_cutAll_31 rfl hl (by decide) rfl (fun ls hl => ?_)
        refine lv_iload_n hx hb dX5_cutAll_32 rfl (lv_at hl 0 rfl) ?_
        refine lv_bipush (v := 10) hx hb dX5_cutAll_33 (by decide) ?_
        refine lv_icmp_eq (tgt := 44) hx hb dX5_cutAll_35 (by decide) (fun c_35 => ?_) (fun c_35 => ?_)
        · skip
          refine lv_iinc (v := (nI (kq + 1))) (lv' := [(2, .int (nI (kq + 1))), (3, .int (mtape kq)), (1, .int (nI nq)), (0, .ref h0)]) hx hb dX5_cutAll_44 hl (k := 1) rfl (nI_1 kq) (by decide) rfl (fun ls hl => ?_)
          refine lv_goto (tgt := 17) hx hb dX5_cutAll_47 (by decide) ?_
          exact ih_17  nq (kq + 1) msort mplace mvalue (by omega) (by omega) (by omega) (hJ.trans (rnE_yes hk9 (srt_1.mpr (Or.inl c_35)))) (hT) _ _ _ hP hD hS (lv_sub hl [0, 2, 3] rfl)
        · skip
          refine lv_iload_n hx hb dX5_cutAll_38 rfl (lv_at hl 0 rfl) ?_
          refine lv_bipush (v := 32) hx hb dX5_cutAll_39 (by decide) ?_
          refine lv_icmp_ne (tgt := 50) hx hb dX5_cutAll_41 (by decide) (fun c_41 => ?_) (fun c_41 => ?_)
          · skip
            have hnb : ¬ srt (mtape kq) = 1 := fun z => (srt_1.mp z).elim c_35 c_41
            refine lv_iload_n hx hb dX5_cutAll_50 rfl (lv_at hl 1 rfl) ?_
            refine lv_istore (lv' := [(4, .int (nI kq)), (3, .int (mtape kq)), (2, .int (nI kq)), (1, .int (nI nq)), (0, .ref h0)]) hx hb dX5_cutAll_51 hl (by decide) rfl (fun ls hl => ?_)
            refine lv_lconst (v := 0) hx hb dX5_cutAll_53 (by decide) ?_
            refine lv_lstore (lv' := [(5, .long 0), (4, .int (nI kq)), (3, .int (mtape kq)), (2, .int (nI kq)), (1, .int (nI nq)), (0, .ref h0)]) hx hb dX5_cutAll_54 hl (by decide) rfl (fun ls hl => ?_)
            refine lv_aload_n hx hb dX5_cutAll_56 rfl (lv_at hl 5 rfl) ?_
            refine va_get (D := (dC, dI)) (ci := 5) (v := .ref Mplace) (C := RX5) (T := TX5) (N := 30) hx hb hts i5 hown hK hP 0 rfl rfl 5 (by decide) (hts (.fieldLink RX5 27 "StopSetterModel" "place" "[I") (by decide +kernel)) (fun _ h9 => h9) rfl dX5_cutAll_57 ?_
            refine lv_iload_n hx hb dX5_cutAll_60 rfl (lv_at hl 4 rfl) ?_
            refine lv_iload_n hx hb dX5_cutAll_61 rfl (lv_at hl 3 rfl) ?_
            refine va_iast hx hb hK hP hD hS 3 0 rfl rfl (vp_in_nI (by omega) (by decide)) dX5_cutAll_62 (fun H locs hP hD hS => ?_)
            have hP : va_P (dC, dI) vwCl [(h0, .inr (5, [.int th, .ref Mtape, .int 0, .int (nI tnq), .ref Msort, .ref Mplace, .ref Mvalue, .int (nI anq), .int ft, .ref Mwords, .int (nI hdq), .int (nI nxq), .ref Mgoes, .ref MgoLine, .ref Mends, .ref MendLine, .ref Mkinds, .ref MisName, .int (nI mnq), .ref Mrow, .ref MbyHand, .ref Mleast, .ref Msecond, .ref MendAt, .ref MgoAt, .ref MnodeBehind, .int lE, .ref MisOut, .ref MfirstEnd, .ref MfirstGo])), (Mtape, .inl (cI, 1600, .inl mtape)), (Msort, .inl (cI, 1602, .inl msort)), (Mplace, .inl (cI, 1602, .inl (upd mplace ((nI nq).toNatClampNeg) (nI kq)))), (Mvalue, .inl (cJ, 1602, .inr (.inl mvalue)))] H := hP
            have hD : va_D A [(h0, .inr (5, [.int th, .ref Mtape, .int 0, .int (nI tnq), .ref Msort, .ref Mplace, .ref Mvalue, .int (nI anq), .int ft, .ref Mwords, .int (nI hdq), .int (nI nxq), .ref Mgoes, .ref MgoLine, .ref Mends, .ref MendLine, .ref Mkinds, .ref MisName, .int (nI mnq), .ref Mrow, .ref MbyHand, .ref Mleast, .ref Msecond, .ref MendAt, .ref MgoAt, .ref MnodeBehind, .int lE, .ref MisOut, .ref MfirstEnd, .ref MfirstGo])), (Mtape, .inl (cI, 1600, .inl mtape)), (Msort, .inl (cI, 1602, .inl msort)), (Mplace, .inl (cI, 1602, .inl (upd mplace ((nI nq).toNatClampNeg) (nI kq)))), (Mvalue, .inl (cJ, 1602, .inr (.inl mvalue)))] := hD
            rw [show (upd mplace ((nI nq).toNatClampNeg) (nI kq)) = (upd mplace nq (nI kq)) from by rw [nI_clamp (by omega)]] at hP hD
            have hP : va_P (dC, dI) vwCl [(h0, .inr (5, [.int th, .ref Mtape, .int 0, .int (nI tnq), .ref Msort, .ref Mplace, .ref Mvalue, .int (nI anq), .int ft, .ref Mwords, .int (nI hdq), .int (nI nxq), .ref Mgoes, .ref MgoLine, .ref Mends, .ref MendLine, .ref Mkinds, .ref MisName, .int (nI mnq), .ref Mrow, .ref MbyHand, .ref Mleast, .ref Msecond, .ref MendAt, .ref MgoAt, .ref MnodeBehind, .int lE, .ref MisOut, .ref MfirstEnd, .ref MfirstGo])), (Mtape, .inl (cI, 1600, .inl mtape)), (Msort, .inl (cI, 1602, .inl msort)), (Mplace, .inl (cI, 1602, .inl (upd mplace nq (nI kq)))), (Mvalue, .inl (cJ, 1602, .inr (.inl mvalue)))] H := hP
            have hD : va_D A [(h0, .inr (5, [.int th, .ref Mtape, .int 0, .int (nI tnq), .ref Msort, .ref Mplace, .ref Mvalue, .int (nI anq), .int ft, .ref Mwords, .int (nI hdq), .int (nI nxq), .ref Mgoes, .ref MgoLine, .ref Mends, .ref MendLine, .ref Mkinds, .ref MisName, .int (nI mnq), .ref Mrow, .ref MbyHand, .ref Mleast, .ref Msecond, .ref MendAt, .ref MgoAt, .ref MnodeBehind, .int lE, .ref MisOut, .ref MfirstEnd, .ref MfirstGo])), (Mtape, .inl (cI, 1600, .inl mtape)), (Msort, .inl (cI, 1602, .inl msort)), (Mplace, .inl (cI, 1602, .inl (upd mplace nq (nI kq)))), (Mvalue, .inl (cJ, 1602, .inr (.inl mvalue)))] := hD
            refine lv_iload_n hx hb dX5_cutAll_63 rfl (lv_at hl 2 rfl) ?_
            have hPc := hP.sub (ws' := []) [] rfl
            have hDc := hD.sub (ws' := []) [] (by decide) rfl
            have hFc := va_free (wc := []) hD hS hA [] rfl
            refine va_calli (va_runS (As := [.int (mtape kq)]) (rest := []) ⟨hx, hb, hml, hown, hts⟩ (k_isLetter l dC dI cI cZ cC cJ H.size  (mtape kq) ) (va_cwS 1 hts gX5_cutAll_X5_isLetter rfl rfl rfl (by decide +kernel) ⟨Nat.le_of_ble_eq_true rfl, Nat.le_of_ble_eq_true rfl⟩) ⟨sPre_blind, fun U hU hW => ⟨rfl, sPre_ok hsk hPc hDc hU hW⟩⟩ rfl rfl hl.1 rfl (lv_room (Nat.le_of_ble_eq_true rfl)) dX5_cutAll_64 ⟨(show 0 + 0 ≤ 0 by omega), (show 0 + 0 ≤ 0 by omega)⟩) hS (fun q _ h => hFc q h) hFc (fun r_1 u t H1 locs ht hvm hw hB hz1 hk1 hS => ?_)
            try dsimp only at hw hB
            have hw_2 := hw
            obtain rfl : r_1 = isL (mtape kq) := hw_2
            obtain ⟨hP1, hD1⟩ := hB
            rw [ht] at hP1
            obtain ⟨hP, hD⟩ := va_join (wr := [(h0, .inr (5, [.int th, .ref Mtape, .int 0, .int (nI tnq), .ref Msort, .ref Mplace, .ref Mvalue, .int (nI anq), .int ft, .ref Mwords, .int (nI hdq), .int (nI nxq), .ref Mgoes, .ref MgoLine, .ref Mends, .ref MendLine, .ref Mkinds, .ref MisName, .int (nI mnq), .ref Mrow, .ref MbyHand, .ref Mleast, .ref Msecond, .ref MendAt, .ref MgoAt, .ref MnodeBehind, .int lE, .ref MisOut, .ref MfirstEnd, .ref MfirstGo])), (Mtape, .inl (cI, 1600, .inl mtape)), (Msort, .inl (cI, 1602, .inl msort)), (Mplace, .inl (cI, 1602, .inl (upd mplace nq (nI kq)))), (Mvalue, .inl (cJ, 1602, .inr (.inl mvalue)))]) (w1 := []) hP hD [] [0, 1, 2, 3, 4] rfl rfl (by decide) (by decide) hk1 hFc hP1 hD1
            generalize H1 = H at hP hS ⊢
            have hP : va_P (dC, dI) vwCl [(h0, .inr (5, [.int th, .ref Mtape, .int 0, .int (nI tnq), .ref Msort, .ref Mplace, .ref Mvalue, .int (nI anq), .int ft, .ref Mwords, .int (nI hdq), .int (nI nxq), .ref Mgoes, .ref MgoLine, .ref Mends, .ref MendLine, .ref Mkinds, .ref MisName, .int (nI mnq), .ref Mrow, .ref MbyHand, .ref Mleast, .ref Msecond, .ref MendAt, .ref MgoAt, .ref MnodeBehind, .int lE, .ref MisOut, .ref MfirstEnd, .ref MfirstGo])), (Mtape, .inl (cI, 1600, .inl mtape)), (Msort, .inl (cI, 1602, .inl msort)), (Mplace, .inl (cI, 1602, .inl (upd mplace nq (nI kq)))), (Mvalue, .inl (cJ, 1602, .inr (.inl mvalue)))] H := hP
            have hD : va_D A [(h0, .inr (5, [.int th, .ref Mtape, .int 0, .int (nI tnq), .ref Msort, .ref Mplace, .ref Mvalue, .int (nI anq), .int ft, .ref Mwords, .int (nI hdq), .int (nI nxq), .ref Mgoes, .ref MgoLine, .ref Mends, .ref MendLine, .ref Mkinds, .ref MisName, .int (nI mnq), .ref Mrow, .ref MbyHand, .ref Mleast, .ref Msecond, .ref MendAt, .ref MgoAt, .ref MnodeBehind, .int lE, .ref MisOut, .ref MfirstEnd, .ref MfirstGo])), (Mtape, .inl (cI, 1600, .inl mtape)), (Msort, .inl (cI, 1602, .inl msort)), (Mplace, .inl (cI, 1602, .inl (upd mplace nq (nI kq)))), (Mvalue, .inl (cJ, 1602, .inr (.inl mvalue)))] := hD
            refine lv_if_eq (tgt := 152) hx hb dX5_cutAll_67 (by decide) (fun c_67 => ?_) (fun c_67 => ?_)
            · skip
              refine lv_iload_n hx hb dX5_cutAll_152 rfl (lv_at hl 2 rfl) ?_
              have hPc := hP.sub (ws' := []) [] rfl
              have hDc := hD.sub (ws' := []) [] (by decide) rfl
              have hFc := va_free (wc := []) hD hS hA [] rfl
              refine va_calli (va_runS (As := [.int (mtape kq)]) (rest := []) ⟨hx, hb, hml, hown, hts⟩ (k_isDigit l dC dI cI cZ cC cJ H.size  (mtape kq) ) (va_cwS 1 hts gX5_cutAll_X5_isDigit rfl rfl rfl (by decide +kernel) ⟨Nat.le_of_ble_eq_true rfl, Nat.le_of_ble_eq_true rfl⟩) ⟨sPre_blind, fun U hU hW => ⟨rfl, sPre_ok hsk hPc hDc hU hW⟩⟩ rfl rfl hl.1 rfl (lv_room (Nat.le_of_ble_eq_true rfl)) dX5_cutAll_153 ⟨(show 0 + 0 ≤ 0 by omega), (show 0 + 0 ≤ 0 by omega)⟩) hS (fun q _ h => hFc q h) hFc (fun r_3 u t H1 locs ht hvm hw hB hz1 hk1 hS => ?_)
              try dsimp only at hw hB
              have hw_4 := hw
              obtain rfl : r_3 = isD (mtape kq) := hw_4
              obtain ⟨hP1, hD1⟩ := hB
              rw [ht] at hP1
              obtain ⟨hP, hD⟩ := va_join (wr := [(h0, .inr (5, [.int th, .ref Mtape, .int 0, .int (nI tnq), .ref Msort, .ref Mplace, .ref Mvalue, .int (nI anq), .int ft, .ref Mwords, .int (nI hdq), .int (nI nxq), .ref Mgoes, .ref MgoLine, .ref Mends, .ref MendLine, .ref Mkinds, .ref MisName, .int (nI mnq), .ref Mrow, .ref MbyHand, .ref Mleast, .ref Msecond, .ref MendAt, .ref MgoAt, .ref MnodeBehind, .int lE, .ref MisOut, .ref MfirstEnd, .ref MfirstGo])), (Mtape, .inl (cI, 1600, .inl mtape)), (Msort, .inl (cI, 1602, .inl msort)), (Mplace, .inl (cI, 1602, .inl (upd mplace nq (nI kq)))), (Mvalue, .inl (cJ, 1602, .inr (.inl mvalue)))]) (w1 := []) hP hD [] [0, 1, 2, 3, 4] rfl rfl (by decide) (by decide) hk1 hFc hP1 hD1
              generalize H1 = H at hP hS ⊢
              have hP : va_P (dC, dI) vwCl [(h0, .inr (5, [.int th, .ref Mtape, .int 0, .int (nI tnq), .ref Msort, .ref Mplace, .ref Mvalue, .int (nI anq), .int ft, .ref Mwords, .int (nI hdq), .int (nI nxq), .ref Mgoes, .ref MgoLine, .ref Mends, .ref MendLine, .ref Mkinds, .ref MisName, .int (nI mnq), .ref Mrow, .ref MbyHand, .ref Mleast, .ref Msecond, .ref MendAt, .ref MgoAt, .ref MnodeBehind, .int lE, .ref MisOut, .ref MfirstEnd, .ref MfirstGo])), (Mtape, .inl (cI, 1600, .inl mtape)), (Msort, .inl (cI, 1602, .inl msort)), (Mplace, .inl (cI, 1602, .inl (upd mplace nq (nI kq)))), (Mvalue, .inl (cJ, 1602, .inr (.inl mvalue)))] H := hP
              have hD : va_D A [(h0, .inr (5, [.int th, .ref Mtape, .int 0, .int (nI tnq), .ref Msort, .ref Mplace, .ref Mvalue, .int (nI anq), .int ft, .ref Mwords, .int (nI hdq), .int (nI nxq), .ref Mgoes, .ref MgoLine, .ref Mends, .ref MendLine, .ref Mkinds, .ref MisName, .int (nI mnq), .ref Mrow, .ref MbyHand, .ref Mleast, .ref Msecond, .ref MendAt, .ref MgoAt, .ref MnodeBehind, .int lE, .ref MisOut, .ref MfirstEnd, .ref MfirstGo])), (Mtape, .inl (cI, 1600, .inl mtape)), (Msort, .inl (cI, 1602, .inl msort)), (Mplace, .inl (cI, 1602, .inl (upd mplace nq (nI kq)))), (Mvalue, .inl (cJ, 1602, .inr (.inl mvalue)))] := hD
              refine lv_if_eq (tgt := 240) hx hb dX5_cutAll_156 (by decide) (fun c_156 => ?_) (fun c_156 => ?_)
              · skip
                refine lv_iload_n hx hb dX5_cutAll_240 rfl (lv_at hl 2 rfl) ?_
                refine lv_i2l (v := (mtape kq).toInt64) hx hb dX5_cutAll_241 rfl ?_
                refine lv_lstore (lv' := [(5, .long ((mtape kq).toInt64)), (4, .int (nI kq)), (3, .int (mtape kq)), (2, .int (nI kq)), (1, .int (nI nq)), (0, .ref h0)]) hx hb dX5_cutAll_242 hl (by decide) rfl (fun ls hl => ?_)
                refine lv_aload_n hx hb dX5_cutAll_244 rfl (lv_at hl 5 rfl) ?_
                refine va_get (D := (dC, dI)) (ci := 5) (v := .ref Msort) (C := RX5) (T := TX5) (N := 30) hx hb hts i5 hown hK hP 0 rfl rfl 4 (by decide) (hts (.fieldLink RX5 24 "StopSetterModel" "sort" "[I") (by decide +kernel)) (fun _ h9 => h9) rfl dX5_cutAll_245 ?_
                refine lv_iload_n hx hb dX5_cutAll_248 rfl (lv_at hl 4 rfl) ?_
                refine lv_iload_n hx hb dX5_cutAll_249 rfl (lv_at hl 2 rfl) ?_
                have hPc := hP.sub (ws' := []) [] rfl
                have hDc := hD.sub (ws' := []) [] (by decide) rfl
                have hFc := va_free (wc := []) hD hS hA [] rfl
                refine va_calli (va_runS (As := [.int (mtape kq)]) (rest := [.int (nI nq), .ref Msort]) ⟨hx, hb, hml, hown, hts⟩ (k_isSignOf l dC dI cI cZ cC cJ H.size  (mtape kq) ) (va_cwS 1 hts gX5_cutAll_X5_isSignOf rfl rfl rfl (by decide +kernel) ⟨Nat.le_of_ble_eq_true rfl, Nat.le_of_ble_eq_true rfl⟩) ⟨sPre_blind, fun U hU hW => ⟨rfl, sPre_ok hsk hPc hDc hU hW⟩⟩ rfl rfl hl.1 rfl (lv_room (Nat.le_of_ble_eq_true rfl)) dX5_cutAll_250 ⟨(show 0 + 0 ≤ 0 by omega), (show 0 + 0 ≤ 0 by omega)⟩) hS (fun q _ h => hFc q h) hFc (fun r_5 u t H1 locs ht hvm hw hB hz1 hk1 hS => ?_)
                try dsimp only at hw hB
                have hw_6 := hw
                obtain rfl : r_5 = (if (mtape kq) = 59 then 1 else 0) := hw_6
                obtain ⟨hP1, hD1⟩ := hB
                rw [ht] at hP1
                obtain ⟨hP, hD⟩ := va_join (wr := [(h0, .inr (5, [.int th, .ref Mtape, .int 0, .int (nI tnq), .ref Msort, .ref Mplace, .ref Mvalue, .int (nI anq), .int ft, .ref Mwords, .int (nI hdq), .int (nI nxq), .ref Mgoes, .ref MgoLine, .ref Mends, .ref MendLine, .ref Mkinds, .ref MisName, .int (nI mnq), .ref Mrow, .ref MbyHand, .ref Mleast, .ref Msecond, .ref MendAt, .ref MgoAt, .ref MnodeBehind, .int lE, .ref MisOut, .ref MfirstEnd, .ref MfirstGo])), (Mtape, .inl (cI, 1600, .inl mtape)), (Msort, .inl (cI, 1602, .inl msort)), (Mplace, .inl (cI, 1602, .inl (upd mplace nq (nI kq)))), (Mvalue, .inl (cJ, 1602, .inr (.inl mvalue)))]) (w1 := []) hP hD [] [0, 1, 2, 3, 4] rfl rfl (by decide) (by decide) hk1 hFc hP1 hD1
                generalize H1 = H at hP hS ⊢
                have hP : va_P (dC, dI) vwCl [(h0, .inr (5, [.int th, .ref Mtape, .int 0, .int (nI tnq), .ref Msort, .ref Mplace, .ref Mvalue, .int (nI anq), .int ft, .ref Mwords, .int (nI hdq), .int (nI nxq), .ref Mgoes, .ref MgoLine, .ref Mends, .ref MendLine, .ref Mkinds, .ref MisName, .int (nI mnq), .ref Mrow, .ref MbyHand, .ref Mleast, .ref Msecond, .ref MendAt, .ref MgoAt, .ref MnodeBehind, .int lE, .ref MisOut, .ref MfirstEnd, .ref MfirstGo])), (Mtape, .inl (cI, 1600, .inl mtape)), (Msort, .inl (cI, 1602, .inl msort)), (Mplace, .inl (cI, 1602, .inl (upd mplace nq (nI kq)))), (Mvalue, .inl (cJ, 1602, .inr (.inl mvalue)))] H := hP
                have hD : va_D A [(h0, .inr (5, [.int th, .ref Mtape, .int 0, .int (nI tnq), .ref Msort, .ref Mplace, .ref Mvalue, .int (nI anq), .int ft, .ref Mwords, .int (nI hdq), .int (nI nxq), .ref Mgoes, .ref MgoLine, .ref Mends, .ref MendLine, .ref Mkinds, .ref MisName, .int (nI mnq), .ref Mrow, .ref MbyHand, .ref Mleast, .ref Msecond, .ref MendAt, .ref MgoAt, .ref MnodeBehind, .int lE, .ref MisOut, .ref MfirstEnd, .ref MfirstGo])), (Mtape, .inl (cI, 1600, .inl mtape)), (Msort, .inl (cI, 1602, .inl msort)), (Mplace, .inl (cI, 1602, .inl (upd mplace nq (nI kq)))), (Mvalue, .inl (cJ, 1602, .inr (.inl mvalue)))] := hD
                refine lv_if_eq (tgt := 260) hx hb dX5_cutAll_253 (by decide) (fun c_253 => ?_) (fun c_253 => ?_)
                · skip
                  refine lv_iconst (v := 4) hx hb dX5_cutAll_260 (by decide) ?_
                  refine va_iast hx hb hK hP hD hS 2 0 rfl rfl (vp_in_nI (by omega) (by decide)) dX5_cutAll_261 (fun H locs hP hD hS => ?_)
                  have hP : va_P (dC, dI) vwCl [(h0, .inr (5, [.int th, .ref Mtape, .int 0, .int (nI tnq), .ref Msort, .ref Mplace, .ref Mvalue, .int (nI anq), .int ft, .ref Mwords, .int (nI hdq), .int (nI nxq), .ref Mgoes, .ref MgoLine, .ref Mends, .ref MendLine, .ref Mkinds, .ref MisName, .int (nI mnq), .ref Mrow, .ref MbyHand, .ref Mleast, .ref Msecond, .ref MendAt, .ref MgoAt, .ref MnodeBehind, .int lE, .ref MisOut, .ref MfirstEnd, .ref MfirstGo])), (Mtape, .inl (cI, 1600, .inl mtape)), (Msort, .inl (cI, 1602, .inl (upd msort ((nI nq).toNatClampNeg) 4))), (Mplace, .inl (cI, 1602, .inl (upd mplace nq (nI kq)))), (Mvalue, .inl (cJ, 1602, .inr (.inl mvalue)))] H := hP
                  have hD : va_D A [(h0, .inr (5, [.int th, .ref Mtape, .int 0, .int (nI tnq), .ref Msort, .ref Mplace, .ref Mvalue, .int (nI anq), .int ft, .ref Mwords, .int (nI hdq), .int (nI nxq), .ref Mgoes, .ref MgoLine, .ref Mends, .ref MendLine, .ref Mkinds, .ref MisName, .int (nI mnq), .ref Mrow, .ref MbyHand, .ref Mleast, .ref Msecond, .ref MendAt, .ref MgoAt, .ref MnodeBehind, .int lE, .ref MisOut, .ref MfirstEnd, .ref MfirstGo])), (Mtape, .inl (cI, 1600, .inl mtape)), (Msort, .inl (cI, 1602, .inl (upd msort ((nI nq).toNatClampNeg) 4))), (Mplace, .inl (cI, 1602, .inl (upd mplace nq (nI kq)))), (Mvalue, .inl (cJ, 1602, .inr (.inl mvalue)))] := hD
                  rw [show (upd msort ((nI nq).toNatClampNeg) 4) = (upd msort nq 4) from by rw [nI_clamp (by omega)]] at hP hD
                  have hP : va_P (dC, dI) vwCl [(h0, .inr (5, [.int th, .ref Mtape, .int 0, .int (nI tnq), .ref Msort, .ref Mplace, .ref Mvalue, .int (nI anq), .int ft, .ref Mwords, .int (nI hdq), .int (nI nxq), .ref Mgoes, .ref MgoLine, .ref Mends, .ref MendLine, .ref Mkinds, .ref MisName, .int (nI mnq), .ref Mrow, .ref MbyHand, .ref Mleast, .ref Msecond, .ref MendAt, .ref MgoAt, .ref MnodeBehind, .int lE, .ref MisOut, .ref MfirstEnd, .ref MfirstGo])), (Mtape, .inl (cI, 1600, .inl mtape)), (Msort, .inl (cI, 1602, .inl (upd msort nq 4))), (Mplace, .inl (cI, 1602, .inl (upd mplace nq (nI kq)))), (Mvalue, .inl (cJ, 1602, .inr (.inl mvalue)))] H := hP
                  have hD : va_D A [(h0, .inr (5, [.int th, .ref Mtape, .int 0, .int (nI tnq), .ref Msort, .ref Mplace, .ref Mvalue, .int (nI anq), .int ft, .ref Mwords, .int (nI hdq), .int (nI nxq), .ref Mgoes, .ref MgoLine, .ref Mends, .ref MendLine, .ref Mkinds, .ref MisName, .int (nI mnq), .ref Mrow, .ref MbyHand, .ref Mleast, .ref Msecond, .ref MendAt, .ref MgoAt, .ref MnodeBehind, .int lE, .ref MisOut, .ref MfirstEnd, .ref MfirstGo])), (Mtape, .inl (cI, 1600, .inl mtape)), (Msort, .inl (cI, 1602, .inl (upd msort nq 4))), (Mplace, .inl (cI, 1602, .inl (upd mplace nq (nI kq)))), (Mvalue, .inl (cJ, 1602, .inr (.inl mvalue)))] := hD
                  refine lv_iinc (v := (nI (kq + 1))) (lv' := [(2, .int (nI (kq + 1))), (5, .long ((mtape kq).toInt64)), (4, .int (nI kq)), (3, .int (mtape kq)), (1, .int (nI nq)), (0, .ref h0)]) hx hb dX5_cutAll_262 hl (k := 3) rfl (nI_1 kq) (by decide) rfl (fun ls hl => ?_)
                  refine lv_aload_n hx hb dX5_cutAll_265 rfl (lv_at hl 5 rfl) ?_
                  refine va_get (D := (dC, dI)) (ci := 5) (v := .ref Mvalue) (C := RX5) (T := TX5) (N := 30) hx hb hts i5 hown hK hP 0 rfl rfl 6 (by decide) (hts (.fieldLink RX5 30 "StopSetterModel" "value" "[J") (by decide +kernel)) (fun _ h9 => h9) rfl dX5_cutAll_266 ?_
                  refine lv_iload_n hx hb dX5_cutAll_269 rfl (lv_at hl 4 rfl) ?_
                  refine lv_lload hx hb dX5_cutAll_270 (lv_at hl 1 rfl) ?_
                  refine va_last hx hb hK hP hD hS 4 3 rfl rfl (vp_in_nI (by omega) (by decide)) dX5_cutAll_272 (fun H locs hP hD hS => ?_)
                  have hP : va_P (dC, dI) vwCl [(h0, .inr (5, [.int th, .ref Mtape, .int 0, .int (nI tnq), .ref Msort, .ref Mplace, .ref Mvalue, .int (nI anq), .int ft, .ref Mwords, .int (nI hdq), .int (nI nxq), .ref Mgoes, .ref MgoLine, .ref Mends, .ref MendLine, .ref Mkinds, .ref MisName, .int (nI mnq), .ref Mrow, .ref MbyHand, .ref Mleast, .ref Msecond, .ref MendAt, .ref MgoAt, .ref MnodeBehind, .int lE, .ref MisOut, .ref MfirstEnd, .ref MfirstGo])), (Mtape, .inl (cI, 1600, .inl mtape)), (Msort, .inl (cI, 1602, .inl (upd msort nq 4))), (Mplace, .inl (cI, 1602, .inl (upd mplace nq (nI kq)))), (Mvalue, .inl (cJ, 1602, .inr (.inl (vp_updL mvalue ((nI nq).toNatClampNeg) ((mtape kq).toInt64)))))] H := hP
                  have hD : va_D A [(h0, .inr (5, [.int th, .ref Mtape, .int 0, .int (nI tnq), .ref Msort, .ref Mplace, .ref Mvalue, .int (nI anq), .int ft, .ref Mwords, .int (nI hdq), .int (nI nxq), .ref Mgoes, .ref MgoLine, .ref Mends, .ref MendLine, .ref Mkinds, .ref MisName, .int (nI mnq), .ref Mrow, .ref MbyHand, .ref Mleast, .ref Msecond, .ref MendAt, .ref MgoAt, .ref MnodeBehind, .int lE, .ref MisOut, .ref MfirstEnd, .ref MfirstGo])), (Mtape, .inl (cI, 1600, .inl mtape)), (Msort, .inl (cI, 1602, .inl (upd msort nq 4))), (Mplace, .inl (cI, 1602, .inl (upd mplace nq (nI kq)))), (Mvalue, .inl (cJ, 1602, .inr (.inl (vp_updL mvalue ((nI nq).toNatClampNeg) ((mtape kq).toInt64)))))] := hD
                  rw [show (vp_updL mvalue ((nI nq).toNatClampNeg) ((mtape kq).toInt64)) = (vp_updL mvalue nq ((mtape kq).toInt64)) from by rw [nI_clamp (by omega)]] at hP hD
                  have hP : va_P (dC, dI) vwCl [(h0, .inr (5, [.int th, .ref Mtape, .int 0, .int (nI tnq), .ref Msort, .ref Mplace, .ref Mvalue, .int (nI anq), .int ft, .ref Mwords, .int (nI hdq), .int (nI nxq), .ref Mgoes, .ref MgoLine, .ref Mends, .ref MendLine, .ref Mkinds, .ref MisName, .int (nI mnq), .ref Mrow, .ref MbyHand, .ref Mleast, .ref Msecond, .ref MendAt, .ref MgoAt, .ref MnodeBehind, .int lE, .ref MisOut, .ref MfirstEnd, .ref MfirstGo])), (Mtape, .inl (cI, 1600, .inl mtape)), (Msort, .inl (cI, 1602, .inl (upd msort nq 4))), (Mplace, .inl (cI, 1602, .inl (upd mplace nq (nI kq)))), (Mvalue, .inl (cJ, 1602, .inr (.inl (vp_updL mvalue nq ((mtape kq).toInt64)))))] H := hP
                  have hD : va_D A [(h0, .inr (5, [.int th, .ref Mtape, .int 0, .int (nI tnq), .ref Msort, .ref Mplace, .ref Mvalue, .int (nI anq), .int ft, .ref Mwords, .int (nI hdq), .int (nI nxq), .ref Mgoes, .ref MgoLine, .ref Mends, .ref MendLine, .ref Mkinds, .ref MisName, .int (nI mnq), .ref Mrow, .ref MbyHand, .ref Mleast, .ref Msecond, .ref MendAt, .ref MgoAt, .ref MnodeBehind, .int lE, .ref MisOut, .ref MfirstEnd, .ref MfirstGo])), (Mtape, .inl (cI, 1600, .inl mtape)), (Msort, .inl (cI, 1602, .inl (upd msort nq 4))), (Mplace, .inl (cI, 1602, .inl (upd mplace nq (nI kq)))), (Mvalue, .inl (cJ, 1602, .inr (.inl (vp_updL mvalue nq ((mtape kq).toInt64)))))] := hD
                  refine lv_iinc (v := (nI (nq + 1))) (lv' := [(1, .int (nI (nq + 1))), (2, .int (nI (kq + 1))), (5, .long ((mtape kq).toInt64)), (4, .int (nI kq)), (3, .int (mtape kq)), (0, .ref h0)]) hx hb dX5_cutAll_273 hl (k := 4) rfl (nI_1 nq) (by decide) rfl (fun ls hl => ?_)
                  refine lv_goto (tgt := 17) hx hb dX5_cutAll_276 (by decide) ?_
                  exact ih_17  (nq + 1) (kq + 1) (upd msort nq 4) (upd mplace nq (nI kq)) (vp_updL mvalue nq ((mtape kq).toInt64)) (by omega) (by omega) (by omega) (by rw [(cut_O hJ hk9 hnb c_67 c_156 (hTp kq hk9)).1]; rfl) (tokV_up hT ((cut_O hJ hk9 hnb c_67 c_156 (hTp kq hk9)).2.2 (fun z => absurd c_253 (by rw [if_pos z]; decide)))) _ _ _ hP hD hS (lv_sub hl [1, 0, 5] rfl)
                · skip
                  refine lv_iconst (v := 3) hx hb dX5_cutAll_256 (by decide) ?_
                  refine lv_goto (tgt := 261) hx hb dX5_cutAll_257 (by decide) ?_
                  refine va_iast hx hb hK hP hD hS 2 0 rfl rfl (vp_in_nI (by omega) (by decide)) dX5_cutAll_261 (fun H locs hP hD hS => ?_)
                  have hP : va_P (dC, dI) vwCl [(h0, .inr (5, [.int th, .ref Mtape, .int 0, .int (nI tnq), .ref Msort, .ref Mplace, .ref Mvalue, .int (nI anq), .int ft, .ref Mwords, .int (nI hdq), .int (nI nxq), .ref Mgoes, .ref MgoLine, .ref Mends, .ref MendLine, .ref Mkinds, .ref MisName, .int (nI mnq), .ref Mrow, .ref MbyHand, .ref Mleast, .ref Msecond, .ref MendAt, .ref MgoAt, .ref MnodeBehind, .int lE, .ref MisOut, .ref MfirstEnd, .ref MfirstGo])), (Mtape, .inl (cI, 1600, .inl mtape)), (Msort, .inl (cI, 1602, .inl (upd msort ((nI nq).toNatClampNeg) 3))), (Mplace, .inl (cI, 1602, .inl (upd mplace nq (nI kq)))), (Mvalue, .inl (cJ, 1602, .inr (.inl mvalue)))] H := hP
                  have hD : va_D A [(h0, .inr (5, [.int th, .ref Mtape, .int 0, .int (nI tnq), .ref Msort, .ref Mplace, .ref Mvalue, .int (nI anq), .int ft, .ref Mwords, .int (nI hdq), .int (nI nxq), .ref Mgoes, .ref MgoLine, .ref Mends, .ref MendLine, .ref Mkinds, .ref MisName, .int (nI mnq), .ref Mrow, .ref MbyHand, .ref Mleast, .ref Msecond, .ref MendAt, .ref MgoAt, .ref MnodeBehind, .int lE, .ref MisOut, .ref MfirstEnd, .ref MfirstGo])), (Mtape, .inl (cI, 1600, .inl mtape)), (Msort, .inl (cI, 1602, .inl (upd msort ((nI nq).toNatClampNeg) 3))), (Mplace, .inl (cI, 1602, .inl (upd mplace nq (nI kq)))), (Mvalue, .inl (cJ, 1602, .inr (.inl mvalue)))] := hD
                  rw [show (upd msort ((nI nq).toNatClampNeg) 3) = (upd msort nq 3) from by rw [nI_clamp (by omega)]] at hP hD
                  have hP : va_P (dC, dI) vwCl [(h0, .inr (5, [.int th, .ref Mtape, .int 0, .int (nI tnq), .ref Msort, .ref Mplace, .ref Mvalue, .int (nI anq), .int ft, .ref Mwords, .int (nI hdq), .int (nI nxq), .ref Mgoes, .ref MgoLine, .ref Mends, .ref MendLine, .ref Mkinds, .ref MisName, .int (nI mnq), .ref Mrow, .ref MbyHand, .ref Mleast, .ref Msecond, .ref MendAt, .ref MgoAt, .ref MnodeBehind, .int lE, .ref MisOut, .ref MfirstEnd, .ref MfirstGo])), (Mtape, .inl (cI, 1600, .inl mtape)), (Msort, .inl (cI, 1602, .inl (upd msort nq 3))), (Mplace, .inl (cI, 1602, .inl (upd mplace nq (nI kq)))), (Mvalue, .inl (cJ, 1602, .inr (.inl mvalue)))] H := hP
                  have hD : va_D A [(h0, .inr (5, [.int th, .ref Mtape, .int 0, .int (nI tnq), .ref Msort, .ref Mplace, .ref Mvalue, .int (nI anq), .int ft, .ref Mwords, .int (nI hdq), .int (nI nxq), .ref Mgoes, .ref MgoLine, .ref Mends, .ref MendLine, .ref Mkinds, .ref MisName, .int (nI mnq), .ref Mrow, .ref MbyHand, .ref Mleast, .ref Msecond, .ref MendAt, .ref MgoAt, .ref MnodeBehind, .int lE, .ref MisOut, .ref MfirstEnd, .ref MfirstGo])), (Mtape, .inl (cI, 1600, .inl mtape)), (Msort, .inl (cI, 1602, .inl (upd msort nq 3))), (Mplace, .inl (cI, 1602, .inl (upd mplace nq (nI kq)))), (Mvalue, .inl (cJ, 1602, .inr (.inl mvalue)))] := hD
                  refine lv_iinc (v := (nI (kq + 1))) (lv' := [(2, .int (nI (kq + 1))), (5, .long ((mtape kq).toInt64)), (4, .int (nI kq)), (3, .int (mtape kq)), (1, .int (nI nq)), (0, .ref h0)]) hx hb dX5_cutAll_262 hl (k := 3) rfl (nI_1 kq) (by decide) rfl (fun ls hl => ?_)
                  refine lv_aload_n hx hb dX5_cutAll_265 rfl (lv_at hl 5 rfl) ?_
                  refine va_get (D := (dC, dI)) (ci := 5) (v := .ref Mvalue) (C := RX5) (T := TX5) (N := 30) hx hb hts i5 hown hK hP 0 rfl rfl 6 (by decide) (hts (.fieldLink RX5 30 "StopSetterModel" "value" "[J") (by decide +kernel)) (fun _ h9 => h9) rfl dX5_cutAll_266 ?_
                  refine lv_iload_n hx hb dX5_cutAll_269 rfl (lv_at hl 4 rfl) ?_
                  refine lv_lload hx hb dX5_cutAll_270 (lv_at hl 1 rfl) ?_
                  refine va_last hx hb hK hP hD hS 4 3 rfl rfl (vp_in_nI (by omega) (by decide)) dX5_cutAll_272 (fun H locs hP hD hS => ?_)
                  have hP : va_P (dC, dI) vwCl [(h0, .inr (5, [.int th, .ref Mtape, .int 0, .int (nI tnq), .ref Msort, .ref Mplace, .ref Mvalue, .int (nI anq), .int ft, .ref Mwords, .int (nI hdq), .int (nI nxq), .ref Mgoes, .ref MgoLine, .ref Mends, .ref MendLine, .ref Mkinds, .ref MisName, .int (nI mnq), .ref Mrow, .ref MbyHand, .ref Mleast, .ref Msecond, .ref MendAt, .ref MgoAt, .ref MnodeBehind, .int lE, .ref MisOut, .ref MfirstEnd, .ref MfirstGo])), (Mtape, .inl (cI, 1600, .inl mtape)), (Msort, .inl (cI, 1602, .inl (upd msort nq 3))), (Mplace, .inl (cI, 1602, .inl (upd mplace nq (nI kq)))), (Mvalue, .inl (cJ, 1602, .inr (.inl (vp_updL mvalue ((nI nq).toNatClampNeg) ((mtape kq).toInt64)))))] H := hP
                  have hD : va_D A [(h0, .inr (5, [.int th, .ref Mtape, .int 0, .int (nI tnq), .ref Msort, .ref Mplace, .ref Mvalue, .int (nI anq), .int ft, .ref Mwords, .int (nI hdq), .int (nI nxq), .ref Mgoes, .ref MgoLine, .ref Mends, .ref MendLine, .ref Mkinds, .ref MisName, .int (nI mnq), .ref Mrow, .ref MbyHand, .ref Mleast, .ref Msecond, .ref MendAt, .ref MgoAt, .ref MnodeBehind, .int lE, .ref MisOut, .ref MfirstEnd, .ref MfirstGo])), (Mtape, .inl (cI, 1600, .inl mtape)), (Msort, .inl (cI, 1602, .inl (upd msort nq 3))), (Mplace, .inl (cI, 1602, .inl (upd mplace nq (nI kq)))), (Mvalue, .inl (cJ, 1602, .inr (.inl (vp_updL mvalue ((nI nq).toNatClampNeg) ((mtape kq).toInt64)))))] := hD
                  rw [show (vp_updL mvalue ((nI nq).toNatClampNeg) ((mtape kq).toInt64)) = (vp_updL mvalue nq ((mtape kq).toInt64)) from by rw [nI_clamp (by omega)]] at hP hD
                  have hP : va_P (dC, dI) vwCl [(h0, .inr (5, [.int th, .ref Mtape, .int 0, .int (nI tnq), .ref Msort, .ref Mplace, .ref Mvalue, .int (nI anq), .int ft, .ref Mwords, .int (nI hdq), .int (nI nxq), .ref Mgoes, .ref MgoLine, .ref Mends, .ref MendLine, .ref Mkinds, .ref MisName, .int (nI mnq), .ref Mrow, .ref MbyHand, .ref Mleast, .ref Msecond, .ref MendAt, .ref MgoAt, .ref MnodeBehind, .int lE, .ref MisOut, .ref MfirstEnd, .ref MfirstGo])), (Mtape, .inl (cI, 1600, .inl mtape)), (Msort, .inl (cI, 1602, .inl (upd msort nq 3))), (Mplace, .inl (cI, 1602, .inl (upd mplace nq (nI kq)))), (Mvalue, .inl (cJ, 1602, .inr (.inl (vp_updL mvalue nq ((mtape kq).toInt64)))))] H := hP
                  have hD : va_D A [(h0, .inr (5, [.int th, .ref Mtape, .int 0, .int (nI tnq), .ref Msort, .ref Mplace, .ref Mvalue, .int (nI anq), .int ft, .ref Mwords, .int (nI hdq), .int (nI nxq), .ref Mgoes, .ref MgoLine, .ref Mends, .ref MendLine, .ref Mkinds, .ref MisName, .int (nI mnq), .ref Mrow, .ref MbyHand, .ref Mleast, .ref Msecond, .ref MendAt, .ref MgoAt, .ref MnodeBehind, .int lE, .ref MisOut, .ref MfirstEnd, .ref MfirstGo])), (Mtape, .inl (cI, 1600, .inl mtape)), (Msort, .inl (cI, 1602, .inl (upd msort nq 3))), (Mplace, .inl (cI, 1602, .inl (upd mplace nq (nI kq)))), (Mvalue, .inl (cJ, 1602, .inr (.inl (vp_updL mvalue nq ((mtape kq).toInt64)))))] := hD
                  refine lv_iinc (v := (nI (nq + 1))) (lv' := [(1, .int (nI (nq + 1))), (2, .int (nI (kq + 1))), (5, .long ((mtape kq).toInt64)), (4, .int (nI kq)), (3, .int (mtape kq)), (0, .ref h0)]) hx hb dX5_cutAll_273 hl (k := 4) rfl (nI_1 nq) (by decide) rfl (fun ls hl => ?_)
                  refine lv_goto (tgt := 17) hx hb dX5_cutAll_276 (by decide) ?_
                  exact ih_17  (nq + 1) (kq + 1) (upd msort nq 3) (upd mplace nq (nI kq)) (vp_updL mvalue nq ((mtape kq).toInt64)) (by omega) (by omega) (by omega) (by rw [(cut_O hJ hk9 hnb c_67 c_156 (hTp kq hk9)).1]; rfl) (tokV_up hT ((cut_O hJ hk9 hnb c_67 c_156 (hTp kq hk9)).2.1 (Decidable.of_not_not (fun z => c_253 (by rw [if_neg z]))))) _ _ _ hP hD hS (lv_sub hl [1, 0, 5] rfl)
              · skip
                have lp_159 : ∀ (n_159 : Nat) (k4q : Nat) (lwq : Int64), tnq + 1 ≤ k4q + n_159 → kq ≤ k4q → k4q ≤ tnq → rnE mtape 3 (tnq - k4q) k4q = rnE mtape 3 (tnq - kq) kq → lwq = lN (dN mtape kq (min (k4q - kq) 4)) → ∀ (H : Heap) (locs : List Loc) (ls : Array Slot), va_P (dC, dI) vwCl [(h0, .inr (5, [.int th, .ref Mtape, .int 0, .int (nI tnq), .ref Msort, .ref Mplace, .ref Mvalue, .int (nI anq), .int ft, .ref Mwords, .int (nI hdq), .int (nI nxq), .ref Mgoes, .ref MgoLine, .ref Mends, .ref MendLine, .ref Mkinds, .ref MisName, .int (nI mnq), .ref Mrow, .ref MbyHand, .ref Mleast, .ref Msecond, .ref MendAt, .ref MgoAt, .ref MnodeBehind, .int lE, .ref MisOut, .ref MfirstEnd, .ref MfirstGo])), (Mtape, .inl (cI, 1600, .inl mtape)), (Msort, .inl (cI, 1602, .inl msort)), (Mplace, .inl (cI, 1602, .inl (upd mplace nq (nI kq)))), (Mvalue, .inl (cJ, 1602, .inr (.inl mvalue)))] H → va_D A [(h0, .inr (5, [.int th, .ref Mtape, .int 0, .int (nI tnq), .ref Msort, .ref Mplace, .ref Mvalue, .int (nI anq), .int ft, .ref Mwords, .int (nI hdq), .int (nI nxq), .ref Mgoes, .ref MgoLine, .ref Mends, .ref MendLine, .ref Mkinds, .ref MisName, .int (nI mnq), .ref Mrow, .ref MbyHand, .ref Mleast, .ref Msecond, .ref MendAt, .ref MgoAt, .ref MnodeBehind, .int lE, .ref MisOut, .ref MfirstEnd, .ref MfirstGo])), (Mtape, .inl (cI, 1600, .inl mtape)), (Msort, .inl (cI, 1602, .inl msort)), (Mplace, .inl (cI, 1602, .inl (upd mplace nq (nI kq)))), (Mvalue, .inl (cJ, 1602, .inr (.inl mvalue)))] → va_S A s.heap H locs → lv_has ls 7 [(5, .long lwq), (4, .int (nI kq)), (3, .int (mtape kq)), (2, .int (nI k4q)), (1, .int (nI nq)), (0, .ref h0)] → W p l e (headSpec wsX5_cutAll ({ frames := 2, cells := 0, slots := 0, locals := 40 })).room s m ([.ref h0]).toArray below meth c H locs 0 0 (MQ below (va_Qv (fun (u : (Nat → Int32) × (Nat → Int32) × (Nat → Int64)) => match u with | (msort2, mplace2, mvalue2) => (∃ n9 : Nat, pOK msort2 mplace2 n9 ∧ ∀ j : Nat, j ≤ n9 → tokV mtape tnq j (msort2 j) (mplace2 j) (mvalue2 j))) (fun (u : (Nat → Int32) × (Nat → Int32) × (Nat → Int64)) t => match u with | (msort2, mplace2, mvalue2) => sB dC dI A [(h0, .inr (5, [.int th, .ref Mtape, .int 0, .int (nI tnq), .ref Msort, .ref Mplace, .ref Mvalue, .int 0, .int 0, .ref Mwords, .int (nI hdq), .int (nI nxq), .ref Mgoes, .ref MgoLine, .ref Mends, .ref MendLine, .ref Mkinds, .ref MisName, .int (nI mnq), .ref Mrow, .ref MbyHand, .ref Mleast, .ref Msecond, .ref MendAt, .ref MgoAt, .ref MnodeBehind, .int lE, .ref MisOut, .ref MfirstEnd, .ref MfirstGo])), (Mtape, .inl (cI, 1600, .inl mtape)), (Msort, .inl (cI, 1602, .inl msort2)), (Mplace, .inl (cI, 1602, .inl mplace2)), (Mvalue, .inl (cJ, 1602, .inr (.inl mvalue2)))] t) A) ([.ref h0]).toArray s 0 0 A) (F0 m 159 ls []) := by
                  intro n_159
                  induction n_159 with
                  | zero =>
                    intro k4q lwq fuel_159 hk2_159 hk3_159 hE_159 hlv_159
                    exact absurd fuel_159 (by omega)
                  | succ n_159 ih_159 =>
                    intro k4q lwq fuel_159 hk2_159 hk3_159 hE_159 hlv_159 H locs ls hP hD hS hl
                    refine lv_iload_n hx hb dX5_cutAll_159 rfl (lv_at hl 3 rfl) ?_
                    refine lv_aload_n hx hb dX5_cutAll_160 rfl (lv_at hl 5 rfl) ?_
                    refine va_get (D := (dC, dI)) (ci := 5) (v := .int (nI tnq)) (C := RX5) (T := TX5) (N := 30) hx hb hts i5 hown hK hP 0 rfl rfl 3 (by decide) (hts (.fieldLink RX5 114 "StopSetterModel" "size" "I") (by decide +kernel)) (fun _ h9 => h9) rfl dX5_cutAll_161 ?_
                    refine lv_icmp_ge (tgt := 218) hx hb dX5_cutAll_164 (by decide) (fun c_164 => ?_) (fun c_164 => ?_)
                    · skip
                      have hge5 : tnq ≤ k4q := (nI_leI (a := tnq) (b := k4q) (by omega) (by omega)).mp c_164
                      have hE9 : rnE mtape 3 (tnq - kq) kq = k4q := by rw [← hE_159, rnE_end hge5]
                      have hkk : kq < k4q := by omega
                      refine lv_aload_n hx hb dX5_cutAll_218 rfl (lv_at hl 5 rfl) ?_
                      refine va_get (D := (dC, dI)) (ci := 5) (v := .ref Msort) (C := RX5) (T := TX5) (N := 30) hx hb hts i5 hown hK hP 0 rfl rfl 4 (by decide) (hts (.fieldLink RX5 24 "StopSetterModel" "sort" "[I") (by decide +kernel)) (fun _ h9 => h9) rfl dX5_cutAll_219 ?_
                      refine lv_iload_n hx hb dX5_cutAll_222 rfl (lv_at hl 4 rfl) ?_
                      refine lv_iload_n hx hb dX5_cutAll_223 rfl (lv_at hl 3 rfl) ?_
                      refine lv_iload hx hb dX5_cutAll_224 (lv_at hl 1 rfl) ?_
                      refine lv_isub hx hb dX5_cutAll_226 ?_
                      refine lv_topi (fun v_ ev_ => ?_)
                      obtain rfl : v_ = (nI (k4q - kq)) := ev_.trans (nI_sub hk2_159)
                      refine lv_iconst (v := 4) hx hb dX5_cutAll_227 (by decide) ?_
                      refine lv_icmp_le (tgt := 235) hx hb dX5_cutAll_228 (by decide) (fun c_228 => ?_) (fun c_228 => ?_)
                      · skip
                        refine lv_iconst (v := 2) hx hb dX5_cutAll_235 (by decide) ?_
                        refine va_iast hx hb hK hP hD hS 2 0 rfl rfl (vp_in_nI (by omega) (by decide)) dX5_cutAll_236 (fun H locs hP hD hS => ?_)
                        have hP : va_P (dC, dI) vwCl [(h0, .inr (5, [.int th, .ref Mtape, .int 0, .int (nI tnq), .ref Msort, .ref Mplace, .ref Mvalue, .int (nI anq), .int ft, .ref Mwords, .int (nI hdq), .int (nI nxq), .ref Mgoes, .ref MgoLine, .ref Mends, .ref MendLine, .ref Mkinds, .ref MisName, .int (nI mnq), .ref Mrow, .ref MbyHand, .ref Mleast, .ref Msecond, .ref MendAt, .ref MgoAt, .ref MnodeBehind, .int lE, .ref MisOut, .ref MfirstEnd, .ref MfirstGo])), (Mtape, .inl (cI, 1600, .inl mtape)), (Msort, .inl (cI, 1602, .inl (upd msort ((nI nq).toNatClampNeg) 2))), (Mplace, .inl (cI, 1602, .inl (upd mplace nq (nI kq)))), (Mvalue, .inl (cJ, 1602, .inr (.inl mvalue)))] H := hP
                        have hD : va_D A [(h0, .inr (5, [.int th, .ref Mtape, .int 0, .int (nI tnq), .ref Msort, .ref Mplace, .ref Mvalue, .int (nI anq), .int ft, .ref Mwords, .int (nI hdq), .int (nI nxq), .ref Mgoes, .ref MgoLine, .ref Mends, .ref MendLine, .ref Mkinds, .ref MisName, .int (nI mnq), .ref Mrow, .ref MbyHand, .ref Mleast, .ref Msecond, .ref MendAt, .ref MgoAt, .ref MnodeBehind, .int lE, .ref MisOut, .ref MfirstEnd, .ref MfirstGo])), (Mtape, .inl (cI, 1600, .inl mtape)), (Msort, .inl (cI, 1602, .inl (upd msort ((nI nq).toNatClampNeg) 2))), (Mplace, .inl (cI, 1602, .inl (upd mplace nq (nI kq)))), (Mvalue, .inl (cJ, 1602, .inr (.inl mvalue)))] := hD
                        rw [show (upd msort ((nI nq).toNatClampNeg) 2) = (upd msort nq 2) from by rw [nI_clamp (by omega)]] at hP hD
                        have hP : va_P (dC, dI) vwCl [(h0, .inr (5, [.int th, .ref Mtape, .int 0, .int (nI tnq), .ref Msort, .ref Mplace, .ref Mvalue, .int (nI anq), .int ft, .ref Mwords, .int (nI hdq), .int (nI nxq), .ref Mgoes, .ref MgoLine, .ref Mends, .ref MendLine, .ref Mkinds, .ref MisName, .int (nI mnq), .ref Mrow, .ref MbyHand, .ref Mleast, .ref Msecond, .ref MendAt, .ref MgoAt, .ref MnodeBehind, .int lE, .ref MisOut, .ref MfirstEnd, .ref MfirstGo])), (Mtape, .inl (cI, 1600, .inl mtape)), (Msort, .inl (cI, 1602, .inl (upd msort nq 2))), (Mplace, .inl (cI, 1602, .inl (upd mplace nq (nI kq)))), (Mvalue, .inl (cJ, 1602, .inr (.inl mvalue)))] H := hP
                        have hD : va_D A [(h0, .inr (5, [.int th, .ref Mtape, .int 0, .int (nI tnq), .ref Msort, .ref Mplace, .ref Mvalue, .int (nI anq), .int ft, .ref Mwords, .int (nI hdq), .int (nI nxq), .ref Mgoes, .ref MgoLine, .ref Mends, .ref MendLine, .ref Mkinds, .ref MisName, .int (nI mnq), .ref Mrow, .ref MbyHand, .ref Mleast, .ref Msecond, .ref MendAt, .ref MgoAt, .ref MnodeBehind, .int lE, .ref MisOut, .ref MfirstEnd, .ref MfirstGo])), (Mtape, .inl (cI, 1600, .inl mtape)), (Msort, .inl (cI, 1602, .inl (upd msort nq 2))), (Mplace, .inl (cI, 1602, .inl (upd mplace nq (nI kq)))), (Mvalue, .inl (cJ, 1602, .inr (.inl mvalue)))] := hD
                        refine lv_goto (tgt := 265) hx hb dX5_cutAll_237 (by decide) ?_
                        refine lv_aload_n hx hb dX5_cutAll_265 rfl (lv_at hl 5 rfl) ?_
                        refine va_get (D := (dC, dI)) (ci := 5) (v := .ref Mvalue) (C := RX5) (T := TX5) (N := 30) hx hb hts i5 hown hK hP 0 rfl rfl 6 (by decide) (hts (.fieldLink RX5 30 "StopSetterModel" "value" "[J") (by decide +kernel)) (fun _ h9 => h9) rfl dX5_cutAll_266 ?_
                        refine lv_iload_n hx hb dX5_cutAll_269 rfl (lv_at hl 4 rfl) ?_
                        refine lv_lload hx hb dX5_cutAll_270 (lv_at hl 0 rfl) ?_
                        refine va_last hx hb hK hP hD hS 4 3 rfl rfl (vp_in_nI (by omega) (by decide)) dX5_cutAll_272 (fun H locs hP hD hS => ?_)
                        have hP : va_P (dC, dI) vwCl [(h0, .inr (5, [.int th, .ref Mtape, .int 0, .int (nI tnq), .ref Msort, .ref Mplace, .ref Mvalue, .int (nI anq), .int ft, .ref Mwords, .int (nI hdq), .int (nI nxq), .ref Mgoes, .ref MgoLine, .ref Mends, .ref MendLine, .ref Mkinds, .ref MisName, .int (nI mnq), .ref Mrow, .ref MbyHand, .ref Mleast, .ref Msecond, .ref MendAt, .ref MgoAt, .ref MnodeBehind, .int lE, .ref MisOut, .ref MfirstEnd, .ref MfirstGo])), (Mtape, .inl (cI, 1600, .inl mtape)), (Msort, .inl (cI, 1602, .inl (upd msort nq 2))), (Mplace, .inl (cI, 1602, .inl (upd mplace nq (nI kq)))), (Mvalue, .inl (cJ, 1602, .inr (.inl (vp_updL mvalue ((nI nq).toNatClampNeg) lwq))))] H := hP
                        have hD : va_D A [(h0, .inr (5, [.int th, .ref Mtape, .int 0, .int (nI tnq), .ref Msort, .ref Mplace, .ref Mvalue, .int (nI anq), .int ft, .ref Mwords, .int (nI hdq), .int (nI nxq), .ref Mgoes, .ref MgoLine, .ref Mends, .ref MendLine, .ref Mkinds, .ref MisName, .int (nI mnq), .ref Mrow, .ref MbyHand, .ref Mleast, .ref Msecond, .ref MendAt, .ref MgoAt, .ref MnodeBehind, .int lE, .ref MisOut, .ref MfirstEnd, .ref MfirstGo])), (Mtape, .inl (cI, 1600, .inl mtape)), (Msort, .inl (cI, 1602, .inl (upd msort nq 2))), (Mplace, .inl (cI, 1602, .inl (upd mplace nq (nI kq)))), (Mvalue, .inl (cJ, 1602, .inr (.inl (vp_updL mvalue ((nI nq).toNatClampNeg) lwq))))] := hD
                        rw [show (vp_updL mvalue ((nI nq).toNatClampNeg) lwq) = (vp_updL mvalue nq lwq) from by rw [nI_clamp (by omega)]] at hP hD
                        have hP : va_P (dC, dI) vwCl [(h0, .inr (5, [.int th, .ref Mtape, .int 0, .int (nI tnq), .ref Msort, .ref Mplace, .ref Mvalue, .int (nI anq), .int ft, .ref Mwords, .int (nI hdq), .int (nI nxq), .ref Mgoes, .ref MgoLine, .ref Mends, .ref MendLine, .ref Mkinds, .ref MisName, .int (nI mnq), .ref Mrow, .ref MbyHand, .ref Mleast, .ref Msecond, .ref MendAt, .ref MgoAt, .ref MnodeBehind, .int lE, .ref MisOut, .ref MfirstEnd, .ref MfirstGo])), (Mtape, .inl (cI, 1600, .inl mtape)), (Msort, .inl (cI, 1602, .inl (upd msort nq 2))), (Mplace, .inl (cI, 1602, .inl (upd mplace nq (nI kq)))), (Mvalue, .inl (cJ, 1602, .inr (.inl (vp_updL mvalue nq lwq))))] H := hP
                        have hD : va_D A [(h0, .inr (5, [.int th, .ref Mtape, .int 0, .int (nI tnq), .ref Msort, .ref Mplace, .ref Mvalue, .int (nI anq), .int ft, .ref Mwords, .int (nI hdq), .int (nI nxq), .ref Mgoes, .ref MgoLine, .ref Mends, .ref MendLine, .ref Mkinds, .ref MisName, .int (nI mnq), .ref Mrow, .ref MbyHand, .ref Mleast, .ref Msecond, .ref MendAt, .ref MgoAt, .ref MnodeBehind, .int lE, .ref MisOut, .ref MfirstEnd, .ref MfirstGo])), (Mtape, .inl (cI, 1600, .inl mtape)), (Msort, .inl (cI, 1602, .inl (upd msort nq 2))), (Mplace, .inl (cI, 1602, .inl (upd mplace nq (nI kq)))), (Mvalue, .inl (cJ, 1602, .inr (.inl (vp_updL mvalue nq lwq))))] := hD
                        refine lv_iinc (v := (nI (nq + 1))) (lv' := [(1, .int (nI (nq + 1))), (5, .long lwq), (4, .int (nI kq)), (3, .int (mtape kq)), (2, .int (nI k4q)), (0, .ref h0)]) hx hb dX5_cutAll_273 hl (k := 4) rfl (nI_1 nq) (by decide) rfl (fun ls hl => ?_)
                        refine lv_goto (tgt := 17) hx hb dX5_cutAll_276 (by decide) ?_
                        exact ih_17  (nq + 1) k4q (upd msort nq 2) (upd mplace nq (nI kq)) (vp_updL mvalue nq lwq) (by omega) (by omega) (by omega) (by rw [(cut_D hJ hk9 hnb (srt_3.mpr c_156) hE9 hlv_159).1]; rfl) (tokV_up hT ((cut_D hJ hk9 hnb (srt_3.mpr c_156) hE9 hlv_159).2.2 ((adv8 (d := k4q - kq) (m := 4) (by omega) (by omega)).mp c_228))) _ _ _ hP hD hS (lv_sub hl [4, 0, 5] rfl)
                      · skip
                        refine lv_iconst (v := 4) hx hb dX5_cutAll_231 (by decide) ?_
                        refine lv_goto (tgt := 236) hx hb dX5_cutAll_232 (by decide) ?_
                        refine va_iast hx hb hK hP hD hS 2 0 rfl rfl (vp_in_nI (by omega) (by decide)) dX5_cutAll_236 (fun H locs hP hD hS => ?_)
                        have hP : va_P (dC, dI) vwCl [(h0, .inr (5, [.int th, .ref Mtape, .int 0, .int (nI tnq), .ref Msort, .ref Mplace, .ref Mvalue, .int (nI anq), .int ft, .ref Mwords, .int (nI hdq), .int (nI nxq), .ref Mgoes, .ref MgoLine, .ref Mends, .ref MendLine, .ref Mkinds, .ref MisName, .int (nI mnq), .ref Mrow, .ref MbyHand, .ref Mleast, .ref Msecond, .ref MendAt, .ref MgoAt, .ref MnodeBehind, .int lE, .ref MisOut, .ref MfirstEnd, .ref MfirstGo])), (Mtape, .inl (cI, 1600, .inl mtape)), (Msort, .inl (cI, 1602, .inl (upd msort ((nI nq).toNatClampNeg) 4))), (Mplace, .inl (cI, 1602, .inl (upd mplace nq (nI kq)))), (Mvalue, .inl (cJ, 1602, .inr (.inl mvalue)))] H := hP
                        have hD : va_D A [(h0, .inr (5, [.int th, .ref Mtape, .int 0, .int (nI tnq), .ref Msort, .ref Mplace, .ref Mvalue, .int (nI anq), .int ft, .ref Mwords, .int (nI hdq), .int (nI nxq), .ref Mgoes, .ref MgoLine, .ref Mends, .ref MendLine, .ref Mkinds, .ref MisName, .int (nI mnq), .ref Mrow, .ref MbyHand, .ref Mleast, .ref Msecond, .ref MendAt, .ref MgoAt, .ref MnodeBehind, .int lE, .ref MisOut, .ref MfirstEnd, .ref MfirstGo])), (Mtape, .inl (cI, 1600, .inl mtape)), (Msort, .inl (cI, 1602, .inl (upd msort ((nI nq).toNatClampNeg) 4))), (Mplace, .inl (cI, 1602, .inl (upd mplace nq (nI kq)))), (Mvalue, .inl (cJ, 1602, .inr (.inl mvalue)))] := hD
                        rw [show (upd msort ((nI nq).toNatClampNeg) 4) = (upd msort nq 4) from by rw [nI_clamp (by omega)]] at hP hD
                        have hP : va_P (dC, dI) vwCl [(h0, .inr (5, [.int th, .ref Mtape, .int 0, .int (nI tnq), .ref Msort, .ref Mplace, .ref Mvalue, .int (nI anq), .int ft, .ref Mwords, .int (nI hdq), .int (nI nxq), .ref Mgoes, .ref MgoLine, .ref Mends, .ref MendLine, .ref Mkinds, .ref MisName, .int (nI mnq), .ref Mrow, .ref MbyHand, .ref Mleast, .ref Msecond, .ref MendAt, .ref MgoAt, .ref MnodeBehind, .int lE, .ref MisOut, .ref MfirstEnd, .ref MfirstGo])), (Mtape, .inl (cI, 1600, .inl mtape)), (Msort, .inl (cI, 1602, .inl (upd msort nq 4))), (Mplace, .inl (cI, 1602, .inl (upd mplace nq (nI kq)))), (Mvalue, .inl (cJ, 1602, .inr (.inl mvalue)))] H := hP
                        have hD : va_D A [(h0, .inr (5, [.int th, .ref Mtape, .int 0, .int (nI tnq), .ref Msort, .ref Mplace, .ref Mvalue, .int (nI anq), .int ft, .ref Mwords, .int (nI hdq), .int (nI nxq), .ref Mgoes, .ref MgoLine, .ref Mends, .ref MendLine, .ref Mkinds, .ref MisName, .int (nI mnq), .ref Mrow, .ref MbyHand, .ref Mleast, .ref Msecond, .ref MendAt, .ref MgoAt, .ref MnodeBehind, .int lE, .ref MisOut, .ref MfirstEnd, .ref MfirstGo])), (Mtape, .inl (cI, 1600, .inl mtape)), (Msort, .inl (cI, 1602, .inl (upd msort nq 4))), (Mplace, .inl (cI, 1602, .inl (upd mplace nq (nI kq)))), (Mvalue, .inl (cJ, 1602, .inr (.inl mvalue)))] := hD
                        refine lv_goto (tgt := 265) hx hb dX5_cutAll_237 (by decide) ?_
                        refine lv_aload_n hx hb dX5_cutAll_265 rfl (lv_at hl 5 rfl) ?_
                        refine va_get (D := (dC, dI)) (ci := 5) (v := .ref Mvalue) (C := RX5) (T := TX5) (N := 30) hx hb hts i5 hown hK hP 0 rfl rfl 6 (by decide) (hts (.fieldLink RX5 30 "StopSetterModel" "value" "[J") (by decide +kernel)) (fun _ h9 => h9) rfl dX5_cutAll_266 ?_
                        refine lv_iload_n hx hb dX5_cutAll_269 rfl (lv_at hl 4 rfl) ?_
                        refine lv_lload hx hb dX5_cutAll_270 (lv_at hl 0 rfl) ?_
                        refine va_last hx hb hK hP hD hS 4 3 rfl rfl (vp_in_nI (by omega) (by decide)) dX5_cutAll_272 (fun H locs hP hD hS => ?_)
                        have hP : va_P (dC, dI) vwCl [(h0, .inr (5, [.int th, .ref Mtape, .int 0, .int (nI tnq), .ref Msort, .ref Mplace, .ref Mvalue, .int (nI anq), .int ft, .ref Mwords, .int (nI hdq), .int (nI nxq), .ref Mgoes, .ref MgoLine, .ref Mends, .ref MendLine, .ref Mkinds, .ref MisName, .int (nI mnq), .ref Mrow, .ref MbyHand, .ref Mleast, .ref Msecond, .ref MendAt, .ref MgoAt, .ref MnodeBehind, .int lE, .ref MisOut, .ref MfirstEnd, .ref MfirstGo])), (Mtape, .inl (cI, 1600, .inl mtape)), (Msort, .inl (cI, 1602, .inl (upd msort nq 4))), (Mplace, .inl (cI, 1602, .inl (upd mplace nq (nI kq)))), (Mvalue, .inl (cJ, 1602, .inr (.inl (vp_updL mvalue ((nI nq).toNatClampNeg) lwq))))] H := hP
                        have hD : va_D A [(h0, .inr (5, [.int th, .ref Mtape, .int 0, .int (nI tnq), .ref Msort, .ref Mplace, .ref Mvalue, .int (nI anq), .int ft, .ref Mwords, .int (nI hdq), .int (nI nxq), .ref Mgoes, .ref MgoLine, .ref Mends, .ref MendLine, .ref Mkinds, .ref MisName, .int (nI mnq), .ref Mrow, .ref MbyHand, .ref Mleast, .ref Msecond, .ref MendAt, .ref MgoAt, .ref MnodeBehind, .int lE, .ref MisOut, .ref MfirstEnd, .ref MfirstGo])), (Mtape, .inl (cI, 1600, .inl mtape)), (Msort, .inl (cI, 1602, .inl (upd msort nq 4))), (Mplace, .inl (cI, 1602, .inl (upd mplace nq (nI kq)))), (Mvalue, .inl (cJ, 1602, .inr (.inl (vp_updL mvalue ((nI nq).toNatClampNeg) lwq))))] := hD
                        rw [show (vp_updL mvalue ((nI nq).toNatClampNeg) lwq) = (vp_updL mvalue nq lwq) from by rw [nI_clamp (by omega)]] at hP hD
                        have hP : va_P (dC, dI) vwCl [(h0, .inr (5, [.int th, .ref Mtape, .int 0, .int (nI tnq), .ref Msort, .ref Mplace, .ref Mvalue, .int (nI anq), .int ft, .ref Mwords, .int (nI hdq), .int (nI nxq), .ref Mgoes, .ref MgoLine, .ref Mends, .ref MendLine, .ref Mkinds, .ref MisName, .int (nI mnq), .ref Mrow, .ref MbyHand, .ref Mleast, .ref Msecond, .ref MendAt, .ref MgoAt, .ref MnodeBehind, .int lE, .ref MisOut, .ref MfirstEnd, .ref MfirstGo])), (Mtape, .inl (cI, 1600, .inl mtape)), (Msort, .inl (cI, 1602, .inl (upd msort nq 4))), (Mplace, .inl (cI, 1602, .inl (upd mplace nq (nI kq)))), (Mvalue, .inl (cJ, 1602, .inr (.inl (vp_updL mvalue nq lwq))))] H := hP
                        have hD : va_D A [(h0, .inr (5, [.int th, .ref Mtape, .int 0, .int (nI tnq), .ref Msort, .ref Mplace, .ref Mvalue, .int (nI anq), .int ft, .ref Mwords, .int (nI hdq), .int (nI nxq), .ref Mgoes, .ref MgoLine, .ref Mends, .ref MendLine, .ref Mkinds, .ref MisName, .int (nI mnq), .ref Mrow, .ref MbyHand, .ref Mleast, .ref Msecond, .ref MendAt, .ref MgoAt, .ref MnodeBehind, .int lE, .ref MisOut, .ref MfirstEnd, .ref MfirstGo])), (Mtape, .inl (cI, 1600, .inl mtape)), (Msort, .inl (cI, 1602, .inl (upd msort nq 4))), (Mplace, .inl (cI, 1602, .inl (upd mplace nq (nI kq)))), (Mvalue, .inl (cJ, 1602, .inr (.inl (vp_updL mvalue nq lwq))))] := hD
                        refine lv_iinc (v := (nI (nq + 1))) (lv' := [(1, .int (nI (nq + 1))), (5, .long lwq), (4, .int (nI kq)), (3, .int (mtape kq)), (2, .int (nI k4q)), (0, .ref h0)]) hx hb dX5_cutAll_273 hl (k := 4) rfl (nI_1 nq) (by decide) rfl (fun ls hl => ?_)
                        refine lv_goto (tgt := 17) hx hb dX5_cutAll_276 (by decide) ?_
                        exact ih_17  (nq + 1) k4q (upd msort nq 4) (upd mplace nq (nI kq)) (vp_updL mvalue nq lwq) (by omega) (by omega) (by omega) (by rw [(cut_D hJ hk9 hnb (srt_3.mpr c_156) hE9 hlv_159).1]; rfl) (tokV_up hT ((cut_D hJ hk9 hnb (srt_3.mpr c_156) hE9 hlv_159).2.1 (Decidable.of_not_not (fun z => c_228 ((adv8 (d := k4q - kq) (m := 4) (by omega) (by omega)).mpr z))))) _ _ _ hP hD hS (lv_sub hl [4, 0, 5] rfl)
                    · skip
                      have hk5 : k4q < tnq := nk_lt rfl c_164 (by omega)
                      refine lv_aload_n hx hb dX5_cutAll_167 rfl (lv_at hl 5 rfl) ?_
                      refine va_get (D := (dC, dI)) (ci := 5) (v := .ref Mtape) (C := RX5) (T := TX5) (N := 30) hx hb hts i5 hown hK hP 0 rfl rfl 1 (by decide) (hts (.fieldLink RX5 14 "StopSetterModel" "tape" "[I") (by decide +kernel)) (fun _ h9 => h9) rfl dX5_cutAll_168 ?_
                      refine lv_iload_n hx hb dX5_cutAll_171 rfl (lv_at hl 3 rfl) ?_
                      refine va_iald hx hb hK hP 1 0 rfl rfl (vp_in_nI (by omega) (by decide)) dX5_cutAll_172 ?_
                      refine lv_topi (fun v_ ev_ => ?_)
                      obtain rfl : v_ = (mtape k4q) := ev_.trans (by rw [nI_clamp (by omega)])
                      have hPc := hP.sub (ws' := []) [] rfl
                      have hDc := hD.sub (ws' := []) [] (by decide) rfl
                      have hFc := va_free (wc := []) hD hS hA [] rfl
                      refine va_calli (va_runS (As := [.int (mtape k4q)]) (rest := []) ⟨hx, hb, hml, hown, hts⟩ (k_isDigit l dC dI cI cZ cC cJ H.size  (mtape k4q) ) (va_cwS 1 hts gX5_cutAll_X5_isDigit rfl rfl rfl (by decide +kernel) ⟨Nat.le_of_ble_eq_true rfl, Nat.le_of_ble_eq_true rfl⟩) ⟨sPre_blind, fun U hU hW => ⟨rfl, sPre_ok hsk hPc hDc hU hW⟩⟩ rfl rfl hl.1 rfl (lv_room (Nat.le_of_ble_eq_true rfl)) dX5_cutAll_173 ⟨(show 0 + 0 ≤ 0 by omega), (show 0 + 0 ≤ 0 by omega)⟩) hS (fun q _ h => hFc q h) hFc (fun r_7 u t H1 locs ht hvm hw hB hz1 hk1 hS => ?_)
                      try dsimp only at hw hB
                      have hw_8 := hw
                      obtain rfl : r_7 = isD (mtape k4q) := hw_8
                      obtain ⟨hP1, hD1⟩ := hB
                      rw [ht] at hP1
                      obtain ⟨hP, hD⟩ := va_join (wr := [(h0, .inr (5, [.int th, .ref Mtape, .int 0, .int (nI tnq), .ref Msort, .ref Mplace, .ref Mvalue, .int (nI anq), .int ft, .ref Mwords, .int (nI hdq), .int (nI nxq), .ref Mgoes, .ref MgoLine, .ref Mends, .ref MendLine, .ref Mkinds, .ref MisName, .int (nI mnq), .ref Mrow, .ref MbyHand, .ref Mleast, .ref Msecond, .ref MendAt, .ref MgoAt, .ref MnodeBehind, .int lE, .ref MisOut, .ref MfirstEnd, .ref MfirstGo])), (Mtape, .inl (cI, 1600, .inl mtape)), (Msort, .inl (cI, 1602, .inl msort)), (Mplace, .inl (cI, 1602, .inl (upd mplace nq (nI kq)))), (Mvalue, .inl (cJ, 1602, .inr (.inl mvalue)))]) (w1 := []) hP hD [] [0, 1, 2, 3, 4] rfl rfl (by decide) (by decide) hk1 hFc hP1 hD1
                      generalize H1 = H at hP hS ⊢
                      have hP : va_P (dC, dI) vwCl [(h0, .inr (5, [.int th, .ref Mtape, .int 0, .int (nI tnq), .ref Msort, .ref Mplace, .ref Mvalue, .int (nI anq), .int ft, .ref Mwords, .int (nI hdq), .int (nI nxq), .ref Mgoes, .ref MgoLine, .ref Mends, .ref MendLine, .ref Mkinds, .ref MisName, .int (nI mnq), .ref Mrow, .ref MbyHand, .ref Mleast, .ref Msecond, .ref MendAt, .ref MgoAt, .ref MnodeBehind, .int lE, .ref MisOut, .ref MfirstEnd, .ref MfirstGo])), (Mtape, .inl (cI, 1600, .inl mtape)), (Msort, .inl (cI, 1602, .inl msort)), (Mplace, .inl (cI, 1602, .inl (upd mplace nq (nI kq)))), (Mvalue, .inl (cJ, 1602, .inr (.inl mvalue)))] H := hP
                      have hD : va_D A [(h0, .inr (5, [.int th, .ref Mtape, .int 0, .int (nI tnq), .ref Msort, .ref Mplace, .ref Mvalue, .int (nI anq), .int ft, .ref Mwords, .int (nI hdq), .int (nI nxq), .ref Mgoes, .ref MgoLine, .ref Mends, .ref MendLine, .ref Mkinds, .ref MisName, .int (nI mnq), .ref Mrow, .ref MbyHand, .ref Mleast, .ref Msecond, .ref MendAt, .ref MgoAt, .ref MnodeBehind, .int lE, .ref MisOut, .ref MfirstEnd, .ref MfirstGo])), (Mtape, .inl (cI, 1600, .inl mtape)), (Msort, .inl (cI, 1602, .inl msort)), (Mplace, .inl (cI, 1602, .inl (upd mplace nq (nI kq)))), (Mvalue, .inl (cJ, 1602, .inr (.inl mvalue)))] := hD
                      refine lv_if_eq (tgt := 218) hx hb dX5_cutAll_176 (by decide) (fun c_176 => ?_) (fun c_176 => ?_)
                      · skip
                        have hE9 : rnE mtape 3 (tnq - kq) kq = k4q := by rw [← hE_159, rnE_no hk5 (fun z => (srt_3.mp z) c_176)]
                        have hkk : kq < k4q := by
                          rcases Nat.lt_or_ge kq k4q with q | q
                          · exact q
                          · rw [show k4q = kq by omega] at c_176; exact absurd c_176 c_156
                        refine lv_aload_n hx hb dX5_cutAll_218 rfl (lv_at hl 5 rfl) ?_
                        refine va_get (D := (dC, dI)) (ci := 5) (v := .ref Msort) (C := RX5) (T := TX5) (N := 30) hx hb hts i5 hown hK hP 0 rfl rfl 4 (by decide) (hts (.fieldLink RX5 24 "StopSetterModel" "sort" "[I") (by decide +kernel)) (fun _ h9 => h9) rfl dX5_cutAll_219 ?_
                        refine lv_iload_n hx hb dX5_cutAll_222 rfl (lv_at hl 4 rfl) ?_
                        refine lv_iload_n hx hb dX5_cutAll_223 rfl (lv_at hl 3 rfl) ?_
                        refine lv_iload hx hb dX5_cutAll_224 (lv_at hl 1 rfl) ?_
                        refine lv_isub hx hb dX5_cutAll_226 ?_
                        refine lv_topi (fun v_ ev_ => ?_)
                        obtain rfl : v_ = (nI (k4q - kq)) := ev_.trans (nI_sub hk2_159)
                        refine lv_iconst (v := 4) hx hb dX5_cutAll_227 (by decide) ?_
                        refine lv_icmp_le (tgt := 235) hx hb dX5_cutAll_228 (by decide) (fun c_228 => ?_) (fun c_228 => ?_)
                        · skip
                          refine lv_iconst (v := 2) hx hb dX5_cutAll_235 (by decide) ?_
                          refine va_iast hx hb hK hP hD hS 2 0 rfl rfl (vp_in_nI (by omega) (by decide)) dX5_cutAll_236 (fun H locs hP hD hS => ?_)
                          have hP : va_P (dC, dI) vwCl [(h0, .inr (5, [.int th, .ref Mtape, .int 0, .int (nI tnq), .ref Msort, .ref Mplace, .ref Mvalue, .int (nI anq), .int ft, .ref Mwords, .int (nI hdq), .int (nI nxq), .ref Mgoes, .ref MgoLine, .ref Mends, .ref MendLine, .ref Mkinds, .ref MisName, .int (nI mnq), .ref Mrow, .ref MbyHand, .ref Mleast, .ref Msecond, .ref MendAt, .ref MgoAt, .ref MnodeBehind, .int lE, .ref MisOut, .ref MfirstEnd, .ref MfirstGo])), (Mtape, .inl (cI, 1600, .inl mtape)), (Msort, .inl (cI, 1602, .inl (upd msort ((nI nq).toNatClampNeg) 2))), (Mplace, .inl (cI, 1602, .inl (upd mplace nq (nI kq)))), (Mvalue, .inl (cJ, 1602, .inr (.inl mvalue)))] H := hP
                          have hD : va_D A [(h0, .inr (5, [.int th, .ref Mtape, .int 0, .int (nI tnq), .ref Msort, .ref Mplace, .ref Mvalue, .int (nI anq), .int ft, .ref Mwords, .int (nI hdq), .int (nI nxq), .ref Mgoes, .ref MgoLine, .ref Mends, .ref MendLine, .ref Mkinds, .ref MisName, .int (nI mnq), .ref Mrow, .ref MbyHand, .ref Mleast, .ref Msecond, .ref MendAt, .ref MgoAt, .ref MnodeBehind, .int lE, .ref MisOut, .ref MfirstEnd, .ref MfirstGo])), (Mtape, .inl (cI, 1600, .inl mtape)), (Msort, .inl (cI, 1602, .inl (upd msort ((nI nq).toNatClampNeg) 2))), (Mplace, .inl (cI, 1602, .inl (upd mplace nq (nI kq)))), (Mvalue, .inl (cJ, 1602, .inr (.inl mvalue)))] := hD
                          rw [show (upd msort ((nI nq).toNatClampNeg) 2) = (upd msort nq 2) from by rw [nI_clamp (by omega)]] at hP hD
                          have hP : va_P (dC, dI) vwCl [(h0, .inr (5, [.int th, .ref Mtape, .int 0, .int (nI tnq), .ref Msort, .ref Mplace, .ref Mvalue, .int (nI anq), .int ft, .ref Mwords, .int (nI hdq), .int (nI nxq), .ref Mgoes, .ref MgoLine, .ref Mends, .ref MendLine, .ref Mkinds, .ref MisName, .int (nI mnq), .ref Mrow, .ref MbyHand, .ref Mleast, .ref Msecond, .ref MendAt, .ref MgoAt, .ref MnodeBehind, .int lE, .ref MisOut, .ref MfirstEnd, .ref MfirstGo])), (Mtape, .inl (cI, 1600, .inl mtape)), (Msort, .inl (cI, 1602, .inl (upd msort nq 2))), (Mplace, .inl (cI, 1602, .inl (upd mplace nq (nI kq)))), (Mvalue, .inl (cJ, 1602, .inr (.inl mvalue)))] H := hP
                          have hD : va_D A [(h0, .inr (5, [.int th, .ref Mtape, .int 0, .int (nI tnq), .ref Msort, .ref Mplace, .ref Mvalue, .int (nI anq), .int ft, .ref Mwords, .int (nI hdq), .int (nI nxq), .ref Mgoes, .ref MgoLine, .ref Mends, .ref MendLine, .ref Mkinds, .ref MisName, .int (nI mnq), .ref Mrow, .ref MbyHand, .ref Mleast, .ref Msecond, .ref MendAt, .ref MgoAt, .ref MnodeBehind, .int lE, .ref MisOut, .ref MfirstEnd, .ref MfirstGo])), (Mtape, .inl (cI, 1600, .inl mtape)), (Msort, .inl (cI, 1602, .inl (upd msort nq 2))), (Mplace, .inl (cI, 1602, .inl (upd mplace nq (nI kq)))), (Mvalue, .inl (cJ, 1602, .inr (.inl mvalue)))] := hD
                          refine lv_goto (tgt := 265) hx hb dX5_cutAll_237 (by decide) ?_
                          refine lv_aload_n hx hb dX5_cutAll_265 rfl (lv_at hl 5 rfl) ?_
                          refine va_get (D := (dC, dI)) (ci := 5) (v := .ref Mvalue) (C := RX5) (T := TX5) (N := 30) hx hb hts i5 hown hK hP 0 rfl rfl 6 (by decide) (hts (.fieldLink RX5 30 "StopSetterModel" "value" "[J") (by decide +kernel)) (fun _ h9 => h9) rfl dX5_cutAll_266 ?_
                          refine lv_iload_n hx hb dX5_cutAll_269 rfl (lv_at hl 4 rfl) ?_
                          refine lv_lload hx hb dX5_cutAll_270 (lv_at hl 0 rfl) ?_
                          refine va_last hx hb hK hP hD hS 4 3 rfl rfl (vp_in_nI (by omega) (by decide)) dX5_cutAll_272 (fun H locs hP hD hS => ?_)
                          have hP : va_P (dC, dI) vwCl [(h0, .inr (5, [.int th, .ref Mtape, .int 0, .int (nI tnq), .ref Msort, .ref Mplace, .ref Mvalue, .int (nI anq), .int ft, .ref Mwords, .int (nI hdq), .int (nI nxq), .ref Mgoes, .ref MgoLine, .ref Mends, .ref MendLine, .ref Mkinds, .ref MisName, .int (nI mnq), .ref Mrow, .ref MbyHand, .ref Mleast, .ref Msecond, .ref MendAt, .ref MgoAt, .ref MnodeBehind, .int lE, .ref MisOut, .ref MfirstEnd, .ref MfirstGo])), (Mtape, .inl (cI, 1600, .inl mtape)), (Msort, .inl (cI, 1602, .inl (upd msort nq 2))), (Mplace, .inl (cI, 1602, .inl (upd mplace nq (nI kq)))), (Mvalue, .inl (cJ, 1602, .inr (.inl (vp_updL mvalue ((nI nq).toNatClampNeg) lwq))))] H := hP
                          have hD : va_D A [(h0, .inr (5, [.int th, .ref Mtape, .int 0, .int (nI tnq), .ref Msort, .ref Mplace, .ref Mvalue, .int (nI anq), .int ft, .ref Mwords, .int (nI hdq), .int (nI nxq), .ref Mgoes, .ref MgoLine, .ref Mends, .ref MendLine, .ref Mkinds, .ref MisName, .int (nI mnq), .ref Mrow, .ref MbyHand, .ref Mleast, .ref Msecond, .ref MendAt, .ref MgoAt, .ref MnodeBehind, .int lE, .ref MisOut, .ref MfirstEnd, .ref MfirstGo])), (Mtape, .inl (cI, 1600, .inl mtape)), (Msort, .inl (cI, 1602, .inl (upd msort nq 2))), (Mplace, .inl (cI, 1602, .inl (upd mplace nq (nI kq)))), (Mvalue, .inl (cJ, 1602, .inr (.inl (vp_updL mvalue ((nI nq).toNatClampNeg) lwq))))] := hD
                          rw [show (vp_updL mvalue ((nI nq).toNatClampNeg) lwq) = (vp_updL mvalue nq lwq) from by rw [nI_clamp (by omega)]] at hP hD
                          have hP : va_P (dC, dI) vwCl [(h0, .inr (5, [.int th, .ref Mtape, .int 0, .int (nI tnq), .ref Msort, .ref Mplace, .ref Mvalue, .int (nI anq), .int ft, .ref Mwords, .int (nI hdq), .int (nI nxq), .ref Mgoes, .ref MgoLine, .ref Mends, .ref MendLine, .ref Mkinds, .ref MisName, .int (nI mnq), .ref Mrow, .ref MbyHand, .ref Mleast, .ref Msecond, .ref MendAt, .ref MgoAt, .ref MnodeBehind, .int lE, .ref MisOut, .ref MfirstEnd, .ref MfirstGo])), (Mtape, .inl (cI, 1600, .inl mtape)), (Msort, .inl (cI, 1602, .inl (upd msort nq 2))), (Mplace, .inl (cI, 1602, .inl (upd mplace nq (nI kq)))), (Mvalue, .inl (cJ, 1602, .inr (.inl (vp_updL mvalue nq lwq))))] H := hP
                          have hD : va_D A [(h0, .inr (5, [.int th, .ref Mtape, .int 0, .int (nI tnq), .ref Msort, .ref Mplace, .ref Mvalue, .int (nI anq), .int ft, .ref Mwords, .int (nI hdq), .int (nI nxq), .ref Mgoes, .ref MgoLine, .ref Mends, .ref MendLine, .ref Mkinds, .ref MisName, .int (nI mnq), .ref Mrow, .ref MbyHand, .ref Mleast, .ref Msecond, .ref MendAt, .ref MgoAt, .ref MnodeBehind, .int lE, .ref MisOut, .ref MfirstEnd, .ref MfirstGo])), (Mtape, .inl (cI, 1600, .inl mtape)), (Msort, .inl (cI, 1602, .inl (upd msort nq 2))), (Mplace, .inl (cI, 1602, .inl (upd mplace nq (nI kq)))), (Mvalue, .inl (cJ, 1602, .inr (.inl (vp_updL mvalue nq lwq))))] := hD
                          refine lv_iinc (v := (nI (nq + 1))) (lv' := [(1, .int (nI (nq + 1))), (5, .long lwq), (4, .int (nI kq)), (3, .int (mtape kq)), (2, .int (nI k4q)), (0, .ref h0)]) hx hb dX5_cutAll_273 hl (k := 4) rfl (nI_1 nq) (by decide) rfl (fun ls hl => ?_)
                          refine lv_goto (tgt := 17) hx hb dX5_cutAll_276 (by decide) ?_
                          exact ih_17  (nq + 1) k4q (upd msort nq 2) (upd mplace nq (nI kq)) (vp_updL mvalue nq lwq) (by omega) (by omega) (by omega) (by rw [(cut_D hJ hk9 hnb (srt_3.mpr c_156) hE9 hlv_159).1]; rfl) (tokV_up hT ((cut_D hJ hk9 hnb (srt_3.mpr c_156) hE9 hlv_159).2.2 ((adv8 (d := k4q - kq) (m := 4) (by omega) (by omega)).mp c_228))) _ _ _ hP hD hS (lv_sub hl [4, 0, 5] rfl)
                        · skip
                          refine lv_iconst (v := 4) hx hb dX5_cutAll_231 (by decide) ?_
                          refine lv_goto (tgt := 236) hx hb dX5_cutAll_232 (by decide) ?_
                          refine va_iast hx hb hK hP hD hS 2 0 rfl rfl (vp_in_nI (by omega) (by decide)) dX5_cutAll_236 (fun H locs hP hD hS => ?_)
                          have hP : va_P (dC, dI) vwCl [(h0, .inr (5, [.int th, .ref Mtape, .int 0, .int (nI tnq), .ref Msort, .ref Mplace, .ref Mvalue, .int (nI anq), .int ft, .ref Mwords, .int (nI hdq), .int (nI nxq), .ref Mgoes, .ref MgoLine, .ref Mends, .ref MendLine, .ref Mkinds, .ref MisName, .int (nI mnq), .ref Mrow, .ref MbyHand, .ref Mleast, .ref Msecond, .ref MendAt, .ref MgoAt, .ref MnodeBehind, .int lE, .ref MisOut, .ref MfirstEnd, .ref MfirstGo])), (Mtape, .inl (cI, 1600, .inl mtape)), (Msort, .inl (cI, 1602, .inl (upd msort ((nI nq).toNatClampNeg) 4))), (Mplace, .inl (cI, 1602, .inl (upd mplace nq (nI kq)))), (Mvalue, .inl (cJ, 1602, .inr (.inl mvalue)))] H := hP
                          have hD : va_D A [(h0, .inr (5, [.int th, .ref Mtape, .int 0, .int (nI tnq), .ref Msort, .ref Mplace, .ref Mvalue, .int (nI anq), .int ft, .ref Mwords, .int (nI hdq), .int (nI nxq), .ref Mgoes, .ref MgoLine, .ref Mends, .ref MendLine, .ref Mkinds, .ref MisName, .int (nI mnq), .ref Mrow, .ref MbyHand, .ref Mleast, .ref Msecond, .ref MendAt, .ref MgoAt, .ref MnodeBehind, .int lE, .ref MisOut, .ref MfirstEnd, .ref MfirstGo])), (Mtape, .inl (cI, 1600, .inl mtape)), (Msort, .inl (cI, 1602, .inl (upd msort ((nI nq).toNatClampNeg) 4))), (Mplace, .inl (cI, 1602, .inl (upd mplace nq (nI kq)))), (Mvalue, .inl (cJ, 1602, .inr (.inl mvalue)))] := hD
                          rw [show (upd msort ((nI nq).toNatClampNeg) 4) = (upd msort nq 4) from by rw [nI_clamp (by omega)]] at hP hD
                          have hP : va_P (dC, dI) vwCl [(h0, .inr (5, [.int th, .ref Mtape, .int 0, .int (nI tnq), .ref Msort, .ref Mplace, .ref Mvalue, .int (nI anq), .int ft, .ref Mwords, .int (nI hdq), .int (nI nxq), .ref Mgoes, .ref MgoLine, .ref Mends, .ref MendLine, .ref Mkinds, .ref MisName, .int (nI mnq), .ref Mrow, .ref MbyHand, .ref Mleast, .ref Msecond, .ref MendAt, .ref MgoAt, .ref MnodeBehind, .int lE, .ref MisOut, .ref MfirstEnd, .ref MfirstGo])), (Mtape, .inl (cI, 1600, .inl mtape)), (Msort, .inl (cI, 1602, .inl (upd msort nq 4))), (Mplace, .inl (cI, 1602, .inl (upd mplace nq (nI kq)))), (Mvalue, .inl (cJ, 1602, .inr (.inl mvalue)))] H := hP
                          have hD : va_D A [(h0, .inr (5, [.int th, .ref Mtape, .int 0, .int (nI tnq), .ref Msort, .ref Mplace, .ref Mvalue, .int (nI anq), .int ft, .ref Mwords, .int (nI hdq), .int (nI nxq), .ref Mgoes, .ref MgoLine, .ref Mends, .ref MendLine, .ref Mkinds, .ref MisName, .int (nI mnq), .ref Mrow, .ref MbyHand, .ref Mleast, .ref Msecond, .ref MendAt, .ref MgoAt, .ref MnodeBehind, .int lE, .ref MisOut, .ref MfirstEnd, .ref MfirstGo])), (Mtape, .inl (cI, 1600, .inl mtape)), (Msort, .inl (cI, 1602, .inl (upd msort nq 4))), (Mplace, .inl (cI, 1602, .inl (upd mplace nq (nI kq)))), (Mvalue, .inl (cJ, 1602, .inr (.inl mvalue)))] := hD
                          refine lv_goto (tgt := 265) hx hb dX5_cutAll_237 (by decide) ?_
                          refine lv_aload_n hx hb dX5_cutAll_265 rfl (lv_at hl 5 rfl) ?_
                          refine va_get (D := (dC, dI)) (ci := 5) (v := .ref Mvalue) (C := RX5) (T := TX5) (N := 30) hx hb hts i5 hown hK hP 0 rfl rfl 6 (by decide) (hts (.fieldLink RX5 30 "StopSetterModel" "value" "[J") (by decide +kernel)) (fun _ h9 => h9) rfl dX5_cutAll_266 ?_
                          refine lv_iload_n hx hb dX5_cutAll_269 rfl (lv_at hl 4 rfl) ?_
                          refine lv_lload hx hb dX5_cutAll_270 (lv_at hl 0 rfl) ?_
                          refine va_last hx hb hK hP hD hS 4 3 rfl rfl (vp_in_nI (by omega) (by decide)) dX5_cutAll_272 (fun H locs hP hD hS => ?_)
                          have hP : va_P (dC, dI) vwCl [(h0, .inr (5, [.int th, .ref Mtape, .int 0, .int (nI tnq), .ref Msort, .ref Mplace, .ref Mvalue, .int (nI anq), .int ft, .ref Mwords, .int (nI hdq), .int (nI nxq), .ref Mgoes, .ref MgoLine, .ref Mends, .ref MendLine, .ref Mkinds, .ref MisName, .int (nI mnq), .ref Mrow, .ref MbyHand, .ref Mleast, .ref Msecond, .ref MendAt, .ref MgoAt, .ref MnodeBehind, .int lE, .ref MisOut, .ref MfirstEnd, .ref MfirstGo])), (Mtape, .inl (cI, 1600, .inl mtape)), (Msort, .inl (cI, 1602, .inl (upd msort nq 4))), (Mplace, .inl (cI, 1602, .inl (upd mplace nq (nI kq)))), (Mvalue, .inl (cJ, 1602, .inr (.inl (vp_updL mvalue ((nI nq).toNatClampNeg) lwq))))] H := hP
                          have hD : va_D A [(h0, .inr (5, [.int th, .ref Mtape, .int 0, .int (nI tnq), .ref Msort, .ref Mplace, .ref Mvalue, .int (nI anq), .int ft, .ref Mwords, .int (nI hdq), .int (nI nxq), .ref Mgoes, .ref MgoLine, .ref Mends, .ref MendLine, .ref Mkinds, .ref MisName, .int (nI mnq), .ref Mrow, .ref MbyHand, .ref Mleast, .ref Msecond, .ref MendAt, .ref MgoAt, .ref MnodeBehind, .int lE, .ref MisOut, .ref MfirstEnd, .ref MfirstGo])), (Mtape, .inl (cI, 1600, .inl mtape)), (Msort, .inl (cI, 1602, .inl (upd msort nq 4))), (Mplace, .inl (cI, 1602, .inl (upd mplace nq (nI kq)))), (Mvalue, .inl (cJ, 1602, .inr (.inl (vp_updL mvalue ((nI nq).toNatClampNeg) lwq))))] := hD
                          rw [show (vp_updL mvalue ((nI nq).toNatClampNeg) lwq) = (vp_updL mvalue nq lwq) from by rw [nI_clamp (by omega)]] at hP hD
                          have hP : va_P (dC, dI) vwCl [(h0, .inr (5, [.int th, .ref Mtape, .int 0, .int (nI tnq), .ref Msort, .ref Mplace, .ref Mvalue, .int (nI anq), .int ft, .ref Mwords, .int (nI hdq), .int (nI nxq), .ref Mgoes, .ref MgoLine, .ref Mends, .ref MendLine, .ref Mkinds, .ref MisName, .int (nI mnq), .ref Mrow, .ref MbyHand, .ref Mleast, .ref Msecond, .ref MendAt, .ref MgoAt, .ref MnodeBehind, .int lE, .ref MisOut, .ref MfirstEnd, .ref MfirstGo])), (Mtape, .inl (cI, 1600, .inl mtape)), (Msort, .inl (cI, 1602, .inl (upd msort nq 4))), (Mplace, .inl (cI, 1602, .inl (upd mplace nq (nI kq)))), (Mvalue, .inl (cJ, 1602, .inr (.inl (vp_updL mvalue nq lwq))))] H := hP
                          have hD : va_D A [(h0, .inr (5, [.int th, .ref Mtape, .int 0, .int (nI tnq), .ref Msort, .ref Mplace, .ref Mvalue, .int (nI anq), .int ft, .ref Mwords, .int (nI hdq), .int (nI nxq), .ref Mgoes, .ref MgoLine, .ref Mends, .ref MendLine, .ref Mkinds, .ref MisName, .int (nI mnq), .ref Mrow, .ref MbyHand, .ref Mleast, .ref Msecond, .ref MendAt, .ref MgoAt, .ref MnodeBehind, .int lE, .ref MisOut, .ref MfirstEnd, .ref MfirstGo])), (Mtape, .inl (cI, 1600, .inl mtape)), (Msort, .inl (cI, 1602, .inl (upd msort nq 4))), (Mplace, .inl (cI, 1602, .inl (upd mplace nq (nI kq)))), (Mvalue, .inl (cJ, 1602, .inr (.inl (vp_updL mvalue nq lwq))))] := hD
                          refine lv_iinc (v := (nI (nq + 1))) (lv' := [(1, .int (nI (nq + 1))), (5, .long lwq), (4, .int (nI kq)), (3, .int (mtape kq)), (2, .int (nI k4q)), (0, .ref h0)]) hx hb dX5_cutAll_273 hl (k := 4) rfl (nI_1 nq) (by decide) rfl (fun ls hl => ?_)
                          refine lv_goto (tgt := 17) hx hb dX5_cutAll_276 (by decide) ?_
                          exact ih_17  (nq + 1) k4q (upd msort nq 4) (upd mplace nq (nI kq)) (vp_updL mvalue nq lwq) (by omega) (by omega) (by omega) (by rw [(cut_D hJ hk9 hnb (srt_3.mpr c_156) hE9 hlv_159).1]; rfl) (tokV_up hT ((cut_D hJ hk9 hnb (srt_3.mpr c_156) hE9 hlv_159).2.1 (Decidable.of_not_not (fun z => c_228 ((adv8 (d := k4q - kq) (m := 4) (by omega) (by omega)).mpr z))))) _ _ _ hP hD hS (lv_sub hl [4, 0, 5] rfl)
                      · skip
                        have hs5 : srt (mtape k4q) = 3 := srt_3.mpr c_176
                        refine lv_iload_n hx hb dX5_cutAll_179 rfl (lv_at hl 3 rfl) ?_
                        refine lv_iload hx hb dX5_cutAll_180 (lv_at hl 1 rfl) ?_
                        refine lv_isub hx hb dX5_cutAll_182 ?_
                        refine lv_topi (fun v_ ev_ => ?_)
                        obtain rfl : v_ = (nI (k4q - kq)) := ev_.trans (nI_sub hk2_159)
                        refine lv_iconst (v := 4) hx hb dX5_cutAll_183 (by decide) ?_
                        refine lv_icmp_ge (tgt := 208) hx hb dX5_cutAll_184 (by decide) (fun c_184 => ?_) (fun c_184 => ?_)
                        · skip
                          refine lv_lload hx hb dX5_cutAll_208 (lv_at hl 0 rfl) ?_
                          refine lv_lstore (lv' := [(5, .long lwq), (4, .int (nI kq)), (3, .int (mtape kq)), (2, .int (nI k4q)), (1, .int (nI nq)), (0, .ref h0)]) hx hb dX5_cutAll_210 hl (by decide) rfl (fun ls hl => ?_)
                          refine lv_iinc (v := (nI (k4q + 1))) (lv' := [(2, .int (nI (k4q + 1))), (5, .long lwq), (4, .int (nI kq)), (3, .int (mtape kq)), (1, .int (nI nq)), (0, .ref h0)]) hx hb dX5_cutAll_212 hl (k := 3) rfl (nI_1 k4q) (by decide) rfl (fun ls hl => ?_)
                          refine lv_goto (tgt := 159) hx hb dX5_cutAll_215 (by decide) ?_
                          exact ih_159  (k4q + 1) lwq (by omega) (by omega) (by omega) ((rnE_yes hk5 hs5).symm.trans hE_159) (by rw [show min (k4q + 1 - kq) 4 = min (k4q - kq) 4 by have := (nI_leI (a := 4) (b := k4q - kq) (by omega) (by omega)).mp c_184; omega]; exact hlv_159) _ _ _ hP hD hS (lv_sub hl [1, 2, 3, 0, 4, 5] rfl)
                        · skip
                          have h85 : k4q - kq < 4 := nk_lt rfl c_184 (by omega)
                          refine lv_ldc2 (v := 10) hx hb hown (hts (.constantLong RX5 126 (10)) (by decide +kernel)) dX5_cutAll_187 ?_
                          refine lv_lload hx hb dX5_cutAll_190 (lv_at hl 0 rfl) ?_
                          refine lv_lmul hx hb dX5_cutAll_192 ?_
                          refine lv_aload_n hx hb dX5_cutAll_193 rfl (lv_at hl 5 rfl) ?_
                          refine va_get (D := (dC, dI)) (ci := 5) (v := .ref Mtape) (C := RX5) (T := TX5) (N := 30) hx hb hts i5 hown hK hP 0 rfl rfl 1 (by decide) (hts (.fieldLink RX5 14 "StopSetterModel" "tape" "[I") (by decide +kernel)) (fun _ h9 => h9) rfl dX5_cutAll_194 ?_
                          refine lv_iload_n hx hb dX5_cutAll_197 rfl (lv_at hl 3 rfl) ?_
                          refine va_iald hx hb hK hP 1 0 rfl rfl (vp_in_nI (by omega) (by decide)) dX5_cutAll_198 ?_
                          refine lv_topi (fun v_ ev_ => ?_)
                          obtain rfl : v_ = (mtape k4q) := ev_.trans (by rw [nI_clamp (by omega)])
                          refine lv_i2l (v := (mtape k4q).toInt64) hx hb dX5_cutAll_199 rfl ?_
                          refine lv_ladd hx hb dX5_cutAll_200 ?_
                          refine lv_ldc2 (v := 48) hx hb hown (hts (.constantLong RX5 128 (48)) (by decide +kernel)) dX5_cutAll_201 ?_
                          refine lv_lsub hx hb dX5_cutAll_204 ?_
                          refine lv_topl (fun v_ ev_ => ?_)
                          obtain rfl : v_ = (lN (dN mtape kq (k4q + 1 - kq))) := ev_.trans (dN_stepL hk2_159 h85 hlv_159 hs5)
                          refine lv_goto (tgt := 210) hx hb dX5_cutAll_205 (by decide) ?_
                          refine lv_lstore (lv' := [(5, .long (lN (dN mtape kq (k4q + 1 - kq)))), (4, .int (nI kq)), (3, .int (mtape kq)), (2, .int (nI k4q)), (1, .int (nI nq)), (0, .ref h0)]) hx hb dX5_cutAll_210 hl (by decide) rfl (fun ls hl => ?_)
                          refine lv_iinc (v := (nI (k4q + 1))) (lv' := [(2, .int (nI (k4q + 1))), (5, .long (lN (dN mtape kq (k4q + 1 - kq)))), (4, .int (nI kq)), (3, .int (mtape kq)), (1, .int (nI nq)), (0, .ref h0)]) hx hb dX5_cutAll_212 hl (k := 3) rfl (nI_1 k4q) (by decide) rfl (fun ls hl => ?_)
                          refine lv_goto (tgt := 159) hx hb dX5_cutAll_215 (by decide) ?_
                          exact ih_159  (k4q + 1) (lN (dN mtape kq (k4q + 1 - kq))) (by omega) (by omega) (by omega) ((rnE_yes hk5 hs5).symm.trans hE_159) (by rw [show min (k4q + 1 - kq) 4 = k4q + 1 - kq by omega]) _ _ _ hP hD hS (lv_sub hl [1, 2, 3, 0, 4, 5] rfl)
                exact lp_159 (tnq + 1) kq 0 (by omega) (by omega) (by omega) (rfl) (by rw [Nat.sub_self]; rfl) _ _ _ hP hD hS (lv_sub hl [0, 1, 2, 3, 4, 5] rfl)
            · skip
              have lp_70 : ∀ (n_70 : Nat) (k2q : Nat) (lvq : Int64), tnq + 1 ≤ k2q + n_70 → kq ≤ k2q → k2q ≤ tnq → rnE mtape 2 (tnq - k2q) k2q = rnE mtape 2 (tnq - kq) kq → lvq = lN (wN mtape kq (min (k2q - kq) 8)) → ∀ (H : Heap) (locs : List Loc) (ls : Array Slot), va_P (dC, dI) vwCl [(h0, .inr (5, [.int th, .ref Mtape, .int 0, .int (nI tnq), .ref Msort, .ref Mplace, .ref Mvalue, .int (nI anq), .int ft, .ref Mwords, .int (nI hdq), .int (nI nxq), .ref Mgoes, .ref MgoLine, .ref Mends, .ref MendLine, .ref Mkinds, .ref MisName, .int (nI mnq), .ref Mrow, .ref MbyHand, .ref Mleast, .ref Msecond, .ref MendAt, .ref MgoAt, .ref MnodeBehind, .int lE, .ref MisOut, .ref MfirstEnd, .ref MfirstGo])), (Mtape, .inl (cI, 1600, .inl mtape)), (Msort, .inl (cI, 1602, .inl msort)), (Mplace, .inl (cI, 1602, .inl (upd mplace nq (nI kq)))), (Mvalue, .inl (cJ, 1602, .inr (.inl mvalue)))] H → va_D A [(h0, .inr (5, [.int th, .ref Mtape, .int 0, .int (nI tnq), .ref Msort, .ref Mplace, .ref Mvalue, .int (nI anq), .int ft, .ref Mwords, .int (nI hdq), .int (nI nxq), .ref Mgoes, .ref MgoLine, .ref Mends, .ref MendLine, .ref Mkinds, .ref MisName, .int (nI mnq), .ref Mrow, .ref MbyHand, .ref Mleast, .ref Msecond, .ref MendAt, .ref MgoAt, .ref MnodeBehind, .int lE, .ref MisOut, .ref MfirstEnd, .ref MfirstGo])), (Mtape, .inl (cI, 1600, .inl mtape)), (Msort, .inl (cI, 1602, .inl msort)), (Mplace, .inl (cI, 1602, .inl (upd mplace nq (nI kq)))), (Mvalue, .inl (cJ, 1602, .inr (.inl mvalue)))] → va_S A s.heap H locs → lv_has ls 7 [(5, .long lvq), (4, .int (nI kq)), (3, .int (mtape kq)), (2, .int (nI k2q)), (1, .int (nI nq)), (0, .ref h0)] → W p l e (headSpec wsX5_cutAll ({ frames := 2, cells := 0, slots := 0, locals := 40 })).room s m ([.ref h0]).toArray below meth c H locs 0 0 (MQ below (va_Qv (fun (u : (Nat → Int32) × (Nat → Int32) × (Nat → Int64)) => match u with | (msort2, mplace2, mvalue2) => (∃ n9 : Nat, pOK msort2 mplace2 n9 ∧ ∀ j : Nat, j ≤ n9 → tokV mtape tnq j (msort2 j) (mplace2 j) (mvalue2 j))) (fun (u : (Nat → Int32) × (Nat → Int32) × (Nat → Int64)) t => match u with | (msort2, mplace2, mvalue2) => sB dC dI A [(h0, .inr (5, [.int th, .ref Mtape, .int 0, .int (nI tnq), .ref Msort, .ref Mplace, .ref Mvalue, .int 0, .int 0, .ref Mwords, .int (nI hdq), .int (nI nxq), .ref Mgoes, .ref MgoLine, .ref Mends, .ref MendLine, .ref Mkinds, .ref MisName, .int (nI mnq), .ref Mrow, .ref MbyHand, .ref Mleast, .ref Msecond, .ref MendAt, .ref MgoAt, .ref MnodeBehind, .int lE, .ref MisOut, .ref MfirstEnd, .ref MfirstGo])), (Mtape, .inl (cI, 1600, .inl mtape)), (Msort, .inl (cI, 1602, .inl msort2)), (Mplace, .inl (cI, 1602, .inl mplace2)), (Mvalue, .inl (cJ, 1602, .inr (.inl mvalue2)))] t) A) ([.ref h0]).toArray s 0 0 A) (F0 m 70 ls []) := by
                intro n_70
                induction n_70 with
                | zero =>
                  intro k2q lvq fuel_70 hk2_70 hk3_70 hE_70 hlv_70
                  exact absurd fuel_70 (by omega)
                | succ n_70 ih_70 =>
                  intro k2q lvq fuel_70 hk2_70 hk3_70 hE_70 hlv_70 H locs ls hP hD hS hl
                  refine lv_iload_n hx hb dX5_cutAll_70 rfl (lv_at hl 3 rfl) ?_
                  refine lv_aload_n hx hb dX5_cutAll_71 rfl (lv_at hl 5 rfl) ?_
                  refine va_get (D := (dC, dI)) (ci := 5) (v := .int (nI tnq)) (C := RX5) (T := TX5) (N := 30) hx hb hts i5 hown hK hP 0 rfl rfl 3 (by decide) (hts (.fieldLink RX5 114 "StopSetterModel" "size" "I") (by decide +kernel)) (fun _ h9 => h9) rfl dX5_cutAll_72 ?_
                  refine lv_icmp_ge (tgt := 129) hx hb dX5_cutAll_75 (by decide) (fun c_75 => ?_) (fun c_75 => ?_)
                  · skip
                    have hge5 : tnq ≤ k2q := (nI_leI (a := tnq) (b := k2q) (by omega) (by omega)).mp c_75
                    have hE9 : rnE mtape 2 (tnq - kq) kq = k2q := by rw [← hE_70, rnE_end hge5]
                    have hkk : kq < k2q := by omega
                    refine lv_aload_n hx hb dX5_cutAll_129 rfl (lv_at hl 5 rfl) ?_
                    refine va_get (D := (dC, dI)) (ci := 5) (v := .ref Msort) (C := RX5) (T := TX5) (N := 30) hx hb hts i5 hown hK hP 0 rfl rfl 4 (by decide) (hts (.fieldLink RX5 24 "StopSetterModel" "sort" "[I") (by decide +kernel)) (fun _ h9 => h9) rfl dX5_cutAll_130 ?_
                    refine lv_iload_n hx hb dX5_cutAll_133 rfl (lv_at hl 4 rfl) ?_
                    refine lv_iload_n hx hb dX5_cutAll_134 rfl (lv_at hl 3 rfl) ?_
                    refine lv_iload hx hb dX5_cutAll_135 (lv_at hl 1 rfl) ?_
                    refine lv_isub hx hb dX5_cutAll_137 ?_
                    refine lv_topi (fun v_ ev_ => ?_)
                    obtain rfl : v_ = (nI (k2q - kq)) := ev_.trans (nI_sub hk2_70)
                    refine lv_bipush (v := 8) hx hb dX5_cutAll_138 (by decide) ?_
                    refine lv_icmp_le (tgt := 147) hx hb dX5_cutAll_140 (by decide) (fun c_140 => ?_) (fun c_140 => ?_)
                    · skip
                      refine lv_iconst (v := 1) hx hb dX5_cutAll_147 (by decide) ?_
                      refine va_iast hx hb hK hP hD hS 2 0 rfl rfl (vp_in_nI (by omega) (by decide)) dX5_cutAll_148 (fun H locs hP hD hS => ?_)
                      have hP : va_P (dC, dI) vwCl [(h0, .inr (5, [.int th, .ref Mtape, .int 0, .int (nI tnq), .ref Msort, .ref Mplace, .ref Mvalue, .int (nI anq), .int ft, .ref Mwords, .int (nI hdq), .int (nI nxq), .ref Mgoes, .ref MgoLine, .ref Mends, .ref MendLine, .ref Mkinds, .ref MisName, .int (nI mnq), .ref Mrow, .ref MbyHand, .ref Mleast, .ref Msecond, .ref MendAt, .ref MgoAt, .ref MnodeBehind, .int lE, .ref MisOut, .ref MfirstEnd, .ref MfirstGo])), (Mtape, .inl (cI, 1600, .inl mtape)), (Msort, .inl (cI, 1602, .inl (upd msort ((nI nq).toNatClampNeg) 1))), (Mplace, .inl (cI, 1602, .inl (upd mplace nq (nI kq)))), (Mvalue, .inl (cJ, 1602, .inr (.inl mvalue)))] H := hP
                      have hD : va_D A [(h0, .inr (5, [.int th, .ref Mtape, .int 0, .int (nI tnq), .ref Msort, .ref Mplace, .ref Mvalue, .int (nI anq), .int ft, .ref Mwords, .int (nI hdq), .int (nI nxq), .ref Mgoes, .ref MgoLine, .ref Mends, .ref MendLine, .ref Mkinds, .ref MisName, .int (nI mnq), .ref Mrow, .ref MbyHand, .ref Mleast, .ref Msecond, .ref MendAt, .ref MgoAt, .ref MnodeBehind, .int lE, .ref MisOut, .ref MfirstEnd, .ref MfirstGo])), (Mtape, .inl (cI, 1600, .inl mtape)), (Msort, .inl (cI, 1602, .inl (upd msort ((nI nq).toNatClampNeg) 1))), (Mplace, .inl (cI, 1602, .inl (upd mplace nq (nI kq)))), (Mvalue, .inl (cJ, 1602, .inr (.inl mvalue)))] := hD
                      rw [show (upd msort ((nI nq).toNatClampNeg) 1) = (upd msort nq 1) from by rw [nI_clamp (by omega)]] at hP hD
                      have hP : va_P (dC, dI) vwCl [(h0, .inr (5, [.int th, .ref Mtape, .int 0, .int (nI tnq), .ref Msort, .ref Mplace, .ref Mvalue, .int (nI anq), .int ft, .ref Mwords, .int (nI hdq), .int (nI nxq), .ref Mgoes, .ref MgoLine, .ref Mends, .ref MendLine, .ref Mkinds, .ref MisName, .int (nI mnq), .ref Mrow, .ref MbyHand, .ref Mleast, .ref Msecond, .ref MendAt, .ref MgoAt, .ref MnodeBehind, .int lE, .ref MisOut, .ref MfirstEnd, .ref MfirstGo])), (Mtape, .inl (cI, 1600, .inl mtape)), (Msort, .inl (cI, 1602, .inl (upd msort nq 1))), (Mplace, .inl (cI, 1602, .inl (upd mplace nq (nI kq)))), (Mvalue, .inl (cJ, 1602, .inr (.inl mvalue)))] H := hP
                      have hD : va_D A [(h0, .inr (5, [.int th, .ref Mtape, .int 0, .int (nI tnq), .ref Msort, .ref Mplace, .ref Mvalue, .int (nI anq), .int ft, .ref Mwords, .int (nI hdq), .int (nI nxq), .ref Mgoes, .ref MgoLine, .ref Mends, .ref MendLine, .ref Mkinds, .ref MisName, .int (nI mnq), .ref Mrow, .ref MbyHand, .ref Mleast, .ref Msecond, .ref MendAt, .ref MgoAt, .ref MnodeBehind, .int lE, .ref MisOut, .ref MfirstEnd, .ref MfirstGo])), (Mtape, .inl (cI, 1600, .inl mtape)), (Msort, .inl (cI, 1602, .inl (upd msort nq 1))), (Mplace, .inl (cI, 1602, .inl (upd mplace nq (nI kq)))), (Mvalue, .inl (cJ, 1602, .inr (.inl mvalue)))] := hD
                      refine lv_goto (tgt := 265) hx hb dX5_cutAll_149 (by decide) ?_
                      refine lv_aload_n hx hb dX5_cutAll_265 rfl (lv_at hl 5 rfl) ?_
                      refine va_get (D := (dC, dI)) (ci := 5) (v := .ref Mvalue) (C := RX5) (T := TX5) (N := 30) hx hb hts i5 hown hK hP 0 rfl rfl 6 (by decide) (hts (.fieldLink RX5 30 "StopSetterModel" "value" "[J") (by decide +kernel)) (fun _ h9 => h9) rfl dX5_cutAll_266 ?_
                      refine lv_iload_n hx hb dX5_cutAll_269 rfl (lv_at hl 4 rfl) ?_
                      refine lv_lload hx hb dX5_cutAll_270 (lv_at hl 0 rfl) ?_
                      refine va_last hx hb hK hP hD hS 4 3 rfl rfl (vp_in_nI (by omega) (by decide)) dX5_cutAll_272 (fun H locs hP hD hS => ?_)
                      have hP : va_P (dC, dI) vwCl [(h0, .inr (5, [.int th, .ref Mtape, .int 0, .int (nI tnq), .ref Msort, .ref Mplace, .ref Mvalue, .int (nI anq), .int ft, .ref Mwords, .int (nI hdq), .int (nI nxq), .ref Mgoes, .ref MgoLine, .ref Mends, .ref MendLine, .ref Mkinds, .ref MisName, .int (nI mnq), .ref Mrow, .ref MbyHand, .ref Mleast, .ref Msecond, .ref MendAt, .ref MgoAt, .ref MnodeBehind, .int lE, .ref MisOut, .ref MfirstEnd, .ref MfirstGo])), (Mtape, .inl (cI, 1600, .inl mtape)), (Msort, .inl (cI, 1602, .inl (upd msort nq 1))), (Mplace, .inl (cI, 1602, .inl (upd mplace nq (nI kq)))), (Mvalue, .inl (cJ, 1602, .inr (.inl (vp_updL mvalue ((nI nq).toNatClampNeg) lvq))))] H := hP
                      have hD : va_D A [(h0, .inr (5, [.int th, .ref Mtape, .int 0, .int (nI tnq), .ref Msort, .ref Mplace, .ref Mvalue, .int (nI anq), .int ft, .ref Mwords, .int (nI hdq), .int (nI nxq), .ref Mgoes, .ref MgoLine, .ref Mends, .ref MendLine, .ref Mkinds, .ref MisName, .int (nI mnq), .ref Mrow, .ref MbyHand, .ref Mleast, .ref Msecond, .ref MendAt, .ref MgoAt, .ref MnodeBehind, .int lE, .ref MisOut, .ref MfirstEnd, .ref MfirstGo])), (Mtape, .inl (cI, 1600, .inl mtape)), (Msort, .inl (cI, 1602, .inl (upd msort nq 1))), (Mplace, .inl (cI, 1602, .inl (upd mplace nq (nI kq)))), (Mvalue, .inl (cJ, 1602, .inr (.inl (vp_updL mvalue ((nI nq).toNatClampNeg) lvq))))] := hD
                      rw [show (vp_updL mvalue ((nI nq).toNatClampNeg) lvq) = (vp_updL mvalue nq lvq) from by rw [nI_clamp (by omega)]] at hP hD
                      have hP : va_P (dC, dI) vwCl [(h0, .inr (5, [.int th, .ref Mtape, .int 0, .int (nI tnq), .ref Msort, .ref Mplace, .ref Mvalue, .int (nI anq), .int ft, .ref Mwords, .int (nI hdq), .int (nI nxq), .ref Mgoes, .ref MgoLine, .ref Mends, .ref MendLine, .ref Mkinds, .ref MisName, .int (nI mnq), .ref Mrow, .ref MbyHand, .ref Mleast, .ref Msecond, .ref MendAt, .ref MgoAt, .ref MnodeBehind, .int lE, .ref MisOut, .ref MfirstEnd, .ref MfirstGo])), (Mtape, .inl (cI, 1600, .inl mtape)), (Msort, .inl (cI, 1602, .inl (upd msort nq 1))), (Mplace, .inl (cI, 1602, .inl (upd mplace nq (nI kq)))), (Mvalue, .inl (cJ, 1602, .inr (.inl (vp_updL mvalue nq lvq))))] H := hP
                      have hD : va_D A [(h0, .inr (5, [.int th, .ref Mtape, .int 0, .int (nI tnq), .ref Msort, .ref Mplace, .ref Mvalue, .int (nI anq), .int ft, .ref Mwords, .int (nI hdq), .int (nI nxq), .ref Mgoes, .ref MgoLine, .ref Mends, .ref MendLine, .ref Mkinds, .ref MisName, .int (nI mnq), .ref Mrow, .ref MbyHand, .ref Mleast, .ref Msecond, .ref MendAt, .ref MgoAt, .ref MnodeBehind, .int lE, .ref MisOut, .ref MfirstEnd, .ref MfirstGo])), (Mtape, .inl (cI, 1600, .inl mtape)), (Msort, .inl (cI, 1602, .inl (upd msort nq 1))), (Mplace, .inl (cI, 1602, .inl (upd mplace nq (nI kq)))), (Mvalue, .inl (cJ, 1602, .inr (.inl (vp_updL mvalue nq lvq))))] := hD
                      refine lv_iinc (v := (nI (nq + 1))) (lv' := [(1, .int (nI (nq + 1))), (5, .long lvq), (4, .int (nI kq)), (3, .int (mtape kq)), (2, .int (nI k2q)), (0, .ref h0)]) hx hb dX5_cutAll_273 hl (k := 4) rfl (nI_1 nq) (by decide) rfl (fun ls hl => ?_)
                      refine lv_goto (tgt := 17) hx hb dX5_cutAll_276 (by decide) ?_
                      exact ih_17  (nq + 1) k2q (upd msort nq 1) (upd mplace nq (nI kq)) (vp_updL mvalue nq lvq) (by omega) (by omega) (by omega) (by rw [(cut_L hJ hk9 hnb (srt_2.mpr c_67) hE9 hlv_70).1]; rfl) (tokV_up hT ((cut_L hJ hk9 hnb (srt_2.mpr c_67) hE9 hlv_70).2.2 ((adv8 (d := k2q - kq) (m := 8) (by omega) (by omega)).mp c_140))) _ _ _ hP hD hS (lv_sub hl [4, 0, 5] rfl)
                    · skip
                      refine lv_iconst (v := 4) hx hb dX5_cutAll_143 (by decide) ?_
                      refine lv_goto (tgt := 148) hx hb dX5_cutAll_144 (by decide) ?_
                      refine va_iast hx hb hK hP hD hS 2 0 rfl rfl (vp_in_nI (by omega) (by decide)) dX5_cutAll_148 (fun H locs hP hD hS => ?_)
                      have hP : va_P (dC, dI) vwCl [(h0, .inr (5, [.int th, .ref Mtape, .int 0, .int (nI tnq), .ref Msort, .ref Mplace, .ref Mvalue, .int (nI anq), .int ft, .ref Mwords, .int (nI hdq), .int (nI nxq), .ref Mgoes, .ref MgoLine, .ref Mends, .ref MendLine, .ref Mkinds, .ref MisName, .int (nI mnq), .ref Mrow, .ref MbyHand, .ref Mleast, .ref Msecond, .ref MendAt, .ref MgoAt, .ref MnodeBehind, .int lE, .ref MisOut, .ref MfirstEnd, .ref MfirstGo])), (Mtape, .inl (cI, 1600, .inl mtape)), (Msort, .inl (cI, 1602, .inl (upd msort ((nI nq).toNatClampNeg) 4))), (Mplace, .inl (cI, 1602, .inl (upd mplace nq (nI kq)))), (Mvalue, .inl (cJ, 1602, .inr (.inl mvalue)))] H := hP
                      have hD : va_D A [(h0, .inr (5, [.int th, .ref Mtape, .int 0, .int (nI tnq), .ref Msort, .ref Mplace, .ref Mvalue, .int (nI anq), .int ft, .ref Mwords, .int (nI hdq), .int (nI nxq), .ref Mgoes, .ref MgoLine, .ref Mends, .ref MendLine, .ref Mkinds, .ref MisName, .int (nI mnq), .ref Mrow, .ref MbyHand, .ref Mleast, .ref Msecond, .ref MendAt, .ref MgoAt, .ref MnodeBehind, .int lE, .ref MisOut, .ref MfirstEnd, .ref MfirstGo])), (Mtape, .inl (cI, 1600, .inl mtape)), (Msort, .inl (cI, 1602, .inl (upd msort ((nI nq).toNatClampNeg) 4))), (Mplace, .inl (cI, 1602, .inl (upd mplace nq (nI kq)))), (Mvalue, .inl (cJ, 1602, .inr (.inl mvalue)))] := hD
                      rw [show (upd msort ((nI nq).toNatClampNeg) 4) = (upd msort nq 4) from by rw [nI_clamp (by omega)]] at hP hD
                      have hP : va_P (dC, dI) vwCl [(h0, .inr (5, [.int th, .ref Mtape, .int 0, .int (nI tnq), .ref Msort, .ref Mplace, .ref Mvalue, .int (nI anq), .int ft, .ref Mwords, .int (nI hdq), .int (nI nxq), .ref Mgoes, .ref MgoLine, .ref Mends, .ref MendLine, .ref Mkinds, .ref MisName, .int (nI mnq), .ref Mrow, .ref MbyHand, .ref Mleast, .ref Msecond, .ref MendAt, .ref MgoAt, .ref MnodeBehind, .int lE, .ref MisOut, .ref MfirstEnd, .ref MfirstGo])), (Mtape, .inl (cI, 1600, .inl mtape)), (Msort, .inl (cI, 1602, .inl (upd msort nq 4))), (Mplace, .inl (cI, 1602, .inl (upd mplace nq (nI kq)))), (Mvalue, .inl (cJ, 1602, .inr (.inl mvalue)))] H := hP
                      have hD : va_D A [(h0, .inr (5, [.int th, .ref Mtape, .int 0, .int (nI tnq), .ref Msort, .ref Mplace, .ref Mvalue, .int (nI anq), .int ft, .ref Mwords, .int (nI hdq), .int (nI nxq), .ref Mgoes, .ref MgoLine, .ref Mends, .ref MendLine, .ref Mkinds, .ref MisName, .int (nI mnq), .ref Mrow, .ref MbyHand, .ref Mleast, .ref Msecond, .ref MendAt, .ref MgoAt, .ref MnodeBehind, .int lE, .ref MisOut, .ref MfirstEnd, .ref MfirstGo])), (Mtape, .inl (cI, 1600, .inl mtape)), (Msort, .inl (cI, 1602, .inl (upd msort nq 4))), (Mplace, .inl (cI, 1602, .inl (upd mplace nq (nI kq)))), (Mvalue, .inl (cJ, 1602, .inr (.inl mvalue)))] := hD
                      refine lv_goto (tgt := 265) hx hb dX5_cutAll_149 (by decide) ?_
                      refine lv_aload_n hx hb dX5_cutAll_265 rfl (lv_at hl 5 rfl) ?_
                      refine va_get (D := (dC, dI)) (ci := 5) (v := .ref Mvalue) (C := RX5) (T := TX5) (N := 30) hx hb hts i5 hown hK hP 0 rfl rfl 6 (by decide) (hts (.fieldLink RX5 30 "StopSetterModel" "value" "[J") (by decide +kernel)) (fun _ h9 => h9) rfl dX5_cutAll_266 ?_
                      refine lv_iload_n hx hb dX5_cutAll_269 rfl (lv_at hl 4 rfl) ?_
                      refine lv_lload hx hb dX5_cutAll_270 (lv_at hl 0 rfl) ?_
                      refine va_last hx hb hK hP hD hS 4 3 rfl rfl (vp_in_nI (by omega) (by decide)) dX5_cutAll_272 (fun H locs hP hD hS => ?_)
                      have hP : va_P (dC, dI) vwCl [(h0, .inr (5, [.int th, .ref Mtape, .int 0, .int (nI tnq), .ref Msort, .ref Mplace, .ref Mvalue, .int (nI anq), .int ft, .ref Mwords, .int (nI hdq), .int (nI nxq), .ref Mgoes, .ref MgoLine, .ref Mends, .ref MendLine, .ref Mkinds, .ref MisName, .int (nI mnq), .ref Mrow, .ref MbyHand, .ref Mleast, .ref Msecond, .ref MendAt, .ref MgoAt, .ref MnodeBehind, .int lE, .ref MisOut, .ref MfirstEnd, .ref MfirstGo])), (Mtape, .inl (cI, 1600, .inl mtape)), (Msort, .inl (cI, 1602, .inl (upd msort nq 4))), (Mplace, .inl (cI, 1602, .inl (upd mplace nq (nI kq)))), (Mvalue, .inl (cJ, 1602, .inr (.inl (vp_updL mvalue ((nI nq).toNatClampNeg) lvq))))] H := hP
                      have hD : va_D A [(h0, .inr (5, [.int th, .ref Mtape, .int 0, .int (nI tnq), .ref Msort, .ref Mplace, .ref Mvalue, .int (nI anq), .int ft, .ref Mwords, .int (nI hdq), .int (nI nxq), .ref Mgoes, .ref MgoLine, .ref Mends, .ref MendLine, .ref Mkinds, .ref MisName, .int (nI mnq), .ref Mrow, .ref MbyHand, .ref Mleast, .ref Msecond, .ref MendAt, .ref MgoAt, .ref MnodeBehind, .int lE, .ref MisOut, .ref MfirstEnd, .ref MfirstGo])), (Mtape, .inl (cI, 1600, .inl mtape)), (Msort, .inl (cI, 1602, .inl (upd msort nq 4))), (Mplace, .inl (cI, 1602, .inl (upd mplace nq (nI kq)))), (Mvalue, .inl (cJ, 1602, .inr (.inl (vp_updL mvalue ((nI nq).toNatClampNeg) lvq))))] := hD
                      rw [show (vp_updL mvalue ((nI nq).toNatClampNeg) lvq) = (vp_updL mvalue nq lvq) from by rw [nI_clamp (by omega)]] at hP hD
                      have hP : va_P (dC, dI) vwCl [(h0, .inr (5, [.int th, .ref Mtape, .int 0, .int (nI tnq), .ref Msort, .ref Mplace, .ref Mvalue, .int (nI anq), .int ft, .ref Mwords, .int (nI hdq), .int (nI nxq), .ref Mgoes, .ref MgoLine, .ref Mends, .ref MendLine, .ref Mkinds, .ref MisName, .int (nI mnq), .ref Mrow, .ref MbyHand, .ref Mleast, .ref Msecond, .ref MendAt, .ref MgoAt, .ref MnodeBehind, .int lE, .ref MisOut, .ref MfirstEnd, .ref MfirstGo])), (Mtape, .inl (cI, 1600, .inl mtape)), (Msort, .inl (cI, 1602, .inl (upd msort nq 4))), (Mplace, .inl (cI, 1602, .inl (upd mplace nq (nI kq)))), (Mvalue, .inl (cJ, 1602, .inr (.inl (vp_updL mvalue nq lvq))))] H := hP
                      have hD : va_D A [(h0, .inr (5, [.int th, .ref Mtape, .int 0, .int (nI tnq), .ref Msort, .ref Mplace, .ref Mvalue, .int (nI anq), .int ft, .ref Mwords, .int (nI hdq), .int (nI nxq), .ref Mgoes, .ref MgoLine, .ref Mends, .ref MendLine, .ref Mkinds, .ref MisName, .int (nI mnq), .ref Mrow, .ref MbyHand, .ref Mleast, .ref Msecond, .ref MendAt, .ref MgoAt, .ref MnodeBehind, .int lE, .ref MisOut, .ref MfirstEnd, .ref MfirstGo])), (Mtape, .inl (cI, 1600, .inl mtape)), (Msort, .inl (cI, 1602, .inl (upd msort nq 4))), (Mplace, .inl (cI, 1602, .inl (upd mplace nq (nI kq)))), (Mvalue, .inl (cJ, 1602, .inr (.inl (vp_updL mvalue nq lvq))))] := hD
                      refine lv_iinc (v := (nI (nq + 1))) (lv' := [(1, .int (nI (nq + 1))), (5, .long lvq), (4, .int (nI kq)), (3, .int (mtape kq)), (2, .int (nI k2q)), (0, .ref h0)]) hx hb dX5_cutAll_273 hl (k := 4) rfl (nI_1 nq) (by decide) rfl (fun ls hl => ?_)
                      refine lv_goto (tgt := 17) hx hb dX5_cutAll_276 (by decide) ?_
                      exact ih_17  (nq + 1) k2q (upd msort nq 4) (upd mplace nq (nI kq)) (vp_updL mvalue nq lvq) (by omega) (by omega) (by omega) (by rw [(cut_L hJ hk9 hnb (srt_2.mpr c_67) hE9 hlv_70).1]; rfl) (tokV_up hT ((cut_L hJ hk9 hnb (srt_2.mpr c_67) hE9 hlv_70).2.1 (Decidable.of_not_not (fun z => c_140 ((adv8 (d := k2q - kq) (m := 8) (by omega) (by omega)).mpr z))))) _ _ _ hP hD hS (lv_sub hl [4, 0, 5] rfl)
                  · skip
                    have hk5 : k2q < tnq := nk_lt rfl c_75 (by omega)
                    refine lv_aload_n hx hb dX5_cutAll_78 rfl (lv_at hl 5 rfl) ?_
                    refine va_get (D := (dC, dI)) (ci := 5) (v := .ref Mtape) (C := RX5) (T := TX5) (N := 30) hx hb hts i5 hown hK hP 0 rfl rfl 1 (by decide) (hts (.fieldLink RX5 14 "StopSetterModel" "tape" "[I") (by decide +kernel)) (fun _ h9 => h9) rfl dX5_cutAll_79 ?_
                    refine lv_iload_n hx hb dX5_cutAll_82 rfl (lv_at hl 3 rfl) ?_
                    refine va_iald hx hb hK hP 1 0 rfl rfl (vp_in_nI (by omega) (by decide)) dX5_cutAll_83 ?_
                    refine lv_topi (fun v_ ev_ => ?_)
                    obtain rfl : v_ = (mtape k2q) := ev_.trans (by rw [nI_clamp (by omega)])
                    have hPc := hP.sub (ws' := []) [] rfl
                    have hDc := hD.sub (ws' := []) [] (by decide) rfl
                    have hFc := va_free (wc := []) hD hS hA [] rfl
                    refine va_calli (va_runS (As := [.int (mtape k2q)]) (rest := []) ⟨hx, hb, hml, hown, hts⟩ (k_isLetter l dC dI cI cZ cC cJ H.size  (mtape k2q) ) (va_cwS 1 hts gX5_cutAll_X5_isLetter rfl rfl rfl (by decide +kernel) ⟨Nat.le_of_ble_eq_true rfl, Nat.le_of_ble_eq_true rfl⟩) ⟨sPre_blind, fun U hU hW => ⟨rfl, sPre_ok hsk hPc hDc hU hW⟩⟩ rfl rfl hl.1 rfl (lv_room (Nat.le_of_ble_eq_true rfl)) dX5_cutAll_84 ⟨(show 0 + 0 ≤ 0 by omega), (show 0 + 0 ≤ 0 by omega)⟩) hS (fun q _ h => hFc q h) hFc (fun r_9 u t H1 locs ht hvm hw hB hz1 hk1 hS => ?_)
                    try dsimp only at hw hB
                    have hw_10 := hw
                    obtain rfl : r_9 = isL (mtape k2q) := hw_10
                    obtain ⟨hP1, hD1⟩ := hB
                    rw [ht] at hP1
                    obtain ⟨hP, hD⟩ := va_join (wr := [(h0, .inr (5, [.int th, .ref Mtape, .int 0, .int (nI tnq), .ref Msort, .ref Mplace, .ref Mvalue, .int (nI anq), .int ft, .ref Mwords, .int (nI hdq), .int (nI nxq), .ref Mgoes, .ref MgoLine, .ref Mends, .ref MendLine, .ref Mkinds, .ref MisName, .int (nI mnq), .ref Mrow, .ref MbyHand, .ref Mleast, .ref Msecond, .ref MendAt, .ref MgoAt, .ref MnodeBehind, .int lE, .ref MisOut, .ref MfirstEnd, .ref MfirstGo])), (Mtape, .inl (cI, 1600, .inl mtape)), (Msort, .inl (cI, 1602, .inl msort)), (Mplace, .inl (cI, 1602, .inl (upd mplace nq (nI kq)))), (Mvalue, .inl (cJ, 1602, .inr (.inl mvalue)))]) (w1 := []) hP hD [] [0, 1, 2, 3, 4] rfl rfl (by decide) (by decide) hk1 hFc hP1 hD1
                    generalize H1 = H at hP hS ⊢
                    have hP : va_P (dC, dI) vwCl [(h0, .inr (5, [.int th, .ref Mtape, .int 0, .int (nI tnq), .ref Msort, .ref Mplace, .ref Mvalue, .int (nI anq), .int ft, .ref Mwords, .int (nI hdq), .int (nI nxq), .ref Mgoes, .ref MgoLine, .ref Mends, .ref MendLine, .ref Mkinds, .ref MisName, .int (nI mnq), .ref Mrow, .ref MbyHand, .ref Mleast, .ref Msecond, .ref MendAt, .ref MgoAt, .ref MnodeBehind, .int lE, .ref MisOut, .ref MfirstEnd, .ref MfirstGo])), (Mtape, .inl (cI, 1600, .inl mtape)), (Msort, .inl (cI, 1602, .inl msort)), (Mplace, .inl (cI, 1602, .inl (upd mplace nq (nI kq)))), (Mvalue, .inl (cJ, 1602, .inr (.inl mvalue)))] H := hP
                    have hD : va_D A [(h0, .inr (5, [.int th, .ref Mtape, .int 0, .int (nI tnq), .ref Msort, .ref Mplace, .ref Mvalue, .int (nI anq), .int ft, .ref Mwords, .int (nI hdq), .int (nI nxq), .ref Mgoes, .ref MgoLine, .ref Mends, .ref MendLine, .ref Mkinds, .ref MisName, .int (nI mnq), .ref Mrow, .ref MbyHand, .ref Mleast, .ref Msecond, .ref MendAt, .ref MgoAt, .ref MnodeBehind, .int lE, .ref MisOut, .ref MfirstEnd, .ref MfirstGo])), (Mtape, .inl (cI, 1600, .inl mtape)), (Msort, .inl (cI, 1602, .inl msort)), (Mplace, .inl (cI, 1602, .inl (upd mplace nq (nI kq)))), (Mvalue, .inl (cJ, 1602, .inr (.inl mvalue)))] := hD
                    refine lv_if_eq (tgt := 129) hx hb dX5_cutAll_87 (by decide) (fun c_87 => ?_) (fun c_87 => ?_)
                    · skip
                      have hE9 : rnE mtape 2 (tnq - kq) kq = k2q := by rw [← hE_70, rnE_no hk5 (fun z => (srt_2.mp z) c_87)]
                      have hkk : kq < k2q := by
                        rcases Nat.lt_or_ge kq k2q with q | q
                        · exact q
                        · rw [show k2q = kq by omega] at c_87; exact absurd c_87 c_67
                      refine lv_aload_n hx hb dX5_cutAll_129 rfl (lv_at hl 5 rfl) ?_
                      refine va_get (D := (dC, dI)) (ci := 5) (v := .ref Msort) (C := RX5) (T := TX5) (N := 30) hx hb hts i5 hown hK hP 0 rfl rfl 4 (by decide) (hts (.fieldLink RX5 24 "StopSetterModel" "sort" "[I") (by decide +kernel)) (fun _ h9 => h9) rfl dX5_cutAll_130 ?_
                      refine lv_iload_n hx hb dX5_cutAll_133 rfl (lv_at hl 4 rfl) ?_
                      refine lv_iload_n hx hb dX5_cutAll_134 rfl (lv_at hl 3 rfl) ?_
                      refine lv_iload hx hb dX5_cutAll_135 (lv_at hl 1 rfl) ?_
                      refine lv_isub hx hb dX5_cutAll_137 ?_
                      refine lv_topi (fun v_ ev_ => ?_)
                      obtain rfl : v_ = (nI (k2q - kq)) := ev_.trans (nI_sub hk2_70)
                      refine lv_bipush (v := 8) hx hb dX5_cutAll_138 (by decide) ?_
                      refine lv_icmp_le (tgt := 147) hx hb dX5_cutAll_140 (by decide) (fun c_140 => ?_) (fun c_140 => ?_)
                      · skip
                        refine lv_iconst (v := 1) hx hb dX5_cutAll_147 (by decide) ?_
                        refine va_iast hx hb hK hP hD hS 2 0 rfl rfl (vp_in_nI (by omega) (by decide)) dX5_cutAll_148 (fun H locs hP hD hS => ?_)
                        have hP : va_P (dC, dI) vwCl [(h0, .inr (5, [.int th, .ref Mtape, .int 0, .int (nI tnq), .ref Msort, .ref Mplace, .ref Mvalue, .int (nI anq), .int ft, .ref Mwords, .int (nI hdq), .int (nI nxq), .ref Mgoes, .ref MgoLine, .ref Mends, .ref MendLine, .ref Mkinds, .ref MisName, .int (nI mnq), .ref Mrow, .ref MbyHand, .ref Mleast, .ref Msecond, .ref MendAt, .ref MgoAt, .ref MnodeBehind, .int lE, .ref MisOut, .ref MfirstEnd, .ref MfirstGo])), (Mtape, .inl (cI, 1600, .inl mtape)), (Msort, .inl (cI, 1602, .inl (upd msort ((nI nq).toNatClampNeg) 1))), (Mplace, .inl (cI, 1602, .inl (upd mplace nq (nI kq)))), (Mvalue, .inl (cJ, 1602, .inr (.inl mvalue)))] H := hP
                        have hD : va_D A [(h0, .inr (5, [.int th, .ref Mtape, .int 0, .int (nI tnq), .ref Msort, .ref Mplace, .ref Mvalue, .int (nI anq), .int ft, .ref Mwords, .int (nI hdq), .int (nI nxq), .ref Mgoes, .ref MgoLine, .ref Mends, .ref MendLine, .ref Mkinds, .ref MisName, .int (nI mnq), .ref Mrow, .ref MbyHand, .ref Mleast, .ref Msecond, .ref MendAt, .ref MgoAt, .ref MnodeBehind, .int lE, .ref MisOut, .ref MfirstEnd, .ref MfirstGo])), (Mtape, .inl (cI, 1600, .inl mtape)), (Msort, .inl (cI, 1602, .inl (upd msort ((nI nq).toNatClampNeg) 1))), (Mplace, .inl (cI, 1602, .inl (upd mplace nq (nI kq)))), (Mvalue, .inl (cJ, 1602, .inr (.inl mvalue)))] := hD
                        rw [show (upd msort ((nI nq).toNatClampNeg) 1) = (upd msort nq 1) from by rw [nI_clamp (by omega)]] at hP hD
                        have hP : va_P (dC, dI) vwCl [(h0, .inr (5, [.int th, .ref Mtape, .int 0, .int (nI tnq), .ref Msort, .ref Mplace, .ref Mvalue, .int (nI anq), .int ft, .ref Mwords, .int (nI hdq), .int (nI nxq), .ref Mgoes, .ref MgoLine, .ref Mends, .ref MendLine, .ref Mkinds, .ref MisName, .int (nI mnq), .ref Mrow, .ref MbyHand, .ref Mleast, .ref Msecond, .ref MendAt, .ref MgoAt, .ref MnodeBehind, .int lE, .ref MisOut, .ref MfirstEnd, .ref MfirstGo])), (Mtape, .inl (cI, 1600, .inl mtape)), (Msort, .inl (cI, 1602, .inl (upd msort nq 1))), (Mplace, .inl (cI, 1602, .inl (upd mplace nq (nI kq)))), (Mvalue, .inl (cJ, 1602, .inr (.inl mvalue)))] H := hP
                        have hD : va_D A [(h0, .inr (5, [.int th, .ref Mtape, .int 0, .int (nI tnq), .ref Msort, .ref Mplace, .ref Mvalue, .int (nI anq), .int ft, .ref Mwords, .int (nI hdq), .int (nI nxq), .ref Mgoes, .ref MgoLine, .ref Mends, .ref MendLine, .ref Mkinds, .ref MisName, .int (nI mnq), .ref Mrow, .ref MbyHand, .ref Mleast, .ref Msecond, .ref MendAt, .ref MgoAt, .ref MnodeBehind, .int lE, .ref MisOut, .ref MfirstEnd, .ref MfirstGo])), (Mtape, .inl (cI, 1600, .inl mtape)), (Msort, .inl (cI, 1602, .inl (upd msort nq 1))), (Mplace, .inl (cI, 1602, .inl (upd mplace nq (nI kq)))), (Mvalue, .inl (cJ, 1602, .inr (.inl mvalue)))] := hD
                        refine lv_goto (tgt := 265) hx hb dX5_cutAll_149 (by decide) ?_
                        refine lv_aload_n hx hb dX5_cutAll_265 rfl (lv_at hl 5 rfl) ?_
                        refine va_get (D := (dC, dI)) (ci := 5) (v := .ref Mvalue) (C := RX5) (T := TX5) (N := 30) hx hb hts i5 hown hK hP 0 rfl rfl 6 (by decide) (hts (.fieldLink RX5 30 "StopSetterModel" "value" "[J") (by decide +kernel)) (fun _ h9 => h9) rfl dX5_cutAll_266 ?_
                        refine lv_iload_n hx hb dX5_cutAll_269 rfl (lv_at hl 4 rfl) ?_
                        refine lv_lload hx hb dX5_cutAll_270 (lv_at hl 0 rfl) ?_
                        refine va_last hx hb hK hP hD hS 4 3 rfl rfl (vp_in_nI (by omega) (by decide)) dX5_cutAll_272 (fun H locs hP hD hS => ?_)
                        have hP : va_P (dC, dI) vwCl [(h0, .inr (5, [.int th, .ref Mtape, .int 0, .int (nI tnq), .ref Msort, .ref Mplace, .ref Mvalue, .int (nI anq), .int ft, .ref Mwords, .int (nI hdq), .int (nI nxq), .ref Mgoes, .ref MgoLine, .ref Mends, .ref MendLine, .ref Mkinds, .ref MisName, .int (nI mnq), .ref Mrow, .ref MbyHand, .ref Mleast, .ref Msecond, .ref MendAt, .ref MgoAt, .ref MnodeBehind, .int lE, .ref MisOut, .ref MfirstEnd, .ref MfirstGo])), (Mtape, .inl (cI, 1600, .inl mtape)), (Msort, .inl (cI, 1602, .inl (upd msort nq 1))), (Mplace, .inl (cI, 1602, .inl (upd mplace nq (nI kq)))), (Mvalue, .inl (cJ, 1602, .inr (.inl (vp_updL mvalue ((nI nq).toNatClampNeg) lvq))))] H := hP
                        have hD : va_D A [(h0, .inr (5, [.int th, .ref Mtape, .int 0, .int (nI tnq), .ref Msort, .ref Mplace, .ref Mvalue, .int (nI anq), .int ft, .ref Mwords, .int (nI hdq), .int (nI nxq), .ref Mgoes, .ref MgoLine, .ref Mends, .ref MendLine, .ref Mkinds, .ref MisName, .int (nI mnq), .ref Mrow, .ref MbyHand, .ref Mleast, .ref Msecond, .ref MendAt, .ref MgoAt, .ref MnodeBehind, .int lE, .ref MisOut, .ref MfirstEnd, .ref MfirstGo])), (Mtape, .inl (cI, 1600, .inl mtape)), (Msort, .inl (cI, 1602, .inl (upd msort nq 1))), (Mplace, .inl (cI, 1602, .inl (upd mplace nq (nI kq)))), (Mvalue, .inl (cJ, 1602, .inr (.inl (vp_updL mvalue ((nI nq).toNatClampNeg) lvq))))] := hD
                        rw [show (vp_updL mvalue ((nI nq).toNatClampNeg) lvq) = (vp_updL mvalue nq lvq) from by rw [nI_clamp (by omega)]] at hP hD
                        have hP : va_P (dC, dI) vwCl [(h0, .inr (5, [.int th, .ref Mtape, .int 0, .int (nI tnq), .ref Msort, .ref Mplace, .ref Mvalue, .int (nI anq), .int ft, .ref Mwords, .int (nI hdq), .int (nI nxq), .ref Mgoes, .ref MgoLine, .ref Mends, .ref MendLine, .ref Mkinds, .ref MisName, .int (nI mnq), .ref Mrow, .ref MbyHand, .ref Mleast, .ref Msecond, .ref MendAt, .ref MgoAt, .ref MnodeBehind, .int lE, .ref MisOut, .ref MfirstEnd, .ref MfirstGo])), (Mtape, .inl (cI, 1600, .inl mtape)), (Msort, .inl (cI, 1602, .inl (upd msort nq 1))), (Mplace, .inl (cI, 1602, .inl (upd mplace nq (nI kq)))), (Mvalue, .inl (cJ, 1602, .inr (.inl (vp_updL mvalue nq lvq))))] H := hP
                        have hD : va_D A [(h0, .inr (5, [.int th, .ref Mtape, .int 0, .int (nI tnq), .ref Msort, .ref Mplace, .ref Mvalue, .int (nI anq), .int ft, .ref Mwords, .int (nI hdq), .int (nI nxq), .ref Mgoes, .ref MgoLine, .ref Mends, .ref MendLine, .ref Mkinds, .ref MisName, .int (nI mnq), .ref Mrow, .ref MbyHand, .ref Mleast, .ref Msecond, .ref MendAt, .ref MgoAt, .ref MnodeBehind, .int lE, .ref MisOut, .ref MfirstEnd, .ref MfirstGo])), (Mtape, .inl (cI, 1600, .inl mtape)), (Msort, .inl (cI, 1602, .inl (upd msort nq 1))), (Mplace, .inl (cI, 1602, .inl (upd mplace nq (nI kq)))), (Mvalue, .inl (cJ, 1602, .inr (.inl (vp_updL mvalue nq lvq))))] := hD
                        refine lv_iinc (v := (nI (nq + 1))) (lv' := [(1, .int (nI (nq + 1))), (5, .long lvq), (4, .int (nI kq)), (3, .int (mtape kq)), (2, .int (nI k2q)), (0, .ref h0)]) hx hb dX5_cutAll_273 hl (k := 4) rfl (nI_1 nq) (by decide) rfl (fun ls hl => ?_)
                        refine lv_goto (tgt := 17) hx hb dX5_cutAll_276 (by decide) ?_
                        exact ih_17  (nq + 1) k2q (upd msort nq 1) (upd mplace nq (nI kq)) (vp_updL mvalue nq lvq) (by omega) (by omega) (by omega) (by rw [(cut_L hJ hk9 hnb (srt_2.mpr c_67) hE9 hlv_70).1]; rfl) (tokV_up hT ((cut_L hJ hk9 hnb (srt_2.mpr c_67) hE9 hlv_70).2.2 ((adv8 (d := k2q - kq) (m := 8) (by omega) (by omega)).mp c_140))) _ _ _ hP hD hS (lv_sub hl [4, 0, 5] rfl)
                      · skip
                        refine lv_iconst (v := 4) hx hb dX5_cutAll_143 (by decide) ?_
                        refine lv_goto (tgt := 148) hx hb dX5_cutAll_144 (by decide) ?_
                        refine va_iast hx hb hK hP hD hS 2 0 rfl rfl (vp_in_nI (by omega) (by decide)) dX5_cutAll_148 (fun H locs hP hD hS => ?_)
                        have hP : va_P (dC, dI) vwCl [(h0, .inr (5, [.int th, .ref Mtape, .int 0, .int (nI tnq), .ref Msort, .ref Mplace, .ref Mvalue, .int (nI anq), .int ft, .ref Mwords, .int (nI hdq), .int (nI nxq), .ref Mgoes, .ref MgoLine, .ref Mends, .ref MendLine, .ref Mkinds, .ref MisName, .int (nI mnq), .ref Mrow, .ref MbyHand, .ref Mleast, .ref Msecond, .ref MendAt, .ref MgoAt, .ref MnodeBehind, .int lE, .ref MisOut, .ref MfirstEnd, .ref MfirstGo])), (Mtape, .inl (cI, 1600, .inl mtape)), (Msort, .inl (cI, 1602, .inl (upd msort ((nI nq).toNatClampNeg) 4))), (Mplace, .inl (cI, 1602, .inl (upd mplace nq (nI kq)))), (Mvalue, .inl (cJ, 1602, .inr (.inl mvalue)))] H := hP
                        have hD : va_D A [(h0, .inr (5, [.int th, .ref Mtape, .int 0, .int (nI tnq), .ref Msort, .ref Mplace, .ref Mvalue, .int (nI anq), .int ft, .ref Mwords, .int (nI hdq), .int (nI nxq), .ref Mgoes, .ref MgoLine, .ref Mends, .ref MendLine, .ref Mkinds, .ref MisName, .int (nI mnq), .ref Mrow, .ref MbyHand, .ref Mleast, .ref Msecond, .ref MendAt, .ref MgoAt, .ref MnodeBehind, .int lE, .ref MisOut, .ref MfirstEnd, .ref MfirstGo])), (Mtape, .inl (cI, 1600, .inl mtape)), (Msort, .inl (cI, 1602, .inl (upd msort ((nI nq).toNatClampNeg) 4))), (Mplace, .inl (cI, 1602, .inl (upd mplace nq (nI kq)))), (Mvalue, .inl (cJ, 1602, .inr (.inl mvalue)))] := hD
                        rw [show (upd msort ((nI nq).toNatClampNeg) 4) = (upd msort nq 4) from by rw [nI_clamp (by omega)]] at hP hD
                        have hP : va_P (dC, dI) vwCl [(h0, .inr (5, [.int th, .ref Mtape, .int 0, .int (nI tnq), .ref Msort, .ref Mplace, .ref Mvalue, .int (nI anq), .int ft, .ref Mwords, .int (nI hdq), .int (nI nxq), .ref Mgoes, .ref MgoLine, .ref Mends, .ref MendLine, .ref Mkinds, .ref MisName, .int (nI mnq), .ref Mrow, .ref MbyHand, .ref Mleast, .ref Msecond, .ref MendAt, .ref MgoAt, .ref MnodeBehind, .int lE, .ref MisOut, .ref MfirstEnd, .ref MfirstGo])), (Mtape, .inl (cI, 1600, .inl mtape)), (Msort, .inl (cI, 1602, .inl (upd msort nq 4))), (Mplace, .inl (cI, 1602, .inl (upd mplace nq (nI kq)))), (Mvalue, .inl (cJ, 1602, .inr (.inl mvalue)))] H := hP
                        have hD : va_D A [(h0, .inr (5, [.int th, .ref Mtape, .int 0, .int (nI tnq), .ref Msort, .ref Mplace, .ref Mvalue, .int (nI anq), .int ft, .ref Mwords, .int (nI hdq), .int (nI nxq), .ref Mgoes, .ref MgoLine, .ref Mends, .ref MendLine, .ref Mkinds, .ref MisName, .int (nI mnq), .ref Mrow, .ref MbyHand, .ref Mleast, .ref Msecond, .ref MendAt, .ref MgoAt, .ref MnodeBehind, .int lE, .ref MisOut, .ref MfirstEnd, .ref MfirstGo])), (Mtape, .inl (cI, 1600, .inl mtape)), (Msort, .inl (cI, 1602, .inl (upd msort nq 4))), (Mplace, .inl (cI, 1602, .inl (upd mplace nq (nI kq)))), (Mvalue, .inl (cJ, 1602, .inr (.inl mvalue)))] := hD
                        refine lv_goto (tgt := 265) hx hb dX5_cutAll_149 (by decide) ?_
                        refine lv_aload_n hx hb dX5_cutAll_265 rfl (lv_at hl 5 rfl) ?_
                        refine va_get (D := (dC, dI)) (ci := 5) (v := .ref Mvalue) (C := RX5) (T := TX5) (N := 30) hx hb hts i5 hown hK hP 0 rfl rfl 6 (by decide) (hts (.fieldLink RX5 30 "StopSetterModel" "value" "[J") (by decide +kernel)) (fun _ h9 => h9) rfl dX5_cutAll_266 ?_
                        refine lv_iload_n hx hb dX5_cutAll_269 rfl (lv_at hl 4 rfl) ?_
                        refine lv_lload hx hb dX5_cutAll_270 (lv_at hl 0 rfl) ?_
                        refine va_last hx hb hK hP hD hS 4 3 rfl rfl (vp_in_nI (by omega) (by decide)) dX5_cutAll_272 (fun H locs hP hD hS => ?_)
                        have hP : va_P (dC, dI) vwCl [(h0, .inr (5, [.int th, .ref Mtape, .int 0, .int (nI tnq), .ref Msort, .ref Mplace, .ref Mvalue, .int (nI anq), .int ft, .ref Mwords, .int (nI hdq), .int (nI nxq), .ref Mgoes, .ref MgoLine, .ref Mends, .ref MendLine, .ref Mkinds, .ref MisName, .int (nI mnq), .ref Mrow, .ref MbyHand, .ref Mleast, .ref Msecond, .ref MendAt, .ref MgoAt, .ref MnodeBehind, .int lE, .ref MisOut, .ref MfirstEnd, .ref MfirstGo])), (Mtape, .inl (cI, 1600, .inl mtape)), (Msort, .inl (cI, 1602, .inl (upd msort nq 4))), (Mplace, .inl (cI, 1602, .inl (upd mplace nq (nI kq)))), (Mvalue, .inl (cJ, 1602, .inr (.inl (vp_updL mvalue ((nI nq).toNatClampNeg) lvq))))] H := hP
                        have hD : va_D A [(h0, .inr (5, [.int th, .ref Mtape, .int 0, .int (nI tnq), .ref Msort, .ref Mplace, .ref Mvalue, .int (nI anq), .int ft, .ref Mwords, .int (nI hdq), .int (nI nxq), .ref Mgoes, .ref MgoLine, .ref Mends, .ref MendLine, .ref Mkinds, .ref MisName, .int (nI mnq), .ref Mrow, .ref MbyHand, .ref Mleast, .ref Msecond, .ref MendAt, .ref MgoAt, .ref MnodeBehind, .int lE, .ref MisOut, .ref MfirstEnd, .ref MfirstGo])), (Mtape, .inl (cI, 1600, .inl mtape)), (Msort, .inl (cI, 1602, .inl (upd msort nq 4))), (Mplace, .inl (cI, 1602, .inl (upd mplace nq (nI kq)))), (Mvalue, .inl (cJ, 1602, .inr (.inl (vp_updL mvalue ((nI nq).toNatClampNeg) lvq))))] := hD
                        rw [show (vp_updL mvalue ((nI nq).toNatClampNeg) lvq) = (vp_updL mvalue nq lvq) from by rw [nI_clamp (by omega)]] at hP hD
                        have hP : va_P (dC, dI) vwCl [(h0, .inr (5, [.int th, .ref Mtape, .int 0, .int (nI tnq), .ref Msort, .ref Mplace, .ref Mvalue, .int (nI anq), .int ft, .ref Mwords, .int (nI hdq), .int (nI nxq), .ref Mgoes, .ref MgoLine, .ref Mends, .ref MendLine, .ref Mkinds, .ref MisName, .int (nI mnq), .ref Mrow, .ref MbyHand, .ref Mleast, .ref Msecond, .ref MendAt, .ref MgoAt, .ref MnodeBehind, .int lE, .ref MisOut, .ref MfirstEnd, .ref MfirstGo])), (Mtape, .inl (cI, 1600, .inl mtape)), (Msort, .inl (cI, 1602, .inl (upd msort nq 4))), (Mplace, .inl (cI, 1602, .inl (upd mplace nq (nI kq)))), (Mvalue, .inl (cJ, 1602, .inr (.inl (vp_updL mvalue nq lvq))))] H := hP
                        have hD : va_D A [(h0, .inr (5, [.int th, .ref Mtape, .int 0, .int (nI tnq), .ref Msort, .ref Mplace, .ref Mvalue, .int (nI anq), .int ft, .ref Mwords, .int (nI hdq), .int (nI nxq), .ref Mgoes, .ref MgoLine, .ref Mends, .ref MendLine, .ref Mkinds, .ref MisName, .int (nI mnq), .ref Mrow, .ref MbyHand, .ref Mleast, .ref Msecond, .ref MendAt, .ref MgoAt, .ref MnodeBehind, .int lE, .ref MisOut, .ref MfirstEnd, .ref MfirstGo])), (Mtape, .inl (cI, 1600, .inl mtape)), (Msort, .inl (cI, 1602, .inl (upd msort nq 4))), (Mplace, .inl (cI, 1602, .inl (upd mplace nq (nI kq)))), (Mvalue, .inl (cJ, 1602, .inr (.inl (vp_updL mvalue nq lvq))))] := hD
                        refine lv_iinc (v := (nI (nq + 1))) (lv' := [(1, .int (nI (nq + 1))), (5, .long lvq), (4, .int (nI kq)), (3, .int (mtape kq)), (2, .int (nI k2q)), (0, .ref h0)]) hx hb dX5_cutAll_273 hl (k := 4) rfl (nI_1 nq) (by decide) rfl (fun ls hl => ?_)
                        refine lv_goto (tgt := 17) hx hb dX5_cutAll_276 (by decide) ?_
                        exact ih_17  (nq + 1) k2q (upd msort nq 4) (upd mplace nq (nI kq)) (vp_updL mvalue nq lvq) (by omega) (by omega) (by omega) (by rw [(cut_L hJ hk9 hnb (srt_2.mpr c_67) hE9 hlv_70).1]; rfl) (tokV_up hT ((cut_L hJ hk9 hnb (srt_2.mpr c_67) hE9 hlv_70).2.1 (Decidable.of_not_not (fun z => c_140 ((adv8 (d := k2q - kq) (m := 8) (by omega) (by omega)).mpr z))))) _ _ _ hP hD hS (lv_sub hl [4, 0, 5] rfl)
                    · skip
                      have hs5 : srt (mtape k2q) = 2 := srt_2.mpr c_87
                      refine lv_iload_n hx hb dX5_cutAll_90 rfl (lv_at hl 3 rfl) ?_
                      refine lv_iload hx hb dX5_cutAll_91 (lv_at hl 1 rfl) ?_
                      refine lv_isub hx hb dX5_cutAll_93 ?_
                      refine lv_topi (fun v_ ev_ => ?_)
                      obtain rfl : v_ = (nI (k2q - kq)) := ev_.trans (nI_sub hk2_70)
                      refine lv_bipush (v := 8) hx hb dX5_cutAll_94 (by decide) ?_
                      refine lv_icmp_ge (tgt := 119) hx hb dX5_cutAll_96 (by decide) (fun c_96 => ?_) (fun c_96 => ?_)
                      · skip
                        refine lv_lload hx hb dX5_cutAll_119 (lv_at hl 0 rfl) ?_
                        refine lv_lstore (lv' := [(5, .long lvq), (4, .int (nI kq)), (3, .int (mtape kq)), (2, .int (nI k2q)), (1, .int (nI nq)), (0, .ref h0)]) hx hb dX5_cutAll_121 hl (by decide) rfl (fun ls hl => ?_)
                        refine lv_iinc (v := (nI (k2q + 1))) (lv' := [(2, .int (nI (k2q + 1))), (5, .long lvq), (4, .int (nI kq)), (3, .int (mtape kq)), (1, .int (nI nq)), (0, .ref h0)]) hx hb dX5_cutAll_123 hl (k := 3) rfl (nI_1 k2q) (by decide) rfl (fun ls hl => ?_)
                        refine lv_goto (tgt := 70) hx hb dX5_cutAll_126 (by decide) ?_
                        exact ih_70  (k2q + 1) lvq (by omega) (by omega) (by omega) ((rnE_yes hk5 hs5).symm.trans hE_70) (by rw [show min (k2q + 1 - kq) 8 = min (k2q - kq) 8 by have := (nI_leI (a := 8) (b := k2q - kq) (by omega) (by omega)).mp c_96; omega]; exact hlv_70) _ _ _ hP hD hS (lv_sub hl [1, 2, 3, 0, 4, 5] rfl)
                      · skip
                        have h85 : k2q - kq < 8 := nk_lt rfl c_96 (by omega)
                        refine lv_ldc2 (v := 37) hx hb hown (hts (.constantLong RX5 117 (37)) (by decide +kernel)) dX5_cutAll_99 ?_
                        refine lv_lload hx hb dX5_cutAll_102 (lv_at hl 0 rfl) ?_
                        refine lv_lmul hx hb dX5_cutAll_104 ?_
                        refine lv_aload_n hx hb dX5_cutAll_105 rfl (lv_at hl 5 rfl) ?_
                        refine va_get (D := (dC, dI)) (ci := 5) (v := .ref Mtape) (C := RX5) (T := TX5) (N := 30) hx hb hts i5 hown hK hP 0 rfl rfl 1 (by decide) (hts (.fieldLink RX5 14 "StopSetterModel" "tape" "[I") (by decide +kernel)) (fun _ h9 => h9) rfl dX5_cutAll_106 ?_
                        refine lv_iload_n hx hb dX5_cutAll_109 rfl (lv_at hl 3 rfl) ?_
                        refine va_iald hx hb hK hP 1 0 rfl rfl (vp_in_nI (by omega) (by decide)) dX5_cutAll_110 ?_
                        refine lv_topi (fun v_ ev_ => ?_)
                        obtain rfl : v_ = (mtape k2q) := ev_.trans (by rw [nI_clamp (by omega)])
                        have hPc := hP.sub (ws' := []) [] rfl
                        have hDc := hD.sub (ws' := []) [] (by decide) rfl
                        have hFc := va_free (wc := []) hD hS hA [] rfl
                        refine va_calli (va_runS (As := [.int (mtape k2q)]) (rest := [.long (37 * lvq)]) ⟨hx, hb, hml, hown, hts⟩ (k_rank l dC dI cI cZ cC cJ H.size  (mtape k2q) ) (va_cwS 1 hts gX5_cutAll_X5_rank rfl rfl rfl (by decide +kernel) ⟨Nat.le_of_ble_eq_true rfl, Nat.le_of_ble_eq_true rfl⟩) ⟨sPre_blind, fun U hU hW => ⟨rfl, sPre_ok hsk hPc hDc hU hW⟩⟩ rfl rfl hl.1 rfl (lv_room (Nat.le_of_ble_eq_true rfl)) dX5_cutAll_111 ⟨(show 0 + 0 ≤ 0 by omega), (show 0 + 0 ≤ 0 by omega)⟩) hS (fun q _ h => hFc q h) hFc (fun r_11 u t H1 locs ht hvm hw hB hz1 hk1 hS => ?_)
                        try dsimp only at hw hB
                        have hw_12 := hw
                        obtain rfl : r_11 = (if isL (mtape k2q) = 0 then (mtape k2q) - 21 else (mtape k2q) - 96) := hw_12
                        obtain ⟨hP1, hD1⟩ := hB
                        rw [ht] at hP1
                        obtain ⟨hP, hD⟩ := va_join (wr := [(h0, .inr (5, [.int th, .ref Mtape, .int 0, .int (nI tnq), .ref Msort, .ref Mplace, .ref Mvalue, .int (nI anq), .int ft, .ref Mwords, .int (nI hdq), .int (nI nxq), .ref Mgoes, .ref MgoLine, .ref Mends, .ref MendLine, .ref Mkinds, .ref MisName, .int (nI mnq), .ref Mrow, .ref MbyHand, .ref Mleast, .ref Msecond, .ref MendAt, .ref MgoAt, .ref MnodeBehind, .int lE, .ref MisOut, .ref MfirstEnd, .ref MfirstGo])), (Mtape, .inl (cI, 1600, .inl mtape)), (Msort, .inl (cI, 1602, .inl msort)), (Mplace, .inl (cI, 1602, .inl (upd mplace nq (nI kq)))), (Mvalue, .inl (cJ, 1602, .inr (.inl mvalue)))]) (w1 := []) hP hD [] [0, 1, 2, 3, 4] rfl rfl (by decide) (by decide) hk1 hFc hP1 hD1
                        generalize H1 = H at hP hS ⊢
                        have hP : va_P (dC, dI) vwCl [(h0, .inr (5, [.int th, .ref Mtape, .int 0, .int (nI tnq), .ref Msort, .ref Mplace, .ref Mvalue, .int (nI anq), .int ft, .ref Mwords, .int (nI hdq), .int (nI nxq), .ref Mgoes, .ref MgoLine, .ref Mends, .ref MendLine, .ref Mkinds, .ref MisName, .int (nI mnq), .ref Mrow, .ref MbyHand, .ref Mleast, .ref Msecond, .ref MendAt, .ref MgoAt, .ref MnodeBehind, .int lE, .ref MisOut, .ref MfirstEnd, .ref MfirstGo])), (Mtape, .inl (cI, 1600, .inl mtape)), (Msort, .inl (cI, 1602, .inl msort)), (Mplace, .inl (cI, 1602, .inl (upd mplace nq (nI kq)))), (Mvalue, .inl (cJ, 1602, .inr (.inl mvalue)))] H := hP
                        have hD : va_D A [(h0, .inr (5, [.int th, .ref Mtape, .int 0, .int (nI tnq), .ref Msort, .ref Mplace, .ref Mvalue, .int (nI anq), .int ft, .ref Mwords, .int (nI hdq), .int (nI nxq), .ref Mgoes, .ref MgoLine, .ref Mends, .ref MendLine, .ref Mkinds, .ref MisName, .int (nI mnq), .ref Mrow, .ref MbyHand, .ref Mleast, .ref Msecond, .ref MendAt, .ref MgoAt, .ref MnodeBehind, .int lE, .ref MisOut, .ref MfirstEnd, .ref MfirstGo])), (Mtape, .inl (cI, 1600, .inl mtape)), (Msort, .inl (cI, 1602, .inl msort)), (Mplace, .inl (cI, 1602, .inl (upd mplace nq (nI kq)))), (Mvalue, .inl (cJ, 1602, .inr (.inl mvalue)))] := hD
                        refine lv_i2l (v := (if isL (mtape k2q) = 0 then (mtape k2q) - 21 else (mtape k2q) - 96).toInt64) hx hb dX5_cutAll_114 rfl ?_
                        refine lv_ladd hx hb dX5_cutAll_115 ?_
                        refine lv_topl (fun v_ ev_ => ?_)
                        obtain rfl : v_ = (lN (wN mtape kq (k2q + 1 - kq))) := ev_.trans (wN_stepL hk2_70 h85 hlv_70 hs5)
                        refine lv_goto (tgt := 121) hx hb dX5_cutAll_116 (by decide) ?_
                        refine lv_lstore (lv' := [(5, .long (lN (wN mtape kq (k2q + 1 - kq)))), (4, .int (nI kq)), (3, .int (mtape kq)), (2, .int (nI k2q)), (1, .int (nI nq)), (0, .ref h0)]) hx hb dX5_cutAll_121 hl (by decide) rfl (fun ls hl => ?_)
                        refine lv_iinc (v := (nI (k2q + 1))) (lv' := [(2, .int (nI (k2q + 1))), (5, .long (lN (wN mtape kq (k2q + 1 - kq)))), (4, .int (nI kq)), (3, .int (mtape kq)), (1, .int (nI nq)), (0, .ref h0)]) hx hb dX5_cutAll_123 hl (k := 3) rfl (nI_1 k2q) (by decide) rfl (fun ls hl => ?_)
                        refine lv_goto (tgt := 70) hx hb dX5_cutAll_126 (by decide) ?_
                        exact ih_70  (k2q + 1) (lN (wN mtape kq (k2q + 1 - kq))) (by omega) (by omega) (by omega) ((rnE_yes hk5 hs5).symm.trans hE_70) (by rw [show min (k2q + 1 - kq) 8 = k2q + 1 - kq by omega]) _ _ _ hP hD hS (lv_sub hl [1, 2, 3, 0, 4, 5] rfl)
              exact lp_70 (tnq + 1) kq 0 (by omega) (by omega) (by omega) (rfl) (by rw [Nat.sub_self]; rfl) _ _ _ hP hD hS (lv_sub hl [0, 1, 2, 3, 4, 5] rfl)
          · skip
            refine lv_iinc (v := (nI (kq + 1))) (lv' := [(2, .int (nI (kq + 1))), (3, .int (mtape kq)), (1, .int (nI nq)), (0, .ref h0)]) hx hb dX5_cutAll_44 hl (k := 1) rfl (nI_1 kq) (by decide) rfl (fun ls hl => ?_)
            refine lv_goto (tgt := 17) hx hb dX5_cutAll_47 (by decide) ?_
            exact ih_17  nq (kq + 1) msort mplace mvalue (by omega) (by omega) (by omega) (hJ.trans (rnE_yes hk9 (srt_1.mpr (Or.inr c_41)))) (hT) _ _ _ hP hD hS (lv_sub hl [0, 2, 3] rfl)
  exact lp_17 (tnq + 1) 0 0 msort mplace mvalue (by omega) (by omega) (by omega) (rfl) (fun j h => absurd h (Nat.not_lt_zero j)) _ _ _ hP hD hS (lv_sub hl [0, 1, 2] rfl)

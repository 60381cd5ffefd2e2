/-! TOKENS of a text of n signs f, cut from a place b on (draft of the pure part for p8, p15, p16). -/
def sgA (f : Nat → Int32) (n p : Nat) : Int32 := if p < n then f p else -1
/-- the end of a run of signs of the sort w, with d signs left -/
def rnE (f : Nat → Int32) (w : Int32) : Nat → Nat → Nat
  | 0, a => a
  | d + 1, a => if srt (f a) = w then rnE f w d (a + 1) else a
theorem rnE_ge (f : Nat → Int32) (w : Int32) : ∀ d a : Nat, a ≤ rnE f w d a
  | 0, _ => Nat.le_refl _
  | d + 1, a => by
    unfold rnE
    by_cases h : srt (f a) = w
    · rw [if_pos h]; have := rnE_ge f w d (a + 1); omega
    · rw [if_neg h]; omega
theorem rnE_le (f : Nat → Int32) (w : Int32) : ∀ d a : Nat, rnE f w d a ≤ a + d
  | 0, _ => Nat.le_refl _
  | d + 1, a => by
    unfold rnE
    by_cases h : srt (f a) = w
    · rw [if_pos h]; have := rnE_le f w d (a + 1); omega
    · rw [if_neg h]; omega
theorem rnE_yes {f : Nat → Int32} {w : Int32} {n a : Nat} (ha : a < n) (h : srt (f a) = w) : rnE f w (n - a) a = rnE f w (n - (a + 1)) (a + 1) := by
  rw [show n - a = (n - (a + 1)) + 1 by omega]
  show (if srt (f a) = w then _ else _) = _
  rw [if_pos h]
theorem rnE_no {f : Nat → Int32} {w : Int32} {n a : Nat} (ha : a < n) (h : ¬ srt (f a) = w) : rnE f w (n - a) a = a := by
  rw [show n - a = (n - (a + 1)) + 1 by omega]
  show (if srt (f a) = w then _ else _) = _
  rw [if_neg h]
theorem rnE_end {f : Nat → Int32} {w : Int32} {n a : Nat} (ha : n ≤ a) : rnE f w (n - a) a = a := by
  rw [show n - a = 0 by omega]; rfl
theorem rnE_congr {f g : Nat → Int32} {w : Int32} {n : Nat} (h : ∀ i : Nat, i < n → f i = g i) : ∀ d a : Nat, a + d ≤ n → rnE f w d a = rnE g w d a
  | 0, _, _ => rfl
  | d + 1, a, hd => by
    unfold rnE
    rw [h a (by omega), rnE_congr h d (a + 1) (by omega)]
def tkP (f : Nat → Int32) (n b : Nat) : Nat := rnE f 1 (n - b) b
def tkK (f : Nat → Int32) (n b : Nat) : Int32 := srt (sgA f n (tkP f n b))
def tkB (f : Nat → Int32) (n b : Nat) : Nat := if tkK f n b = 2 then rnE f 2 (n - tkP f n b) (tkP f n b) else if tkK f n b = 3 then rnE f 3 (n - tkP f n b) (tkP f n b) else if tkK f n b = 0 then tkP f n b else tkP f n b + 1
def tkS (f : Nat → Int32) (n b : Nat) : Int32 := if tkK f n b = 2 then (if 8 < tkB f n b - tkP f n b then 5 else 2) else if tkK f n b = 3 then (if 4 < tkB f n b - tkP f n b then 5 else 3) else tkK f n b
/-- the place behind the first j tokens -/
def bs (f : Nat → Int32) (n : Nat) : Nat → Nat
  | 0 => 0
  | j + 1 => tkB f n (bs f n j)
theorem tkP_le {f : Nat → Int32} {n b : Nat} (h : b ≤ n) : tkP f n b ≤ n := by
  have := rnE_le f 1 (n - b) b
  unfold tkP; omega
theorem tkP_ge (f : Nat → Int32) (n b : Nat) : b ≤ tkP f n b := rnE_ge f 1 (n - b) b
theorem srt_m1 : srt (-1) = 0 := by decide
theorem tkK_end {f : Nat → Int32} {n b : Nat} (h : n ≤ tkP f n b) : tkK f n b = 0 := by
  unfold tkK sgA
  rw [if_neg (by omega)]; exact srt_m1
theorem tkB_le {f : Nat → Int32} {n b : Nat} (h : b ≤ n) : tkB f n b ≤ n := by
  have hp := tkP_le (f := f) h
  have h2 := rnE_le f 2 (n - tkP f n b) (tkP f n b)
  have h3 := rnE_le f 3 (n - tkP f n b) (tkP f n b)
  unfold tkB
  by_cases c2 : tkK f n b = 2
  · rw [if_pos c2]; omega
  · rw [if_neg c2]
    by_cases c3 : tkK f n b = 3
    · rw [if_pos c3]; omega
    · rw [if_neg c3]
      by_cases c0 : tkK f n b = 0
      · rw [if_pos c0]; exact hp
      · rw [if_neg c0]
        rcases Nat.lt_or_ge (tkP f n b) n with q | q
        · omega
        · exact absurd (tkK_end q) c0
theorem tkB_ge (f : Nat → Int32) (n b : Nat) : tkP f n b ≤ tkB f n b := by
  have h2 := rnE_ge f 2 (n - tkP f n b) (tkP f n b)
  have h3 := rnE_ge f 3 (n - tkP f n b) (tkP f n b)
  unfold tkB
  by_cases c2 : tkK f n b = 2
  · rw [if_pos c2]; exact h2
  · rw [if_neg c2]
    by_cases c3 : tkK f n b = 3
    · rw [if_pos c3]; exact h3
    · rw [if_neg c3]
      by_cases c0 : tkK f n b = 0
      · rw [if_pos c0]; exact Nat.le_refl _
      · rw [if_neg c0]; omega
theorem bs_le (f : Nat → Int32) (n : Nat) : ∀ j : Nat, bs f n j ≤ n
  | 0 => Nat.zero_le _
  | j + 1 => tkB_le (bs_le f n j)
/-- a token takes a sign at least -/
theorem tkB_gt {f : Nat → Int32} {n b : Nat} (h : b ≤ n) (h0 : ¬ tkK f n b = 0) : b < tkB f n b := by
  have hp := tkP_ge f n b
  have hl : tkP f n b < n := by
    rcases Nat.lt_or_ge (tkP f n b) n with q | q
    · exact q
    · exact absurd (tkK_end q) h0
  have hk : tkK f n b = srt (f (tkP f n b)) := by
    unfold tkK sgA
    rw [if_pos hl]
  unfold tkB
  by_cases c2 : tkK f n b = 2
  · rw [if_pos c2, rnE_yes hl (hk.symm.trans c2)]
    have := rnE_ge f 2 (n - (tkP f n b + 1)) (tkP f n b + 1)
    omega
  · rw [if_neg c2]
    by_cases c3 : tkK f n b = 3
    · rw [if_pos c3, rnE_yes hl (hk.symm.trans c3)]
      have := rnE_ge f 3 (n - (tkP f n b + 1)) (tkP f n b + 1)
      omega
    · rw [if_neg c3, if_neg h0]; omega
theorem tk_congr {f g : Nat → Int32} {n : Nat} (h : ∀ i : Nat, i < n → f i = g i) {b : Nat} (hb : b ≤ n) : tkP f n b = tkP g n b ∧ tkK f n b = tkK g n b ∧ tkB f n b = tkB g n b ∧ tkS f n b = tkS g n b := by
  have e1 : tkP f n b = tkP g n b := rnE_congr h (n - b) b (by omega)
  have hp := tkP_le (f := g) hb
  have e2 : tkK f n b = tkK g n b := by
    unfold tkK sgA
    rw [e1]
    by_cases c : tkP g n b < n
    · rw [if_pos c, if_pos c, h _ c]
    · rw [if_neg c, if_neg c]
  have e3 : tkB f n b = tkB g n b := by
    unfold tkB
    rw [e2, e1, rnE_congr (w := 2) h (n - tkP g n b) (tkP g n b) (by omega), rnE_congr (w := 3) h (n - tkP g n b) (tkP g n b) (by omega)]
  refine ⟨e1, e2, e3, ?_⟩
  unfold tkS
  rw [e1, e2, e3]
theorem bs_congr {f g : Nat → Int32} {n : Nat} (h : ∀ i : Nat, i < n → f i = g i) : ∀ j : Nat, bs f n j = bs g n j
  | 0 => rfl
  | j + 1 => by
    show tkB f n (bs f n j) = tkB g n (bs g n j)
    rw [bs_congr h j]; exact (tk_congr h (bs_le g n j)).2.2.1
def aS (f : Nat → Int32) (n j : Nat) : Int32 := tkS f n (bs f n j)
def aP (f : Nat → Int32) (n j : Nat) : Nat := tkP f n (bs f n j)
/-- the signs from p on are these -/
def eqB (f : Nat → Int32) : Nat → List Int32 → Int32
  | _, [] => 1
  | p, x :: l => if f p = x then eqB f (p + 1) l else 0
/-- token j is text i -/
def tI (f : Nat → Int32) (n j i : Nat) : Int32 := if aS f n j = 2 then (if bs f n (j + 1) - aP f n j = lenS.getD i 0 then eqB f (aP f n j) (bytS.getD i []) else 0) else 0
/-- the number of c digits from p on -/
def nmF (f : Nat → Int32) : Nat → Nat → Int32 → Int32
  | 0, _, v => v
  | c + 1, p, v => nmF f c (p + 1) (v * 10 + f p - 48)
def aN (f : Nat → Int32) (n j : Nat) : Int32 := nmF f (bs f n (j + 1) - aP f n j) (aP f n j) 0
/-! THE READING, over tokens: sorts S, places P, 'token j is text i' T, numbers V. A reading's state: (token, fault). -/
def TkS : Type := (Nat → Int32) × (Nat → Nat) × (Nat → Nat → Int32) × (Nat → Int32)
def TkS.S (t : TkS) : Nat → Int32 := Prod.fst t
def TkS.P (t : TkS) : Nat → Nat := Prod.fst (Prod.snd t)
def TkS.T (t : TkS) : Nat → Nat → Int32 := Prod.fst (Prod.snd (Prod.snd t))
def TkS.V (t : TkS) : Nat → Int32 := Prod.snd (Prod.snd (Prod.snd t))
def tkO (f : Nat → Int32) (n : Nat) : TkS := (aS f n, aP f n, tI f n, aN f n)
abbrev L5 := Int32 × Int32 × Int32 × Int32 × Int32
abbrev L3 := Int32 × Int32 × Int32
abbrev RdS := (Nat × Int32) × List L5 × List L3
def flt (t : TkS) (k : Nat) (q : Nat × Int32) : Nat × Int32 := (q.1, nI (k + 16 * t.P q.1))
def stA (q : Nat × Int32) : Nat × Int32 := if q.2 = 0 then (q.1 + 1, 0) else q
def stX (t : TkS) (b : Int32) (q : Nat × Int32) : Nat × Int32 := if q.2 = 0 then (if b = 0 then flt t 1 q else (q.1 + 1, 0)) else q
def stW (t : TkS) (i : Nat) (q : Nat × Int32) : Nat × Int32 := stX t (t.T q.1 i) q
def stS (t : TkS) (q : Nat × Int32) : Nat × Int32 := stX t (if t.S q.1 = 4 then 1 else 0) q
def stN (t : TkS) (top : Nat) (q : Nat × Int32) : Nat × Int32 := if q.2 = 0 then (if t.S q.1 = 3 then (if t.V q.1 ≤ nI top then (q.1 + 1, 0) else flt t 4 q) else flt t 1 q) else q
def mkV (t : TkS) (i j : Nat) : Nat := if t.T j i = 0 then (if t.T j (i + 1) = 0 then (if t.T j (i + 2) = 0 then 0 else 3) else 2) else 1
def stM (t : TkS) (i : Nat) (q : Nat × Int32) : Nat × Int32 := stX t (nI (mkV t i q.1)) q
def stO (t : TkS) (q : Nat × Int32) : Nat × Int32 := if q.2 = 0 then (if t.T q.1 4 = 0 then q else stM t 5 (q.1 + 1, 0)) else q
def moV (t : TkS) (q : Nat × Int32) : Nat := if t.T q.1 4 = 0 then 0 else mkV t 5 (q.1 + 1)
def nV (t : TkS) (q : Nat × Int32) : Int32 := if t.S q.1 = 3 then t.V q.1 else 0
def lgA (t : TkS) (q : Nat × Int32) : Nat × Int32 := stN t 9 (q.1 + 1, 0)
def lgB (t : TkS) (q : Nat × Int32) : Nat × Int32 := stN t 7 (stW t 1 (lgA t q))
def lgC (t : TkS) (q : Nat × Int32) : Nat × Int32 := stN t 9 (stW t 2 (lgB t q))
def lgD (t : TkS) (q : Nat × Int32) : Nat × Int32 := stN t 999 (stW t 3 (lgC t q))
def lgE (t : TkS) (q : Nat × Int32) : Nat × Int32 := stS t (stO t (lgD t q))
def lgL (t : TkS) (q : Nat × Int32) : L5 := (nV t (q.1 + 1, 0), nV t (stW t 1 (lgA t q)), nV t (stW t 2 (lgB t q)), nV t (stW t 3 (lgC t q)), nI (moV t (lgD t q)))
def leA (t : TkS) (q : Nat × Int32) : Nat × Int32 := stN t 9 (q.1 + 1, 0)
def leB (t : TkS) (q : Nat × Int32) : Nat × Int32 := stN t 999 (stW t 3 (leA t q))
def leC (t : TkS) (q : Nat × Int32) : Nat × Int32 := stS t (stM t 9 (stW t 4 (leB t q)))
def leL (t : TkS) (q : Nat × Int32) : L3 := (nV t (q.1 + 1, 0), nV t (stW t 3 (leA t q)), nI (mkV t 9 (stW t 4 (leB t q)).1 + 3))
def rdG (t : TkS) (s : RdS) : RdS := if s.2.1.length = 40 then (flt t 5 s.1, s.2) else (lgE t s.1, (if (lgE t s.1).2 = 0 then s.2.1 ++ [lgL t s.1] else s.2.1), s.2.2)
def rdE (t : TkS) (s : RdS) : RdS := if s.2.2.length = 10 then (flt t 5 s.1, s.2) else (leC t s.1, s.2.1, (if (leC t s.1).2 = 0 then s.2.2 ++ [leL t s.1] else s.2.2))
def rdL (t : TkS) (s : RdS) : RdS := if t.T s.1.1 0 = 0 then (if t.T s.1.1 8 = 0 then (flt t 1 s.1, s.2) else rdE t s) else rdG t s
def rdR (t : TkS) : Nat → RdS → RdS
  | 0, s => s
  | k + 1, s => if s.1.2 = 0 then (if t.S s.1.1 = 0 then s else rdR t k (rdL t s)) else s
def rdAll (t : TkS) : RdS := rdR t 1600 ((0, 0), [], [])
theorem rdR_end {t : TkS} {s : RdS} (h : s.1.2 = 0 → t.S s.1.1 = 0) : ∀ k : Nat, rdR t k s = s
  | 0 => rfl
  | k + 1 => by
    unfold rdR
    by_cases c : s.1.2 = 0
    · rw [if_pos c, if_pos (h c)]
    · rw [if_neg c]
theorem rdR_go {t : TkS} {s : RdS} {k : Nat} (h : s.1.2 = 0) (h2 : ¬ t.S s.1.1 = 0) : rdR t (k + 1) s = rdR t k (rdL t s) := by
  show (if s.1.2 = 0 then (if t.S s.1.1 = 0 then s else rdR t k (rdL t s)) else s) = _
  rw [if_pos h, if_neg h2]
theorem eqB_congr {f g : Nat → Int32} {n : Nat} (h : ∀ i : Nat, i < n → f i = g i) : ∀ (l : List Int32) (p : Nat), p + l.length ≤ n → eqB f p l = eqB g p l
  | [], _, _ => rfl
  | x :: l, p, hp => by
    have hp2 : p + (l.length + 1) ≤ n := hp
    show (if f p = x then eqB f (p + 1) l else 0) = (if g p = x then eqB g (p + 1) l else 0)
    rw [h p (by omega), eqB_congr h l (p + 1) (by omega)]
theorem nmF_step {f : Nat → Int32} {b a : Nat} {v : Int32} (h : a < b) : nmF f (b - a) a v = nmF f (b - (a + 1)) (a + 1) (v * 10 + f a - 48) := by
  rw [show b - a = (b - (a + 1)) + 1 by omega]
  rfl
theorem nmF_congr {f g : Nat → Int32} {n : Nat} (h : ∀ i : Nat, i < n → f i = g i) : ∀ (c p : Nat) (v : Int32), p + c ≤ n → nmF f c p v = nmF g c p v
  | 0, _, _, _ => rfl
  | c + 1, p, v, hp => by
    show nmF f c (p + 1) (v * 10 + f p - 48) = nmF g c (p + 1) (v * 10 + g p - 48)
    rw [h p (by omega), nmF_congr h c (p + 1) _ (by omega)]
theorem lenS_byt : ∀ i : Nat, (bytS.getD i []).length = lenS.getD i 0
  | 0 | 1 | 2 | 3 | 4 | 5 | 6 | 7 | 8 | 9 | 10 | 11 => rfl
  | i + 12 => by simp [bytS, lenS]
theorem tkO_congr {f g : Nat → Int32} {n : Nat} (h : ∀ i : Nat, i < n → f i = g i) : tkO f n = tkO g n := by
  have e1 : bs f n = bs g n := funext (bs_congr h)
  have e2 : aS f n = aS g n := funext fun j => by
    unfold aS; rw [e1]; exact (tk_congr h (bs_le g n j)).2.2.2
  have e3 : aP f n = aP g n := funext fun j => by
    unfold aP; rw [e1]; exact (tk_congr h (bs_le g n j)).1
  have hb : ∀ j : Nat, aP g n j ≤ bs g n (j + 1) ∧ bs g n (j + 1) ≤ n := fun j => ⟨tkB_ge g n (bs g n j), bs_le g n (j + 1)⟩
  have e4 : tI f n = tI g n := funext fun j => funext fun i => by
    unfold tI
    rw [e1, e2, e3]
    by_cases c : bs g n (j + 1) - aP g n j = lenS.getD i 0
    · have := hb j
      rw [eqB_congr h _ _ (by rw [lenS_byt]; omega)]
    · rw [if_neg c, if_neg c]
  have e5 : aN f n = aN g n := funext fun j => by
    unfold aN
    rw [e1, e3]
    have := hb j
    exact nmF_congr h _ _ _ (by omega)
  unfold tkO
  rw [e2, e3, e4, e5]
theorem nI_mulT (a b : Nat) : nI a * nI b = nI (a * b) := (Int32.ofNat_mul a b).symm
theorem sgA_lt {f : Nat → Int32} {n p : Nat} (h : p < n) : sgA f n p = f p := by unfold sgA; rw [if_pos h]
theorem nI_sub {a b : Nat} (h : b ≤ a) : nI a - nI b = nI (a - b) := by
  obtain ⟨c, rfl⟩ : ∃ c, a = b + c := ⟨a - b, by omega⟩
  rw [show b + c - b = c by omega, ← nI_add, Int32.add_comm, Int32.add_sub_cancel]
theorem adv_k {f : Nat → Int32} {n b p : Nat} {k : Int32} (ep : p = rnE f 1 (n - b) b) (ek : k = srt (sgA f n p)) : tkP f n b = p ∧ tkK f n b = k := by
  have e1 : tkP f n b = p := ep.symm
  refine ⟨e1, ?_⟩
  unfold tkK
  rw [e1]; exact ek.symm
theorem advE {f : Nat → Int32} {n b p e : Nat} {k : Int32} (ep : p = rnE f 1 (n - b) b) (ek : k = srt (sgA f n p)) (ee : e = rnE f k (n - p) p) (c : k = 2 ∨ k = 3) : e = tkB f n b := by
  obtain ⟨h1, h2⟩ := adv_k ep ek
  unfold tkB
  rw [h1, h2]
  rcases c with c | c
  · rw [if_pos c, ee, c]
  · rw [if_neg (by rw [c]; decide), if_pos c, ee, c]
theorem adv8 {d m : Nat} (hd : d < 2 ^ 31) (hm : m < 2 ^ 31) : (nI d ≤ nI m ↔ ¬ m < d) := by
  rw [nI_leI hd hm]; omega
theorem adv2S {f : Nat → Int32} {n b p e : Nat} {k : Int32} (ep : p = rnE f 1 (n - b) b) (ek : k = srt (sgA f n p)) (ee : e = rnE f k (n - p) p) (c : k = 2) (c8 : ¬ 8 < e - p) : k = tkS f n b := by
  obtain ⟨h1, h2⟩ := adv_k ep ek
  have h3 := advE ep ek ee (Or.inl c)
  unfold tkS
  rw [← h3, h1, h2, if_pos c, if_neg c8]; exact c
theorem adv2N {f : Nat → Int32} {n b p e : Nat} {k : Int32} (ep : p = rnE f 1 (n - b) b) (ek : k = srt (sgA f n p)) (ee : e = rnE f k (n - p) p) (c : k = 2) (c8 : 8 < e - p) : 5 = tkS f n b := by
  obtain ⟨h1, h2⟩ := adv_k ep ek
  have h3 := advE ep ek ee (Or.inl c)
  unfold tkS
  rw [← h3, h1, h2, if_pos c, if_pos c8]
theorem adv3S {f : Nat → Int32} {n b p e : Nat} {k : Int32} (ep : p = rnE f 1 (n - b) b) (ek : k = srt (sgA f n p)) (ee : e = rnE f k (n - p) p) (c : k = 3) (c8 : ¬ 4 < e - p) : k = tkS f n b := by
  obtain ⟨h1, h2⟩ := adv_k ep ek
  have h3 := advE ep ek ee (Or.inr c)
  unfold tkS
  rw [← h3, h1, h2, if_neg (by rw [c]; decide), if_pos c, if_neg c8]; exact c
theorem adv3N {f : Nat → Int32} {n b p e : Nat} {k : Int32} (ep : p = rnE f 1 (n - b) b) (ek : k = srt (sgA f n p)) (ee : e = rnE f k (n - p) p) (c : k = 3) (c8 : 4 < e - p) : 5 = tkS f n b := by
  obtain ⟨h1, h2⟩ := adv_k ep ek
  have h3 := advE ep ek ee (Or.inr c)
  unfold tkS
  rw [← h3, h1, h2, if_neg (by rw [c]; decide), if_pos c, if_pos c8]
theorem advS0 {f : Nat → Int32} {n b p : Nat} {k : Int32} (ep : p = rnE f 1 (n - b) b) (ek : k = srt (sgA f n p)) (c2 : ¬ k = 2) (c3 : ¬ k = 3) : k = tkS f n b := by
  obtain ⟨h1, h2⟩ := adv_k ep ek
  unfold tkS
  rw [h2, if_neg c2, if_neg c3]
theorem advB1 {f : Nat → Int32} {n b p : Nat} {k : Int32} (ep : p = rnE f 1 (n - b) b) (ek : k = srt (sgA f n p)) (c2 : ¬ k = 2) (c3 : ¬ k = 3) (c0 : k = 0) : p = tkB f n b := by
  obtain ⟨h1, h2⟩ := adv_k ep ek
  unfold tkB
  rw [h1, h2, if_neg c2, if_neg c3, if_pos c0]
theorem advB0 {f : Nat → Int32} {n b p : Nat} {k : Int32} (ep : p = rnE f 1 (n - b) b) (ek : k = srt (sgA f n p)) (c2 : ¬ k = 2) (c3 : ¬ k = 3) (c0 : ¬ k = 0) : p + 1 = tkB f n b := by
  obtain ⟨h1, h2⟩ := adv_k ep ek
  unfold tkB
  rw [h1, h2, if_neg c2, if_neg c3, if_neg c0]
/-- the reader stands at token q.1 with fault q.2 -/
def rOK (f : Nat → Int32) (n : Nat) (q : Nat × Int32) (so pl bh fa : Int32) : Prop := so = aS f n q.1 ∧ pl = nI (aP f n q.1) ∧ bh = nI (bs f n (q.1 + 1)) ∧ fa = q.2
theorem rOK_of {f : Nat → Int32} {n : Nat} {q r : Nat × Int32} {so pl bh fa : Int32} (h : rOK f n q so pl bh fa) (e : q = r) : rOK f n r so pl bh fa := e ▸ h
def stR (t : TkS) (k : Nat) (q : Nat × Int32) : Nat × Int32 := if q.2 = 0 then flt t k q else q
theorem rOK_R1 {f : Nat → Int32} {n k : Nat} {q : Nat × Int32} {so pl bh fa : Int32} (h : rOK f n q so pl bh fa) (c : fa = 0) : rOK f n (stR (tkO f n) k q) so pl bh (nI (k + 16 * aP f n q.1)) := by
  unfold stR
  rw [if_pos (h.2.2.2.symm.trans c)]
  exact ⟨h.1, h.2.1, h.2.2.1, rfl⟩
theorem rOK_R0 {f : Nat → Int32} {n k : Nat} {q : Nat × Int32} {so pl bh fa : Int32} (h : rOK f n q so pl bh fa) (c : ¬ fa = 0) : rOK f n (stR (tkO f n) k q) so pl bh fa := by
  unfold stR
  rw [if_neg (fun z => c (h.2.2.2.trans z))]
  exact h
theorem rOK_mk {f : Nat → Int32} {n j b : Nat} {so pl bh fa : Int32} (eb : b = bs f n j) (h1 : so = tkS f n b) (h2 : pl = nI (tkP f n b)) (h3 : bh = nI (tkB f n b)) : rOK f n (j, fa) so pl bh fa := by
  rw [eb] at h1 h2 h3
  exact ⟨h1, h2, h3, rfl⟩
theorem stN_no {t : TkS} {q : Nat × Int32} {top : Nat} (c : ¬ t.S q.1 = 3) : stR t 1 q = stN t top q := by
  unfold stR stN
  rw [if_neg c]
theorem stN_big {t : TkS} {q : Nat × Int32} {top : Nat} (c : t.S q.1 = 3) (d : ¬ t.V q.1 ≤ nI top) : stR t 4 q = stN t top q := by
  unfold stR stN
  rw [if_pos c, if_neg d]
theorem stN_ok {t : TkS} {q : Nat × Int32} {top : Nat} {fa : Int32} (c : t.S q.1 = 3) (d : t.V q.1 ≤ nI top) (e : fa = q.2) (z : fa = 0) : (q.1 + 1, fa) = stN t top q := by
  unfold stN
  rw [if_pos c, if_pos d, if_pos (e.symm.trans z), z]
theorem stN_keep {t : TkS} {q : Nat × Int32} {top : Nat} (z : ¬ q.2 = 0) : q = stN t top q := by
  unfold stN
  rw [if_neg z]
theorem stX_0 {t : TkS} {q : Nat × Int32} {b : Int32} (c : b = 0) : stR t 1 q = stX t b q := by
  unfold stR stX
  rw [if_pos c]
theorem stX_1 {t : TkS} {q : Nat × Int32} {b fa : Int32} (c : ¬ b = 0) (e : fa = q.2) (z : fa = 0) : (q.1 + 1, fa) = stX t b q := by
  unfold stX
  rw [if_neg c, if_pos (e.symm.trans z), z]
theorem stX_k {t : TkS} {q : Nat × Int32} {b : Int32} (z : ¬ q.2 = 0) : q = stX t b q := by
  unfold stX
  rw [if_neg z]
theorem byt255 : ∀ i : Nat, i < 12 → ∀ k : Nat, k < lenS.getD i 0 → ((bytS.getD i []).getD k 0 &&& 255) = (bytS.getD i []).getD k 0 := by decide
theorem eqB_step {f : Nat → Int32} {l : List Int32} {a k : Nat} (h : k < l.length) : eqB f (a + k) (l.drop k) = if f (a + k) = l.getD k 0 then eqB f (a + (k + 1)) (l.drop (k + 1)) else 0 := by
  rw [List.drop_eq_getElem_cons h, show l.getD k 0 = l[k] by simp [h]]
  rfl
def emV (t : TkS) (j : Nat) : Int32 := if t.T j 9 = 0 then (if t.T j 10 = 0 then (if t.T j 11 = 0 then 0 else 6) else 5) else 4
set_option maxHeartbeats 4000000 in
set_option maxRecDepth 100000 in
theorem k_signAt (l : Launch) (dC : Nat → ClassId) (dI : Nat → Nat → Nat) (cI cZ cC cJ : ClassId) (sz : Nat) (h0 : Nat) (sA : Nat) (nq : Nat) (fs : Nat → Int32) (pq : Nat) (hnq : nq ≤ 1600) (hpq : pq < 2 ^ 31) : Met l yX3_signAt wsX3_signAt ({ frames := 0, cells := 0, slots := 0, locals := 0 }) (va_Pc [.ref h0, .int (nI pq)] (sPre dC dI cI cZ cC cJ [(h0, .inr (3, [.ref sA, .int (nI nq)])), (sA, .inl (cC, 1600, .inl fs))] sz)) (va_Qi (fun (r : Int32) (u : Unit) => r = sgA fs nq pq) (fun _ => sB dC dI (va_A [(h0, .inr (3, [.ref sA, .int (nI nq)])), (sA, .inl (cC, 1600, .inl fs))] sz) [(h0, .inr (3, [.ref sA, .int (nI nq)])), (sA, .inl (cC, 1600, .inl fs))]) (va_A [(h0, .inr (3, [.ref sA, .int (nI nq)])), (sA, .inl (cC, 1600, .inl fs))] sz)) 0 0 (va_A [(h0, .inr (3, [.ref sA, .int (nI nq)])), (sA, .inl (cC, 1600, .inl fs))] sz) := by
  refine Met.ofW (cc := cX3_signAt) (maxL := 2) (ret := (some .int)) (by decide) rfl ?_
  intro p e s m args below meth c s₁ B hml hv
  obtain ⟨rfl, hsz, hP, hsk, hD0⟩ := hv
  have hx := B.exec
  have hb := B.bytes
  have hr := B.returns
  have hts := atoms_spec (ws := wsX3_signAt) B.pre
  have hown : s.vm.findClass RX3 = some m.cls := findClass_of_methodNamed B.named
  have hlocks := B.notSynchronized
  have hK := hsk.1
  have i3 : ∀ w ∈ wsX30, w ∈ wsX3_signAt := by decide +kernel
  subst hsz
  have hD := hD0.self (sz := s.heap.size)
  generalize hAe : va_A [(h0, .inr (3, [.ref sA, .int (nI nq)])), (sA, .inl (cC, 1600, .inl fs))] s.heap.size = A at hD ⊢
  have hA : ∀ q : Nat, s.heap.size ≤ q → A q := fun q h => by rw [← hAe]; exact Or.inr h
  have hS : va_S A s.heap s.heap [] := va_S.rf
  have hl := lv_entry ([.ref h0, .int (nI pq)]) (n := 2) (Nat.le_of_ble_eq_true rfl)
  rw [lg_entry_eq]
  generalize (lg_sl ([.ref h0, .int (nI pq)]) ++ List.replicate (2 - (lg_sl ([.ref h0, .int (nI pq)])).length) Slot.unset).toArray = ls at hl ⊢
  have hl : lv_has ls 2 [(0, .ref h0), (1, .int (nI pq))] := hl
  refine lv_iload_n hx hb dX3_signAt_0 rfl (lv_at hl 1 rfl) ?_
  refine lv_if_lt (tgt := 28) hx hb dX3_signAt_1 (by decide) (fun h9 => absurd h9 (nI_pos hpq)) (fun _ => ?_)
  refine lv_iload_n hx hb dX3_signAt_4 rfl (lv_at hl 1 rfl) ?_
  refine lv_aload_n hx hb dX3_signAt_5 rfl (lv_at hl 0 rfl) ?_
  refine va_get (D := (dC, dI)) (ci := 3) (v := .int (nI nq)) (C := RX3) (T := TX3) (N := 2) hx hb hts i3 hown hK hP 0 rfl rfl 1 (by decide) (hts (.fieldLink RX3 17 "StopSetter$Tape" "length" "I") (by decide +kernel)) (fun _ h9 => h9) rfl dX3_signAt_6 ?_
  refine lv_icmp_ge (tgt := 28) hx hb dX3_signAt_9 (by decide) (fun c_9 => ?_) (fun c_9 => ?_)
  · skip
    refine lv_iconst (v := (-1)) hx hb dX3_signAt_28 (by decide) ?_
    have hP9 := hP.sub (ws' := [(h0, .inr (3, [.ref sA, .int (nI nq)])), (sA, .inl (cC, 1600, .inl fs))]) [0, 1] rfl
    have hD9 := hD.sub (ws' := [(h0, .inr (3, [.ref sA, .int (nI nq)])), (sA, .inl (cC, 1600, .inl fs))]) [0, 1] (by decide) rfl
    exact W.iret (v := (-1)) hx hb hr (fun t ht hW => ⟨⟨(-1), (), rfl, (by unfold sgA; rw [if_neg (by have := (nI_leI (a := nq) (b := pq) (by omega) hpq).mp c_9; omega)]), by rw [ht]; exact hP9, hD9⟩, hS.F ht⟩) hS.2.2 dX3_signAt_29
  · skip
    have hlt : pq < nq := nk_lt rfl c_9 hpq
    refine lv_iload_n hx hb dX3_signAt_12 rfl (lv_at hl 1 rfl) ?_
    refine lv_sipush (v := 1600) hx hb dX3_signAt_13 (by decide) ?_
    refine lv_icmp_ge (tgt := 28) hx hb dX3_signAt_16 (by decide) (fun h9 => absurd h9 (nI_ge (a := pq) (b := 1600) (by omega) (by decide))) (fun _ => ?_)
    refine lv_aload_n hx hb dX3_signAt_19 rfl (lv_at hl 0 rfl) ?_
    refine va_get (D := (dC, dI)) (ci := 3) (v := .ref sA) (C := RX3) (T := TX3) (N := 2) hx hb hts i3 hown hK hP 0 rfl rfl 0 (by decide) (hts (.fieldLink RX3 9 "StopSetter$Tape" "signs" "[C") (by decide +kernel)) (fun _ h9 => h9) rfl dX3_signAt_20 ?_
    refine lv_iload_n hx hb dX3_signAt_23 rfl (lv_at hl 1 rfl) ?_
    refine va_cald hx hb hK hP 1 2 rfl rfl (vp_in_nI (by omega) (by decide)) dX3_signAt_24 ?_
    refine lv_topi (fun v_ ev_ => ?_)
    obtain rfl : v_ = (fs pq) := ev_.trans (by rw [nI_clamp (by omega)])
    refine lv_goto (tgt := 29) hx hb dX3_signAt_25 (by decide) ?_
    have hP9 := hP.sub (ws' := [(h0, .inr (3, [.ref sA, .int (nI nq)])), (sA, .inl (cC, 1600, .inl fs))]) [0, 1] rfl
    have hD9 := hD.sub (ws' := [(h0, .inr (3, [.ref sA, .int (nI nq)])), (sA, .inl (cC, 1600, .inl fs))]) [0, 1] (by decide) rfl
    exact W.iret (v := (fs pq)) hx hb hr (fun t ht hW => ⟨⟨(fs pq), (), rfl, (by unfold sgA; rw [if_pos hlt]), by rw [ht]; exact hP9, hD9⟩, hS.F ht⟩) hS.2.2 dX3_signAt_29
set_option maxHeartbeats 4000000 in
set_option maxRecDepth 100000 in
theorem k_sortOf (l : Launch) (dC : Nat → ClassId) (dI : Nat → Nat → Nat) (cI cZ cC cJ : ClassId) (sz : Nat) (p0 : Int32)  : Met l yX2_sortOf wsX2_sortOf ({ frames := 0, cells := 0, slots := 0, locals := 0 }) (va_Pc [.int p0] (sPre dC dI cI cZ cC cJ [] sz)) (va_Qi (fun (r : Int32) (u : Unit) => r = srt p0) (fun _ => sB dC dI (va_A [] sz) []) (va_A [] sz)) 0 0 (va_A [] sz) := by
  refine Met.ofW (cc := cX2_sortOf) (maxL := 1) (ret := (some .int)) (by decide) rfl ?_
  intro p e s m args below meth c s₁ B hml hv
  obtain ⟨rfl, hsz, hP, hsk, hD0⟩ := hv
  have hx := B.exec
  have hb := B.bytes
  have hr := B.returns
  have hts := atoms_spec (ws := wsX2_sortOf) B.pre
  have hown : s.vm.findClass RX2 = some m.cls := findClass_of_methodNamed B.named
  have hlocks := B.notSynchronized
  have hK := hsk.1
  subst hsz
  have hD := hD0.self (sz := s.heap.size)
  generalize hAe : va_A [] s.heap.size = A at hD ⊢
  have hA : ∀ q : Nat, s.heap.size ≤ q → A q := fun q h => by rw [← hAe]; exact Or.inr h
  have hS : va_S A s.heap s.heap [] := va_S.rf
  have hl := lv_entry ([.int p0]) (n := 1) (Nat.le_of_ble_eq_true rfl)
  rw [lg_entry_eq]
  generalize (lg_sl ([.int p0]) ++ List.replicate (1 - (lg_sl ([.int p0])).length) Slot.unset).toArray = ls at hl ⊢
  have hl : lv_has ls 1 [(0, .int p0)] := hl
  refine lv_iload_n hx hb dX2_sortOf_0 rfl (lv_at hl 0 rfl) ?_
  refine lv_iconst (v := (-1)) hx hb dX2_sortOf_1 (by decide) ?_
  refine lv_icmp_ne (tgt := 7) hx hb dX2_sortOf_2 (by decide) (fun c_2 => ?_) (fun c_2 => ?_)
  · skip
    refine lv_iload_n hx hb dX2_sortOf_7 rfl (lv_at hl 0 rfl) ?_
    refine lv_bipush (v := 10) hx hb dX2_sortOf_8 (by decide) ?_
    refine lv_icmp_eq (tgt := 19) hx hb dX2_sortOf_10 (by decide) (fun c_10 => ?_) (fun c_10 => ?_)
    · skip
      refine lv_iconst (v := 1) hx hb dX2_sortOf_19 (by decide) ?_
      have hP9 := hP.sub (ws' := []) [] rfl
      have hD9 := hD.sub (ws' := []) [] (by decide) rfl
      exact W.iret (v := 1) hx hb hr (fun t ht hW => ⟨⟨1, (), rfl, (by simp only [srt, if_neg c_2, if_pos c_10]), by rw [ht]; exact hP9, hD9⟩, hS.F ht⟩) hS.2.2 dX2_sortOf_20
    · skip
      refine lv_iload_n hx hb dX2_sortOf_13 rfl (lv_at hl 0 rfl) ?_
      refine lv_bipush (v := 32) hx hb dX2_sortOf_14 (by decide) ?_
      refine lv_icmp_ne (tgt := 21) hx hb dX2_sortOf_16 (by decide) (fun c_16 => ?_) (fun c_16 => ?_)
      · skip
        refine lv_iload_n hx hb dX2_sortOf_21 rfl (lv_at hl 0 rfl) ?_
        refine lv_bipush (v := 97) hx hb dX2_sortOf_22 (by decide) ?_
        refine lv_icmp_lt (tgt := 35) hx hb dX2_sortOf_24 (by decide) (fun c_24 => ?_) (fun c_24 => ?_)
        · skip
          refine lv_iload_n hx hb dX2_sortOf_35 rfl (lv_at hl 0 rfl) ?_
          refine lv_bipush (v := 48) hx hb dX2_sortOf_36 (by decide) ?_
          refine lv_icmp_lt (tgt := 49) hx hb dX2_sortOf_38 (by decide) (fun c_38 => ?_) (fun c_38 => ?_)
          · skip
            refine lv_iload_n hx hb dX2_sortOf_49 rfl (lv_at hl 0 rfl) ?_
            refine lv_bipush (v := 59) hx hb dX2_sortOf_50 (by decide) ?_
            refine lv_icmp_ne (tgt := 59) hx hb dX2_sortOf_52 (by decide) (fun c_52 => ?_) (fun c_52 => ?_)
            · skip
              refine lv_iconst (v := 5) hx hb dX2_sortOf_59 (by decide) ?_
              have hP9 := hP.sub (ws' := []) [] rfl
              have hD9 := hD.sub (ws' := []) [] (by decide) rfl
              exact W.iret (v := 5) hx hb hr (fun t ht hW => ⟨⟨5, (), rfl, (by simp only [srt, if_neg c_2, if_neg c_10, if_neg c_16, if_pos c_24, if_pos c_38, if_neg c_52]), by rw [ht]; exact hP9, hD9⟩, hS.F ht⟩) hS.2.2 dX2_sortOf_60
            · skip
              refine lv_iconst (v := 4) hx hb dX2_sortOf_55 (by decide) ?_
              refine lv_goto (tgt := 60) hx hb dX2_sortOf_56 (by decide) ?_
              have hP9 := hP.sub (ws' := []) [] rfl
              have hD9 := hD.sub (ws' := []) [] (by decide) rfl
              exact W.iret (v := 4) hx hb hr (fun t ht hW => ⟨⟨4, (), rfl, (by simp only [srt, if_neg c_2, if_neg c_10, if_neg c_16, if_pos c_24, if_pos c_38, if_pos c_52]), by rw [ht]; exact hP9, hD9⟩, hS.F ht⟩) hS.2.2 dX2_sortOf_60
          · skip
            refine lv_iload_n hx hb dX2_sortOf_41 rfl (lv_at hl 0 rfl) ?_
            refine lv_bipush (v := 57) hx hb dX2_sortOf_42 (by decide) ?_
            refine lv_icmp_gt (tgt := 49) hx hb dX2_sortOf_44 (by decide) (fun c_44 => ?_) (fun c_44 => ?_)
            · skip
              refine lv_iload_n hx hb dX2_sortOf_49 rfl (lv_at hl 0 rfl) ?_
              refine lv_bipush (v := 59) hx hb dX2_sortOf_50 (by decide) ?_
              refine lv_icmp_ne (tgt := 59) hx hb dX2_sortOf_52 (by decide) (fun c_52 => ?_) (fun c_52 => ?_)
              · skip
                refine lv_iconst (v := 5) hx hb dX2_sortOf_59 (by decide) ?_
                have hP9 := hP.sub (ws' := []) [] rfl
                have hD9 := hD.sub (ws' := []) [] (by decide) rfl
                exact W.iret (v := 5) hx hb hr (fun t ht hW => ⟨⟨5, (), rfl, (by simp only [srt, if_neg c_2, if_neg c_10, if_neg c_16, if_pos c_24, if_neg c_38, if_pos c_44, if_neg c_52]), by rw [ht]; exact hP9, hD9⟩, hS.F ht⟩) hS.2.2 dX2_sortOf_60
              · skip
                refine lv_iconst (v := 4) hx hb dX2_sortOf_55 (by decide) ?_
                refine lv_goto (tgt := 60) hx hb dX2_sortOf_56 (by decide) ?_
                have hP9 := hP.sub (ws' := []) [] rfl
                have hD9 := hD.sub (ws' := []) [] (by decide) rfl
                exact W.iret (v := 4) hx hb hr (fun t ht hW => ⟨⟨4, (), rfl, (by simp only [srt, if_neg c_2, if_neg c_10, if_neg c_16, if_pos c_24, if_neg c_38, if_pos c_44, if_pos c_52]), by rw [ht]; exact hP9, hD9⟩, hS.F ht⟩) hS.2.2 dX2_sortOf_60
            · skip
              refine lv_iconst (v := 3) hx hb dX2_sortOf_47 (by decide) ?_
              have hP9 := hP.sub (ws' := []) [] rfl
              have hD9 := hD.sub (ws' := []) [] (by decide) rfl
              exact W.iret (v := 3) hx hb hr (fun t ht hW => ⟨⟨3, (), rfl, (by simp only [srt, if_neg c_2, if_neg c_10, if_neg c_16, if_pos c_24, if_neg c_38, if_neg c_44]), by rw [ht]; exact hP9, hD9⟩, hS.F ht⟩) hS.2.2 dX2_sortOf_48
        · skip
          refine lv_iload_n hx hb dX2_sortOf_27 rfl (lv_at hl 0 rfl) ?_
          refine lv_bipush (v := 122) hx hb dX2_sortOf_28 (by decide) ?_
          refine lv_icmp_gt (tgt := 35) hx hb dX2_sortOf_30 (by decide) (fun c_30 => ?_) (fun c_30 => ?_)
          · skip
            refine lv_iload_n hx hb dX2_sortOf_35 rfl (lv_at hl 0 rfl) ?_
            refine lv_bipush (v := 48) hx hb dX2_sortOf_36 (by decide) ?_
            refine lv_icmp_lt (tgt := 49) hx hb dX2_sortOf_38 (by decide) (fun c_38 => ?_) (fun c_38 => ?_)
            · skip
              refine lv_iload_n hx hb dX2_sortOf_49 rfl (lv_at hl 0 rfl) ?_
              refine lv_bipush (v := 59) hx hb dX2_sortOf_50 (by decide) ?_
              refine lv_icmp_ne (tgt := 59) hx hb dX2_sortOf_52 (by decide) (fun c_52 => ?_) (fun c_52 => ?_)
              · skip
                refine lv_iconst (v := 5) hx hb dX2_sortOf_59 (by decide) ?_
                have hP9 := hP.sub (ws' := []) [] rfl
                have hD9 := hD.sub (ws' := []) [] (by decide) rfl
                exact W.iret (v := 5) hx hb hr (fun t ht hW => ⟨⟨5, (), rfl, (by simp only [srt, if_neg c_2, if_neg c_10, if_neg c_16, if_neg c_24, if_pos c_30, if_pos c_38, if_neg c_52]), by rw [ht]; exact hP9, hD9⟩, hS.F ht⟩) hS.2.2 dX2_sortOf_60
              · skip
                refine lv_iconst (v := 4) hx hb dX2_sortOf_55 (by decide) ?_
                refine lv_goto (tgt := 60) hx hb dX2_sortOf_56 (by decide) ?_
                have hP9 := hP.sub (ws' := []) [] rfl
                have hD9 := hD.sub (ws' := []) [] (by decide) rfl
                exact W.iret (v := 4) hx hb hr (fun t ht hW => ⟨⟨4, (), rfl, (by simp only [srt, if_neg c_2, if_neg c_10, if_neg c_16, if_neg c_24, if_pos c_30, if_pos c_38, if_pos c_52]), by rw [ht]; exact hP9, hD9⟩, hS.F ht⟩) hS.2.2 dX2_sortOf_60
            · skip
              refine lv_iload_n hx hb dX2_sortOf_41 rfl (lv_at hl 0 rfl) ?_
              refine lv_bipush (v := 57) hx hb dX2_sortOf_42 (by decide) ?_
              refine lv_icmp_gt (tgt := 49) hx hb dX2_sortOf_44 (by decide) (fun c_44 => ?_) (fun c_44 => ?_)
              · skip
                refine lv_iload_n hx hb dX2_sortOf_49 rfl (lv_at hl 0 rfl) ?_
                refine lv_bipush (v := 59) hx hb dX2_sortOf_50 (by decide) ?_
                refine lv_icmp_ne (tgt := 59) hx hb dX2_sortOf_52 (by decide) (fun c_52 => ?_) (fun c_52 => ?_)
                · skip
                  refine lv_iconst (v := 5) hx hb dX2_sortOf_59 (by decide) ?_
                  have hP9 := hP.sub (ws' := []) [] rfl
                  have hD9 := hD.sub (ws' := []) [] (by decide) rfl
                  exact W.iret (v := 5) hx hb hr (fun t ht hW => ⟨⟨5, (), rfl, (by simp only [srt, if_neg c_2, if_neg c_10, if_neg c_16, if_neg c_24, if_pos c_30, if_neg c_38, if_pos c_44, if_neg c_52]), by rw [ht]; exact hP9, hD9⟩, hS.F ht⟩) hS.2.2 dX2_sortOf_60
                · skip
                  refine lv_iconst (v := 4) hx hb dX2_sortOf_55 (by decide) ?_
                  refine lv_goto (tgt := 60) hx hb dX2_sortOf_56 (by decide) ?_
                  have hP9 := hP.sub (ws' := []) [] rfl
                  have hD9 := hD.sub (ws' := []) [] (by decide) rfl
                  exact W.iret (v := 4) hx hb hr (fun t ht hW => ⟨⟨4, (), rfl, (by simp only [srt, if_neg c_2, if_neg c_10, if_neg c_16, if_neg c_24, if_pos c_30, if_neg c_38, if_pos c_44, if_pos c_52]), by rw [ht]; exact hP9, hD9⟩, hS.F ht⟩) hS.2.2 dX2_sortOf_60
              · skip
                refine lv_iconst (v := 3) hx hb dX2_sortOf_47 (by decide) ?_
                have hP9 := hP.sub (ws' := []) [] rfl
                have hD9 := hD.sub (ws' := []) [] (by decide) rfl
                exact W.iret (v := 3) hx hb hr (fun t ht hW => ⟨⟨3, (), rfl, (by simp only [srt, if_neg c_2, if_neg c_10, if_neg c_16, if_neg c_24, if_pos c_30, if_neg c_38, if_neg c_44]), by rw [ht]; exact hP9, hD9⟩, hS.F ht⟩) hS.2.2 dX2_sortOf_48
          · skip
            refine lv_iconst (v := 2) hx hb dX2_sortOf_33 (by decide) ?_
            have hP9 := hP.sub (ws' := []) [] rfl
            have hD9 := hD.sub (ws' := []) [] (by decide) rfl
            exact W.iret (v := 2) hx hb hr (fun t ht hW => ⟨⟨2, (), rfl, (by simp only [srt, if_neg c_2, if_neg c_10, if_neg c_16, if_neg c_24, if_neg c_30]), by rw [ht]; exact hP9, hD9⟩, hS.F ht⟩) hS.2.2 dX2_sortOf_34
      · skip
        refine lv_iconst (v := 1) hx hb dX2_sortOf_19 (by decide) ?_
        have hP9 := hP.sub (ws' := []) [] rfl
        have hD9 := hD.sub (ws' := []) [] (by decide) rfl
        exact W.iret (v := 1) hx hb hr (fun t ht hW => ⟨⟨1, (), rfl, (by simp only [srt, if_neg c_2, if_neg c_10, if_pos c_16]), by rw [ht]; exact hP9, hD9⟩, hS.F ht⟩) hS.2.2 dX2_sortOf_20
  · skip
    refine lv_iconst (v := 0) hx hb dX2_sortOf_5 (by decide) ?_
    have hP9 := hP.sub (ws' := []) [] rfl
    have hD9 := hD.sub (ws' := []) [] (by decide) rfl
    exact W.iret (v := 0) hx hb hr (fun t ht hW => ⟨⟨0, (), rfl, (by simp only [srt, if_pos c_2]), by rw [ht]; exact hP9, hD9⟩, hS.F ht⟩) hS.2.2 dX2_sortOf_6
set_option maxHeartbeats 4000000 in
set_option maxRecDepth 100000 in
theorem k_runEnd (l : Launch) (dC : Nat → ClassId) (dI : Nat → Nat → Nat) (cI cZ cC cJ : ClassId) (sz : Nat) (h0 : Nat) (tO : Nat) (so : Int32) (pl : Int32) (bh : Int32) (fa_ : Int32) (sA : Nat) (nq : Nat) (fs : Nat → Int32) (aq : Nat) (p1 : Int32) (hnq : nq ≤ 1600) (haq : aq ≤ nq) : Met l yX2_runEnd wsX2_runEnd ({ frames := 1, cells := 0, slots := 0, locals := 21 }) (va_Pc [.ref h0, .int (nI aq), .int p1] (sPre dC dI cI cZ cC cJ [(h0, .inr (2, [.ref tO, .int so, .int pl, .int bh, .int fa_])), (tO, .inr (3, [.ref sA, .int (nI nq)])), (sA, .inl (cC, 1600, .inl fs))] sz)) (va_Qi (fun (r : Int32) (u : Unit) => r = nI (rnE fs p1 (nq - aq) aq)) (fun _ => sB dC dI (va_A [(h0, .inr (2, [.ref tO, .int so, .int pl, .int bh, .int fa_])), (tO, .inr (3, [.ref sA, .int (nI nq)])), (sA, .inl (cC, 1600, .inl fs))] sz) [(h0, .inr (2, [.ref tO, .int so, .int pl, .int bh, .int fa_])), (tO, .inr (3, [.ref sA, .int (nI nq)])), (sA, .inl (cC, 1600, .inl fs))]) (va_A [(h0, .inr (2, [.ref tO, .int so, .int pl, .int bh, .int fa_])), (tO, .inr (3, [.ref sA, .int (nI nq)])), (sA, .inl (cC, 1600, .inl fs))] sz)) 0 0 (va_A [(h0, .inr (2, [.ref tO, .int so, .int pl, .int bh, .int fa_])), (tO, .inr (3, [.ref sA, .int (nI nq)])), (sA, .inl (cC, 1600, .inl fs))] sz) := by
  refine Met.ofW (cc := cX2_runEnd) (maxL := 4) (ret := (some .int)) (by decide) rfl ?_
  intro p e s m args below meth c s₁ B hml hv
  obtain ⟨rfl, hsz, hP, hsk, hD0⟩ := hv
  have hx := B.exec
  have hb := B.bytes
  have hr := B.returns
  have hts := atoms_spec (ws := wsX2_runEnd) B.pre
  have hown : s.vm.findClass RX2 = some m.cls := findClass_of_methodNamed B.named
  have hlocks := B.notSynchronized
  have hK := hsk.1
  have i2 : ∀ w ∈ wsX20, w ∈ wsX2_runEnd := by decide +kernel
  have i3 : ∀ w ∈ wsX30, w ∈ wsX2_runEnd := by decide +kernel
  subst hsz
  have hD := hD0.self (sz := s.heap.size)
  generalize hAe : va_A [(h0, .inr (2, [.ref tO, .int so, .int pl, .int bh, .int fa_])), (tO, .inr (3, [.ref sA, .int (nI nq)])), (sA, .inl (cC, 1600, .inl fs))] s.heap.size = A at hD ⊢
  have hA : ∀ q : Nat, s.heap.size ≤ q → A q := fun q h => by rw [← hAe]; exact Or.inr h
  have hS : va_S A s.heap s.heap [] := va_S.rf
  have hl := lv_entry ([.ref h0, .int (nI aq), .int p1]) (n := 4) (Nat.le_of_ble_eq_true rfl)
  rw [lg_entry_eq]
  generalize (lg_sl ([.ref h0, .int (nI aq), .int p1]) ++ List.replicate (4 - (lg_sl ([.ref h0, .int (nI aq), .int p1])).length) Slot.unset).toArray = ls at hl ⊢
  have hl : lv_has ls 4 [(0, .ref h0), (1, .int (nI aq)), (2, .int p1)] := hl
  obtain ⟨Rq, eRq⟩ : ∃ R9, R9 = rnE fs p1 (nq - aq) aq := ⟨_, rfl⟩
  refine lv_iload_n hx hb dX2_runEnd_0 rfl (lv_at hl 1 rfl) ?_
  refine lv_istore_n (lv' := [(3, .int (nI aq)), (0, .ref h0), (1, .int (nI aq)), (2, .int p1)]) hx hb dX2_runEnd_1 rfl hl (by decide) rfl (fun ls hl => ?_)
  have lp_2 : ∀ (n_2 : Nat) (ivq : Nat), nq + 1 ≤ ivq + n_2 → ivq ≤ nq → rnE fs p1 (nq - ivq) ivq = Rq → ∀ (H : Heap) (locs : List Loc) (ls : Array Slot), va_P (dC, dI) vwCl [(h0, .inr (2, [.ref tO, .int so, .int pl, .int bh, .int fa_])), (tO, .inr (3, [.ref sA, .int (nI nq)])), (sA, .inl (cC, 1600, .inl fs))] H → va_D A [(h0, .inr (2, [.ref tO, .int so, .int pl, .int bh, .int fa_])), (tO, .inr (3, [.ref sA, .int (nI nq)])), (sA, .inl (cC, 1600, .inl fs))] → va_S A s.heap H locs → lv_has ls 4 [(3, .int (nI ivq)), (0, .ref h0), (1, .int (nI aq)), (2, .int p1)] → W p l e (headSpec wsX2_runEnd ({ frames := 1, cells := 0, slots := 0, locals := 21 })).room s m ([.ref h0, .int (nI aq), .int p1]).toArray below meth c H locs 0 0 (MQ below (va_Qi (fun (r : Int32) (u : Unit) => r = nI (rnE fs p1 (nq - aq) aq)) (fun _ => sB dC dI A [(h0, .inr (2, [.ref tO, .int so, .int pl, .int bh, .int fa_])), (tO, .inr (3, [.ref sA, .int (nI nq)])), (sA, .inl (cC, 1600, .inl fs))]) A) ([.ref h0, .int (nI aq), .int p1]).toArray s 0 0 A) (F0 m 2 ls []) := by
    intro n_2
    induction n_2 with
    | zero =>
      intro ivq fuel_2 hiv hRq
      exact absurd fuel_2 (by omega)
    | succ n_2 ih_2 =>
      intro ivq fuel_2 hiv hRq H locs ls hP hD hS hl
      refine lv_iload_n hx hb dX2_runEnd_2 rfl (lv_at hl 0 rfl) ?_
      refine lv_aload_n hx hb dX2_runEnd_3 rfl (lv_at hl 1 rfl) ?_
      refine va_get (D := (dC, dI)) (ci := 2) (v := .ref tO) (C := RX2) (T := TX2) (N := 5) hx hb hts i2 hown hK hP 0 rfl rfl 0 (by decide) (hts (.fieldLink RX2 9 "StopSetter$Reader" "tape" "LStopSetter$Tape;") (by decide +kernel)) (fun _ h9 => h9) rfl dX2_runEnd_4 ?_
      refine va_getN (D := (dC, dI)) (ci := 3) (v := .int (nI nq)) (C := RX3) (T := TX3) (N := 2) hx hb hts i3 hown hK hP 1 rfl rfl 1 (by decide) (va_Nw.use rfl (hsk.2.1 ("StopSetter$Reader", 119, "StopSetter$Tape", "length", "I", "StopSetter") (by decide +kernel))) (fun _ h9 => h9) rfl dX2_runEnd_7 ?_
      refine lv_icmp_ge (tgt := 36) hx hb dX2_runEnd_10 (by decide) (fun c_10 => ?_) (fun c_10 => ?_)
      · skip
        refine lv_aload_n hx hb dX2_runEnd_36 rfl (lv_at hl 1 rfl) ?_
        refine va_get (D := (dC, dI)) (ci := 2) (v := .ref tO) (C := RX2) (T := TX2) (N := 5) hx hb hts i2 hown hK hP 0 rfl rfl 0 (by decide) (hts (.fieldLink RX2 9 "StopSetter$Reader" "tape" "LStopSetter$Tape;") (by decide +kernel)) (fun _ h9 => h9) rfl dX2_runEnd_37 ?_
        refine va_getN (D := (dC, dI)) (ci := 3) (v := .int (nI nq)) (C := RX3) (T := TX3) (N := 2) hx hb hts i3 hown hK hP 1 rfl rfl 1 (by decide) (va_Nw.use rfl (hsk.2.1 ("StopSetter$Reader", 119, "StopSetter$Tape", "length", "I", "StopSetter") (by decide +kernel))) (fun _ h9 => h9) rfl dX2_runEnd_40 ?_
        have hP9 := hP.sub (ws' := [(h0, .inr (2, [.ref tO, .int so, .int pl, .int bh, .int fa_])), (tO, .inr (3, [.ref sA, .int (nI nq)])), (sA, .inl (cC, 1600, .inl fs))]) [0, 1, 2] rfl
        have hD9 := hD.sub (ws' := [(h0, .inr (2, [.ref tO, .int so, .int pl, .int bh, .int fa_])), (tO, .inr (3, [.ref sA, .int (nI nq)])), (sA, .inl (cC, 1600, .inl fs))]) [0, 1, 2] (by decide) rfl
        exact W.iret (v := (nI nq)) hx hb hr (fun t ht hW => ⟨⟨(nI nq), (), rfl, (by rw [← eRq, ← hRq, rnE_end (by have := (nI_leI (a := nq) (b := ivq) (by omega) (by omega)).mp c_10; omega), show ivq = nq by have := (nI_leI (a := nq) (b := ivq) (by omega) (by omega)).mp c_10; omega]), by rw [ht]; exact hP9, hD9⟩, hS.F ht⟩) hS.2.2 dX2_runEnd_43
      · skip
        have hlt : ivq < nq := nk_lt rfl c_10 (by omega)
        refine lv_aload_n hx hb dX2_runEnd_13 rfl (lv_at hl 1 rfl) ?_
        refine va_get (D := (dC, dI)) (ci := 2) (v := .ref tO) (C := RX2) (T := TX2) (N := 5) hx hb hts i2 hown hK hP 0 rfl rfl 0 (by decide) (hts (.fieldLink RX2 9 "StopSetter$Reader" "tape" "LStopSetter$Tape;") (by decide +kernel)) (fun _ h9 => h9) rfl dX2_runEnd_14 ?_
        refine lv_iload_n hx hb dX2_runEnd_17 rfl (lv_at hl 0 rfl) ?_
        have hPc := hP.sub (ws' := [(tO, .inr (3, [.ref sA, .int (nI nq)])), (sA, .inl (cC, 1600, .inl fs))]) [1, 2] rfl
        have hDc := hD.sub (ws' := [(tO, .inr (3, [.ref sA, .int (nI nq)])), (sA, .inl (cC, 1600, .inl fs))]) [1, 2] (by decide) rfl
        have hFc := va_free (wc := [(tO, .inr (3, [.ref sA, .int (nI nq)])), (sA, .inl (cC, 1600, .inl fs))]) hD hS hA [1, 2] rfl
        refine va_calli (va_runV (As := [.int (nI ivq)]) (rest := []) ⟨hx, hb, hml, hown, hts⟩ (k_signAt l dC dI cI cZ cC cJ H.size  tO sA nq fs ivq (by first | assumption | decide | omega) (by omega)) (cwV 1 hts gX2_runEnd_X3_signAt rfl rfl rfl (by decide +kernel) ⟨Nat.le_of_ble_eq_true rfl, Nat.le_of_ble_eq_true rfl⟩) ⟨sPre_blind, va_recv hK hPc (ci := 3) (q0 := 0) rfl rfl, fun U hU hW => ⟨rfl, sPre_ok hsk hPc hDc hU hW⟩⟩ rfl rfl hl.1 rfl (lv_room (Nat.le_of_ble_eq_true rfl)) dX2_runEnd_18 ⟨(show 0 + 0 ≤ 0 by omega), (show 0 + 0 ≤ 0 by omega)⟩) hS (fun q _ h => hFc q h) hFc (fun r_1 u t H1 locs ht hvm hw hB hz1 hk1 hS => ?_)
        try dsimp only at hw hB
        have hw_2 := hw
        obtain rfl : r_1 = sgA fs nq ivq := hw_2
        obtain ⟨hP1, hD1⟩ := hB
        rw [ht] at hP1
        obtain ⟨hP, hD⟩ := va_join (wr := [(h0, .inr (2, [.ref tO, .int so, .int pl, .int bh, .int fa_]))]) (w1 := [(tO, .inr (3, [.ref sA, .int (nI nq)])), (sA, .inl (cC, 1600, .inl fs))]) hP hD [1, 2] [0] rfl rfl (by decide) (by decide) hk1 hFc hP1 hD1
        generalize H1 = H at hP hS ⊢
        have hP : va_P (dC, dI) vwCl [(h0, .inr (2, [.ref tO, .int so, .int pl, .int bh, .int fa_])), (tO, .inr (3, [.ref sA, .int (nI nq)])), (sA, .inl (cC, 1600, .inl fs))] H := hP
        have hD : va_D A [(h0, .inr (2, [.ref tO, .int so, .int pl, .int bh, .int fa_])), (tO, .inr (3, [.ref sA, .int (nI nq)])), (sA, .inl (cC, 1600, .inl fs))] := hD
        have hPc := hP.sub (ws' := []) [] rfl
        have hDc := hD.sub (ws' := []) [] (by decide) rfl
        have hFc := va_free (wc := []) hD hS hA [] rfl
        refine va_calli (va_runS (As := [.int (sgA fs nq ivq)]) (rest := []) ⟨hx, hb, hml, hown, hts⟩ (k_sortOf l dC dI cI cZ cC cJ H.size  (sgA fs nq ivq) ) (va_cwS 1 hts gX2_runEnd_X2_sortOf rfl rfl rfl (by decide +kernel) ⟨Nat.le_of_ble_eq_true rfl, Nat.le_of_ble_eq_true rfl⟩) ⟨sPre_blind, fun U hU hW => ⟨rfl, sPre_ok hsk hPc hDc hU hW⟩⟩ rfl rfl hl.1 rfl (lv_room (Nat.le_of_ble_eq_true rfl)) dX2_runEnd_21 ⟨(show 0 + 0 ≤ 0 by omega), (show 0 + 0 ≤ 0 by omega)⟩) hS (fun q _ h => hFc q h) hFc (fun r_3 u t H1 locs ht hvm hw hB hz1 hk1 hS => ?_)
        try dsimp only at hw hB
        have hw_4 := hw
        obtain rfl : r_3 = srt (sgA fs nq ivq) := hw_4
        obtain ⟨hP1, hD1⟩ := hB
        rw [ht] at hP1
        obtain ⟨hP, hD⟩ := va_join (wr := [(h0, .inr (2, [.ref tO, .int so, .int pl, .int bh, .int fa_])), (tO, .inr (3, [.ref sA, .int (nI nq)])), (sA, .inl (cC, 1600, .inl fs))]) (w1 := []) hP hD [] [0, 1, 2] rfl rfl (by decide) (by decide) hk1 hFc hP1 hD1
        generalize H1 = H at hP hS ⊢
        have hP : va_P (dC, dI) vwCl [(h0, .inr (2, [.ref tO, .int so, .int pl, .int bh, .int fa_])), (tO, .inr (3, [.ref sA, .int (nI nq)])), (sA, .inl (cC, 1600, .inl fs))] H := hP
        have hD : va_D A [(h0, .inr (2, [.ref tO, .int so, .int pl, .int bh, .int fa_])), (tO, .inr (3, [.ref sA, .int (nI nq)])), (sA, .inl (cC, 1600, .inl fs))] := hD
        refine lv_iload_n hx hb dX2_runEnd_24 rfl (lv_at hl 3 rfl) ?_
        refine lv_icmp_eq (tgt := 30) hx hb dX2_runEnd_25 (by decide) (fun c_25 => ?_) (fun c_25 => ?_)
        · skip
          refine lv_iinc (v := (nI (ivq + 1))) (lv' := [(3, .int (nI (ivq + 1))), (0, .ref h0), (1, .int (nI aq)), (2, .int p1)]) hx hb dX2_runEnd_30 hl (k := 0) rfl (nI_1 ivq) (by decide) rfl (fun ls hl => ?_)
          refine lv_goto (tgt := 2) hx hb dX2_runEnd_33 (by decide) ?_
          exact ih_2  (ivq + 1) (by omega) (by omega) ((rnE_yes hlt (by rw [← sgA_lt (f := fs) hlt]; exact c_25)).symm.trans hRq) _ _ _ hP hD hS (lv_sub hl [0, 1, 2, 3] rfl)
        · skip
          refine lv_iload_n hx hb dX2_runEnd_28 rfl (lv_at hl 0 rfl) ?_
          have hP9 := hP.sub (ws' := [(h0, .inr (2, [.ref tO, .int so, .int pl, .int bh, .int fa_])), (tO, .inr (3, [.ref sA, .int (nI nq)])), (sA, .inl (cC, 1600, .inl fs))]) [0, 1, 2] rfl
          have hD9 := hD.sub (ws' := [(h0, .inr (2, [.ref tO, .int so, .int pl, .int bh, .int fa_])), (tO, .inr (3, [.ref sA, .int (nI nq)])), (sA, .inl (cC, 1600, .inl fs))]) [0, 1, 2] (by decide) rfl
          exact W.iret (v := (nI ivq)) hx hb hr (fun t ht hW => ⟨⟨(nI ivq), (), rfl, (by rw [← eRq, ← hRq, rnE_no hlt (by rw [← sgA_lt (f := fs) hlt]; exact c_25)]), by rw [ht]; exact hP9, hD9⟩, hS.F ht⟩) hS.2.2 dX2_runEnd_29
  exact lp_2 (nq + 1) aq (by omega) (by omega) (eRq.symm) _ _ _ hP hD hS (lv_sub hl [0, 1, 2, 3] rfl)
set_option maxHeartbeats 4000000 in
set_option maxRecDepth 100000 in
theorem k_advance (l : Launch) (dC : Nat → ClassId) (dI : Nat → Nat → Nat) (cI cZ cC cJ : ClassId) (sz : Nat) (h0 : Nat) (tO : Nat) (so : Int32) (pl : Int32) (bh : Int32) (fa_ : Int32) (sA : Nat) (nq : Nat) (fs : Nat → Int32) (jq : Nat) (hnq : nq ≤ 1600) (hbh : bh = nI (bs fs nq jq)) : Met l yX2_advance wsX2_advance ({ frames := 2, cells := 0, slots := 0, locals := 44 }) (va_Pc [.ref h0] (sPre dC dI cI cZ cC cJ [(h0, .inr (2, [.ref tO, .int so, .int pl, .int bh, .int fa_])), (tO, .inr (3, [.ref sA, .int (nI nq)])), (sA, .inl (cC, 1600, .inl fs))] sz)) (va_Qv (fun (u : (Int32) × (Int32) × (Int32)) => match u with | (so2, pl2, bh2) => (rOK fs nq (jq, fa_) so2 pl2 bh2 fa_)) (fun (u : (Int32) × (Int32) × (Int32)) t => match u with | (so2, pl2, bh2) => sB dC dI (va_A [(h0, .inr (2, [.ref tO, .int so, .int pl, .int bh, .int fa_])), (tO, .inr (3, [.ref sA, .int (nI nq)])), (sA, .inl (cC, 1600, .inl fs))] sz) [(h0, .inr (2, [.ref tO, .int so2, .int pl2, .int bh2, .int fa_])), (tO, .inr (3, [.ref sA, .int (nI nq)])), (sA, .inl (cC, 1600, .inl fs))] t) (va_A [(h0, .inr (2, [.ref tO, .int so, .int pl, .int bh, .int fa_])), (tO, .inr (3, [.ref sA, .int (nI nq)])), (sA, .inl (cC, 1600, .inl fs))] sz)) 0 0 (va_A [(h0, .inr (2, [.ref tO, .int so, .int pl, .int bh, .int fa_])), (tO, .inr (3, [.ref sA, .int (nI nq)])), (sA, .inl (cC, 1600, .inl fs))] sz) := by
  refine Met.ofW (cc := cX2_advance) (maxL := 2) (ret := none) (by decide) rfl ?_
  intro p e s m args below meth c s₁ B hml hv
  obtain ⟨rfl, hsz, hP, hsk, hD0⟩ := hv
  have hx := B.exec
  have hb := B.bytes
  have hr := B.returns
  have hts := atoms_spec (ws := wsX2_advance) B.pre
  have hown : s.vm.findClass RX2 = some m.cls := findClass_of_methodNamed B.named
  have hlocks := B.notSynchronized
  have hK := hsk.1
  have i2 : ∀ w ∈ wsX20, w ∈ wsX2_advance := by decide +kernel
  subst hsz
  have hD := hD0.self (sz := s.heap.size)
  generalize hAe : va_A [(h0, .inr (2, [.ref tO, .int so, .int pl, .int bh, .int fa_])), (tO, .inr (3, [.ref sA, .int (nI nq)])), (sA, .inl (cC, 1600, .inl fs))] s.heap.size = A at hD ⊢
  have hA : ∀ q : Nat, s.heap.size ≤ q → A q := fun q h => by rw [← hAe]; exact Or.inr h
  have hS : va_S A s.heap s.heap [] := va_S.rf
  have hl := lv_entry ([.ref h0]) (n := 2) (Nat.le_of_ble_eq_true rfl)
  rw [lg_entry_eq]
  generalize (lg_sl ([.ref h0]) ++ List.replicate (2 - (lg_sl ([.ref h0])).length) Slot.unset).toArray = ls at hl ⊢
  have hl : lv_has ls 2 [(0, .ref h0)] := hl
  obtain ⟨bq, ebq⟩ : ∃ x9 : Nat, x9 = bs fs nq jq := ⟨_, rfl⟩
  have hbq : bq ≤ nq := by rw [ebq]; exact bs_le fs nq jq
  rw [← ebq] at hbh
  refine lv_aload_n hx hb dX2_advance_0 rfl (lv_at hl 0 rfl) ?_
  refine lv_aload_n hx hb dX2_advance_1 rfl (lv_at hl 0 rfl) ?_
  refine lv_aload_n hx hb dX2_advance_2 rfl (lv_at hl 0 rfl) ?_
  refine va_get (D := (dC, dI)) (ci := 2) (v := .int bh) (C := RX2) (T := TX2) (N := 5) hx hb hts i2 hown hK hP 0 rfl rfl 3 (by decide) (hts (.fieldLink RX2 24 "StopSetter$Reader" "behind" "I") (by decide +kernel)) (fun _ h9 => h9) rfl dX2_advance_3 ?_
  refine lv_topi (fun v_ ev_ => ?_)
  obtain rfl : v_ = (nI bq) := ev_.trans (hbh)
  refine lv_iconst (v := 1) hx hb dX2_advance_6 (by decide) ?_
  have hPc := hP.sub (ws' := [(h0, .inr (2, [.ref tO, .int so, .int pl, .int bh, .int fa_])), (tO, .inr (3, [.ref sA, .int (nI nq)])), (sA, .inl (cC, 1600, .inl fs))]) [0, 1, 2] rfl
  have hDc := hD.sub (ws' := [(h0, .inr (2, [.ref tO, .int so, .int pl, .int bh, .int fa_])), (tO, .inr (3, [.ref sA, .int (nI nq)])), (sA, .inl (cC, 1600, .inl fs))]) [0, 1, 2] (by decide) rfl
  have hFc := va_free (wc := [(h0, .inr (2, [.ref tO, .int so, .int pl, .int bh, .int fa_])), (tO, .inr (3, [.ref sA, .int (nI nq)])), (sA, .inl (cC, 1600, .inl fs))]) hD hS hA [0, 1, 2] rfl
  refine va_calli (va_runV (As := [.int (nI bq), .int 1]) (rest := [.ref h0]) ⟨hx, hb, hml, hown, hts⟩ (k_runEnd l dC dI cI cZ cC cJ s.heap.size  h0 tO so pl bh fa_ sA nq fs bq 1 (by first | assumption | decide | omega) hbq) (cwV 2 hts gX2_advance_X2_runEnd rfl rfl rfl (by decide +kernel) ⟨Nat.le_of_ble_eq_true rfl, Nat.le_of_ble_eq_true rfl⟩) ⟨sPre_blind, va_recv hK hPc (ci := 2) (q0 := 0) rfl rfl, fun U hU hW => ⟨rfl, sPre_ok hsk hPc hDc hU hW⟩⟩ rfl rfl hl.1 rfl (lv_room (Nat.le_of_ble_eq_true rfl)) dX2_advance_7 ⟨(show 0 + 0 ≤ 0 by omega), (show 0 + 0 ≤ 0 by omega)⟩) hS (fun q _ h => hFc q h) hFc (fun r_1 u t H1 locs ht hvm hw hB hz1 hk1 hS => ?_)
  try dsimp only at hw hB
  have hw_2 := hw
  obtain rfl : r_1 = nI (rnE fs 1 (nq - bq) bq) := hw_2
  obtain ⟨hP1, hD1⟩ := hB
  rw [ht] at hP1
  obtain ⟨hP, hD⟩ := va_join (wr := []) (w1 := [(h0, .inr (2, [.ref tO, .int so, .int pl, .int bh, .int fa_])), (tO, .inr (3, [.ref sA, .int (nI nq)])), (sA, .inl (cC, 1600, .inl fs))]) hP hD [0, 1, 2] [] rfl rfl (by decide) (by decide) hk1 hFc hP1 hD1
  generalize H1 = H at hP hS ⊢
  have hP : va_P (dC, dI) vwCl [(h0, .inr (2, [.ref tO, .int so, .int pl, .int bh, .int fa_])), (tO, .inr (3, [.ref sA, .int (nI nq)])), (sA, .inl (cC, 1600, .inl fs))] H := hP
  have hD : va_D A [(h0, .inr (2, [.ref tO, .int so, .int pl, .int bh, .int fa_])), (tO, .inr (3, [.ref sA, .int (nI nq)])), (sA, .inl (cC, 1600, .inl fs))] := hD
  obtain ⟨pqv, epqv⟩ : ∃ x9 : Nat, x9 = rnE fs 1 (nq - bq) bq := ⟨_, rfl⟩
  rw [← epqv]
  have hpq9 : pqv ≤ nq := by rw [epqv]; have := rnE_le fs 1 (nq - bq) bq; omega
  refine va_put (D := (dC, dI)) (ci := 2) (v := .int (nI pqv)) (ty := tyX2 2) (C := RX2) (T := TX2) (N := 5) hx hb hts i2 tyX2 tyX2_ok nmX2 hown hK hP hD hS 0 rfl rfl 2 (by decide) (hts (.fieldLink RX2 106 "StopSetter$Reader" "place" "I") (by decide +kernel)) (fun _ h9 => h9) rfl (by decide +kernel) rfl rfl (Nat.le_of_ble_eq_true rfl) dX2_advance_10 (fun H locs hP hD hS => ?_)
  have hP : va_P (dC, dI) vwCl [(h0, .inr (2, [.ref tO, .int so, .int (nI pqv), .int bh, .int fa_])), (tO, .inr (3, [.ref sA, .int (nI nq)])), (sA, .inl (cC, 1600, .inl fs))] H := hP
  have hD : va_D A [(h0, .inr (2, [.ref tO, .int so, .int (nI pqv), .int bh, .int fa_])), (tO, .inr (3, [.ref sA, .int (nI nq)])), (sA, .inl (cC, 1600, .inl fs))] := hD
  refine lv_aload_n hx hb dX2_advance_13 rfl (lv_at hl 0 rfl) ?_
  refine lv_aload_n hx hb dX2_advance_14 rfl (lv_at hl 0 rfl) ?_
  refine va_get (D := (dC, dI)) (ci := 2) (v := .ref tO) (C := RX2) (T := TX2) (N := 5) hx hb hts i2 hown hK hP 0 rfl rfl 0 (by decide) (hts (.fieldLink RX2 9 "StopSetter$Reader" "tape" "LStopSetter$Tape;") (by decide +kernel)) (fun _ h9 => h9) rfl dX2_advance_15 ?_
  refine lv_aload_n hx hb dX2_advance_18 rfl (lv_at hl 0 rfl) ?_
  refine va_get (D := (dC, dI)) (ci := 2) (v := .int (nI pqv)) (C := RX2) (T := TX2) (N := 5) hx hb hts i2 hown hK hP 0 rfl rfl 2 (by decide) (hts (.fieldLink RX2 106 "StopSetter$Reader" "place" "I") (by decide +kernel)) (fun _ h9 => h9) rfl dX2_advance_19 ?_
  have hPc := hP.sub (ws' := [(tO, .inr (3, [.ref sA, .int (nI nq)])), (sA, .inl (cC, 1600, .inl fs))]) [1, 2] rfl
  have hDc := hD.sub (ws' := [(tO, .inr (3, [.ref sA, .int (nI nq)])), (sA, .inl (cC, 1600, .inl fs))]) [1, 2] (by decide) rfl
  have hFc := va_free (wc := [(tO, .inr (3, [.ref sA, .int (nI nq)])), (sA, .inl (cC, 1600, .inl fs))]) hD hS hA [1, 2] rfl
  refine va_calli (va_runV (As := [.int (nI pqv)]) (rest := [.ref h0]) ⟨hx, hb, hml, hown, hts⟩ (k_signAt l dC dI cI cZ cC cJ H.size  tO sA nq fs pqv (by first | assumption | decide | omega) (by omega)) (cwV 1 hts gX2_advance_X3_signAt rfl rfl rfl (by decide +kernel) ⟨Nat.le_of_ble_eq_true rfl, Nat.le_of_ble_eq_true rfl⟩) ⟨sPre_blind, va_recv hK hPc (ci := 3) (q0 := 0) rfl rfl, fun U hU hW => ⟨rfl, sPre_ok hsk hPc hDc hU hW⟩⟩ rfl rfl hl.1 rfl (lv_room (Nat.le_of_ble_eq_true rfl)) dX2_advance_22 ⟨(show 0 + 0 ≤ 0 by omega), (show 0 + 0 ≤ 0 by omega)⟩) hS (fun q _ h => hFc q h) hFc (fun r_3 u t H1 locs ht hvm hw hB hz1 hk1 hS => ?_)
  try dsimp only at hw hB
  have hw_4 := hw
  obtain rfl : r_3 = sgA fs nq pqv := hw_4
  obtain ⟨hP1, hD1⟩ := hB
  rw [ht] at hP1
  obtain ⟨hP, hD⟩ := va_join (wr := [(h0, .inr (2, [.ref tO, .int so, .int (nI pqv), .int bh, .int fa_]))]) (w1 := [(tO, .inr (3, [.ref sA, .int (nI nq)])), (sA, .inl (cC, 1600, .inl fs))]) hP hD [1, 2] [0] rfl rfl (by decide) (by decide) hk1 hFc hP1 hD1
  generalize H1 = H at hP hS ⊢
  have hP : va_P (dC, dI) vwCl [(h0, .inr (2, [.ref tO, .int so, .int (nI pqv), .int bh, .int fa_])), (tO, .inr (3, [.ref sA, .int (nI nq)])), (sA, .inl (cC, 1600, .inl fs))] H := hP
  have hD : va_D A [(h0, .inr (2, [.ref tO, .int so, .int (nI pqv), .int bh, .int fa_])), (tO, .inr (3, [.ref sA, .int (nI nq)])), (sA, .inl (cC, 1600, .inl fs))] := hD
  have hPc := hP.sub (ws' := []) [] rfl
  have hDc := hD.sub (ws' := []) [] (by decide) rfl
  have hFc := va_free (wc := []) hD hS hA [] rfl
  refine va_calli (va_runS (As := [.int (sgA fs nq pqv)]) (rest := [.ref h0]) ⟨hx, hb, hml, hown, hts⟩ (k_sortOf l dC dI cI cZ cC cJ H.size  (sgA fs nq pqv) ) (va_cwS 1 hts gX2_advance_X2_sortOf rfl rfl rfl (by decide +kernel) ⟨Nat.le_of_ble_eq_true rfl, Nat.le_of_ble_eq_true rfl⟩) ⟨sPre_blind, fun U hU hW => ⟨rfl, sPre_ok hsk hPc hDc hU hW⟩⟩ rfl rfl hl.1 rfl (lv_room (Nat.le_of_ble_eq_true rfl)) dX2_advance_25 ⟨(show 0 + 0 ≤ 0 by omega), (show 0 + 0 ≤ 0 by omega)⟩) hS (fun q _ h => hFc q h) hFc (fun r_5 u t H1 locs ht hvm hw hB hz1 hk1 hS => ?_)
  try dsimp only at hw hB
  have hw_6 := hw
  obtain rfl : r_5 = srt (sgA fs nq pqv) := hw_6
  obtain ⟨hP1, hD1⟩ := hB
  rw [ht] at hP1
  obtain ⟨hP, hD⟩ := va_join (wr := [(h0, .inr (2, [.ref tO, .int so, .int (nI pqv), .int bh, .int fa_])), (tO, .inr (3, [.ref sA, .int (nI nq)])), (sA, .inl (cC, 1600, .inl fs))]) (w1 := []) hP hD [] [0, 1, 2] rfl rfl (by decide) (by decide) hk1 hFc hP1 hD1
  generalize H1 = H at hP hS ⊢
  have hP : va_P (dC, dI) vwCl [(h0, .inr (2, [.ref tO, .int so, .int (nI pqv), .int bh, .int fa_])), (tO, .inr (3, [.ref sA, .int (nI nq)])), (sA, .inl (cC, 1600, .inl fs))] H := hP
  have hD : va_D A [(h0, .inr (2, [.ref tO, .int so, .int (nI pqv), .int bh, .int fa_])), (tO, .inr (3, [.ref sA, .int (nI nq)])), (sA, .inl (cC, 1600, .inl fs))] := hD
  obtain ⟨kqv, ekqv⟩ : ∃ x9 : Int32, x9 = srt (sgA fs nq pqv) := ⟨_, rfl⟩
  rw [← ekqv]
  refine va_put (D := (dC, dI)) (ci := 2) (v := .int kqv) (ty := tyX2 1) (C := RX2) (T := TX2) (N := 5) hx hb hts i2 tyX2 tyX2_ok nmX2 hown hK hP hD hS 0 rfl rfl 1 (by decide) (hts (.fieldLink RX2 32 "StopSetter$Reader" "sort" "I") (by decide +kernel)) (fun _ h9 => h9) rfl (by decide +kernel) rfl rfl (Nat.le_of_ble_eq_true rfl) dX2_advance_28 (fun H locs hP hD hS => ?_)
  have hP : va_P (dC, dI) vwCl [(h0, .inr (2, [.ref tO, .int kqv, .int (nI pqv), .int bh, .int fa_])), (tO, .inr (3, [.ref sA, .int (nI nq)])), (sA, .inl (cC, 1600, .inl fs))] H := hP
  have hD : va_D A [(h0, .inr (2, [.ref tO, .int kqv, .int (nI pqv), .int bh, .int fa_])), (tO, .inr (3, [.ref sA, .int (nI nq)])), (sA, .inl (cC, 1600, .inl fs))] := hD
  refine lv_aload_n hx hb dX2_advance_31 rfl (lv_at hl 0 rfl) ?_
  refine va_get (D := (dC, dI)) (ci := 2) (v := .int kqv) (C := RX2) (T := TX2) (N := 5) hx hb hts i2 hown hK hP 0 rfl rfl 1 (by decide) (hts (.fieldLink RX2 32 "StopSetter$Reader" "sort" "I") (by decide +kernel)) (fun _ h9 => h9) rfl dX2_advance_32 ?_
  refine lv_iconst (v := 2) hx hb dX2_advance_35 (by decide) ?_
  refine lv_icmp_eq (tgt := 47) hx hb dX2_advance_36 (by decide) (fun c_36 => ?_) (fun c_36 => ?_)
  · skip
    refine lv_aload_n hx hb dX2_advance_47 rfl (lv_at hl 0 rfl) ?_
    refine lv_aload_n hx hb dX2_advance_48 rfl (lv_at hl 0 rfl) ?_
    refine lv_aload_n hx hb dX2_advance_49 rfl (lv_at hl 0 rfl) ?_
    refine va_get (D := (dC, dI)) (ci := 2) (v := .int (nI pqv)) (C := RX2) (T := TX2) (N := 5) hx hb hts i2 hown hK hP 0 rfl rfl 2 (by decide) (hts (.fieldLink RX2 106 "StopSetter$Reader" "place" "I") (by decide +kernel)) (fun _ h9 => h9) rfl dX2_advance_50 ?_
    refine lv_aload_n hx hb dX2_advance_53 rfl (lv_at hl 0 rfl) ?_
    refine va_get (D := (dC, dI)) (ci := 2) (v := .int kqv) (C := RX2) (T := TX2) (N := 5) hx hb hts i2 hown hK hP 0 rfl rfl 1 (by decide) (hts (.fieldLink RX2 32 "StopSetter$Reader" "sort" "I") (by decide +kernel)) (fun _ h9 => h9) rfl dX2_advance_54 ?_
    have hPc := hP.sub (ws' := [(h0, .inr (2, [.ref tO, .int kqv, .int (nI pqv), .int bh, .int fa_])), (tO, .inr (3, [.ref sA, .int (nI nq)])), (sA, .inl (cC, 1600, .inl fs))]) [0, 1, 2] rfl
    have hDc := hD.sub (ws' := [(h0, .inr (2, [.ref tO, .int kqv, .int (nI pqv), .int bh, .int fa_])), (tO, .inr (3, [.ref sA, .int (nI nq)])), (sA, .inl (cC, 1600, .inl fs))]) [0, 1, 2] (by decide) rfl
    have hFc := va_free (wc := [(h0, .inr (2, [.ref tO, .int kqv, .int (nI pqv), .int bh, .int fa_])), (tO, .inr (3, [.ref sA, .int (nI nq)])), (sA, .inl (cC, 1600, .inl fs))]) hD hS hA [0, 1, 2] rfl
    refine va_calli (va_runV (As := [.int (nI pqv), .int kqv]) (rest := [.ref h0]) ⟨hx, hb, hml, hown, hts⟩ (k_runEnd l dC dI cI cZ cC cJ H.size  h0 tO kqv (nI pqv) bh fa_ sA nq fs pqv kqv (by first | assumption | decide | omega) hpq9) (cwV 2 hts gX2_advance_X2_runEnd rfl rfl rfl (by decide +kernel) ⟨Nat.le_of_ble_eq_true rfl, Nat.le_of_ble_eq_true rfl⟩) ⟨sPre_blind, va_recv hK hPc (ci := 2) (q0 := 0) rfl rfl, fun U hU hW => ⟨rfl, sPre_ok hsk hPc hDc hU hW⟩⟩ rfl rfl hl.1 rfl (lv_room (Nat.le_of_ble_eq_true rfl)) dX2_advance_57 ⟨(show 0 + 0 ≤ 0 by omega), (show 0 + 0 ≤ 0 by omega)⟩) hS (fun q _ h => hFc q h) hFc (fun r_7 u t H1 locs ht hvm hw hB hz1 hk1 hS => ?_)
    try dsimp only at hw hB
    have hw_8 := hw
    obtain rfl : r_7 = nI (rnE fs kqv (nq - pqv) pqv) := hw_8
    obtain ⟨hP1, hD1⟩ := hB
    rw [ht] at hP1
    obtain ⟨hP, hD⟩ := va_join (wr := []) (w1 := [(h0, .inr (2, [.ref tO, .int kqv, .int (nI pqv), .int bh, .int fa_])), (tO, .inr (3, [.ref sA, .int (nI nq)])), (sA, .inl (cC, 1600, .inl fs))]) hP hD [0, 1, 2] [] rfl rfl (by decide) (by decide) hk1 hFc hP1 hD1
    generalize H1 = H at hP hS ⊢
    have hP : va_P (dC, dI) vwCl [(h0, .inr (2, [.ref tO, .int kqv, .int (nI pqv), .int bh, .int fa_])), (tO, .inr (3, [.ref sA, .int (nI nq)])), (sA, .inl (cC, 1600, .inl fs))] H := hP
    have hD : va_D A [(h0, .inr (2, [.ref tO, .int kqv, .int (nI pqv), .int bh, .int fa_])), (tO, .inr (3, [.ref sA, .int (nI nq)])), (sA, .inl (cC, 1600, .inl fs))] := hD
    obtain ⟨eqv, eeqv⟩ : ∃ x9 : Nat, x9 = rnE fs kqv (nq - pqv) pqv := ⟨_, rfl⟩
    rw [← eeqv]
    have heq9 : pqv ≤ eqv ∧ eqv ≤ nq := by rw [eeqv]; have h1 := rnE_ge fs kqv (nq - pqv) pqv; have h2 := rnE_le fs kqv (nq - pqv) pqv; omega
    refine va_put (D := (dC, dI)) (ci := 2) (v := .int (nI eqv)) (ty := tyX2 3) (C := RX2) (T := TX2) (N := 5) hx hb hts i2 tyX2 tyX2_ok nmX2 hown hK hP hD hS 0 rfl rfl 3 (by decide) (hts (.fieldLink RX2 24 "StopSetter$Reader" "behind" "I") (by decide +kernel)) (fun _ h9 => h9) rfl (by decide +kernel) rfl rfl (Nat.le_of_ble_eq_true rfl) dX2_advance_60 (fun H locs hP hD hS => ?_)
    have hP : va_P (dC, dI) vwCl [(h0, .inr (2, [.ref tO, .int kqv, .int (nI pqv), .int (nI eqv), .int fa_])), (tO, .inr (3, [.ref sA, .int (nI nq)])), (sA, .inl (cC, 1600, .inl fs))] H := hP
    have hD : va_D A [(h0, .inr (2, [.ref tO, .int kqv, .int (nI pqv), .int (nI eqv), .int fa_])), (tO, .inr (3, [.ref sA, .int (nI nq)])), (sA, .inl (cC, 1600, .inl fs))] := hD
    refine lv_aload_n hx hb dX2_advance_63 rfl (lv_at hl 0 rfl) ?_
    refine va_get (D := (dC, dI)) (ci := 2) (v := .int kqv) (C := RX2) (T := TX2) (N := 5) hx hb hts i2 hown hK hP 0 rfl rfl 1 (by decide) (hts (.fieldLink RX2 32 "StopSetter$Reader" "sort" "I") (by decide +kernel)) (fun _ h9 => h9) rfl dX2_advance_64 ?_
    refine lv_iconst (v := 2) hx hb dX2_advance_67 (by decide) ?_
    refine lv_icmp_ne (tgt := 76) hx hb dX2_advance_68 (by decide) (fun c_68 => ?_) (fun c_68 => ?_)
    · skip
      refine lv_iconst (v := 4) hx hb dX2_advance_76 (by decide) ?_
      refine lv_istore_n (lv' := [(1, .int 4), (0, .ref h0)]) hx hb dX2_advance_77 rfl hl (by decide) rfl (fun ls hl => ?_)
      refine lv_aload_n hx hb dX2_advance_78 rfl (lv_at hl 1 rfl) ?_
      refine va_get (D := (dC, dI)) (ci := 2) (v := .int (nI eqv)) (C := RX2) (T := TX2) (N := 5) hx hb hts i2 hown hK hP 0 rfl rfl 3 (by decide) (hts (.fieldLink RX2 24 "StopSetter$Reader" "behind" "I") (by decide +kernel)) (fun _ h9 => h9) rfl dX2_advance_79 ?_
      refine lv_aload_n hx hb dX2_advance_82 rfl (lv_at hl 1 rfl) ?_
      refine va_get (D := (dC, dI)) (ci := 2) (v := .int (nI pqv)) (C := RX2) (T := TX2) (N := 5) hx hb hts i2 hown hK hP 0 rfl rfl 2 (by decide) (hts (.fieldLink RX2 106 "StopSetter$Reader" "place" "I") (by decide +kernel)) (fun _ h9 => h9) rfl dX2_advance_83 ?_
      refine lv_isub hx hb dX2_advance_86 ?_
      refine lv_topi (fun v_ ev_ => ?_)
      obtain rfl : v_ = (nI (eqv - pqv)) := ev_.trans (nI_sub heq9.1)
      refine lv_iload_n hx hb dX2_advance_87 rfl (lv_at hl 0 rfl) ?_
      refine lv_icmp_le (tgt := 96) hx hb dX2_advance_88 (by decide) (fun c_88 => ?_) (fun c_88 => ?_)
      · skip
        refine lv_goto (tgt := 123) hx hb dX2_advance_96 (by decide) ?_
        have hP9 := hP.sub (ws' := [(h0, .inr (2, [.ref tO, .int kqv, .int (nI pqv), .int (nI eqv), .int fa_])), (tO, .inr (3, [.ref sA, .int (nI nq)])), (sA, .inl (cC, 1600, .inl fs))]) [0, 1, 2] rfl
        have hD9 := hD.sub (ws' := [(h0, .inr (2, [.ref tO, .int kqv, .int (nI pqv), .int (nI eqv), .int fa_])), (tO, .inr (3, [.ref sA, .int (nI nq)])), (sA, .inl (cC, 1600, .inl fs))]) [0, 1, 2] (by decide) rfl
        have hens0 : rOK fs nq (jq, fa_) kqv (nI pqv) (nI eqv) fa_ := (absurd c_36 c_68)
        exact W.vret hx hb hr (fun t ht hW => ⟨⟨(kqv, nI pqv, (nI eqv)), rfl, hens0, by rw [ht]; exact hP9, hD9⟩, hS.F ht⟩) hS.2.2 dX2_advance_123
      · skip
        refine lv_aload_n hx hb dX2_advance_91 rfl (lv_at hl 1 rfl) ?_
        refine lv_iconst (v := 5) hx hb dX2_advance_92 (by decide) ?_
        refine va_put (D := (dC, dI)) (ci := 2) (v := .int 5) (ty := tyX2 1) (C := RX2) (T := TX2) (N := 5) hx hb hts i2 tyX2 tyX2_ok nmX2 hown hK hP hD hS 0 rfl rfl 1 (by decide) (hts (.fieldLink RX2 32 "StopSetter$Reader" "sort" "I") (by decide +kernel)) (fun _ h9 => h9) rfl (by decide +kernel) rfl rfl (Nat.le_of_ble_eq_true rfl) dX2_advance_93 (fun H locs hP hD hS => ?_)
        have hP : va_P (dC, dI) vwCl [(h0, .inr (2, [.ref tO, .int 5, .int (nI pqv), .int (nI eqv), .int fa_])), (tO, .inr (3, [.ref sA, .int (nI nq)])), (sA, .inl (cC, 1600, .inl fs))] H := hP
        have hD : va_D A [(h0, .inr (2, [.ref tO, .int 5, .int (nI pqv), .int (nI eqv), .int fa_])), (tO, .inr (3, [.ref sA, .int (nI nq)])), (sA, .inl (cC, 1600, .inl fs))] := hD
        refine lv_goto (tgt := 123) hx hb dX2_advance_96 (by decide) ?_
        have hP9 := hP.sub (ws' := [(h0, .inr (2, [.ref tO, .int 5, .int (nI pqv), .int (nI eqv), .int fa_])), (tO, .inr (3, [.ref sA, .int (nI nq)])), (sA, .inl (cC, 1600, .inl fs))]) [0, 1, 2] rfl
        have hD9 := hD.sub (ws' := [(h0, .inr (2, [.ref tO, .int 5, .int (nI pqv), .int (nI eqv), .int fa_])), (tO, .inr (3, [.ref sA, .int (nI nq)])), (sA, .inl (cC, 1600, .inl fs))]) [0, 1, 2] (by decide) rfl
        have hens0 : rOK fs nq (jq, fa_) 5 (nI pqv) (nI eqv) fa_ := (absurd c_36 c_68)
        exact W.vret hx hb hr (fun t ht hW => ⟨⟨(5, nI pqv, (nI eqv)), rfl, hens0, by rw [ht]; exact hP9, hD9⟩, hS.F ht⟩) hS.2.2 dX2_advance_123
    · skip
      refine lv_bipush (v := 8) hx hb dX2_advance_71 (by decide) ?_
      refine lv_goto (tgt := 77) hx hb dX2_advance_73 (by decide) ?_
      refine lv_istore_n (lv' := [(1, .int 8), (0, .ref h0)]) hx hb dX2_advance_77 rfl hl (by decide) rfl (fun ls hl => ?_)
      refine lv_aload_n hx hb dX2_advance_78 rfl (lv_at hl 1 rfl) ?_
      refine va_get (D := (dC, dI)) (ci := 2) (v := .int (nI eqv)) (C := RX2) (T := TX2) (N := 5) hx hb hts i2 hown hK hP 0 rfl rfl 3 (by decide) (hts (.fieldLink RX2 24 "StopSetter$Reader" "behind" "I") (by decide +kernel)) (fun _ h9 => h9) rfl dX2_advance_79 ?_
      refine lv_aload_n hx hb dX2_advance_82 rfl (lv_at hl 1 rfl) ?_
      refine va_get (D := (dC, dI)) (ci := 2) (v := .int (nI pqv)) (C := RX2) (T := TX2) (N := 5) hx hb hts i2 hown hK hP 0 rfl rfl 2 (by decide) (hts (.fieldLink RX2 106 "StopSetter$Reader" "place" "I") (by decide +kernel)) (fun _ h9 => h9) rfl dX2_advance_83 ?_
      refine lv_isub hx hb dX2_advance_86 ?_
      refine lv_topi (fun v_ ev_ => ?_)
      obtain rfl : v_ = (nI (eqv - pqv)) := ev_.trans (nI_sub heq9.1)
      refine lv_iload_n hx hb dX2_advance_87 rfl (lv_at hl 0 rfl) ?_
      refine lv_icmp_le (tgt := 96) hx hb dX2_advance_88 (by decide) (fun c_88 => ?_) (fun c_88 => ?_)
      · skip
        refine lv_goto (tgt := 123) hx hb dX2_advance_96 (by decide) ?_
        have hP9 := hP.sub (ws' := [(h0, .inr (2, [.ref tO, .int kqv, .int (nI pqv), .int (nI eqv), .int fa_])), (tO, .inr (3, [.ref sA, .int (nI nq)])), (sA, .inl (cC, 1600, .inl fs))]) [0, 1, 2] rfl
        have hD9 := hD.sub (ws' := [(h0, .inr (2, [.ref tO, .int kqv, .int (nI pqv), .int (nI eqv), .int fa_])), (tO, .inr (3, [.ref sA, .int (nI nq)])), (sA, .inl (cC, 1600, .inl fs))]) [0, 1, 2] (by decide) rfl
        have hens0 : rOK fs nq (jq, fa_) kqv (nI pqv) (nI eqv) fa_ := (rOK_mk ebq (adv2S epqv ekqv eeqv c_36 ((adv8 (d := eqv - pqv) (m := 8) (by omega) (by omega)).mp c_88)) (congrArg nI epqv) (congrArg nI (advE epqv ekqv eeqv (Or.inl c_36))))
        exact W.vret hx hb hr (fun t ht hW => ⟨⟨(kqv, nI pqv, (nI eqv)), rfl, hens0, by rw [ht]; exact hP9, hD9⟩, hS.F ht⟩) hS.2.2 dX2_advance_123
      · skip
        refine lv_aload_n hx hb dX2_advance_91 rfl (lv_at hl 1 rfl) ?_
        refine lv_iconst (v := 5) hx hb dX2_advance_92 (by decide) ?_
        refine va_put (D := (dC, dI)) (ci := 2) (v := .int 5) (ty := tyX2 1) (C := RX2) (T := TX2) (N := 5) hx hb hts i2 tyX2 tyX2_ok nmX2 hown hK hP hD hS 0 rfl rfl 1 (by decide) (hts (.fieldLink RX2 32 "StopSetter$Reader" "sort" "I") (by decide +kernel)) (fun _ h9 => h9) rfl (by decide +kernel) rfl rfl (Nat.le_of_ble_eq_true rfl) dX2_advance_93 (fun H locs hP hD hS => ?_)
        have hP : va_P (dC, dI) vwCl [(h0, .inr (2, [.ref tO, .int 5, .int (nI pqv), .int (nI eqv), .int fa_])), (tO, .inr (3, [.ref sA, .int (nI nq)])), (sA, .inl (cC, 1600, .inl fs))] H := hP
        have hD : va_D A [(h0, .inr (2, [.ref tO, .int 5, .int (nI pqv), .int (nI eqv), .int fa_])), (tO, .inr (3, [.ref sA, .int (nI nq)])), (sA, .inl (cC, 1600, .inl fs))] := hD
        refine lv_goto (tgt := 123) hx hb dX2_advance_96 (by decide) ?_
        have hP9 := hP.sub (ws' := [(h0, .inr (2, [.ref tO, .int 5, .int (nI pqv), .int (nI eqv), .int fa_])), (tO, .inr (3, [.ref sA, .int (nI nq)])), (sA, .inl (cC, 1600, .inl fs))]) [0, 1, 2] rfl
        have hD9 := hD.sub (ws' := [(h0, .inr (2, [.ref tO, .int 5, .int (nI pqv), .int (nI eqv), .int fa_])), (tO, .inr (3, [.ref sA, .int (nI nq)])), (sA, .inl (cC, 1600, .inl fs))]) [0, 1, 2] (by decide) rfl
        have hens0 : rOK fs nq (jq, fa_) 5 (nI pqv) (nI eqv) fa_ := (rOK_mk ebq (adv2N epqv ekqv eeqv c_36 (Decidable.of_not_not (fun z => c_88 ((adv8 (d := eqv - pqv) (m := 8) (by omega) (by omega)).mpr z)))) (congrArg nI epqv) (congrArg nI (advE epqv ekqv eeqv (Or.inl c_36))))
        exact W.vret hx hb hr (fun t ht hW => ⟨⟨(5, nI pqv, (nI eqv)), rfl, hens0, by rw [ht]; exact hP9, hD9⟩, hS.F ht⟩) hS.2.2 dX2_advance_123
  · skip
    refine lv_aload_n hx hb dX2_advance_39 rfl (lv_at hl 0 rfl) ?_
    refine va_get (D := (dC, dI)) (ci := 2) (v := .int kqv) (C := RX2) (T := TX2) (N := 5) hx hb hts i2 hown hK hP 0 rfl rfl 1 (by decide) (hts (.fieldLink RX2 32 "StopSetter$Reader" "sort" "I") (by decide +kernel)) (fun _ h9 => h9) rfl dX2_advance_40 ?_
    refine lv_iconst (v := 3) hx hb dX2_advance_43 (by decide) ?_
    refine lv_icmp_ne (tgt := 99) hx hb dX2_advance_44 (by decide) (fun c_44 => ?_) (fun c_44 => ?_)
    · skip
      refine lv_aload_n hx hb dX2_advance_99 rfl (lv_at hl 0 rfl) ?_
      refine lv_aload_n hx hb dX2_advance_100 rfl (lv_at hl 0 rfl) ?_
      refine va_get (D := (dC, dI)) (ci := 2) (v := .int kqv) (C := RX2) (T := TX2) (N := 5) hx hb hts i2 hown hK hP 0 rfl rfl 1 (by decide) (hts (.fieldLink RX2 32 "StopSetter$Reader" "sort" "I") (by decide +kernel)) (fun _ h9 => h9) rfl dX2_advance_101 ?_
      refine lv_if_ne (tgt := 114) hx hb dX2_advance_104 (by decide) (fun c_104 => ?_) (fun c_104 => ?_)
      · skip
        refine lv_aload_n hx hb dX2_advance_114 rfl (lv_at hl 0 rfl) ?_
        refine va_get (D := (dC, dI)) (ci := 2) (v := .int (nI pqv)) (C := RX2) (T := TX2) (N := 5) hx hb hts i2 hown hK hP 0 rfl rfl 2 (by decide) (hts (.fieldLink RX2 106 "StopSetter$Reader" "place" "I") (by decide +kernel)) (fun _ h9 => h9) rfl dX2_advance_115 ?_
        refine lv_iconst (v := 1) hx hb dX2_advance_118 (by decide) ?_
        refine lv_iadd hx hb dX2_advance_119 ?_
        refine lv_topi (fun v_ ev_ => ?_)
        obtain rfl : v_ = (nI (pqv + 1)) := ev_.trans (nI_1 pqv)
        refine va_put (D := (dC, dI)) (ci := 2) (v := .int (nI (pqv + 1))) (ty := tyX2 3) (C := RX2) (T := TX2) (N := 5) hx hb hts i2 tyX2 tyX2_ok nmX2 hown hK hP hD hS 0 rfl rfl 3 (by decide) (hts (.fieldLink RX2 24 "StopSetter$Reader" "behind" "I") (by decide +kernel)) (fun _ h9 => h9) rfl (by decide +kernel) rfl rfl (Nat.le_of_ble_eq_true rfl) dX2_advance_120 (fun H locs hP hD hS => ?_)
        have hP : va_P (dC, dI) vwCl [(h0, .inr (2, [.ref tO, .int kqv, .int (nI pqv), .int (nI (pqv + 1)), .int fa_])), (tO, .inr (3, [.ref sA, .int (nI nq)])), (sA, .inl (cC, 1600, .inl fs))] H := hP
        have hD : va_D A [(h0, .inr (2, [.ref tO, .int kqv, .int (nI pqv), .int (nI (pqv + 1)), .int fa_])), (tO, .inr (3, [.ref sA, .int (nI nq)])), (sA, .inl (cC, 1600, .inl fs))] := hD
        have hP9 := hP.sub (ws' := [(h0, .inr (2, [.ref tO, .int kqv, .int (nI pqv), .int (nI (pqv + 1)), .int fa_])), (tO, .inr (3, [.ref sA, .int (nI nq)])), (sA, .inl (cC, 1600, .inl fs))]) [0, 1, 2] rfl
        have hD9 := hD.sub (ws' := [(h0, .inr (2, [.ref tO, .int kqv, .int (nI pqv), .int (nI (pqv + 1)), .int fa_])), (tO, .inr (3, [.ref sA, .int (nI nq)])), (sA, .inl (cC, 1600, .inl fs))]) [0, 1, 2] (by decide) rfl
        have hens0 : rOK fs nq (jq, fa_) kqv (nI pqv) (nI (pqv + 1)) fa_ := (rOK_mk ebq (advS0 epqv ekqv c_36 c_44) (congrArg nI epqv) (congrArg nI (advB0 epqv ekqv c_36 c_44 c_104)))
        exact W.vret hx hb hr (fun t ht hW => ⟨⟨(kqv, (nI pqv), (nI (pqv + 1))), rfl, hens0, by rw [ht]; exact hP9, hD9⟩, hS.F ht⟩) hS.2.2 dX2_advance_123
      · skip
        refine lv_aload_n hx hb dX2_advance_107 rfl (lv_at hl 0 rfl) ?_
        refine va_get (D := (dC, dI)) (ci := 2) (v := .int (nI pqv)) (C := RX2) (T := TX2) (N := 5) hx hb hts i2 hown hK hP 0 rfl rfl 2 (by decide) (hts (.fieldLink RX2 106 "StopSetter$Reader" "place" "I") (by decide +kernel)) (fun _ h9 => h9) rfl dX2_advance_108 ?_
        refine lv_goto (tgt := 120) hx hb dX2_advance_111 (by decide) ?_
        refine va_put (D := (dC, dI)) (ci := 2) (v := .int (nI pqv)) (ty := tyX2 3) (C := RX2) (T := TX2) (N := 5) hx hb hts i2 tyX2 tyX2_ok nmX2 hown hK hP hD hS 0 rfl rfl 3 (by decide) (hts (.fieldLink RX2 24 "StopSetter$Reader" "behind" "I") (by decide +kernel)) (fun _ h9 => h9) rfl (by decide +kernel) rfl rfl (Nat.le_of_ble_eq_true rfl) dX2_advance_120 (fun H locs hP hD hS => ?_)
        have hP : va_P (dC, dI) vwCl [(h0, .inr (2, [.ref tO, .int kqv, .int (nI pqv), .int (nI pqv), .int fa_])), (tO, .inr (3, [.ref sA, .int (nI nq)])), (sA, .inl (cC, 1600, .inl fs))] H := hP
        have hD : va_D A [(h0, .inr (2, [.ref tO, .int kqv, .int (nI pqv), .int (nI pqv), .int fa_])), (tO, .inr (3, [.ref sA, .int (nI nq)])), (sA, .inl (cC, 1600, .inl fs))] := hD
        have hP9 := hP.sub (ws' := [(h0, .inr (2, [.ref tO, .int kqv, .int (nI pqv), .int (nI pqv), .int fa_])), (tO, .inr (3, [.ref sA, .int (nI nq)])), (sA, .inl (cC, 1600, .inl fs))]) [0, 1, 2] rfl
        have hD9 := hD.sub (ws' := [(h0, .inr (2, [.ref tO, .int kqv, .int (nI pqv), .int (nI pqv), .int fa_])), (tO, .inr (3, [.ref sA, .int (nI nq)])), (sA, .inl (cC, 1600, .inl fs))]) [0, 1, 2] (by decide) rfl
        have hens0 : rOK fs nq (jq, fa_) kqv (nI pqv) (nI pqv) fa_ := (rOK_mk ebq (advS0 epqv ekqv c_36 c_44) (congrArg nI epqv) (congrArg nI (advB1 epqv ekqv c_36 c_44 c_104)))
        exact W.vret hx hb hr (fun t ht hW => ⟨⟨(kqv, (nI pqv), (nI pqv)), rfl, hens0, by rw [ht]; exact hP9, hD9⟩, hS.F ht⟩) hS.2.2 dX2_advance_123
    · skip
      refine lv_aload_n hx hb dX2_advance_47 rfl (lv_at hl 0 rfl) ?_
      refine lv_aload_n hx hb dX2_advance_48 rfl (lv_at hl 0 rfl) ?_
      refine lv_aload_n hx hb dX2_advance_49 rfl (lv_at hl 0 rfl) ?_
      refine va_get (D := (dC, dI)) (ci := 2) (v := .int (nI pqv)) (C := RX2) (T := TX2) (N := 5) hx hb hts i2 hown hK hP 0 rfl rfl 2 (by decide) (hts (.fieldLink RX2 106 "StopSetter$Reader" "place" "I") (by decide +kernel)) (fun _ h9 => h9) rfl dX2_advance_50 ?_
      refine lv_aload_n hx hb dX2_advance_53 rfl (lv_at hl 0 rfl) ?_
      refine va_get (D := (dC, dI)) (ci := 2) (v := .int kqv) (C := RX2) (T := TX2) (N := 5) hx hb hts i2 hown hK hP 0 rfl rfl 1 (by decide) (hts (.fieldLink RX2 32 "StopSetter$Reader" "sort" "I") (by decide +kernel)) (fun _ h9 => h9) rfl dX2_advance_54 ?_
      have hPc := hP.sub (ws' := [(h0, .inr (2, [.ref tO, .int kqv, .int (nI pqv), .int bh, .int fa_])), (tO, .inr (3, [.ref sA, .int (nI nq)])), (sA, .inl (cC, 1600, .inl fs))]) [0, 1, 2] rfl
      have hDc := hD.sub (ws' := [(h0, .inr (2, [.ref tO, .int kqv, .int (nI pqv), .int bh, .int fa_])), (tO, .inr (3, [.ref sA, .int (nI nq)])), (sA, .inl (cC, 1600, .inl fs))]) [0, 1, 2] (by decide) rfl
      have hFc := va_free (wc := [(h0, .inr (2, [.ref tO, .int kqv, .int (nI pqv), .int bh, .int fa_])), (tO, .inr (3, [.ref sA, .int (nI nq)])), (sA, .inl (cC, 1600, .inl fs))]) hD hS hA [0, 1, 2] rfl
      refine va_calli (va_runV (As := [.int (nI pqv), .int kqv]) (rest := [.ref h0]) ⟨hx, hb, hml, hown, hts⟩ (k_runEnd l dC dI cI cZ cC cJ H.size  h0 tO kqv (nI pqv) bh fa_ sA nq fs pqv kqv (by first | assumption | decide | omega) hpq9) (cwV 2 hts gX2_advance_X2_runEnd rfl rfl rfl (by decide +kernel) ⟨Nat.le_of_ble_eq_true rfl, Nat.le_of_ble_eq_true rfl⟩) ⟨sPre_blind, va_recv hK hPc (ci := 2) (q0 := 0) rfl rfl, fun U hU hW => ⟨rfl, sPre_ok hsk hPc hDc hU hW⟩⟩ rfl rfl hl.1 rfl (lv_room (Nat.le_of_ble_eq_true rfl)) dX2_advance_57 ⟨(show 0 + 0 ≤ 0 by omega), (show 0 + 0 ≤ 0 by omega)⟩) hS (fun q _ h => hFc q h) hFc (fun r_9 u t H1 locs ht hvm hw hB hz1 hk1 hS => ?_)
      try dsimp only at hw hB
      have hw_10 := hw
      obtain rfl : r_9 = nI (rnE fs kqv (nq - pqv) pqv) := hw_10
      obtain ⟨hP1, hD1⟩ := hB
      rw [ht] at hP1
      obtain ⟨hP, hD⟩ := va_join (wr := []) (w1 := [(h0, .inr (2, [.ref tO, .int kqv, .int (nI pqv), .int bh, .int fa_])), (tO, .inr (3, [.ref sA, .int (nI nq)])), (sA, .inl (cC, 1600, .inl fs))]) hP hD [0, 1, 2] [] rfl rfl (by decide) (by decide) hk1 hFc hP1 hD1
      generalize H1 = H at hP hS ⊢
      have hP : va_P (dC, dI) vwCl [(h0, .inr (2, [.ref tO, .int kqv, .int (nI pqv), .int bh, .int fa_])), (tO, .inr (3, [.ref sA, .int (nI nq)])), (sA, .inl (cC, 1600, .inl fs))] H := hP
      have hD : va_D A [(h0, .inr (2, [.ref tO, .int kqv, .int (nI pqv), .int bh, .int fa_])), (tO, .inr (3, [.ref sA, .int (nI nq)])), (sA, .inl (cC, 1600, .inl fs))] := hD
      obtain ⟨eqv, eeqv⟩ : ∃ x9 : Nat, x9 = rnE fs kqv (nq - pqv) pqv := ⟨_, rfl⟩
      rw [← eeqv]
      have heq9 : pqv ≤ eqv ∧ eqv ≤ nq := by rw [eeqv]; have h1 := rnE_ge fs kqv (nq - pqv) pqv; have h2 := rnE_le fs kqv (nq - pqv) pqv; omega
      refine va_put (D := (dC, dI)) (ci := 2) (v := .int (nI eqv)) (ty := tyX2 3) (C := RX2) (T := TX2) (N := 5) hx hb hts i2 tyX2 tyX2_ok nmX2 hown hK hP hD hS 0 rfl rfl 3 (by decide) (hts (.fieldLink RX2 24 "StopSetter$Reader" "behind" "I") (by decide +kernel)) (fun _ h9 => h9) rfl (by decide +kernel) rfl rfl (Nat.le_of_ble_eq_true rfl) dX2_advance_60 (fun H locs hP hD hS => ?_)
      have hP : va_P (dC, dI) vwCl [(h0, .inr (2, [.ref tO, .int kqv, .int (nI pqv), .int (nI eqv), .int fa_])), (tO, .inr (3, [.ref sA, .int (nI nq)])), (sA, .inl (cC, 1600, .inl fs))] H := hP
      have hD : va_D A [(h0, .inr (2, [.ref tO, .int kqv, .int (nI pqv), .int (nI eqv), .int fa_])), (tO, .inr (3, [.ref sA, .int (nI nq)])), (sA, .inl (cC, 1600, .inl fs))] := hD
      refine lv_aload_n hx hb dX2_advance_63 rfl (lv_at hl 0 rfl) ?_
      refine va_get (D := (dC, dI)) (ci := 2) (v := .int kqv) (C := RX2) (T := TX2) (N := 5) hx hb hts i2 hown hK hP 0 rfl rfl 1 (by decide) (hts (.fieldLink RX2 32 "StopSetter$Reader" "sort" "I") (by decide +kernel)) (fun _ h9 => h9) rfl dX2_advance_64 ?_
      refine lv_iconst (v := 2) hx hb dX2_advance_67 (by decide) ?_
      refine lv_icmp_ne (tgt := 76) hx hb dX2_advance_68 (by decide) (fun c_68 => ?_) (fun c_68 => ?_)
      · skip
        refine lv_iconst (v := 4) hx hb dX2_advance_76 (by decide) ?_
        refine lv_istore_n (lv' := [(1, .int 4), (0, .ref h0)]) hx hb dX2_advance_77 rfl hl (by decide) rfl (fun ls hl => ?_)
        refine lv_aload_n hx hb dX2_advance_78 rfl (lv_at hl 1 rfl) ?_
        refine va_get (D := (dC, dI)) (ci := 2) (v := .int (nI eqv)) (C := RX2) (T := TX2) (N := 5) hx hb hts i2 hown hK hP 0 rfl rfl 3 (by decide) (hts (.fieldLink RX2 24 "StopSetter$Reader" "behind" "I") (by decide +kernel)) (fun _ h9 => h9) rfl dX2_advance_79 ?_
        refine lv_aload_n hx hb dX2_advance_82 rfl (lv_at hl 1 rfl) ?_
        refine va_get (D := (dC, dI)) (ci := 2) (v := .int (nI pqv)) (C := RX2) (T := TX2) (N := 5) hx hb hts i2 hown hK hP 0 rfl rfl 2 (by decide) (hts (.fieldLink RX2 106 "StopSetter$Reader" "place" "I") (by decide +kernel)) (fun _ h9 => h9) rfl dX2_advance_83 ?_
        refine lv_isub hx hb dX2_advance_86 ?_
        refine lv_topi (fun v_ ev_ => ?_)
        obtain rfl : v_ = (nI (eqv - pqv)) := ev_.trans (nI_sub heq9.1)
        refine lv_iload_n hx hb dX2_advance_87 rfl (lv_at hl 0 rfl) ?_
        refine lv_icmp_le (tgt := 96) hx hb dX2_advance_88 (by decide) (fun c_88 => ?_) (fun c_88 => ?_)
        · skip
          refine lv_goto (tgt := 123) hx hb dX2_advance_96 (by decide) ?_
          have hP9 := hP.sub (ws' := [(h0, .inr (2, [.ref tO, .int kqv, .int (nI pqv), .int (nI eqv), .int fa_])), (tO, .inr (3, [.ref sA, .int (nI nq)])), (sA, .inl (cC, 1600, .inl fs))]) [0, 1, 2] rfl
          have hD9 := hD.sub (ws' := [(h0, .inr (2, [.ref tO, .int kqv, .int (nI pqv), .int (nI eqv), .int fa_])), (tO, .inr (3, [.ref sA, .int (nI nq)])), (sA, .inl (cC, 1600, .inl fs))]) [0, 1, 2] (by decide) rfl
          have hens0 : rOK fs nq (jq, fa_) kqv (nI pqv) (nI eqv) fa_ := (rOK_mk ebq (adv3S epqv ekqv eeqv c_44 ((adv8 (d := eqv - pqv) (m := 4) (by omega) (by omega)).mp c_88)) (congrArg nI epqv) (congrArg nI (advE epqv ekqv eeqv (Or.inr c_44))))
          exact W.vret hx hb hr (fun t ht hW => ⟨⟨(kqv, nI pqv, (nI eqv)), rfl, hens0, by rw [ht]; exact hP9, hD9⟩, hS.F ht⟩) hS.2.2 dX2_advance_123
        · skip
          refine lv_aload_n hx hb dX2_advance_91 rfl (lv_at hl 1 rfl) ?_
          refine lv_iconst (v := 5) hx hb dX2_advance_92 (by decide) ?_
          refine va_put (D := (dC, dI)) (ci := 2) (v := .int 5) (ty := tyX2 1) (C := RX2) (T := TX2) (N := 5) hx hb hts i2 tyX2 tyX2_ok nmX2 hown hK hP hD hS 0 rfl rfl 1 (by decide) (hts (.fieldLink RX2 32 "StopSetter$Reader" "sort" "I") (by decide +kernel)) (fun _ h9 => h9) rfl (by decide +kernel) rfl rfl (Nat.le_of_ble_eq_true rfl) dX2_advance_93 (fun H locs hP hD hS => ?_)
          have hP : va_P (dC, dI) vwCl [(h0, .inr (2, [.ref tO, .int 5, .int (nI pqv), .int (nI eqv), .int fa_])), (tO, .inr (3, [.ref sA, .int (nI nq)])), (sA, .inl (cC, 1600, .inl fs))] H := hP
          have hD : va_D A [(h0, .inr (2, [.ref tO, .int 5, .int (nI pqv), .int (nI eqv), .int fa_])), (tO, .inr (3, [.ref sA, .int (nI nq)])), (sA, .inl (cC, 1600, .inl fs))] := hD
          refine lv_goto (tgt := 123) hx hb dX2_advance_96 (by decide) ?_
          have hP9 := hP.sub (ws' := [(h0, .inr (2, [.ref tO, .int 5, .int (nI pqv), .int (nI eqv), .int fa_])), (tO, .inr (3, [.ref sA, .int (nI nq)])), (sA, .inl (cC, 1600, .inl fs))]) [0, 1, 2] rfl
          have hD9 := hD.sub (ws' := [(h0, .inr (2, [.ref tO, .int 5, .int (nI pqv), .int (nI eqv), .int fa_])), (tO, .inr (3, [.ref sA, .int (nI nq)])), (sA, .inl (cC, 1600, .inl fs))]) [0, 1, 2] (by decide) rfl
          have hens0 : rOK fs nq (jq, fa_) 5 (nI pqv) (nI eqv) fa_ := (rOK_mk ebq (adv3N epqv ekqv eeqv c_44 (Decidable.of_not_not (fun z => c_88 ((adv8 (d := eqv - pqv) (m := 4) (by omega) (by omega)).mpr z)))) (congrArg nI epqv) (congrArg nI (advE epqv ekqv eeqv (Or.inr c_44))))
          exact W.vret hx hb hr (fun t ht hW => ⟨⟨(5, nI pqv, (nI eqv)), rfl, hens0, by rw [ht]; exact hP9, hD9⟩, hS.F ht⟩) hS.2.2 dX2_advance_123
      · skip
        refine lv_bipush (v := 8) hx hb dX2_advance_71 (by decide) ?_
        refine lv_goto (tgt := 77) hx hb dX2_advance_73 (by decide) ?_
        refine lv_istore_n (lv' := [(1, .int 8), (0, .ref h0)]) hx hb dX2_advance_77 rfl hl (by decide) rfl (fun ls hl => ?_)
        refine lv_aload_n hx hb dX2_advance_78 rfl (lv_at hl 1 rfl) ?_
        refine va_get (D := (dC, dI)) (ci := 2) (v := .int (nI eqv)) (C := RX2) (T := TX2) (N := 5) hx hb hts i2 hown hK hP 0 rfl rfl 3 (by decide) (hts (.fieldLink RX2 24 "StopSetter$Reader" "behind" "I") (by decide +kernel)) (fun _ h9 => h9) rfl dX2_advance_79 ?_
        refine lv_aload_n hx hb dX2_advance_82 rfl (lv_at hl 1 rfl) ?_
        refine va_get (D := (dC, dI)) (ci := 2) (v := .int (nI pqv)) (C := RX2) (T := TX2) (N := 5) hx hb hts i2 hown hK hP 0 rfl rfl 2 (by decide) (hts (.fieldLink RX2 106 "StopSetter$Reader" "place" "I") (by decide +kernel)) (fun _ h9 => h9) rfl dX2_advance_83 ?_
        refine lv_isub hx hb dX2_advance_86 ?_
        refine lv_topi (fun v_ ev_ => ?_)
        obtain rfl : v_ = (nI (eqv - pqv)) := ev_.trans (nI_sub heq9.1)
        refine lv_iload_n hx hb dX2_advance_87 rfl (lv_at hl 0 rfl) ?_
        refine lv_icmp_le (tgt := 96) hx hb dX2_advance_88 (by decide) (fun c_88 => ?_) (fun c_88 => ?_)
        · skip
          refine lv_goto (tgt := 123) hx hb dX2_advance_96 (by decide) ?_
          have hP9 := hP.sub (ws' := [(h0, .inr (2, [.ref tO, .int kqv, .int (nI pqv), .int (nI eqv), .int fa_])), (tO, .inr (3, [.ref sA, .int (nI nq)])), (sA, .inl (cC, 1600, .inl fs))]) [0, 1, 2] rfl
          have hD9 := hD.sub (ws' := [(h0, .inr (2, [.ref tO, .int kqv, .int (nI pqv), .int (nI eqv), .int fa_])), (tO, .inr (3, [.ref sA, .int (nI nq)])), (sA, .inl (cC, 1600, .inl fs))]) [0, 1, 2] (by decide) rfl
          have hens0 : rOK fs nq (jq, fa_) kqv (nI pqv) (nI eqv) fa_ := (absurd c_68 c_36)
          exact W.vret hx hb hr (fun t ht hW => ⟨⟨(kqv, nI pqv, (nI eqv)), rfl, hens0, by rw [ht]; exact hP9, hD9⟩, hS.F ht⟩) hS.2.2 dX2_advance_123
        · skip
          refine lv_aload_n hx hb dX2_advance_91 rfl (lv_at hl 1 rfl) ?_
          refine lv_iconst (v := 5) hx hb dX2_advance_92 (by decide) ?_
          refine va_put (D := (dC, dI)) (ci := 2) (v := .int 5) (ty := tyX2 1) (C := RX2) (T := TX2) (N := 5) hx hb hts i2 tyX2 tyX2_ok nmX2 hown hK hP hD hS 0 rfl rfl 1 (by decide) (hts (.fieldLink RX2 32 "StopSetter$Reader" "sort" "I") (by decide +kernel)) (fun _ h9 => h9) rfl (by decide +kernel) rfl rfl (Nat.le_of_ble_eq_true rfl) dX2_advance_93 (fun H locs hP hD hS => ?_)
          have hP : va_P (dC, dI) vwCl [(h0, .inr (2, [.ref tO, .int 5, .int (nI pqv), .int (nI eqv), .int fa_])), (tO, .inr (3, [.ref sA, .int (nI nq)])), (sA, .inl (cC, 1600, .inl fs))] H := hP
          have hD : va_D A [(h0, .inr (2, [.ref tO, .int 5, .int (nI pqv), .int (nI eqv), .int fa_])), (tO, .inr (3, [.ref sA, .int (nI nq)])), (sA, .inl (cC, 1600, .inl fs))] := hD
          refine lv_goto (tgt := 123) hx hb dX2_advance_96 (by decide) ?_
          have hP9 := hP.sub (ws' := [(h0, .inr (2, [.ref tO, .int 5, .int (nI pqv), .int (nI eqv), .int fa_])), (tO, .inr (3, [.ref sA, .int (nI nq)])), (sA, .inl (cC, 1600, .inl fs))]) [0, 1, 2] rfl
          have hD9 := hD.sub (ws' := [(h0, .inr (2, [.ref tO, .int 5, .int (nI pqv), .int (nI eqv), .int fa_])), (tO, .inr (3, [.ref sA, .int (nI nq)])), (sA, .inl (cC, 1600, .inl fs))]) [0, 1, 2] (by decide) rfl
          have hens0 : rOK fs nq (jq, fa_) 5 (nI pqv) (nI eqv) fa_ := (absurd c_68 c_36)
          exact W.vret hx hb hr (fun t ht hW => ⟨⟨(5, nI pqv, (nI eqv)), rfl, hens0, by rw [ht]; exact hP9, hD9⟩, hS.F ht⟩) hS.2.2 dX2_advance_123
set_option maxHeartbeats 4000000 in
set_option maxRecDepth 100000 in
theorem k_refuse (l : Launch) (dC : Nat → ClassId) (dI : Nat → Nat → Nat) (cI cZ cC cJ : ClassId) (sz : Nat) (h0 : Nat) (tO : Nat) (so : Int32) (pl : Int32) (bh : Int32) (fa_ : Int32) (wq : Nat) (fs : Nat → Int32) (nq : Nat) (qs : Nat × Int32) (hR : rOK fs nq qs so pl bh fa_) : Met l yX2_refuse wsX2_refuse ({ frames := 0, cells := 0, slots := 0, locals := 0 }) (va_Pc [.ref h0, .int (nI wq)] (sPre dC dI cI cZ cC cJ [(h0, .inr (2, [.ref tO, .int so, .int pl, .int bh, .int fa_]))] sz)) (va_Qv (fun (u : (Int32)) => match u with | fa_2 => (rOK fs nq (stR (tkO fs nq) wq qs) so pl bh fa_2)) (fun (u : (Int32)) t => match u with | fa_2 => sB dC dI (va_A [(h0, .inr (2, [.ref tO, .int so, .int pl, .int bh, .int fa_]))] sz) [(h0, .inr (2, [.ref tO, .int so, .int pl, .int bh, .int fa_2]))] t) (va_A [(h0, .inr (2, [.ref tO, .int so, .int pl, .int bh, .int fa_]))] sz)) 0 0 (va_A [(h0, .inr (2, [.ref tO, .int so, .int pl, .int bh, .int fa_]))] sz) := by
  refine Met.ofW (cc := cX2_refuse) (maxL := 2) (ret := none) (by decide) rfl ?_
  intro p e s m args below meth c s₁ B hml hv
  obtain ⟨rfl, hsz, hP, hsk, hD0⟩ := hv
  have hx := B.exec
  have hb := B.bytes
  have hr := B.returns
  have hts := atoms_spec (ws := wsX2_refuse) B.pre
  have hown : s.vm.findClass RX2 = some m.cls := findClass_of_methodNamed B.named
  have hlocks := B.notSynchronized
  have hK := hsk.1
  have i2 : ∀ w ∈ wsX20, w ∈ wsX2_refuse := by decide +kernel
  subst hsz
  have hD := hD0.self (sz := s.heap.size)
  generalize hAe : va_A [(h0, .inr (2, [.ref tO, .int so, .int pl, .int bh, .int fa_]))] s.heap.size = A at hD ⊢
  have hA : ∀ q : Nat, s.heap.size ≤ q → A q := fun q h => by rw [← hAe]; exact Or.inr h
  have hS : va_S A s.heap s.heap [] := va_S.rf
  have hl := lv_entry ([.ref h0, .int (nI wq)]) (n := 2) (Nat.le_of_ble_eq_true rfl)
  rw [lg_entry_eq]
  generalize (lg_sl ([.ref h0, .int (nI wq)]) ++ List.replicate (2 - (lg_sl ([.ref h0, .int (nI wq)])).length) Slot.unset).toArray = ls at hl ⊢
  have hl : lv_has ls 2 [(0, .ref h0), (1, .int (nI wq))] := hl
  refine lv_aload_n hx hb dX2_refuse_0 rfl (lv_at hl 0 rfl) ?_
  refine va_get (D := (dC, dI)) (ci := 2) (v := .int fa_) (C := RX2) (T := TX2) (N := 5) hx hb hts i2 hown hK hP 0 rfl rfl 4 (by decide) (hts (.fieldLink RX2 20 "StopSetter$Reader" "fault" "I") (by decide +kernel)) (fun _ h9 => h9) rfl dX2_refuse_1 ?_
  refine lv_if_ne (tgt := 20) hx hb dX2_refuse_4 (by decide) (fun c_4 => ?_) (fun c_4 => ?_)
  · skip
    have hP9 := hP.sub (ws' := [(h0, .inr (2, [.ref tO, .int so, .int pl, .int bh, .int fa_]))]) [0] rfl
    have hD9 := hD.sub (ws' := [(h0, .inr (2, [.ref tO, .int so, .int pl, .int bh, .int fa_]))]) [0] (by decide) rfl
    have hens0 : rOK fs nq (stR (tkO fs nq) wq qs) so pl bh fa_ := (rOK_R0 hR c_4)
    exact W.vret hx hb hr (fun t ht hW => ⟨⟨(fa_), rfl, hens0, by rw [ht]; exact hP9, hD9⟩, hS.F ht⟩) hS.2.2 dX2_refuse_20
  · skip
    refine lv_aload_n hx hb dX2_refuse_7 rfl (lv_at hl 0 rfl) ?_
    refine lv_iload_n hx hb dX2_refuse_8 rfl (lv_at hl 1 rfl) ?_
    refine lv_bipush (v := 16) hx hb dX2_refuse_9 (by decide) ?_
    refine lv_aload_n hx hb dX2_refuse_11 rfl (lv_at hl 0 rfl) ?_
    refine va_get (D := (dC, dI)) (ci := 2) (v := .int pl) (C := RX2) (T := TX2) (N := 5) hx hb hts i2 hown hK hP 0 rfl rfl 2 (by decide) (hts (.fieldLink RX2 106 "StopSetter$Reader" "place" "I") (by decide +kernel)) (fun _ h9 => h9) rfl dX2_refuse_12 ?_
    refine lv_topi (fun v_ ev_ => ?_)
    obtain rfl : v_ = (nI (aP fs nq qs.1)) := ev_.trans (hR.2.1)
    refine lv_imul hx hb dX2_refuse_15 ?_
    refine lv_topi (fun v_ ev_ => ?_)
    obtain rfl : v_ = (nI (16 * (aP fs nq qs.1))) := ev_.trans (nI_mulT 16 _)
    refine lv_iadd hx hb dX2_refuse_16 ?_
    refine lv_topi (fun v_ ev_ => ?_)
    obtain rfl : v_ = (nI (wq + 16 * (aP fs nq qs.1))) := ev_.trans (nI_add _ _)
    refine va_put (D := (dC, dI)) (ci := 2) (v := .int (nI (wq + 16 * (aP fs nq qs.1)))) (ty := tyX2 4) (C := RX2) (T := TX2) (N := 5) hx hb hts i2 tyX2 tyX2_ok nmX2 hown hK hP hD hS 0 rfl rfl 4 (by decide) (hts (.fieldLink RX2 20 "StopSetter$Reader" "fault" "I") (by decide +kernel)) (fun _ h9 => h9) rfl (by decide +kernel) rfl rfl (Nat.le_of_ble_eq_true rfl) dX2_refuse_17 (fun H locs hP hD hS => ?_)
    have hP : va_P (dC, dI) vwCl [(h0, .inr (2, [.ref tO, .int so, .int pl, .int bh, .int (nI (wq + 16 * (aP fs nq qs.1)))]))] H := hP
    have hD : va_D A [(h0, .inr (2, [.ref tO, .int so, .int pl, .int bh, .int (nI (wq + 16 * (aP fs nq qs.1)))]))] := hD
    have hP9 := hP.sub (ws' := [(h0, .inr (2, [.ref tO, .int so, .int pl, .int bh, .int (nI (wq + 16 * (aP fs nq qs.1)))]))]) [0] rfl
    have hD9 := hD.sub (ws' := [(h0, .inr (2, [.ref tO, .int so, .int pl, .int bh, .int (nI (wq + 16 * (aP fs nq qs.1)))]))]) [0] (by decide) rfl
    have hens0 : rOK fs nq (stR (tkO fs nq) wq qs) so pl bh (nI (wq + 16 * (aP fs nq qs.1))) := (rOK_R1 hR c_4)
    exact W.vret hx hb hr (fun t ht hW => ⟨⟨((nI (wq + 16 * (aP fs nq qs.1)))), rfl, hens0, by rw [ht]; exact hP9, hD9⟩, hS.F ht⟩) hS.2.2 dX2_refuse_20
set_option maxHeartbeats 4000000 in
set_option maxRecDepth 100000 in
theorem k_numberHere (l : Launch) (dC : Nat → ClassId) (dI : Nat → Nat → Nat) (cI cZ cC cJ : ClassId) (sz : Nat) (h0 : Nat) (tO : Nat) (so : Int32) (pl : Int32) (bh : Int32) (fa_ : Int32) (sA : Nat) (nq : Nat) (fs : Nat → Int32) (aq : Nat) (bq : Nat) (hnq : nq ≤ 1600) (hpl : pl = nI aq) (hbh : bh = nI bq) (haq : aq ≤ bq) (hbq : bq ≤ nq) : Met l yX2_numberHere wsX2_numberHere ({ frames := 1, cells := 0, slots := 0, locals := 21 }) (va_Pc [.ref h0] (sPre dC dI cI cZ cC cJ [(h0, .inr (2, [.ref tO, .int so, .int pl, .int bh, .int fa_])), (tO, .inr (3, [.ref sA, .int (nI nq)])), (sA, .inl (cC, 1600, .inl fs))] sz)) (va_Qi (fun (r : Int32) (u : Unit) => r = nmF fs (bq - aq) aq 0) (fun _ => sB dC dI (va_A [(h0, .inr (2, [.ref tO, .int so, .int pl, .int bh, .int fa_])), (tO, .inr (3, [.ref sA, .int (nI nq)])), (sA, .inl (cC, 1600, .inl fs))] sz) [(h0, .inr (2, [.ref tO, .int so, .int pl, .int bh, .int fa_])), (tO, .inr (3, [.ref sA, .int (nI nq)])), (sA, .inl (cC, 1600, .inl fs))]) (va_A [(h0, .inr (2, [.ref tO, .int so, .int pl, .int bh, .int fa_])), (tO, .inr (3, [.ref sA, .int (nI nq)])), (sA, .inl (cC, 1600, .inl fs))] sz)) 0 0 (va_A [(h0, .inr (2, [.ref tO, .int so, .int pl, .int bh, .int fa_])), (tO, .inr (3, [.ref sA, .int (nI nq)])), (sA, .inl (cC, 1600, .inl fs))] sz) := by
  refine Met.ofW (cc := cX2_numberHere) (maxL := 3) (ret := (some .int)) (by decide) rfl ?_
  intro p e s m args below meth c s₁ B hml hv
  obtain ⟨rfl, hsz, hP, hsk, hD0⟩ := hv
  have hx := B.exec
  have hb := B.bytes
  have hr := B.returns
  have hts := atoms_spec (ws := wsX2_numberHere) B.pre
  have hown : s.vm.findClass RX2 = some m.cls := findClass_of_methodNamed B.named
  have hlocks := B.notSynchronized
  have hK := hsk.1
  have i2 : ∀ w ∈ wsX20, w ∈ wsX2_numberHere := by decide +kernel
  subst hsz
  have hD := hD0.self (sz := s.heap.size)
  generalize hAe : va_A [(h0, .inr (2, [.ref tO, .int so, .int pl, .int bh, .int fa_])), (tO, .inr (3, [.ref sA, .int (nI nq)])), (sA, .inl (cC, 1600, .inl fs))] s.heap.size = A at hD ⊢
  have hA : ∀ q : Nat, s.heap.size ≤ q → A q := fun q h => by rw [← hAe]; exact Or.inr h
  have hS : va_S A s.heap s.heap [] := va_S.rf
  have hl := lv_entry ([.ref h0]) (n := 3) (Nat.le_of_ble_eq_true rfl)
  rw [lg_entry_eq]
  generalize (lg_sl ([.ref h0]) ++ List.replicate (3 - (lg_sl ([.ref h0])).length) Slot.unset).toArray = ls at hl ⊢
  have hl : lv_has ls 3 [(0, .ref h0)] := hl
  obtain ⟨Rq, eRq⟩ : ∃ R9, R9 = nmF fs (bq - aq) aq 0 := ⟨_, rfl⟩
  refine lv_iconst (v := 0) hx hb dX2_numberHere_0 (by decide) ?_
  refine lv_istore_n (lv' := [(1, .int 0), (0, .ref h0)]) hx hb dX2_numberHere_1 rfl hl (by decide) rfl (fun ls hl => ?_)
  refine lv_aload_n hx hb dX2_numberHere_2 rfl (lv_at hl 1 rfl) ?_
  refine va_get (D := (dC, dI)) (ci := 2) (v := .int pl) (C := RX2) (T := TX2) (N := 5) hx hb hts i2 hown hK hP 0 rfl rfl 2 (by decide) (hts (.fieldLink RX2 106 "StopSetter$Reader" "place" "I") (by decide +kernel)) (fun _ h9 => h9) rfl dX2_numberHere_3 ?_
  refine lv_topi (fun v_ ev_ => ?_)
  obtain rfl : v_ = (nI aq) := ev_.trans (hpl)
  refine lv_istore_n (lv' := [(2, .int (nI aq)), (1, .int 0), (0, .ref h0)]) hx hb dX2_numberHere_6 rfl hl (by decide) rfl (fun ls hl => ?_)
  have lp_7 : ∀ (n_7 : Nat) (ivq : Nat) (va : Int32), bq + 1 ≤ ivq + n_7 → ivq ≤ bq → nmF fs (bq - ivq) ivq va = Rq → ∀ (H : Heap) (locs : List Loc) (ls : Array Slot), va_P (dC, dI) vwCl [(h0, .inr (2, [.ref tO, .int so, .int pl, .int bh, .int fa_])), (tO, .inr (3, [.ref sA, .int (nI nq)])), (sA, .inl (cC, 1600, .inl fs))] H → va_D A [(h0, .inr (2, [.ref tO, .int so, .int pl, .int bh, .int fa_])), (tO, .inr (3, [.ref sA, .int (nI nq)])), (sA, .inl (cC, 1600, .inl fs))] → va_S A s.heap H locs → lv_has ls 3 [(2, .int (nI ivq)), (1, .int va), (0, .ref h0)] → W p l e (headSpec wsX2_numberHere ({ frames := 1, cells := 0, slots := 0, locals := 21 })).room s m ([.ref h0]).toArray below meth c H locs 0 0 (MQ below (va_Qi (fun (r : Int32) (u : Unit) => r = nmF fs (bq - aq) aq 0) (fun _ => sB dC dI A [(h0, .inr (2, [.ref tO, .int so, .int pl, .int bh, .int fa_])), (tO, .inr (3, [.ref sA, .int (nI nq)])), (sA, .inl (cC, 1600, .inl fs))]) A) ([.ref h0]).toArray s 0 0 A) (F0 m 7 ls []) := by
    intro n_7
    induction n_7 with
    | zero =>
      intro ivq va fuel_7 hiv hE
      exact absurd fuel_7 (by omega)
    | succ n_7 ih_7 =>
      intro ivq va fuel_7 hiv hE H locs ls hP hD hS hl
      refine lv_iload_n hx hb dX2_numberHere_7 rfl (lv_at hl 0 rfl) ?_
      refine lv_aload_n hx hb dX2_numberHere_8 rfl (lv_at hl 2 rfl) ?_
      refine va_get (D := (dC, dI)) (ci := 2) (v := .int bh) (C := RX2) (T := TX2) (N := 5) hx hb hts i2 hown hK hP 0 rfl rfl 3 (by decide) (hts (.fieldLink RX2 24 "StopSetter$Reader" "behind" "I") (by decide +kernel)) (fun _ h9 => h9) rfl dX2_numberHere_9 ?_
      refine lv_topi (fun v_ ev_ => ?_)
      obtain rfl : v_ = (nI bq) := ev_.trans (hbh)
      refine lv_icmp_ge (tgt := 38) hx hb dX2_numberHere_12 (by decide) (fun c_12 => ?_) (fun c_12 => ?_)
      · skip
        refine lv_iload_n hx hb dX2_numberHere_38 rfl (lv_at hl 1 rfl) ?_
        have hP9 := hP.sub (ws' := [(h0, .inr (2, [.ref tO, .int so, .int pl, .int bh, .int fa_])), (tO, .inr (3, [.ref sA, .int (nI nq)])), (sA, .inl (cC, 1600, .inl fs))]) [0, 1, 2] rfl
        have hD9 := hD.sub (ws' := [(h0, .inr (2, [.ref tO, .int so, .int pl, .int bh, .int fa_])), (tO, .inr (3, [.ref sA, .int (nI nq)])), (sA, .inl (cC, 1600, .inl fs))]) [0, 1, 2] (by decide) rfl
        exact W.iret (v := va) hx hb hr (fun t ht hW => ⟨⟨va, (), rfl, (by rw [← eRq, ← hE, show bq - ivq = 0 by have := (nI_leI (a := bq) (b := ivq) (by omega) (by omega)).mp c_12; omega]; rfl), by rw [ht]; exact hP9, hD9⟩, hS.F ht⟩) hS.2.2 dX2_numberHere_39
      · skip
        have hlt : ivq < bq := nk_lt rfl c_12 (by omega)
        refine lv_iload_n hx hb dX2_numberHere_15 rfl (lv_at hl 1 rfl) ?_
        refine lv_bipush (v := 10) hx hb dX2_numberHere_16 (by decide) ?_
        refine lv_imul hx hb dX2_numberHere_18 ?_
        refine lv_aload_n hx hb dX2_numberHere_19 rfl (lv_at hl 2 rfl) ?_
        refine va_get (D := (dC, dI)) (ci := 2) (v := .ref tO) (C := RX2) (T := TX2) (N := 5) hx hb hts i2 hown hK hP 0 rfl rfl 0 (by decide) (hts (.fieldLink RX2 9 "StopSetter$Reader" "tape" "LStopSetter$Tape;") (by decide +kernel)) (fun _ h9 => h9) rfl dX2_numberHere_20 ?_
        refine lv_iload_n hx hb dX2_numberHere_23 rfl (lv_at hl 0 rfl) ?_
        have hPc := hP.sub (ws' := [(tO, .inr (3, [.ref sA, .int (nI nq)])), (sA, .inl (cC, 1600, .inl fs))]) [1, 2] rfl
        have hDc := hD.sub (ws' := [(tO, .inr (3, [.ref sA, .int (nI nq)])), (sA, .inl (cC, 1600, .inl fs))]) [1, 2] (by decide) rfl
        have hFc := va_free (wc := [(tO, .inr (3, [.ref sA, .int (nI nq)])), (sA, .inl (cC, 1600, .inl fs))]) hD hS hA [1, 2] rfl
        refine va_calli (va_runV (As := [.int (nI ivq)]) (rest := [.int (va * 10)]) ⟨hx, hb, hml, hown, hts⟩ (k_signAt l dC dI cI cZ cC cJ H.size  tO sA nq fs ivq (by first | assumption | decide | omega) (by omega)) (cwV 1 hts gX2_numberHere_X3_signAt rfl rfl rfl (by decide +kernel) ⟨Nat.le_of_ble_eq_true rfl, Nat.le_of_ble_eq_true rfl⟩) ⟨sPre_blind, va_recv hK hPc (ci := 3) (q0 := 0) rfl rfl, fun U hU hW => ⟨rfl, sPre_ok hsk hPc hDc hU hW⟩⟩ rfl rfl hl.1 rfl (lv_room (Nat.le_of_ble_eq_true rfl)) dX2_numberHere_24 ⟨(show 0 + 0 ≤ 0 by omega), (show 0 + 0 ≤ 0 by omega)⟩) hS (fun q _ h => hFc q h) hFc (fun r_1 u t H1 locs ht hvm hw hB hz1 hk1 hS => ?_)
        try dsimp only at hw hB
        have hw_2 := hw
        obtain rfl : r_1 = sgA fs nq ivq := hw_2
        obtain ⟨hP1, hD1⟩ := hB
        rw [ht] at hP1
        obtain ⟨hP, hD⟩ := va_join (wr := [(h0, .inr (2, [.ref tO, .int so, .int pl, .int bh, .int fa_]))]) (w1 := [(tO, .inr (3, [.ref sA, .int (nI nq)])), (sA, .inl (cC, 1600, .inl fs))]) hP hD [1, 2] [0] rfl rfl (by decide) (by decide) hk1 hFc hP1 hD1
        generalize H1 = H at hP hS ⊢
        have hP : va_P (dC, dI) vwCl [(h0, .inr (2, [.ref tO, .int so, .int pl, .int bh, .int fa_])), (tO, .inr (3, [.ref sA, .int (nI nq)])), (sA, .inl (cC, 1600, .inl fs))] H := hP
        have hD : va_D A [(h0, .inr (2, [.ref tO, .int so, .int pl, .int bh, .int fa_])), (tO, .inr (3, [.ref sA, .int (nI nq)])), (sA, .inl (cC, 1600, .inl fs))] := hD
        refine lv_iadd hx hb dX2_numberHere_27 ?_
        refine lv_bipush (v := 48) hx hb dX2_numberHere_28 (by decide) ?_
        refine lv_isub hx hb dX2_numberHere_30 ?_
        refine lv_istore_n (lv' := [(1, .int (((va * 10) + sgA fs nq ivq) - 48)), (2, .int (nI ivq)), (0, .ref h0)]) hx hb dX2_numberHere_31 rfl hl (by decide) rfl (fun ls hl => ?_)
        refine lv_iinc (v := (nI (ivq + 1))) (lv' := [(2, .int (nI (ivq + 1))), (1, .int (((va * 10) + sgA fs nq ivq) - 48)), (0, .ref h0)]) hx hb dX2_numberHere_32 hl (k := 1) rfl (nI_1 ivq) (by decide) rfl (fun ls hl => ?_)
        refine lv_goto (tgt := 7) hx hb dX2_numberHere_35 (by decide) ?_
        exact ih_7  (ivq + 1) (((va * 10) + sgA fs nq ivq) - 48) (by omega) (by omega) (by rw [sgA_lt (by omega)]; exact (nmF_step hlt).symm.trans hE) _ _ _ hP hD hS (lv_sub hl [0, 1, 2] rfl)
  exact lp_7 (bq + 1) aq 0 (by omega) (by omega) (eRq.symm) _ _ _ hP hD hS (lv_sub hl [0, 1, 2] rfl)
set_option maxHeartbeats 4000000 in
set_option maxRecDepth 100000 in
theorem k_readNumber (l : Launch) (dC : Nat → ClassId) (dI : Nat → Nat → Nat) (cI cZ cC cJ : ClassId) (sz : Nat) (h0 : Nat) (tO : Nat) (so : Int32) (pl : Int32) (bh : Int32) (fa_ : Int32) (sA : Nat) (nq : Nat) (fs : Nat → Int32) (topq : Nat) (qs : Nat × Int32) (hnq : nq ≤ 1600) (hR : rOK fs nq qs so pl bh fa_) : Met l yX2_readNumber wsX2_readNumber ({ frames := 3, cells := 0, slots := 0, locals := 65 }) (va_Pc [.ref h0, .int (nI topq)] (sPre dC dI cI cZ cC cJ [(h0, .inr (2, [.ref tO, .int so, .int pl, .int bh, .int fa_])), (tO, .inr (3, [.ref sA, .int (nI nq)])), (sA, .inl (cC, 1600, .inl fs))] sz)) (va_Qi (fun (r : Int32) (u : (Int32) × (Int32) × (Int32) × (Int32)) => match u with | (so2, pl2, bh2, fa_2) => ((r : Int32) = nV (tkO fs nq) qs) ∧ (rOK fs nq (stN (tkO fs nq) topq qs) so2 pl2 bh2 fa_2)) (fun (u : (Int32) × (Int32) × (Int32) × (Int32)) t => match u with | (so2, pl2, bh2, fa_2) => sB dC dI (va_A [(h0, .inr (2, [.ref tO, .int so, .int pl, .int bh, .int fa_])), (tO, .inr (3, [.ref sA, .int (nI nq)])), (sA, .inl (cC, 1600, .inl fs))] sz) [(h0, .inr (2, [.ref tO, .int so2, .int pl2, .int bh2, .int fa_2])), (tO, .inr (3, [.ref sA, .int (nI nq)])), (sA, .inl (cC, 1600, .inl fs))] t) (va_A [(h0, .inr (2, [.ref tO, .int so, .int pl, .int bh, .int fa_])), (tO, .inr (3, [.ref sA, .int (nI nq)])), (sA, .inl (cC, 1600, .inl fs))] sz)) 0 0 (va_A [(h0, .inr (2, [.ref tO, .int so, .int pl, .int bh, .int fa_])), (tO, .inr (3, [.ref sA, .int (nI nq)])), (sA, .inl (cC, 1600, .inl fs))] sz) := by
  refine Met.ofW (cc := cX2_readNumber) (maxL := 3) (ret := (some .int)) (by decide) rfl ?_
  intro p e s m args below meth c s₁ B hml hv
  obtain ⟨rfl, hsz, hP, hsk, hD0⟩ := hv
  have hx := B.exec
  have hb := B.bytes
  have hr := B.returns
  have hts := atoms_spec (ws := wsX2_readNumber) B.pre
  have hown : s.vm.findClass RX2 = some m.cls := findClass_of_methodNamed B.named
  have hlocks := B.notSynchronized
  have hK := hsk.1
  have i2 : ∀ w ∈ wsX20, w ∈ wsX2_readNumber := by decide +kernel
  subst hsz
  have hD := hD0.self (sz := s.heap.size)
  generalize hAe : va_A [(h0, .inr (2, [.ref tO, .int so, .int pl, .int bh, .int fa_])), (tO, .inr (3, [.ref sA, .int (nI nq)])), (sA, .inl (cC, 1600, .inl fs))] s.heap.size = A at hD ⊢
  have hA : ∀ q : Nat, s.heap.size ≤ q → A q := fun q h => by rw [← hAe]; exact Or.inr h
  have hS : va_S A s.heap s.heap [] := va_S.rf
  have hl := lv_entry ([.ref h0, .int (nI topq)]) (n := 3) (Nat.le_of_ble_eq_true rfl)
  rw [lg_entry_eq]
  generalize (lg_sl ([.ref h0, .int (nI topq)]) ++ List.replicate (3 - (lg_sl ([.ref h0, .int (nI topq)])).length) Slot.unset).toArray = ls at hl ⊢
  have hl : lv_has ls 3 [(0, .ref h0), (1, .int (nI topq))] := hl
  refine lv_aload_n hx hb dX2_readNumber_0 rfl (lv_at hl 0 rfl) ?_
  refine va_get (D := (dC, dI)) (ci := 2) (v := .int so) (C := RX2) (T := TX2) (N := 5) hx hb hts i2 hown hK hP 0 rfl rfl 1 (by decide) (hts (.fieldLink RX2 32 "StopSetter$Reader" "sort" "I") (by decide +kernel)) (fun _ h9 => h9) rfl dX2_readNumber_1 ?_
  refine lv_iconst (v := 3) hx hb dX2_readNumber_4 (by decide) ?_
  refine lv_icmp_ne (tgt := 15) hx hb dX2_readNumber_5 (by decide) (fun c_5 => ?_) (fun c_5 => ?_)
  · skip
    refine lv_iconst (v := 0) hx hb dX2_readNumber_15 (by decide) ?_
    refine lv_istore_n (lv' := [(2, .int 0), (0, .ref h0), (1, .int (nI topq))]) hx hb dX2_readNumber_16 rfl hl (by decide) rfl (fun ls hl => ?_)
    refine lv_aload_n hx hb dX2_readNumber_17 rfl (lv_at hl 1 rfl) ?_
    refine va_get (D := (dC, dI)) (ci := 2) (v := .int so) (C := RX2) (T := TX2) (N := 5) hx hb hts i2 hown hK hP 0 rfl rfl 1 (by decide) (hts (.fieldLink RX2 32 "StopSetter$Reader" "sort" "I") (by decide +kernel)) (fun _ h9 => h9) rfl dX2_readNumber_18 ?_
    refine lv_iconst (v := 3) hx hb dX2_readNumber_21 (by decide) ?_
    refine lv_icmp_eq (tgt := 33) hx hb dX2_readNumber_22 (by decide) (fun h9 => absurd h9 c_5) (fun _ => ?_)
    refine lv_aload_n hx hb dX2_readNumber_25 rfl (lv_at hl 1 rfl) ?_
    refine lv_iconst (v := 1) hx hb dX2_readNumber_26 (by decide) ?_
    have hPc := hP.sub (ws' := [(h0, .inr (2, [.ref tO, .int so, .int pl, .int bh, .int fa_]))]) [0] rfl
    have hDc := hD.sub (ws' := [(h0, .inr (2, [.ref tO, .int so, .int pl, .int bh, .int fa_]))]) [0] (by decide) rfl
    have hFc := va_free (wc := [(h0, .inr (2, [.ref tO, .int so, .int pl, .int bh, .int fa_]))]) hD hS hA [0] rfl
    refine va_callv (va_runV (As := [.int 1]) (rest := []) ⟨hx, hb, hml, hown, hts⟩ (k_refuse l dC dI cI cZ cC cJ s.heap.size  h0 tO so pl bh fa_ 1 fs nq qs hR) (cwV 1 hts gX2_readNumber_X2_refuse rfl rfl rfl (by decide +kernel) ⟨Nat.le_of_ble_eq_true rfl, Nat.le_of_ble_eq_true rfl⟩) ⟨sPre_blind, va_recv hK hPc (ci := 2) (q0 := 0) rfl rfl, fun U hU hW => ⟨rfl, sPre_ok hsk hPc hDc hU hW⟩⟩ rfl rfl hl.1 rfl (lv_room (Nat.le_of_ble_eq_true rfl)) dX2_readNumber_27 ⟨(show 0 + 0 ≤ 0 by omega), (show 0 + 0 ≤ 0 by omega)⟩) hS (fun q _ h => hFc q h) hFc (fun u t H1 locs ht hvm hw hB hz1 hk1 hS => ?_)
    obtain ⟨f_2, rfl⟩ : ∃ z, z = u := ⟨_, rfl⟩
    try dsimp only at hw hB
    have he_3 := hw
    have he_3 : rOK fs nq (stR (tkO fs nq) 1 qs) so pl bh f_2 := he_3
    obtain ⟨q_4, eq_4⟩ : ∃ x9 : Nat × Int32, x9 = stR (tkO fs nq) 1 qs := ⟨_, rfl⟩
    rw [← eq_4] at he_3
    obtain ⟨hP1, hD1⟩ := hB
    rw [ht] at hP1
    obtain ⟨hP, hD⟩ := va_join (wr := [(tO, .inr (3, [.ref sA, .int (nI nq)])), (sA, .inl (cC, 1600, .inl fs))]) (w1 := [(h0, .inr (2, [.ref tO, .int so, .int pl, .int bh, .int f_2]))]) hP hD [0] [1, 2] rfl rfl (by decide) (by decide) hk1 hFc hP1 hD1
    generalize H1 = H at hP hS ⊢
    have hP : va_P (dC, dI) vwCl [(tO, .inr (3, [.ref sA, .int (nI nq)])), (sA, .inl (cC, 1600, .inl fs)), (h0, .inr (2, [.ref tO, .int so, .int pl, .int bh, .int f_2]))] H := hP
    have hD : va_D A [(tO, .inr (3, [.ref sA, .int (nI nq)])), (sA, .inl (cC, 1600, .inl fs)), (h0, .inr (2, [.ref tO, .int so, .int pl, .int bh, .int f_2]))] := hD
    refine lv_goto (tgt := 57) hx hb dX2_readNumber_30 (by decide) ?_
    refine lv_iload_n hx hb dX2_readNumber_57 rfl (lv_at hl 0 rfl) ?_
    have hP9 := hP.sub (ws' := [(h0, .inr (2, [.ref tO, .int so, .int pl, .int bh, .int f_2])), (tO, .inr (3, [.ref sA, .int (nI nq)])), (sA, .inl (cC, 1600, .inl fs))]) [2, 0, 1] rfl
    have hD9 := hD.sub (ws' := [(h0, .inr (2, [.ref tO, .int so, .int pl, .int bh, .int f_2])), (tO, .inr (3, [.ref sA, .int (nI nq)])), (sA, .inl (cC, 1600, .inl fs))]) [2, 0, 1] (by decide) rfl
    have hens0 : (0 : Int32) = nV (tkO fs nq) qs := (by unfold nV; rw [if_neg (show ¬ (tkO fs nq).S qs.1 = 3 from fun z => c_5 (hR.1.trans z))])
    have hens1 : rOK fs nq (stN (tkO fs nq) topq qs) so pl bh f_2 := (rOK_of he_3 (eq_4.trans (stN_no (fun z => c_5 (hR.1.trans z)))))
    exact W.iret (v := 0) hx hb hr (fun t ht hW => ⟨⟨0, (so, pl, bh, f_2), rfl, ⟨hens0, hens1⟩, by rw [ht]; exact hP9, hD9⟩, hS.F ht⟩) hS.2.2 dX2_readNumber_58
  · skip
    have hS3 : (tkO fs nq).S qs.1 = 3 := hR.1.symm.trans c_5
    refine lv_aload_n hx hb dX2_readNumber_8 rfl (lv_at hl 0 rfl) ?_
    have hPc := hP.sub (ws' := [(h0, .inr (2, [.ref tO, .int so, .int pl, .int bh, .int fa_])), (tO, .inr (3, [.ref sA, .int (nI nq)])), (sA, .inl (cC, 1600, .inl fs))]) [0, 1, 2] rfl
    have hDc := hD.sub (ws' := [(h0, .inr (2, [.ref tO, .int so, .int pl, .int bh, .int fa_])), (tO, .inr (3, [.ref sA, .int (nI nq)])), (sA, .inl (cC, 1600, .inl fs))]) [0, 1, 2] (by decide) rfl
    have hFc := va_free (wc := [(h0, .inr (2, [.ref tO, .int so, .int pl, .int bh, .int fa_])), (tO, .inr (3, [.ref sA, .int (nI nq)])), (sA, .inl (cC, 1600, .inl fs))]) hD hS hA [0, 1, 2] rfl
    refine va_calli (va_runV (As := []) (rest := []) ⟨hx, hb, hml, hown, hts⟩ (k_numberHere l dC dI cI cZ cC cJ s.heap.size  h0 tO so pl bh fa_ sA nq fs (aP fs nq qs.1) (bs fs nq (qs.1 + 1)) (by first | assumption | decide | omega) hR.2.1 hR.2.2.1 (tkB_ge fs nq (bs fs nq qs.1)) (bs_le fs nq (qs.1 + 1))) (cwV 0 hts gX2_readNumber_X2_numberHere rfl rfl rfl (by decide +kernel) ⟨Nat.le_of_ble_eq_true rfl, Nat.le_of_ble_eq_true rfl⟩) ⟨sPre_blind, va_recv hK hPc (ci := 2) (q0 := 0) rfl rfl, fun U hU hW => ⟨rfl, sPre_ok hsk hPc hDc hU hW⟩⟩ rfl rfl hl.1 rfl (lv_room (Nat.le_of_ble_eq_true rfl)) dX2_readNumber_9 ⟨(show 0 + 0 ≤ 0 by omega), (show 0 + 0 ≤ 0 by omega)⟩) hS (fun q _ h => hFc q h) hFc (fun r_5 u t H1 locs ht hvm hw hB hz1 hk1 hS => ?_)
    try dsimp only at hw hB
    have hw_6 := hw
    obtain rfl : r_5 = nmF fs ((bs fs nq (qs.1 + 1)) - (aP fs nq qs.1)) (aP fs nq qs.1) 0 := hw_6
    obtain ⟨hP1, hD1⟩ := hB
    rw [ht] at hP1
    obtain ⟨hP, hD⟩ := va_join (wr := []) (w1 := [(h0, .inr (2, [.ref tO, .int so, .int pl, .int bh, .int fa_])), (tO, .inr (3, [.ref sA, .int (nI nq)])), (sA, .inl (cC, 1600, .inl fs))]) hP hD [0, 1, 2] [] rfl rfl (by decide) (by decide) hk1 hFc hP1 hD1
    generalize H1 = H at hP hS ⊢
    have hP : va_P (dC, dI) vwCl [(h0, .inr (2, [.ref tO, .int so, .int pl, .int bh, .int fa_])), (tO, .inr (3, [.ref sA, .int (nI nq)])), (sA, .inl (cC, 1600, .inl fs))] H := hP
    have hD : va_D A [(h0, .inr (2, [.ref tO, .int so, .int pl, .int bh, .int fa_])), (tO, .inr (3, [.ref sA, .int (nI nq)])), (sA, .inl (cC, 1600, .inl fs))] := hD
    refine lv_goto (tgt := 16) hx hb dX2_readNumber_12 (by decide) ?_
    refine lv_istore_n (lv' := [(2, .int (nmF fs ((bs fs nq (qs.1 + 1)) - (aP fs nq qs.1)) (aP fs nq qs.1) 0)), (0, .ref h0), (1, .int (nI topq))]) hx hb dX2_readNumber_16 rfl hl (by decide) rfl (fun ls hl => ?_)
    refine lv_aload_n hx hb dX2_readNumber_17 rfl (lv_at hl 1 rfl) ?_
    refine va_get (D := (dC, dI)) (ci := 2) (v := .int so) (C := RX2) (T := TX2) (N := 5) hx hb hts i2 hown hK hP 0 rfl rfl 1 (by decide) (hts (.fieldLink RX2 32 "StopSetter$Reader" "sort" "I") (by decide +kernel)) (fun _ h9 => h9) rfl dX2_readNumber_18 ?_
    refine lv_iconst (v := 3) hx hb dX2_readNumber_21 (by decide) ?_
    refine lv_icmp_eq (tgt := 33) hx hb dX2_readNumber_22 (by decide) (fun _ => ?_) (fun h9 => absurd c_5 h9)
    refine lv_iload_n hx hb dX2_readNumber_33 rfl (lv_at hl 0 rfl) ?_
    refine lv_iload_n hx hb dX2_readNumber_34 rfl (lv_at hl 2 rfl) ?_
    refine lv_icmp_le (tgt := 46) hx hb dX2_readNumber_35 (by decide) (fun c_35 => ?_) (fun c_35 => ?_)
    · skip
      refine lv_aload_n hx hb dX2_readNumber_46 rfl (lv_at hl 1 rfl) ?_
      refine va_get (D := (dC, dI)) (ci := 2) (v := .int fa_) (C := RX2) (T := TX2) (N := 5) hx hb hts i2 hown hK hP 0 rfl rfl 4 (by decide) (hts (.fieldLink RX2 20 "StopSetter$Reader" "fault" "I") (by decide +kernel)) (fun _ h9 => h9) rfl dX2_readNumber_47 ?_
      refine lv_if_ne (tgt := 57) hx hb dX2_readNumber_50 (by decide) (fun c_50 => ?_) (fun c_50 => ?_)
      · skip
        refine lv_iload_n hx hb dX2_readNumber_57 rfl (lv_at hl 0 rfl) ?_
        have hP9 := hP.sub (ws' := [(h0, .inr (2, [.ref tO, .int so, .int pl, .int bh, .int fa_])), (tO, .inr (3, [.ref sA, .int (nI nq)])), (sA, .inl (cC, 1600, .inl fs))]) [0, 1, 2] rfl
        have hD9 := hD.sub (ws' := [(h0, .inr (2, [.ref tO, .int so, .int pl, .int bh, .int fa_])), (tO, .inr (3, [.ref sA, .int (nI nq)])), (sA, .inl (cC, 1600, .inl fs))]) [0, 1, 2] (by decide) rfl
        have hens0 : ((nmF fs ((bs fs nq (qs.1 + 1)) - (aP fs nq qs.1)) (aP fs nq qs.1) 0) : Int32) = nV (tkO fs nq) qs := (by unfold nV; rw [if_pos hS3]; rfl)
        have hens1 : rOK fs nq (stN (tkO fs nq) topq qs) so pl bh fa_ := (rOK_of hR (stN_keep (fun z => c_50 (hR.2.2.2.trans z))))
        exact W.iret (v := nmF fs ((bs fs nq (qs.1 + 1)) - (aP fs nq qs.1)) (aP fs nq qs.1) 0) hx hb hr (fun t ht hW => ⟨⟨nmF fs ((bs fs nq (qs.1 + 1)) - (aP fs nq qs.1)) (aP fs nq qs.1) 0, (so, pl, bh, fa_), rfl, ⟨hens0, hens1⟩, by rw [ht]; exact hP9, hD9⟩, hS.F ht⟩) hS.2.2 dX2_readNumber_58
      · skip
        refine lv_aload_n hx hb dX2_readNumber_53 rfl (lv_at hl 1 rfl) ?_
        have hPc := hP.sub (ws' := [(h0, .inr (2, [.ref tO, .int so, .int pl, .int bh, .int fa_])), (tO, .inr (3, [.ref sA, .int (nI nq)])), (sA, .inl (cC, 1600, .inl fs))]) [0, 1, 2] rfl
        have hDc := hD.sub (ws' := [(h0, .inr (2, [.ref tO, .int so, .int pl, .int bh, .int fa_])), (tO, .inr (3, [.ref sA, .int (nI nq)])), (sA, .inl (cC, 1600, .inl fs))]) [0, 1, 2] (by decide) rfl
        have hFc := va_free (wc := [(h0, .inr (2, [.ref tO, .int so, .int pl, .int bh, .int fa_])), (tO, .inr (3, [.ref sA, .int (nI nq)])), (sA, .inl (cC, 1600, .inl fs))]) hD hS hA [0, 1, 2] rfl
        refine va_callv (va_runV (As := []) (rest := []) ⟨hx, hb, hml, hown, hts⟩ (k_advance l dC dI cI cZ cC cJ H.size  h0 tO so pl bh fa_ sA nq fs (qs.1 + 1) (by first | assumption | decide | omega) hR.2.2.1) (cwV 0 hts gX2_readNumber_X2_advance rfl rfl rfl (by decide +kernel) ⟨Nat.le_of_ble_eq_true rfl, Nat.le_of_ble_eq_true rfl⟩) ⟨sPre_blind, va_recv hK hPc (ci := 2) (q0 := 0) rfl rfl, fun U hU hW => ⟨rfl, sPre_ok hsk hPc hDc hU hW⟩⟩ rfl rfl hl.1 rfl (lv_room (Nat.le_of_ble_eq_true rfl)) dX2_readNumber_54 ⟨(show 0 + 0 ≤ 0 by omega), (show 0 + 0 ≤ 0 by omega)⟩) hS (fun q _ h => hFc q h) hFc (fun u t H1 locs ht hvm hw hB hz1 hk1 hS => ?_)
        obtain ⟨s_8, p_9, b_10⟩ := u
        try dsimp only at hw hB
        have he_11 := hw
        have he_11 : rOK fs nq ((qs.1 + 1), fa_) s_8 p_9 b_10 fa_ := he_11
        obtain ⟨q_12, eq_12⟩ : ∃ x9 : Nat × Int32, x9 = ((qs.1 + 1), fa_) := ⟨_, rfl⟩
        rw [← eq_12] at he_11
        obtain ⟨hP1, hD1⟩ := hB
        rw [ht] at hP1
        obtain ⟨hP, hD⟩ := va_join (wr := []) (w1 := [(h0, .inr (2, [.ref tO, .int s_8, .int p_9, .int b_10, .int fa_])), (tO, .inr (3, [.ref sA, .int (nI nq)])), (sA, .inl (cC, 1600, .inl fs))]) hP hD [0, 1, 2] [] rfl rfl (by decide) (by decide) hk1 hFc hP1 hD1
        generalize H1 = H at hP hS ⊢
        have hP : va_P (dC, dI) vwCl [(h0, .inr (2, [.ref tO, .int s_8, .int p_9, .int b_10, .int fa_])), (tO, .inr (3, [.ref sA, .int (nI nq)])), (sA, .inl (cC, 1600, .inl fs))] H := hP
        have hD : va_D A [(h0, .inr (2, [.ref tO, .int s_8, .int p_9, .int b_10, .int fa_])), (tO, .inr (3, [.ref sA, .int (nI nq)])), (sA, .inl (cC, 1600, .inl fs))] := hD
        refine lv_iload_n hx hb dX2_readNumber_57 rfl (lv_at hl 0 rfl) ?_
        have hP9 := hP.sub (ws' := [(h0, .inr (2, [.ref tO, .int s_8, .int p_9, .int b_10, .int fa_])), (tO, .inr (3, [.ref sA, .int (nI nq)])), (sA, .inl (cC, 1600, .inl fs))]) [0, 1, 2] rfl
        have hD9 := hD.sub (ws' := [(h0, .inr (2, [.ref tO, .int s_8, .int p_9, .int b_10, .int fa_])), (tO, .inr (3, [.ref sA, .int (nI nq)])), (sA, .inl (cC, 1600, .inl fs))]) [0, 1, 2] (by decide) rfl
        have hens0 : ((nmF fs ((bs fs nq (qs.1 + 1)) - (aP fs nq qs.1)) (aP fs nq qs.1) 0) : Int32) = nV (tkO fs nq) qs := (by unfold nV; rw [if_pos hS3]; rfl)
        have hens1 : rOK fs nq (stN (tkO fs nq) topq qs) s_8 p_9 b_10 fa_ := (rOK_of he_11 (eq_12.trans (stN_ok hS3 c_35 hR.2.2.2 c_50)))
        exact W.iret (v := nmF fs ((bs fs nq (qs.1 + 1)) - (aP fs nq qs.1)) (aP fs nq qs.1) 0) hx hb hr (fun t ht hW => ⟨⟨nmF fs ((bs fs nq (qs.1 + 1)) - (aP fs nq qs.1)) (aP fs nq qs.1) 0, (s_8, p_9, b_10, fa_), rfl, ⟨hens0, hens1⟩, by rw [ht]; exact hP9, hD9⟩, hS.F ht⟩) hS.2.2 dX2_readNumber_58
    · skip
      refine lv_aload_n hx hb dX2_readNumber_38 rfl (lv_at hl 1 rfl) ?_
      refine lv_iconst (v := 4) hx hb dX2_readNumber_39 (by decide) ?_
      have hPc := hP.sub (ws' := [(h0, .inr (2, [.ref tO, .int so, .int pl, .int bh, .int fa_]))]) [0] rfl
      have hDc := hD.sub (ws' := [(h0, .inr (2, [.ref tO, .int so, .int pl, .int bh, .int fa_]))]) [0] (by decide) rfl
      have hFc := va_free (wc := [(h0, .inr (2, [.ref tO, .int so, .int pl, .int bh, .int fa_]))]) hD hS hA [0] rfl
      refine va_callv (va_runV (As := [.int 4]) (rest := []) ⟨hx, hb, hml, hown, hts⟩ (k_refuse l dC dI cI cZ cC cJ H.size  h0 tO so pl bh fa_ 4 fs nq qs hR) (cwV 1 hts gX2_readNumber_X2_refuse rfl rfl rfl (by decide +kernel) ⟨Nat.le_of_ble_eq_true rfl, Nat.le_of_ble_eq_true rfl⟩) ⟨sPre_blind, va_recv hK hPc (ci := 2) (q0 := 0) rfl rfl, fun U hU hW => ⟨rfl, sPre_ok hsk hPc hDc hU hW⟩⟩ rfl rfl hl.1 rfl (lv_room (Nat.le_of_ble_eq_true rfl)) dX2_readNumber_40 ⟨(show 0 + 0 ≤ 0 by omega), (show 0 + 0 ≤ 0 by omega)⟩) hS (fun q _ h => hFc q h) hFc (fun u t H1 locs ht hvm hw hB hz1 hk1 hS => ?_)
      obtain ⟨f_14, rfl⟩ : ∃ z, z = u := ⟨_, rfl⟩
      try dsimp only at hw hB
      have he_15 := hw
      have he_15 : rOK fs nq (stR (tkO fs nq) 4 qs) so pl bh f_14 := he_15
      obtain ⟨q_16, eq_16⟩ : ∃ x9 : Nat × Int32, x9 = stR (tkO fs nq) 4 qs := ⟨_, rfl⟩
      rw [← eq_16] at he_15
      obtain ⟨hP1, hD1⟩ := hB
      rw [ht] at hP1
      obtain ⟨hP, hD⟩ := va_join (wr := [(tO, .inr (3, [.ref sA, .int (nI nq)])), (sA, .inl (cC, 1600, .inl fs))]) (w1 := [(h0, .inr (2, [.ref tO, .int so, .int pl, .int bh, .int f_14]))]) hP hD [0] [1, 2] rfl rfl (by decide) (by decide) hk1 hFc hP1 hD1
      generalize H1 = H at hP hS ⊢
      have hP : va_P (dC, dI) vwCl [(tO, .inr (3, [.ref sA, .int (nI nq)])), (sA, .inl (cC, 1600, .inl fs)), (h0, .inr (2, [.ref tO, .int so, .int pl, .int bh, .int f_14]))] H := hP
      have hD : va_D A [(tO, .inr (3, [.ref sA, .int (nI nq)])), (sA, .inl (cC, 1600, .inl fs)), (h0, .inr (2, [.ref tO, .int so, .int pl, .int bh, .int f_14]))] := hD
      refine lv_goto (tgt := 57) hx hb dX2_readNumber_43 (by decide) ?_
      refine lv_iload_n hx hb dX2_readNumber_57 rfl (lv_at hl 0 rfl) ?_
      have hP9 := hP.sub (ws' := [(h0, .inr (2, [.ref tO, .int so, .int pl, .int bh, .int f_14])), (tO, .inr (3, [.ref sA, .int (nI nq)])), (sA, .inl (cC, 1600, .inl fs))]) [2, 0, 1] rfl
      have hD9 := hD.sub (ws' := [(h0, .inr (2, [.ref tO, .int so, .int pl, .int bh, .int f_14])), (tO, .inr (3, [.ref sA, .int (nI nq)])), (sA, .inl (cC, 1600, .inl fs))]) [2, 0, 1] (by decide) rfl
      have hens0 : ((nmF fs ((bs fs nq (qs.1 + 1)) - (aP fs nq qs.1)) (aP fs nq qs.1) 0) : Int32) = nV (tkO fs nq) qs := (by unfold nV; rw [if_pos hS3]; rfl)
      have hens1 : rOK fs nq (stN (tkO fs nq) topq qs) so pl bh f_14 := (rOK_of he_15 (eq_16.trans (stN_big hS3 c_35)))
      exact W.iret (v := nmF fs ((bs fs nq (qs.1 + 1)) - (aP fs nq qs.1)) (aP fs nq qs.1) 0) hx hb hr (fun t ht hW => ⟨⟨nmF fs ((bs fs nq (qs.1 + 1)) - (aP fs nq qs.1)) (aP fs nq qs.1) 0, (so, pl, bh, f_14), rfl, ⟨hens0, hens1⟩, by rw [ht]; exact hP9, hD9⟩, hS.F ht⟩) hS.2.2 dX2_readNumber_58
set_option maxHeartbeats 4000000 in
set_option maxRecDepth 100000 in
theorem k_passIf (l : Launch) (dC : Nat → ClassId) (dI : Nat → Nat → Nat) (cI cZ cC cJ : ClassId) (sz : Nat) (h0 : Nat) (tO : Nat) (so : Int32) (pl : Int32) (bh : Int32) (fa_ : Int32) (sA : Nat) (nq : Nat) (fs : Nat → Int32) (p0 : Int32) (qs : Nat × Int32) (hnq : nq ≤ 1600) (hR : rOK fs nq qs so pl bh fa_) : Met l yX2_passIf wsX2_passIf ({ frames := 3, cells := 0, slots := 0, locals := 65 }) (va_Pc [.ref h0, .int p0] (sPre dC dI cI cZ cC cJ [(h0, .inr (2, [.ref tO, .int so, .int pl, .int bh, .int fa_])), (tO, .inr (3, [.ref sA, .int (nI nq)])), (sA, .inl (cC, 1600, .inl fs))] sz)) (va_Qv (fun (u : (Int32) × (Int32) × (Int32) × (Int32)) => match u with | (so2, pl2, bh2, fa_2) => (rOK fs nq (stX (tkO fs nq) p0 qs) so2 pl2 bh2 fa_2)) (fun (u : (Int32) × (Int32) × (Int32) × (Int32)) t => match u with | (so2, pl2, bh2, fa_2) => sB dC dI (va_A [(h0, .inr (2, [.ref tO, .int so, .int pl, .int bh, .int fa_])), (tO, .inr (3, [.ref sA, .int (nI nq)])), (sA, .inl (cC, 1600, .inl fs))] sz) [(h0, .inr (2, [.ref tO, .int so2, .int pl2, .int bh2, .int fa_2])), (tO, .inr (3, [.ref sA, .int (nI nq)])), (sA, .inl (cC, 1600, .inl fs))] t) (va_A [(h0, .inr (2, [.ref tO, .int so, .int pl, .int bh, .int fa_])), (tO, .inr (3, [.ref sA, .int (nI nq)])), (sA, .inl (cC, 1600, .inl fs))] sz)) 0 0 (va_A [(h0, .inr (2, [.ref tO, .int so, .int pl, .int bh, .int fa_])), (tO, .inr (3, [.ref sA, .int (nI nq)])), (sA, .inl (cC, 1600, .inl fs))] sz) := by
  refine Met.ofW (cc := cX2_passIf) (maxL := 2) (ret := none) (by decide) rfl ?_
  intro p e s m args below meth c s₁ B hml hv
  obtain ⟨rfl, hsz, hP, hsk, hD0⟩ := hv
  have hx := B.exec
  have hb := B.bytes
  have hr := B.returns
  have hts := atoms_spec (ws := wsX2_passIf) B.pre
  have hown : s.vm.findClass RX2 = some m.cls := findClass_of_methodNamed B.named
  have hlocks := B.notSynchronized
  have hK := hsk.1
  have i2 : ∀ w ∈ wsX20, w ∈ wsX2_passIf := by decide +kernel
  subst hsz
  have hD := hD0.self (sz := s.heap.size)
  generalize hAe : va_A [(h0, .inr (2, [.ref tO, .int so, .int pl, .int bh, .int fa_])), (tO, .inr (3, [.ref sA, .int (nI nq)])), (sA, .inl (cC, 1600, .inl fs))] s.heap.size = A at hD ⊢
  have hA : ∀ q : Nat, s.heap.size ≤ q → A q := fun q h => by rw [← hAe]; exact Or.inr h
  have hS : va_S A s.heap s.heap [] := va_S.rf
  have hl := lv_entry ([.ref h0, .int p0]) (n := 2) (Nat.le_of_ble_eq_true rfl)
  rw [lg_entry_eq]
  generalize (lg_sl ([.ref h0, .int p0]) ++ List.replicate (2 - (lg_sl ([.ref h0, .int p0])).length) Slot.unset).toArray = ls at hl ⊢
  have hl : lv_has ls 2 [(0, .ref h0), (1, .int p0)] := hl
  refine lv_iload_n hx hb dX2_passIf_0 rfl (lv_at hl 1 rfl) ?_
  refine lv_if_ne (tgt := 12) hx hb dX2_passIf_1 (by decide) (fun c_1 => ?_) (fun c_1 => ?_)
  · skip
    refine lv_aload_n hx hb dX2_passIf_12 rfl (lv_at hl 0 rfl) ?_
    refine va_get (D := (dC, dI)) (ci := 2) (v := .int fa_) (C := RX2) (T := TX2) (N := 5) hx hb hts i2 hown hK hP 0 rfl rfl 4 (by decide) (hts (.fieldLink RX2 20 "StopSetter$Reader" "fault" "I") (by decide +kernel)) (fun _ h9 => h9) rfl dX2_passIf_13 ?_
    refine lv_if_ne (tgt := 23) hx hb dX2_passIf_16 (by decide) (fun c_16 => ?_) (fun c_16 => ?_)
    · skip
      have hP9 := hP.sub (ws' := [(h0, .inr (2, [.ref tO, .int so, .int pl, .int bh, .int fa_])), (tO, .inr (3, [.ref sA, .int (nI nq)])), (sA, .inl (cC, 1600, .inl fs))]) [0, 1, 2] rfl
      have hD9 := hD.sub (ws' := [(h0, .inr (2, [.ref tO, .int so, .int pl, .int bh, .int fa_])), (tO, .inr (3, [.ref sA, .int (nI nq)])), (sA, .inl (cC, 1600, .inl fs))]) [0, 1, 2] (by decide) rfl
      have hens0 : rOK fs nq (stX (tkO fs nq) p0 qs) so pl bh fa_ := (rOK_of hR (stX_k (fun z => c_16 (hR.2.2.2.trans z))))
      exact W.vret hx hb hr (fun t ht hW => ⟨⟨(so, pl, bh, fa_), rfl, hens0, by rw [ht]; exact hP9, hD9⟩, hS.F ht⟩) hS.2.2 dX2_passIf_23
    · skip
      refine lv_aload_n hx hb dX2_passIf_19 rfl (lv_at hl 0 rfl) ?_
      have hPc := hP.sub (ws' := [(h0, .inr (2, [.ref tO, .int so, .int pl, .int bh, .int fa_])), (tO, .inr (3, [.ref sA, .int (nI nq)])), (sA, .inl (cC, 1600, .inl fs))]) [0, 1, 2] rfl
      have hDc := hD.sub (ws' := [(h0, .inr (2, [.ref tO, .int so, .int pl, .int bh, .int fa_])), (tO, .inr (3, [.ref sA, .int (nI nq)])), (sA, .inl (cC, 1600, .inl fs))]) [0, 1, 2] (by decide) rfl
      have hFc := va_free (wc := [(h0, .inr (2, [.ref tO, .int so, .int pl, .int bh, .int fa_])), (tO, .inr (3, [.ref sA, .int (nI nq)])), (sA, .inl (cC, 1600, .inl fs))]) hD hS hA [0, 1, 2] rfl
      refine va_callv (va_runV (As := []) (rest := []) ⟨hx, hb, hml, hown, hts⟩ (k_advance l dC dI cI cZ cC cJ s.heap.size  h0 tO so pl bh fa_ sA nq fs (qs.1 + 1) (by first | assumption | decide | omega) hR.2.2.1) (cwV 0 hts gX2_passIf_X2_advance rfl rfl rfl (by decide +kernel) ⟨Nat.le_of_ble_eq_true rfl, Nat.le_of_ble_eq_true rfl⟩) ⟨sPre_blind, va_recv hK hPc (ci := 2) (q0 := 0) rfl rfl, fun U hU hW => ⟨rfl, sPre_ok hsk hPc hDc hU hW⟩⟩ rfl rfl hl.1 rfl (lv_room (Nat.le_of_ble_eq_true rfl)) dX2_passIf_20 ⟨(show 0 + 0 ≤ 0 by omega), (show 0 + 0 ≤ 0 by omega)⟩) hS (fun q _ h => hFc q h) hFc (fun u t H1 locs ht hvm hw hB hz1 hk1 hS => ?_)
      obtain ⟨s_2, p_3, b_4⟩ := u
      try dsimp only at hw hB
      have he_5 := hw
      have he_5 : rOK fs nq ((qs.1 + 1), fa_) s_2 p_3 b_4 fa_ := he_5
      obtain ⟨q_6, eq_6⟩ : ∃ x9 : Nat × Int32, x9 = ((qs.1 + 1), fa_) := ⟨_, rfl⟩
      rw [← eq_6] at he_5
      obtain ⟨hP1, hD1⟩ := hB
      rw [ht] at hP1
      obtain ⟨hP, hD⟩ := va_join (wr := []) (w1 := [(h0, .inr (2, [.ref tO, .int s_2, .int p_3, .int b_4, .int fa_])), (tO, .inr (3, [.ref sA, .int (nI nq)])), (sA, .inl (cC, 1600, .inl fs))]) hP hD [0, 1, 2] [] rfl rfl (by decide) (by decide) hk1 hFc hP1 hD1
      generalize H1 = H at hP hS ⊢
      have hP : va_P (dC, dI) vwCl [(h0, .inr (2, [.ref tO, .int s_2, .int p_3, .int b_4, .int fa_])), (tO, .inr (3, [.ref sA, .int (nI nq)])), (sA, .inl (cC, 1600, .inl fs))] H := hP
      have hD : va_D A [(h0, .inr (2, [.ref tO, .int s_2, .int p_3, .int b_4, .int fa_])), (tO, .inr (3, [.ref sA, .int (nI nq)])), (sA, .inl (cC, 1600, .inl fs))] := hD
      have hP9 := hP.sub (ws' := [(h0, .inr (2, [.ref tO, .int s_2, .int p_3, .int b_4, .int fa_])), (tO, .inr (3, [.ref sA, .int (nI nq)])), (sA, .inl (cC, 1600, .inl fs))]) [0, 1, 2] rfl
      have hD9 := hD.sub (ws' := [(h0, .inr (2, [.ref tO, .int s_2, .int p_3, .int b_4, .int fa_])), (tO, .inr (3, [.ref sA, .int (nI nq)])), (sA, .inl (cC, 1600, .inl fs))]) [0, 1, 2] (by decide) rfl
      have hens0 : rOK fs nq (stX (tkO fs nq) p0 qs) s_2 p_3 b_4 fa_ := (rOK_of he_5 (eq_6.trans (stX_1 c_1 hR.2.2.2 c_16)))
      exact W.vret hx hb hr (fun t ht hW => ⟨⟨(s_2, p_3, b_4, fa_), rfl, hens0, by rw [ht]; exact hP9, hD9⟩, hS.F ht⟩) hS.2.2 dX2_passIf_23
  · skip
    refine lv_aload_n hx hb dX2_passIf_4 rfl (lv_at hl 0 rfl) ?_
    refine lv_iconst (v := 1) hx hb dX2_passIf_5 (by decide) ?_
    have hPc := hP.sub (ws' := [(h0, .inr (2, [.ref tO, .int so, .int pl, .int bh, .int fa_]))]) [0] rfl
    have hDc := hD.sub (ws' := [(h0, .inr (2, [.ref tO, .int so, .int pl, .int bh, .int fa_]))]) [0] (by decide) rfl
    have hFc := va_free (wc := [(h0, .inr (2, [.ref tO, .int so, .int pl, .int bh, .int fa_]))]) hD hS hA [0] rfl
    refine va_callv (va_runV (As := [.int 1]) (rest := []) ⟨hx, hb, hml, hown, hts⟩ (k_refuse l dC dI cI cZ cC cJ s.heap.size  h0 tO so pl bh fa_ 1 fs nq qs hR) (cwV 1 hts gX2_passIf_X2_refuse rfl rfl rfl (by decide +kernel) ⟨Nat.le_of_ble_eq_true rfl, Nat.le_of_ble_eq_true rfl⟩) ⟨sPre_blind, va_recv hK hPc (ci := 2) (q0 := 0) rfl rfl, fun U hU hW => ⟨rfl, sPre_ok hsk hPc hDc hU hW⟩⟩ rfl rfl hl.1 rfl (lv_room (Nat.le_of_ble_eq_true rfl)) dX2_passIf_6 ⟨(show 0 + 0 ≤ 0 by omega), (show 0 + 0 ≤ 0 by omega)⟩) hS (fun q _ h => hFc q h) hFc (fun u t H1 locs ht hvm hw hB hz1 hk1 hS => ?_)
    obtain ⟨f_8, rfl⟩ : ∃ z, z = u := ⟨_, rfl⟩
    try dsimp only at hw hB
    have he_9 := hw
    have he_9 : rOK fs nq (stR (tkO fs nq) 1 qs) so pl bh f_8 := he_9
    obtain ⟨q_10, eq_10⟩ : ∃ x9 : Nat × Int32, x9 = stR (tkO fs nq) 1 qs := ⟨_, rfl⟩
    rw [← eq_10] at he_9
    obtain ⟨hP1, hD1⟩ := hB
    rw [ht] at hP1
    obtain ⟨hP, hD⟩ := va_join (wr := [(tO, .inr (3, [.ref sA, .int (nI nq)])), (sA, .inl (cC, 1600, .inl fs))]) (w1 := [(h0, .inr (2, [.ref tO, .int so, .int pl, .int bh, .int f_8]))]) hP hD [0] [1, 2] rfl rfl (by decide) (by decide) hk1 hFc hP1 hD1
    generalize H1 = H at hP hS ⊢
    have hP : va_P (dC, dI) vwCl [(tO, .inr (3, [.ref sA, .int (nI nq)])), (sA, .inl (cC, 1600, .inl fs)), (h0, .inr (2, [.ref tO, .int so, .int pl, .int bh, .int f_8]))] H := hP
    have hD : va_D A [(tO, .inr (3, [.ref sA, .int (nI nq)])), (sA, .inl (cC, 1600, .inl fs)), (h0, .inr (2, [.ref tO, .int so, .int pl, .int bh, .int f_8]))] := hD
    refine lv_goto (tgt := 23) hx hb dX2_passIf_9 (by decide) ?_
    have hP9 := hP.sub (ws' := [(h0, .inr (2, [.ref tO, .int so, .int pl, .int bh, .int f_8])), (tO, .inr (3, [.ref sA, .int (nI nq)])), (sA, .inl (cC, 1600, .inl fs))]) [2, 0, 1] rfl
    have hD9 := hD.sub (ws' := [(h0, .inr (2, [.ref tO, .int so, .int pl, .int bh, .int f_8])), (tO, .inr (3, [.ref sA, .int (nI nq)])), (sA, .inl (cC, 1600, .inl fs))]) [2, 0, 1] (by decide) rfl
    have hens0 : rOK fs nq (stX (tkO fs nq) p0 qs) so pl bh f_8 := (rOK_of he_9 (eq_10.trans (stX_0 c_1)))
    exact W.vret hx hb hr (fun t ht hW => ⟨⟨(so, pl, bh, f_8), rfl, hens0, by rw [ht]; exact hP9, hD9⟩, hS.F ht⟩) hS.2.2 dX2_passIf_23
set_option maxHeartbeats 4000000 in
set_option maxRecDepth 100000 in
theorem k_isText (l : Launch) (dC : Nat → ClassId) (dI : Nat → Nat → Nat) (cI cZ cC cJ : ClassId) (sz : Nat) (adK adV : Nat → Nat) (h0 : Nat) (tO : Nat) (so : Int32) (pl : Int32) (bh : Int32) (fa_ : Int32) (sA : Nat) (nq : Nat) (fs : Nat → Int32) (i : Nat) (qs : Nat × Int32) (hnq : nq ≤ 1600) (hi : i < 12) (hR : rOK fs nq qs so pl bh fa_) : Met l yX2_isText wsX2_isText ({ frames := 4, cells := 0, slots := 0, locals := 85 }) (va_Pc [.ref h0, .ref (adK i)] (fun U => sPre dC dI cI cZ cC cJ [(h0, .inr (2, [.ref tO, .int so, .int pl, .int bh, .int fa_])), (tO, .inr (3, [.ref sA, .int (nI nq)])), (sA, .inl (cC, 1600, .inl fs))] sz U ∧ tW adK adV (va_A [(h0, .inr (2, [.ref tO, .int so, .int pl, .int bh, .int fa_])), (tO, .inr (3, [.ref sA, .int (nI nq)])), (sA, .inl (cC, 1600, .inl fs))] sz) U)) (va_Qi (fun (r : Int32) (u : Unit) => ((r : Int32) = tI fs nq qs.1 i)) (fun _ => sB dC dI (va_A [(h0, .inr (2, [.ref tO, .int so, .int pl, .int bh, .int fa_])), (tO, .inr (3, [.ref sA, .int (nI nq)])), (sA, .inl (cC, 1600, .inl fs))] sz) [(h0, .inr (2, [.ref tO, .int so, .int pl, .int bh, .int fa_])), (tO, .inr (3, [.ref sA, .int (nI nq)])), (sA, .inl (cC, 1600, .inl fs))]) (va_A [(h0, .inr (2, [.ref tO, .int so, .int pl, .int bh, .int fa_])), (tO, .inr (3, [.ref sA, .int (nI nq)])), (sA, .inl (cC, 1600, .inl fs))] sz)) 0 0 (va_A [(h0, .inr (2, [.ref tO, .int so, .int pl, .int bh, .int fa_])), (tO, .inr (3, [.ref sA, .int (nI nq)])), (sA, .inl (cC, 1600, .inl fs))] sz) := by
  refine Met.ofW (cc := cX2_isText) (maxL := 3) (ret := (some .boolean)) (by decide) rfl ?_
  intro p e s m args below meth c s₁ B hml hv
  obtain ⟨rfl, ⟨hsz, hP, hsk, hD0⟩, htw⟩ := hv
  have hx := B.exec
  have hb := B.bytes
  have hr := B.returns
  have hts := atoms_spec (ws := wsX2_isText) B.pre
  have hown : s.vm.findClass RX2 = some m.cls := findClass_of_methodNamed B.named
  have hlocks := B.notSynchronized
  have hK := hsk.1
  have i2 : ∀ w ∈ wsX20, w ∈ wsX2_isText := by decide +kernel
  subst hsz
  have hD := hD0.self (sz := s.heap.size)
  generalize hAe : va_A [(h0, .inr (2, [.ref tO, .int so, .int pl, .int bh, .int fa_])), (tO, .inr (3, [.ref sA, .int (nI nq)])), (sA, .inl (cC, 1600, .inl fs))] s.heap.size = A at hD htw ⊢
  have hA : ∀ q : Nat, s.heap.size ≤ q → A q := fun q h => by rw [← hAe]; exact Or.inr h
  have hS : va_S A s.heap s.heap [] := va_S.rf
  have hl := lv_entry ([.ref h0, .ref (adK i)]) (n := 3) (Nat.le_of_ble_eq_true rfl)
  rw [lg_entry_eq]
  generalize (lg_sl ([.ref h0, .ref (adK i)]) ++ List.replicate (3 - (lg_sl ([.ref h0, .ref (adK i)])).length) Slot.unset).toArray = ls at hl ⊢
  have hl : lv_has ls 3 [(0, .ref h0), (1, .ref (adK i))] := hl
  have hl9 := len_lt i hi
  obtain ⟨aq, eaq⟩ : ∃ x9 : Nat, x9 = aP fs nq qs.1 := ⟨_, rfl⟩
  obtain ⟨bq, ebq⟩ : ∃ x9 : Nat, x9 = bs fs nq (qs.1 + 1) := ⟨_, rfl⟩
  have hpl : pl = nI aq := by rw [eaq]; exact hR.2.1
  have hbh : bh = nI bq := by rw [ebq]; exact hR.2.2.1
  have haq : aq ≤ bq := by rw [eaq, ebq]; exact tkB_ge fs nq (bs fs nq qs.1)
  have hbq : bq ≤ nq := by rw [ebq]; exact bs_le fs nq (qs.1 + 1)
  obtain ⟨Rq, eRq⟩ : ∃ R9, R9 = eqB fs aq (bytS.getD i []) := ⟨_, rfl⟩
  refine lv_aload_n hx hb dX2_isText_0 rfl (lv_at hl 0 rfl) ?_
  refine va_get (D := (dC, dI)) (ci := 2) (v := .int so) (C := RX2) (T := TX2) (N := 5) hx hb hts i2 hown hK hP 0 rfl rfl 1 (by decide) (hts (.fieldLink RX2 32 "StopSetter$Reader" "sort" "I") (by decide +kernel)) (fun _ h9 => h9) rfl dX2_isText_1 ?_
  refine lv_iconst (v := 2) hx hb dX2_isText_4 (by decide) ?_
  refine lv_icmp_ne (tgt := 24) hx hb dX2_isText_5 (by decide) (fun c_5 => ?_) (fun c_5 => ?_)
  · skip
    refine lv_iconst (v := 0) hx hb dX2_isText_24 (by decide) ?_
    have hP9 := hP.sub (ws' := [(h0, .inr (2, [.ref tO, .int so, .int pl, .int bh, .int fa_])), (tO, .inr (3, [.ref sA, .int (nI nq)])), (sA, .inl (cC, 1600, .inl fs))]) [0, 1, 2] rfl
    have hD9 := hD.sub (ws' := [(h0, .inr (2, [.ref tO, .int so, .int pl, .int bh, .int fa_])), (tO, .inr (3, [.ref sA, .int (nI nq)])), (sA, .inl (cC, 1600, .inl fs))]) [0, 1, 2] (by decide) rfl
    have hens0 : (0 : Int32) = tI fs nq qs.1 i := (by unfold tI; rw [if_neg (fun z => c_5 (hR.1.trans z))])
    exact W.zret (v := 0) (ty := .boolean) hx hb hr rfl (fun t ht hW => ⟨⟨0, (), rfl, hens0, by rw [ht]; exact hP9, hD9⟩, hS.F ht⟩) hS.2.2 dX2_isText_25
  · skip
    refine lv_aload_n hx hb dX2_isText_8 rfl (lv_at hl 0 rfl) ?_
    refine va_get (D := (dC, dI)) (ci := 2) (v := .int bh) (C := RX2) (T := TX2) (N := 5) hx hb hts i2 hown hK hP 0 rfl rfl 3 (by decide) (hts (.fieldLink RX2 24 "StopSetter$Reader" "behind" "I") (by decide +kernel)) (fun _ h9 => h9) rfl dX2_isText_9 ?_
    refine lv_topi (fun v_ ev_ => ?_)
    obtain rfl : v_ = (nI bq) := ev_.trans (hbh)
    refine lv_aload_n hx hb dX2_isText_12 rfl (lv_at hl 0 rfl) ?_
    refine va_get (D := (dC, dI)) (ci := 2) (v := .int pl) (C := RX2) (T := TX2) (N := 5) hx hb hts i2 hown hK hP 0 rfl rfl 2 (by decide) (hts (.fieldLink RX2 106 "StopSetter$Reader" "place" "I") (by decide +kernel)) (fun _ h9 => h9) rfl dX2_isText_13 ?_
    refine lv_topi (fun v_ ev_ => ?_)
    obtain rfl : v_ = (nI aq) := ev_.trans (hpl)
    refine lv_isub hx hb dX2_isText_16 ?_
    refine lv_topi (fun v_ ev_ => ?_)
    obtain rfl : v_ = (nI (bq - aq)) := ev_.trans (nI_sub haq)
    refine lv_aload_n hx hb dX2_isText_17 rfl (lv_at hl 1 rfl) ?_
    have hPc := hP.sub (ws' := []) [] rfl
    have hDc := hD.sub (ws' := []) [] (by decide) rfl
    have hFc := va_free (wc := []) hD hS hA [] rfl
    refine va_calli (va_runV (As := []) (rest := [.int (nI (bq - aq))]) ⟨hx, hb, hml, hown, hts⟩ (k_length l dC dI cI cZ cC cJ s.heap.size adK adV i hi) (cwV 0 hts gX2_isText_J0_length_8abf5 rfl rfl rfl (by decide +kernel) ⟨Nat.le_of_ble_eq_true rfl, Nat.le_of_ble_eq_true rfl⟩) ⟨tW_blind, vk_recv htw.1 hi hS, fun U hU hW => ⟨rfl, sPre_ok hsk hPc hDc hU hW, tW_warm hW hU hS (fun q h => hFc q h) htw⟩⟩ rfl rfl hl.1 rfl (lv_room (Nat.le_of_ble_eq_true rfl)) dX2_isText_18 ⟨(show 0 + 0 ≤ 0 by omega), (show 0 + 0 ≤ 0 by omega)⟩) hS (fun q _ h => hFc q h) hFc (fun r_1 u t H1 locs ht hvm hw hB hz1 hk1 hS => ?_)
    try dsimp only at hw hB
    have hw_2 := hw
    obtain rfl : r_1 = nI (lenS.getD i 0) := hw_2
    obtain ⟨hP1, hD1⟩ := hB
    rw [ht] at hP1
    obtain ⟨hP, hD⟩ := va_join (wr := [(h0, .inr (2, [.ref tO, .int so, .int pl, .int bh, .int fa_])), (tO, .inr (3, [.ref sA, .int (nI nq)])), (sA, .inl (cC, 1600, .inl fs))]) (w1 := []) hP hD [] [0, 1, 2] rfl rfl (by decide) (by decide) hk1 hFc hP1 hD1
    generalize H1 = H at hP hS ⊢
    have hP : va_P (dC, dI) vwCl [(h0, .inr (2, [.ref tO, .int so, .int pl, .int bh, .int fa_])), (tO, .inr (3, [.ref sA, .int (nI nq)])), (sA, .inl (cC, 1600, .inl fs))] H := hP
    have hD : va_D A [(h0, .inr (2, [.ref tO, .int so, .int pl, .int bh, .int fa_])), (tO, .inr (3, [.ref sA, .int (nI nq)])), (sA, .inl (cC, 1600, .inl fs))] := hD
    refine lv_icmp_eq (tgt := 26) hx hb dX2_isText_21 (by decide) (fun c_21 => ?_) (fun c_21 => ?_)
    · skip
      have hlen : bq - aq = lenS.getD i 0 := (nI_eq (by omega) (by omega)).mp c_21
      refine lv_iconst (v := 0) hx hb dX2_isText_26 (by decide) ?_
      refine lv_istore_n (lv' := [(2, .int 0), (0, .ref h0), (1, .ref (adK i))]) hx hb dX2_isText_27 rfl hl (by decide) rfl (fun ls hl => ?_)
      have lp_28 : ∀ (n_28 : Nat) (k : Nat), lenS.getD i 0 + 1 ≤ k + n_28 → k ≤ lenS.getD i 0 → eqB fs (aq + k) ((bytS.getD i []).drop k) = Rq → ∀ (H : Heap) (locs : List Loc) (ls : Array Slot), va_P (dC, dI) vwCl [(h0, .inr (2, [.ref tO, .int so, .int pl, .int bh, .int fa_])), (tO, .inr (3, [.ref sA, .int (nI nq)])), (sA, .inl (cC, 1600, .inl fs))] H → va_D A [(h0, .inr (2, [.ref tO, .int so, .int pl, .int bh, .int fa_])), (tO, .inr (3, [.ref sA, .int (nI nq)])), (sA, .inl (cC, 1600, .inl fs))] → va_S A s.heap H locs → lv_has ls 3 [(2, .int (nI k)), (0, .ref h0), (1, .ref (adK i))] → W p l e (headSpec wsX2_isText ({ frames := 4, cells := 0, slots := 0, locals := 85 })).room s m ([.ref h0, .ref (adK i)]).toArray below meth c H locs 0 0 (MQ below (va_Qi (fun (r : Int32) (u : Unit) => ((r : Int32) = tI fs nq qs.1 i)) (fun _ => sB dC dI A [(h0, .inr (2, [.ref tO, .int so, .int pl, .int bh, .int fa_])), (tO, .inr (3, [.ref sA, .int (nI nq)])), (sA, .inl (cC, 1600, .inl fs))]) A) ([.ref h0, .ref (adK i)]).toArray s 0 0 A) (F0 m 28 ls []) := by
        intro n_28
        induction n_28 with
        | zero =>
          intro k fuel_28 hk hE
          exact absurd fuel_28 (by omega)
        | succ n_28 ih_28 =>
          intro k fuel_28 hk hE H locs ls hP hD hS hl
          refine lv_iload_n hx hb dX2_isText_28 rfl (lv_at hl 0 rfl) ?_
          refine lv_aload_n hx hb dX2_isText_29 rfl (lv_at hl 2 rfl) ?_
          have hPc := hP.sub (ws' := []) [] rfl
          have hDc := hD.sub (ws' := []) [] (by decide) rfl
          have hFc := va_free (wc := []) hD hS hA [] rfl
          refine va_calli (va_runV (As := []) (rest := [.int (nI k)]) ⟨hx, hb, hml, hown, hts⟩ (k_length l dC dI cI cZ cC cJ H.size adK adV i hi) (cwV 0 hts gX2_isText_J0_length_8abf5 rfl rfl rfl (by decide +kernel) ⟨Nat.le_of_ble_eq_true rfl, Nat.le_of_ble_eq_true rfl⟩) ⟨tW_blind, vk_recv htw.1 hi hS, fun U hU hW => ⟨rfl, sPre_ok hsk hPc hDc hU hW, tW_warm hW hU hS (fun q h => hFc q h) htw⟩⟩ rfl rfl hl.1 rfl (lv_room (Nat.le_of_ble_eq_true rfl)) dX2_isText_30 ⟨(show 0 + 0 ≤ 0 by omega), (show 0 + 0 ≤ 0 by omega)⟩) hS (fun q _ h => hFc q h) hFc (fun r_3 u t H1 locs ht hvm hw hB hz1 hk1 hS => ?_)
          try dsimp only at hw hB
          have hw_4 := hw
          obtain rfl : r_3 = nI (lenS.getD i 0) := hw_4
          obtain ⟨hP1, hD1⟩ := hB
          rw [ht] at hP1
          obtain ⟨hP, hD⟩ := va_join (wr := [(h0, .inr (2, [.ref tO, .int so, .int pl, .int bh, .int fa_])), (tO, .inr (3, [.ref sA, .int (nI nq)])), (sA, .inl (cC, 1600, .inl fs))]) (w1 := []) hP hD [] [0, 1, 2] rfl rfl (by decide) (by decide) hk1 hFc hP1 hD1
          generalize H1 = H at hP hS ⊢
          have hP : va_P (dC, dI) vwCl [(h0, .inr (2, [.ref tO, .int so, .int pl, .int bh, .int fa_])), (tO, .inr (3, [.ref sA, .int (nI nq)])), (sA, .inl (cC, 1600, .inl fs))] H := hP
          have hD : va_D A [(h0, .inr (2, [.ref tO, .int so, .int pl, .int bh, .int fa_])), (tO, .inr (3, [.ref sA, .int (nI nq)])), (sA, .inl (cC, 1600, .inl fs))] := hD
          refine lv_icmp_ge (tgt := 65) hx hb dX2_isText_33 (by decide) (fun c_33 => ?_) (fun c_33 => ?_)
          · skip
            refine lv_iconst (v := 1) hx hb dX2_isText_65 (by decide) ?_
            have hP9 := hP.sub (ws' := [(h0, .inr (2, [.ref tO, .int so, .int pl, .int bh, .int fa_])), (tO, .inr (3, [.ref sA, .int (nI nq)])), (sA, .inl (cC, 1600, .inl fs))]) [0, 1, 2] rfl
            have hD9 := hD.sub (ws' := [(h0, .inr (2, [.ref tO, .int so, .int pl, .int bh, .int fa_])), (tO, .inr (3, [.ref sA, .int (nI nq)])), (sA, .inl (cC, 1600, .inl fs))]) [0, 1, 2] (by decide) rfl
            have hens0 : (1 : Int32) = tI fs nq qs.1 i := (by unfold tI; rw [if_pos (hR.1.symm.trans c_5), ← eaq, ← ebq, if_pos hlen, ← eRq, ← hE, List.drop_of_length_le (by rw [lenS_byt]; have := (nI_leI (a := lenS.getD i 0) (b := k) (by omega) (by omega)).mp c_33; omega)]; rfl)
            exact W.zret (v := 1) (ty := .boolean) hx hb hr rfl (fun t ht hW => ⟨⟨1, (), rfl, hens0, by rw [ht]; exact hP9, hD9⟩, hS.F ht⟩) hS.2.2 dX2_isText_66
          · skip
            have hk3 : k < lenS.getD i 0 := nk_lt (N := lenS.getD i 0) rfl c_33 (by omega)
            have hs9 : sgA fs nq (aq + k) = fs (aq + k) := sgA_lt (by omega)
            have hk8 : k < (bytS.getD i []).length := by rw [lenS_byt]; exact hk3
            refine lv_aload_n hx hb dX2_isText_36 rfl (lv_at hl 1 rfl) ?_
            refine va_get (D := (dC, dI)) (ci := 2) (v := .ref tO) (C := RX2) (T := TX2) (N := 5) hx hb hts i2 hown hK hP 0 rfl rfl 0 (by decide) (hts (.fieldLink RX2 9 "StopSetter$Reader" "tape" "LStopSetter$Tape;") (by decide +kernel)) (fun _ h9 => h9) rfl dX2_isText_37 ?_
            refine lv_aload_n hx hb dX2_isText_40 rfl (lv_at hl 1 rfl) ?_
            refine va_get (D := (dC, dI)) (ci := 2) (v := .int pl) (C := RX2) (T := TX2) (N := 5) hx hb hts i2 hown hK hP 0 rfl rfl 2 (by decide) (hts (.fieldLink RX2 106 "StopSetter$Reader" "place" "I") (by decide +kernel)) (fun _ h9 => h9) rfl dX2_isText_41 ?_
            refine lv_topi (fun v_ ev_ => ?_)
            obtain rfl : v_ = (nI aq) := ev_.trans (hpl)
            refine lv_iload_n hx hb dX2_isText_44 rfl (lv_at hl 0 rfl) ?_
            refine lv_iadd hx hb dX2_isText_45 ?_
            refine lv_topi (fun v_ ev_ => ?_)
            obtain rfl : v_ = (nI (aq + k)) := ev_.trans (nI_add _ _)
            have hPc := hP.sub (ws' := [(tO, .inr (3, [.ref sA, .int (nI nq)])), (sA, .inl (cC, 1600, .inl fs))]) [1, 2] rfl
            have hDc := hD.sub (ws' := [(tO, .inr (3, [.ref sA, .int (nI nq)])), (sA, .inl (cC, 1600, .inl fs))]) [1, 2] (by decide) rfl
            have hFc := va_free (wc := [(tO, .inr (3, [.ref sA, .int (nI nq)])), (sA, .inl (cC, 1600, .inl fs))]) hD hS hA [1, 2] rfl
            refine va_calli (va_runV (As := [.int (nI (aq + k))]) (rest := []) ⟨hx, hb, hml, hown, hts⟩ (k_signAt l dC dI cI cZ cC cJ H.size  tO sA nq fs (aq + k) (by first | assumption | decide | omega) (by omega)) (cwV 1 hts gX2_isText_X3_signAt rfl rfl rfl (by decide +kernel) ⟨Nat.le_of_ble_eq_true rfl, Nat.le_of_ble_eq_true rfl⟩) ⟨sPre_blind, va_recv hK hPc (ci := 3) (q0 := 0) rfl rfl, fun U hU hW => ⟨rfl, sPre_ok hsk hPc hDc hU hW⟩⟩ rfl rfl hl.1 rfl (lv_room (Nat.le_of_ble_eq_true rfl)) dX2_isText_46 ⟨(show 0 + 0 ≤ 0 by omega), (show 0 + 0 ≤ 0 by omega)⟩) hS (fun q _ h => hFc q h) hFc (fun r_5 u t H1 locs ht hvm hw hB hz1 hk1 hS => ?_)
            try dsimp only at hw hB
            have hw_6 := hw
            obtain rfl : r_5 = sgA fs nq (aq + k) := hw_6
            obtain ⟨hP1, hD1⟩ := hB
            rw [ht] at hP1
            obtain ⟨hP, hD⟩ := va_join (wr := [(h0, .inr (2, [.ref tO, .int so, .int pl, .int bh, .int fa_]))]) (w1 := [(tO, .inr (3, [.ref sA, .int (nI nq)])), (sA, .inl (cC, 1600, .inl fs))]) hP hD [1, 2] [0] rfl rfl (by decide) (by decide) hk1 hFc hP1 hD1
            generalize H1 = H at hP hS ⊢
            have hP : va_P (dC, dI) vwCl [(h0, .inr (2, [.ref tO, .int so, .int pl, .int bh, .int fa_])), (tO, .inr (3, [.ref sA, .int (nI nq)])), (sA, .inl (cC, 1600, .inl fs))] H := hP
            have hD : va_D A [(h0, .inr (2, [.ref tO, .int so, .int pl, .int bh, .int fa_])), (tO, .inr (3, [.ref sA, .int (nI nq)])), (sA, .inl (cC, 1600, .inl fs))] := hD
            refine lv_aload_n hx hb dX2_isText_49 rfl (lv_at hl 2 rfl) ?_
            refine lv_iload_n hx hb dX2_isText_50 rfl (lv_at hl 0 rfl) ?_
            have hPc := hP.sub (ws' := []) [] rfl
            have hDc := hD.sub (ws' := []) [] (by decide) rfl
            have hFc := va_free (wc := []) hD hS hA [] rfl
            refine va_calli (va_runV (As := [.int (nI k)]) (rest := [.int (sgA fs nq (aq + k))]) ⟨hx, hb, hml, hown, hts⟩ (k_charAt l dC dI cI cZ cC cJ H.size adK adV i k hi hk3) (cwV 1 hts gX2_isText_J0_charAt_5068e rfl rfl rfl (by decide +kernel) ⟨Nat.le_of_ble_eq_true rfl, Nat.le_of_ble_eq_true rfl⟩) ⟨tW_blind, vk_recv htw.1 hi hS, fun U hU hW => ⟨rfl, sPre_ok hsk hPc hDc hU hW, tW_warm hW hU hS (fun q h => hFc q h) htw⟩⟩ rfl rfl hl.1 rfl (lv_room (Nat.le_of_ble_eq_true rfl)) dX2_isText_51 ⟨(show 0 + 0 ≤ 0 by omega), (show 0 + 0 ≤ 0 by omega)⟩) hS (fun q _ h => hFc q h) hFc (fun r_7 u t H1 locs ht hvm hw hB hz1 hk1 hS => ?_)
            try dsimp only at hw hB
            have hw_8 := hw
            obtain rfl : r_7 = ((bytS.getD i []).getD k 0 &&& 255) := hw_8
            obtain ⟨hP1, hD1⟩ := hB
            rw [ht] at hP1
            obtain ⟨hP, hD⟩ := va_join (wr := [(h0, .inr (2, [.ref tO, .int so, .int pl, .int bh, .int fa_])), (tO, .inr (3, [.ref sA, .int (nI nq)])), (sA, .inl (cC, 1600, .inl fs))]) (w1 := []) hP hD [] [0, 1, 2] rfl rfl (by decide) (by decide) hk1 hFc hP1 hD1
            generalize H1 = H at hP hS ⊢
            have hP : va_P (dC, dI) vwCl [(h0, .inr (2, [.ref tO, .int so, .int pl, .int bh, .int fa_])), (tO, .inr (3, [.ref sA, .int (nI nq)])), (sA, .inl (cC, 1600, .inl fs))] H := hP
            have hD : va_D A [(h0, .inr (2, [.ref tO, .int so, .int pl, .int bh, .int fa_])), (tO, .inr (3, [.ref sA, .int (nI nq)])), (sA, .inl (cC, 1600, .inl fs))] := hD
            refine lv_icmp_eq (tgt := 59) hx hb dX2_isText_54 (by decide) (fun c_54 => ?_) (fun c_54 => ?_)
            · skip
              have hE2 : eqB fs (aq + (k + 1)) ((bytS.getD i []).drop (k + 1)) = Rq := by rw [← hE, eqB_step hk8, if_pos (by rw [hs9, byt255 i hi k hk3] at c_54; exact c_54)]
              refine lv_iinc (v := (nI (k + 1))) (lv' := [(2, .int (nI (k + 1))), (0, .ref h0), (1, .ref (adK i))]) hx hb dX2_isText_59 hl (k := 0) rfl (nI_1 k) (by decide) rfl (fun ls hl => ?_)
              refine lv_goto (tgt := 28) hx hb dX2_isText_62 (by decide) ?_
              exact ih_28  (k + 1) (by omega) (by omega) (hE2) _ _ _ hP hD hS (lv_sub hl [0, 1, 2] rfl)
            · skip
              refine lv_iconst (v := 0) hx hb dX2_isText_57 (by decide) ?_
              have hP9 := hP.sub (ws' := [(h0, .inr (2, [.ref tO, .int so, .int pl, .int bh, .int fa_])), (tO, .inr (3, [.ref sA, .int (nI nq)])), (sA, .inl (cC, 1600, .inl fs))]) [0, 1, 2] rfl
              have hD9 := hD.sub (ws' := [(h0, .inr (2, [.ref tO, .int so, .int pl, .int bh, .int fa_])), (tO, .inr (3, [.ref sA, .int (nI nq)])), (sA, .inl (cC, 1600, .inl fs))]) [0, 1, 2] (by decide) rfl
              have hens0 : (0 : Int32) = tI fs nq qs.1 i := (by unfold tI; rw [if_pos (hR.1.symm.trans c_5), ← eaq, ← ebq, if_pos hlen, ← eRq, ← hE, eqB_step hk8, if_neg (fun z => c_54 (by rw [hs9, byt255 i hi k hk3]; exact z))])
              exact W.zret (v := 0) (ty := .boolean) hx hb hr rfl (fun t ht hW => ⟨⟨0, (), rfl, hens0, by rw [ht]; exact hP9, hD9⟩, hS.F ht⟩) hS.2.2 dX2_isText_58
      exact lp_28 (lenS.getD i 0 + 1) 0 (by omega) (by omega) (eRq.symm) _ _ _ hP hD hS (lv_sub hl [0, 1, 2] rfl)
    · skip
      refine lv_iconst (v := 0) hx hb dX2_isText_24 (by decide) ?_
      have hP9 := hP.sub (ws' := [(h0, .inr (2, [.ref tO, .int so, .int pl, .int bh, .int fa_])), (tO, .inr (3, [.ref sA, .int (nI nq)])), (sA, .inl (cC, 1600, .inl fs))]) [0, 1, 2] rfl
      have hD9 := hD.sub (ws' := [(h0, .inr (2, [.ref tO, .int so, .int pl, .int bh, .int fa_])), (tO, .inr (3, [.ref sA, .int (nI nq)])), (sA, .inl (cC, 1600, .inl fs))]) [0, 1, 2] (by decide) rfl
      have hens0 : (0 : Int32) = tI fs nq qs.1 i := (by unfold tI; rw [if_pos (hR.1.symm.trans c_5), ← eaq, ← ebq, if_neg (fun z => c_21 (congrArg nI z))])
      exact W.zret (v := 0) (ty := .boolean) hx hb hr rfl (fun t ht hW => ⟨⟨0, (), rfl, hens0, by rw [ht]; exact hP9, hD9⟩, hS.F ht⟩) hS.2.2 dX2_isText_25
set_option maxHeartbeats 4000000 in
set_option maxRecDepth 100000 in
theorem k_goMarkHere (l : Launch) (dC : Nat → ClassId) (dI : Nat → Nat → Nat) (cI cZ cC cJ : ClassId) (sz : Nat) (adK adV : Nat → Nat) (h0 : Nat) (tO : Nat) (so : Int32) (pl : Int32) (bh : Int32) (fa_ : Int32) (sA : Nat) (nq : Nat) (fs : Nat → Int32) (qs : Nat × Int32) (hnq : nq ≤ 1600) (hR : rOK fs nq qs so pl bh fa_) : Met l yX2_goMarkHere wsX2_goMarkHere ({ frames := 5, cells := 0, slots := 0, locals := 107 }) (va_Pc [.ref h0] (fun U => sPre dC dI cI cZ cC cJ [(h0, .inr (2, [.ref tO, .int so, .int pl, .int bh, .int fa_])), (tO, .inr (3, [.ref sA, .int (nI nq)])), (sA, .inl (cC, 1600, .inl fs))] sz U ∧ tW adK adV (va_A [(h0, .inr (2, [.ref tO, .int so, .int pl, .int bh, .int fa_])), (tO, .inr (3, [.ref sA, .int (nI nq)])), (sA, .inl (cC, 1600, .inl fs))] sz) U)) (va_Qi (fun (r : Int32) (u : Unit) => ((r : Int32) = nI (mkV (tkO fs nq) 5 qs.1))) (fun _ => sB dC dI (va_A [(h0, .inr (2, [.ref tO, .int so, .int pl, .int bh, .int fa_])), (tO, .inr (3, [.ref sA, .int (nI nq)])), (sA, .inl (cC, 1600, .inl fs))] sz) [(h0, .inr (2, [.ref tO, .int so, .int pl, .int bh, .int fa_])), (tO, .inr (3, [.ref sA, .int (nI nq)])), (sA, .inl (cC, 1600, .inl fs))]) (va_A [(h0, .inr (2, [.ref tO, .int so, .int pl, .int bh, .int fa_])), (tO, .inr (3, [.ref sA, .int (nI nq)])), (sA, .inl (cC, 1600, .inl fs))] sz)) 0 0 (va_A [(h0, .inr (2, [.ref tO, .int so, .int pl, .int bh, .int fa_])), (tO, .inr (3, [.ref sA, .int (nI nq)])), (sA, .inl (cC, 1600, .inl fs))] sz) := by
  refine Met.ofW (cc := cX2_goMarkHere) (maxL := 1) (ret := (some .int)) (by decide) rfl ?_
  intro p e s m args below meth c s₁ B hml hv
  obtain ⟨rfl, ⟨hsz, hP, hsk, hD0⟩, htw⟩ := hv
  have hx := B.exec
  have hb := B.bytes
  have hr := B.returns
  have hts := atoms_spec (ws := wsX2_goMarkHere) B.pre
  have hown : s.vm.findClass RX2 = some m.cls := findClass_of_methodNamed B.named
  have hlocks := B.notSynchronized
  have hK := hsk.1
  subst hsz
  have hD := hD0.self (sz := s.heap.size)
  generalize hAe : va_A [(h0, .inr (2, [.ref tO, .int so, .int pl, .int bh, .int fa_])), (tO, .inr (3, [.ref sA, .int (nI nq)])), (sA, .inl (cC, 1600, .inl fs))] s.heap.size = A at hD htw ⊢
  have hA : ∀ q : Nat, s.heap.size ≤ q → A q := fun q h => by rw [← hAe]; exact Or.inr h
  have hS : va_S A s.heap s.heap [] := va_S.rf
  have hl := lv_entry ([.ref h0]) (n := 1) (Nat.le_of_ble_eq_true rfl)
  rw [lg_entry_eq]
  generalize (lg_sl ([.ref h0]) ++ List.replicate (1 - (lg_sl ([.ref h0])).length) Slot.unset).toArray = ls at hl ⊢
  have hl : lv_has ls 1 [(0, .ref h0)] := hl
  refine lv_aload_n hx hb dX2_goMarkHere_0 rfl (lv_at hl 0 rfl) ?_
  refine va_ldcS (own := RX2) (index := 91) (tx := "comma") hx hb hown (htw.2.1 5 (by decide)) dX2_goMarkHere_1 ?_
  have hPc := hP.sub (ws' := [(h0, .inr (2, [.ref tO, .int so, .int pl, .int bh, .int fa_])), (tO, .inr (3, [.ref sA, .int (nI nq)])), (sA, .inl (cC, 1600, .inl fs))]) [0, 1, 2] rfl
  have hDc := hD.sub (ws' := [(h0, .inr (2, [.ref tO, .int so, .int pl, .int bh, .int fa_])), (tO, .inr (3, [.ref sA, .int (nI nq)])), (sA, .inl (cC, 1600, .inl fs))]) [0, 1, 2] (by decide) rfl
  have hFc := va_free (wc := [(h0, .inr (2, [.ref tO, .int so, .int pl, .int bh, .int fa_])), (tO, .inr (3, [.ref sA, .int (nI nq)])), (sA, .inl (cC, 1600, .inl fs))]) hD hS hA [0, 1, 2] rfl
  refine va_calli (va_runV (As := [.ref (adK 5)]) (rest := []) ⟨hx, hb, hml, hown, hts⟩ (k_isText l dC dI cI cZ cC cJ s.heap.size adK adV h0 tO so pl bh fa_ sA nq fs 5 qs (by first | assumption | decide | omega) (by decide) hR) (cwV 1 hts gX2_goMarkHere_X2_isText rfl rfl rfl (by decide +kernel) ⟨Nat.le_of_ble_eq_true rfl, Nat.le_of_ble_eq_true rfl⟩) ⟨tW_blind, va_recv hK hPc (ci := 2) (q0 := 0) rfl rfl, fun U hU hW => ⟨rfl, sPre_ok hsk hPc hDc hU hW, tW_warm hW hU hS (fun q h => hFc q h) htw⟩⟩ rfl rfl hl.1 rfl (lv_room (Nat.le_of_ble_eq_true rfl)) dX2_goMarkHere_3 ⟨(show 0 + 0 ≤ 0 by omega), (show 0 + 0 ≤ 0 by omega)⟩) hS (fun q _ h => hFc q h) hFc (fun r_1 u t H1 locs ht hvm hw hB hz1 hk1 hS => ?_)
  try dsimp only at hw hB
  have he_2 := hw
  have he_2 : (r_1 : Int32) = tI fs nq qs.1 5 := he_2
  obtain ⟨hP1, hD1⟩ := hB
  rw [ht] at hP1
  obtain ⟨hP, hD⟩ := va_join (wr := []) (w1 := [(h0, .inr (2, [.ref tO, .int so, .int pl, .int bh, .int fa_])), (tO, .inr (3, [.ref sA, .int (nI nq)])), (sA, .inl (cC, 1600, .inl fs))]) hP hD [0, 1, 2] [] rfl rfl (by decide) (by decide) hk1 hFc hP1 hD1
  generalize H1 = H at hP hS ⊢
  have hP : va_P (dC, dI) vwCl [(h0, .inr (2, [.ref tO, .int so, .int pl, .int bh, .int fa_])), (tO, .inr (3, [.ref sA, .int (nI nq)])), (sA, .inl (cC, 1600, .inl fs))] H := hP
  have hD : va_D A [(h0, .inr (2, [.ref tO, .int so, .int pl, .int bh, .int fa_])), (tO, .inr (3, [.ref sA, .int (nI nq)])), (sA, .inl (cC, 1600, .inl fs))] := hD
  refine lv_if_eq (tgt := 13) hx hb dX2_goMarkHere_6 (by decide) (fun c_6 => ?_) (fun c_6 => ?_)
  · skip
    refine lv_aload_n hx hb dX2_goMarkHere_13 rfl (lv_at hl 0 rfl) ?_
    refine va_ldcS (own := RX2) (index := 93) (tx := "open") hx hb hown (htw.2.1 6 (by decide)) dX2_goMarkHere_14 ?_
    have hPc := hP.sub (ws' := [(h0, .inr (2, [.ref tO, .int so, .int pl, .int bh, .int fa_])), (tO, .inr (3, [.ref sA, .int (nI nq)])), (sA, .inl (cC, 1600, .inl fs))]) [0, 1, 2] rfl
    have hDc := hD.sub (ws' := [(h0, .inr (2, [.ref tO, .int so, .int pl, .int bh, .int fa_])), (tO, .inr (3, [.ref sA, .int (nI nq)])), (sA, .inl (cC, 1600, .inl fs))]) [0, 1, 2] (by decide) rfl
    have hFc := va_free (wc := [(h0, .inr (2, [.ref tO, .int so, .int pl, .int bh, .int fa_])), (tO, .inr (3, [.ref sA, .int (nI nq)])), (sA, .inl (cC, 1600, .inl fs))]) hD hS hA [0, 1, 2] rfl
    refine va_calli (va_runV (As := [.ref (adK 6)]) (rest := []) ⟨hx, hb, hml, hown, hts⟩ (k_isText l dC dI cI cZ cC cJ H.size adK adV h0 tO so pl bh fa_ sA nq fs 6 qs (by first | assumption | decide | omega) (by decide) hR) (cwV 1 hts gX2_goMarkHere_X2_isText rfl rfl rfl (by decide +kernel) ⟨Nat.le_of_ble_eq_true rfl, Nat.le_of_ble_eq_true rfl⟩) ⟨tW_blind, va_recv hK hPc (ci := 2) (q0 := 0) rfl rfl, fun U hU hW => ⟨rfl, sPre_ok hsk hPc hDc hU hW, tW_warm hW hU hS (fun q h => hFc q h) htw⟩⟩ rfl rfl hl.1 rfl (lv_room (Nat.le_of_ble_eq_true rfl)) dX2_goMarkHere_16 ⟨(show 0 + 0 ≤ 0 by omega), (show 0 + 0 ≤ 0 by omega)⟩) hS (fun q _ h => hFc q h) hFc (fun r_3 u t H1 locs ht hvm hw hB hz1 hk1 hS => ?_)
    try dsimp only at hw hB
    have he_4 := hw
    have he_4 : (r_3 : Int32) = tI fs nq qs.1 6 := he_4
    obtain ⟨hP1, hD1⟩ := hB
    rw [ht] at hP1
    obtain ⟨hP, hD⟩ := va_join (wr := []) (w1 := [(h0, .inr (2, [.ref tO, .int so, .int pl, .int bh, .int fa_])), (tO, .inr (3, [.ref sA, .int (nI nq)])), (sA, .inl (cC, 1600, .inl fs))]) hP hD [0, 1, 2] [] rfl rfl (by decide) (by decide) hk1 hFc hP1 hD1
    generalize H1 = H at hP hS ⊢
    have hP : va_P (dC, dI) vwCl [(h0, .inr (2, [.ref tO, .int so, .int pl, .int bh, .int fa_])), (tO, .inr (3, [.ref sA, .int (nI nq)])), (sA, .inl (cC, 1600, .inl fs))] H := hP
    have hD : va_D A [(h0, .inr (2, [.ref tO, .int so, .int pl, .int bh, .int fa_])), (tO, .inr (3, [.ref sA, .int (nI nq)])), (sA, .inl (cC, 1600, .inl fs))] := hD
    refine lv_if_eq (tgt := 26) hx hb dX2_goMarkHere_19 (by decide) (fun c_19 => ?_) (fun c_19 => ?_)
    · skip
      refine lv_aload_n hx hb dX2_goMarkHere_26 rfl (lv_at hl 0 rfl) ?_
      refine va_ldcS (own := RX2) (index := 95) (tx := "close") hx hb hown (htw.2.1 7 (by decide)) dX2_goMarkHere_27 ?_
      have hPc := hP.sub (ws' := [(h0, .inr (2, [.ref tO, .int so, .int pl, .int bh, .int fa_])), (tO, .inr (3, [.ref sA, .int (nI nq)])), (sA, .inl (cC, 1600, .inl fs))]) [0, 1, 2] rfl
      have hDc := hD.sub (ws' := [(h0, .inr (2, [.ref tO, .int so, .int pl, .int bh, .int fa_])), (tO, .inr (3, [.ref sA, .int (nI nq)])), (sA, .inl (cC, 1600, .inl fs))]) [0, 1, 2] (by decide) rfl
      have hFc := va_free (wc := [(h0, .inr (2, [.ref tO, .int so, .int pl, .int bh, .int fa_])), (tO, .inr (3, [.ref sA, .int (nI nq)])), (sA, .inl (cC, 1600, .inl fs))]) hD hS hA [0, 1, 2] rfl
      refine va_calli (va_runV (As := [.ref (adK 7)]) (rest := []) ⟨hx, hb, hml, hown, hts⟩ (k_isText l dC dI cI cZ cC cJ H.size adK adV h0 tO so pl bh fa_ sA nq fs 7 qs (by first | assumption | decide | omega) (by decide) hR) (cwV 1 hts gX2_goMarkHere_X2_isText rfl rfl rfl (by decide +kernel) ⟨Nat.le_of_ble_eq_true rfl, Nat.le_of_ble_eq_true rfl⟩) ⟨tW_blind, va_recv hK hPc (ci := 2) (q0 := 0) rfl rfl, fun U hU hW => ⟨rfl, sPre_ok hsk hPc hDc hU hW, tW_warm hW hU hS (fun q h => hFc q h) htw⟩⟩ rfl rfl hl.1 rfl (lv_room (Nat.le_of_ble_eq_true rfl)) dX2_goMarkHere_29 ⟨(show 0 + 0 ≤ 0 by omega), (show 0 + 0 ≤ 0 by omega)⟩) hS (fun q _ h => hFc q h) hFc (fun r_5 u t H1 locs ht hvm hw hB hz1 hk1 hS => ?_)
      try dsimp only at hw hB
      have he_6 := hw
      have he_6 : (r_5 : Int32) = tI fs nq qs.1 7 := he_6
      obtain ⟨hP1, hD1⟩ := hB
      rw [ht] at hP1
      obtain ⟨hP, hD⟩ := va_join (wr := []) (w1 := [(h0, .inr (2, [.ref tO, .int so, .int pl, .int bh, .int fa_])), (tO, .inr (3, [.ref sA, .int (nI nq)])), (sA, .inl (cC, 1600, .inl fs))]) hP hD [0, 1, 2] [] rfl rfl (by decide) (by decide) hk1 hFc hP1 hD1
      generalize H1 = H at hP hS ⊢
      have hP : va_P (dC, dI) vwCl [(h0, .inr (2, [.ref tO, .int so, .int pl, .int bh, .int fa_])), (tO, .inr (3, [.ref sA, .int (nI nq)])), (sA, .inl (cC, 1600, .inl fs))] H := hP
      have hD : va_D A [(h0, .inr (2, [.ref tO, .int so, .int pl, .int bh, .int fa_])), (tO, .inr (3, [.ref sA, .int (nI nq)])), (sA, .inl (cC, 1600, .inl fs))] := hD
      refine lv_if_eq (tgt := 39) hx hb dX2_goMarkHere_32 (by decide) (fun c_32 => ?_) (fun c_32 => ?_)
      · skip
        refine lv_iconst (v := 0) hx hb dX2_goMarkHere_39 (by decide) ?_
        have hP9 := hP.sub (ws' := [(h0, .inr (2, [.ref tO, .int so, .int pl, .int bh, .int fa_])), (tO, .inr (3, [.ref sA, .int (nI nq)])), (sA, .inl (cC, 1600, .inl fs))]) [0, 1, 2] rfl
        have hD9 := hD.sub (ws' := [(h0, .inr (2, [.ref tO, .int so, .int pl, .int bh, .int fa_])), (tO, .inr (3, [.ref sA, .int (nI nq)])), (sA, .inl (cC, 1600, .inl fs))]) [0, 1, 2] (by decide) rfl
        have hens0 : (0 : Int32) = nI (mkV (tkO fs nq) 5 qs.1) := (by unfold mkV; rw [if_pos (show (tkO fs nq).T qs.1 5 = 0 from he_2.symm.trans c_6), if_pos (show (tkO fs nq).T qs.1 6 = 0 from he_4.symm.trans c_19), if_pos (show (tkO fs nq).T qs.1 7 = 0 from he_6.symm.trans c_32)]; rfl)
        exact W.iret (v := 0) hx hb hr (fun t ht hW => ⟨⟨0, (), rfl, hens0, by rw [ht]; exact hP9, hD9⟩, hS.F ht⟩) hS.2.2 dX2_goMarkHere_40
      · skip
        refine lv_iconst (v := 3) hx hb dX2_goMarkHere_35 (by decide) ?_
        refine lv_goto (tgt := 40) hx hb dX2_goMarkHere_36 (by decide) ?_
        have hP9 := hP.sub (ws' := [(h0, .inr (2, [.ref tO, .int so, .int pl, .int bh, .int fa_])), (tO, .inr (3, [.ref sA, .int (nI nq)])), (sA, .inl (cC, 1600, .inl fs))]) [0, 1, 2] rfl
        have hD9 := hD.sub (ws' := [(h0, .inr (2, [.ref tO, .int so, .int pl, .int bh, .int fa_])), (tO, .inr (3, [.ref sA, .int (nI nq)])), (sA, .inl (cC, 1600, .inl fs))]) [0, 1, 2] (by decide) rfl
        have hens0 : (3 : Int32) = nI (mkV (tkO fs nq) 5 qs.1) := (by unfold mkV; rw [if_pos (show (tkO fs nq).T qs.1 5 = 0 from he_2.symm.trans c_6), if_pos (show (tkO fs nq).T qs.1 6 = 0 from he_4.symm.trans c_19), if_neg (show ¬ (tkO fs nq).T qs.1 7 = 0 from fun z => c_32 (he_6.trans z))]; rfl)
        exact W.iret (v := 3) hx hb hr (fun t ht hW => ⟨⟨3, (), rfl, hens0, by rw [ht]; exact hP9, hD9⟩, hS.F ht⟩) hS.2.2 dX2_goMarkHere_40
    · skip
      refine lv_iconst (v := 2) hx hb dX2_goMarkHere_22 (by decide) ?_
      refine lv_goto (tgt := 40) hx hb dX2_goMarkHere_23 (by decide) ?_
      have hP9 := hP.sub (ws' := [(h0, .inr (2, [.ref tO, .int so, .int pl, .int bh, .int fa_])), (tO, .inr (3, [.ref sA, .int (nI nq)])), (sA, .inl (cC, 1600, .inl fs))]) [0, 1, 2] rfl
      have hD9 := hD.sub (ws' := [(h0, .inr (2, [.ref tO, .int so, .int pl, .int bh, .int fa_])), (tO, .inr (3, [.ref sA, .int (nI nq)])), (sA, .inl (cC, 1600, .inl fs))]) [0, 1, 2] (by decide) rfl
      have hens0 : (2 : Int32) = nI (mkV (tkO fs nq) 5 qs.1) := (by unfold mkV; rw [if_pos (show (tkO fs nq).T qs.1 5 = 0 from he_2.symm.trans c_6), if_neg (show ¬ (tkO fs nq).T qs.1 6 = 0 from fun z => c_19 (he_4.trans z))]; rfl)
      exact W.iret (v := 2) hx hb hr (fun t ht hW => ⟨⟨2, (), rfl, hens0, by rw [ht]; exact hP9, hD9⟩, hS.F ht⟩) hS.2.2 dX2_goMarkHere_40
  · skip
    refine lv_iconst (v := 1) hx hb dX2_goMarkHere_9 (by decide) ?_
    refine lv_goto (tgt := 40) hx hb dX2_goMarkHere_10 (by decide) ?_
    have hP9 := hP.sub (ws' := [(h0, .inr (2, [.ref tO, .int so, .int pl, .int bh, .int fa_])), (tO, .inr (3, [.ref sA, .int (nI nq)])), (sA, .inl (cC, 1600, .inl fs))]) [0, 1, 2] rfl
    have hD9 := hD.sub (ws' := [(h0, .inr (2, [.ref tO, .int so, .int pl, .int bh, .int fa_])), (tO, .inr (3, [.ref sA, .int (nI nq)])), (sA, .inl (cC, 1600, .inl fs))]) [0, 1, 2] (by decide) rfl
    have hens0 : (1 : Int32) = nI (mkV (tkO fs nq) 5 qs.1) := (by unfold mkV; rw [if_neg (show ¬ (tkO fs nq).T qs.1 5 = 0 from fun z => c_6 (he_2.trans z))]; rfl)
    exact W.iret (v := 1) hx hb hr (fun t ht hW => ⟨⟨1, (), rfl, hens0, by rw [ht]; exact hP9, hD9⟩, hS.F ht⟩) hS.2.2 dX2_goMarkHere_40
set_option maxHeartbeats 4000000 in
set_option maxRecDepth 100000 in
theorem k_endMarkHere (l : Launch) (dC : Nat → ClassId) (dI : Nat → Nat → Nat) (cI cZ cC cJ : ClassId) (sz : Nat) (adK adV : Nat → Nat) (h0 : Nat) (tO : Nat) (so : Int32) (pl : Int32) (bh : Int32) (fa_ : Int32) (sA : Nat) (nq : Nat) (fs : Nat → Int32) (qs : Nat × Int32) (hnq : nq ≤ 1600) (hR : rOK fs nq qs so pl bh fa_) : Met l yX2_endMarkHere wsX2_endMarkHere ({ frames := 5, cells := 0, slots := 0, locals := 107 }) (va_Pc [.ref h0] (fun U => sPre dC dI cI cZ cC cJ [(h0, .inr (2, [.ref tO, .int so, .int pl, .int bh, .int fa_])), (tO, .inr (3, [.ref sA, .int (nI nq)])), (sA, .inl (cC, 1600, .inl fs))] sz U ∧ tW adK adV (va_A [(h0, .inr (2, [.ref tO, .int so, .int pl, .int bh, .int fa_])), (tO, .inr (3, [.ref sA, .int (nI nq)])), (sA, .inl (cC, 1600, .inl fs))] sz) U)) (va_Qi (fun (r : Int32) (u : Unit) => ((r : Int32) = emV (tkO fs nq) qs.1)) (fun _ => sB dC dI (va_A [(h0, .inr (2, [.ref tO, .int so, .int pl, .int bh, .int fa_])), (tO, .inr (3, [.ref sA, .int (nI nq)])), (sA, .inl (cC, 1600, .inl fs))] sz) [(h0, .inr (2, [.ref tO, .int so, .int pl, .int bh, .int fa_])), (tO, .inr (3, [.ref sA, .int (nI nq)])), (sA, .inl (cC, 1600, .inl fs))]) (va_A [(h0, .inr (2, [.ref tO, .int so, .int pl, .int bh, .int fa_])), (tO, .inr (3, [.ref sA, .int (nI nq)])), (sA, .inl (cC, 1600, .inl fs))] sz)) 0 0 (va_A [(h0, .inr (2, [.ref tO, .int so, .int pl, .int bh, .int fa_])), (tO, .inr (3, [.ref sA, .int (nI nq)])), (sA, .inl (cC, 1600, .inl fs))] sz) := by
  refine Met.ofW (cc := cX2_endMarkHere) (maxL := 1) (ret := (some .int)) (by decide) rfl ?_
  intro p e s m args below meth c s₁ B hml hv
  obtain ⟨rfl, ⟨hsz, hP, hsk, hD0⟩, htw⟩ := hv
  have hx := B.exec
  have hb := B.bytes
  have hr := B.returns
  have hts := atoms_spec (ws := wsX2_endMarkHere) B.pre
  have hown : s.vm.findClass RX2 = some m.cls := findClass_of_methodNamed B.named
  have hlocks := B.notSynchronized
  have hK := hsk.1
  subst hsz
  have hD := hD0.self (sz := s.heap.size)
  generalize hAe : va_A [(h0, .inr (2, [.ref tO, .int so, .int pl, .int bh, .int fa_])), (tO, .inr (3, [.ref sA, .int (nI nq)])), (sA, .inl (cC, 1600, .inl fs))] s.heap.size = A at hD htw ⊢
  have hA : ∀ q : Nat, s.heap.size ≤ q → A q := fun q h => by rw [← hAe]; exact Or.inr h
  have hS : va_S A s.heap s.heap [] := va_S.rf
  have hl := lv_entry ([.ref h0]) (n := 1) (Nat.le_of_ble_eq_true rfl)
  rw [lg_entry_eq]
  generalize (lg_sl ([.ref h0]) ++ List.replicate (1 - (lg_sl ([.ref h0])).length) Slot.unset).toArray = ls at hl ⊢
  have hl : lv_has ls 1 [(0, .ref h0)] := hl
  refine lv_aload_n hx hb dX2_endMarkHere_0 rfl (lv_at hl 0 rfl) ?_
  refine va_ldcS (own := RX2) (index := 97) (tx := "stop") hx hb hown (htw.2.1 9 (by decide)) dX2_endMarkHere_1 ?_
  have hPc := hP.sub (ws' := [(h0, .inr (2, [.ref tO, .int so, .int pl, .int bh, .int fa_])), (tO, .inr (3, [.ref sA, .int (nI nq)])), (sA, .inl (cC, 1600, .inl fs))]) [0, 1, 2] rfl
  have hDc := hD.sub (ws' := [(h0, .inr (2, [.ref tO, .int so, .int pl, .int bh, .int fa_])), (tO, .inr (3, [.ref sA, .int (nI nq)])), (sA, .inl (cC, 1600, .inl fs))]) [0, 1, 2] (by decide) rfl
  have hFc := va_free (wc := [(h0, .inr (2, [.ref tO, .int so, .int pl, .int bh, .int fa_])), (tO, .inr (3, [.ref sA, .int (nI nq)])), (sA, .inl (cC, 1600, .inl fs))]) hD hS hA [0, 1, 2] rfl
  refine va_calli (va_runV (As := [.ref (adK 9)]) (rest := []) ⟨hx, hb, hml, hown, hts⟩ (k_isText l dC dI cI cZ cC cJ s.heap.size adK adV h0 tO so pl bh fa_ sA nq fs 9 qs (by first | assumption | decide | omega) (by decide) hR) (cwV 1 hts gX2_endMarkHere_X2_isText rfl rfl rfl (by decide +kernel) ⟨Nat.le_of_ble_eq_true rfl, Nat.le_of_ble_eq_true rfl⟩) ⟨tW_blind, va_recv hK hPc (ci := 2) (q0 := 0) rfl rfl, fun U hU hW => ⟨rfl, sPre_ok hsk hPc hDc hU hW, tW_warm hW hU hS (fun q h => hFc q h) htw⟩⟩ rfl rfl hl.1 rfl (lv_room (Nat.le_of_ble_eq_true rfl)) dX2_endMarkHere_3 ⟨(show 0 + 0 ≤ 0 by omega), (show 0 + 0 ≤ 0 by omega)⟩) hS (fun q _ h => hFc q h) hFc (fun r_1 u t H1 locs ht hvm hw hB hz1 hk1 hS => ?_)
  try dsimp only at hw hB
  have he_2 := hw
  have he_2 : (r_1 : Int32) = tI fs nq qs.1 9 := he_2
  obtain ⟨hP1, hD1⟩ := hB
  rw [ht] at hP1
  obtain ⟨hP, hD⟩ := va_join (wr := []) (w1 := [(h0, .inr (2, [.ref tO, .int so, .int pl, .int bh, .int fa_])), (tO, .inr (3, [.ref sA, .int (nI nq)])), (sA, .inl (cC, 1600, .inl fs))]) hP hD [0, 1, 2] [] rfl rfl (by decide) (by decide) hk1 hFc hP1 hD1
  generalize H1 = H at hP hS ⊢
  have hP : va_P (dC, dI) vwCl [(h0, .inr (2, [.ref tO, .int so, .int pl, .int bh, .int fa_])), (tO, .inr (3, [.ref sA, .int (nI nq)])), (sA, .inl (cC, 1600, .inl fs))] H := hP
  have hD : va_D A [(h0, .inr (2, [.ref tO, .int so, .int pl, .int bh, .int fa_])), (tO, .inr (3, [.ref sA, .int (nI nq)])), (sA, .inl (cC, 1600, .inl fs))] := hD
  refine lv_if_eq (tgt := 13) hx hb dX2_endMarkHere_6 (by decide) (fun c_6 => ?_) (fun c_6 => ?_)
  · skip
    refine lv_aload_n hx hb dX2_endMarkHere_13 rfl (lv_at hl 0 rfl) ?_
    refine va_ldcS (own := RX2) (index := 99) (tx := "question") hx hb hown (htw.2.1 10 (by decide)) dX2_endMarkHere_14 ?_
    have hPc := hP.sub (ws' := [(h0, .inr (2, [.ref tO, .int so, .int pl, .int bh, .int fa_])), (tO, .inr (3, [.ref sA, .int (nI nq)])), (sA, .inl (cC, 1600, .inl fs))]) [0, 1, 2] rfl
    have hDc := hD.sub (ws' := [(h0, .inr (2, [.ref tO, .int so, .int pl, .int bh, .int fa_])), (tO, .inr (3, [.ref sA, .int (nI nq)])), (sA, .inl (cC, 1600, .inl fs))]) [0, 1, 2] (by decide) rfl
    have hFc := va_free (wc := [(h0, .inr (2, [.ref tO, .int so, .int pl, .int bh, .int fa_])), (tO, .inr (3, [.ref sA, .int (nI nq)])), (sA, .inl (cC, 1600, .inl fs))]) hD hS hA [0, 1, 2] rfl
    refine va_calli (va_runV (As := [.ref (adK 10)]) (rest := []) ⟨hx, hb, hml, hown, hts⟩ (k_isText l dC dI cI cZ cC cJ H.size adK adV h0 tO so pl bh fa_ sA nq fs 10 qs (by first | assumption | decide | omega) (by decide) hR) (cwV 1 hts gX2_endMarkHere_X2_isText rfl rfl rfl (by decide +kernel) ⟨Nat.le_of_ble_eq_true rfl, Nat.le_of_ble_eq_true rfl⟩) ⟨tW_blind, va_recv hK hPc (ci := 2) (q0 := 0) rfl rfl, fun U hU hW => ⟨rfl, sPre_ok hsk hPc hDc hU hW, tW_warm hW hU hS (fun q h => hFc q h) htw⟩⟩ rfl rfl hl.1 rfl (lv_room (Nat.le_of_ble_eq_true rfl)) dX2_endMarkHere_16 ⟨(show 0 + 0 ≤ 0 by omega), (show 0 + 0 ≤ 0 by omega)⟩) hS (fun q _ h => hFc q h) hFc (fun r_3 u t H1 locs ht hvm hw hB hz1 hk1 hS => ?_)
    try dsimp only at hw hB
    have he_4 := hw
    have he_4 : (r_3 : Int32) = tI fs nq qs.1 10 := he_4
    obtain ⟨hP1, hD1⟩ := hB
    rw [ht] at hP1
    obtain ⟨hP, hD⟩ := va_join (wr := []) (w1 := [(h0, .inr (2, [.ref tO, .int so, .int pl, .int bh, .int fa_])), (tO, .inr (3, [.ref sA, .int (nI nq)])), (sA, .inl (cC, 1600, .inl fs))]) hP hD [0, 1, 2] [] rfl rfl (by decide) (by decide) hk1 hFc hP1 hD1
    generalize H1 = H at hP hS ⊢
    have hP : va_P (dC, dI) vwCl [(h0, .inr (2, [.ref tO, .int so, .int pl, .int bh, .int fa_])), (tO, .inr (3, [.ref sA, .int (nI nq)])), (sA, .inl (cC, 1600, .inl fs))] H := hP
    have hD : va_D A [(h0, .inr (2, [.ref tO, .int so, .int pl, .int bh, .int fa_])), (tO, .inr (3, [.ref sA, .int (nI nq)])), (sA, .inl (cC, 1600, .inl fs))] := hD
    refine lv_if_eq (tgt := 26) hx hb dX2_endMarkHere_19 (by decide) (fun c_19 => ?_) (fun c_19 => ?_)
    · skip
      refine lv_aload_n hx hb dX2_endMarkHere_26 rfl (lv_at hl 0 rfl) ?_
      refine va_ldcS (own := RX2) (index := 101) (tx := "colon") hx hb hown (htw.2.1 11 (by decide)) dX2_endMarkHere_27 ?_
      have hPc := hP.sub (ws' := [(h0, .inr (2, [.ref tO, .int so, .int pl, .int bh, .int fa_])), (tO, .inr (3, [.ref sA, .int (nI nq)])), (sA, .inl (cC, 1600, .inl fs))]) [0, 1, 2] rfl
      have hDc := hD.sub (ws' := [(h0, .inr (2, [.ref tO, .int so, .int pl, .int bh, .int fa_])), (tO, .inr (3, [.ref sA, .int (nI nq)])), (sA, .inl (cC, 1600, .inl fs))]) [0, 1, 2] (by decide) rfl
      have hFc := va_free (wc := [(h0, .inr (2, [.ref tO, .int so, .int pl, .int bh, .int fa_])), (tO, .inr (3, [.ref sA, .int (nI nq)])), (sA, .inl (cC, 1600, .inl fs))]) hD hS hA [0, 1, 2] rfl
      refine va_calli (va_runV (As := [.ref (adK 11)]) (rest := []) ⟨hx, hb, hml, hown, hts⟩ (k_isText l dC dI cI cZ cC cJ H.size adK adV h0 tO so pl bh fa_ sA nq fs 11 qs (by first | assumption | decide | omega) (by decide) hR) (cwV 1 hts gX2_endMarkHere_X2_isText rfl rfl rfl (by decide +kernel) ⟨Nat.le_of_ble_eq_true rfl, Nat.le_of_ble_eq_true rfl⟩) ⟨tW_blind, va_recv hK hPc (ci := 2) (q0 := 0) rfl rfl, fun U hU hW => ⟨rfl, sPre_ok hsk hPc hDc hU hW, tW_warm hW hU hS (fun q h => hFc q h) htw⟩⟩ rfl rfl hl.1 rfl (lv_room (Nat.le_of_ble_eq_true rfl)) dX2_endMarkHere_29 ⟨(show 0 + 0 ≤ 0 by omega), (show 0 + 0 ≤ 0 by omega)⟩) hS (fun q _ h => hFc q h) hFc (fun r_5 u t H1 locs ht hvm hw hB hz1 hk1 hS => ?_)
      try dsimp only at hw hB
      have he_6 := hw
      have he_6 : (r_5 : Int32) = tI fs nq qs.1 11 := he_6
      obtain ⟨hP1, hD1⟩ := hB
      rw [ht] at hP1
      obtain ⟨hP, hD⟩ := va_join (wr := []) (w1 := [(h0, .inr (2, [.ref tO, .int so, .int pl, .int bh, .int fa_])), (tO, .inr (3, [.ref sA, .int (nI nq)])), (sA, .inl (cC, 1600, .inl fs))]) hP hD [0, 1, 2] [] rfl rfl (by decide) (by decide) hk1 hFc hP1 hD1
      generalize H1 = H at hP hS ⊢
      have hP : va_P (dC, dI) vwCl [(h0, .inr (2, [.ref tO, .int so, .int pl, .int bh, .int fa_])), (tO, .inr (3, [.ref sA, .int (nI nq)])), (sA, .inl (cC, 1600, .inl fs))] H := hP
      have hD : va_D A [(h0, .inr (2, [.ref tO, .int so, .int pl, .int bh, .int fa_])), (tO, .inr (3, [.ref sA, .int (nI nq)])), (sA, .inl (cC, 1600, .inl fs))] := hD
      refine lv_if_eq (tgt := 40) hx hb dX2_endMarkHere_32 (by decide) (fun c_32 => ?_) (fun c_32 => ?_)
      · skip
        refine lv_iconst (v := 0) hx hb dX2_endMarkHere_40 (by decide) ?_
        have hP9 := hP.sub (ws' := [(h0, .inr (2, [.ref tO, .int so, .int pl, .int bh, .int fa_])), (tO, .inr (3, [.ref sA, .int (nI nq)])), (sA, .inl (cC, 1600, .inl fs))]) [0, 1, 2] rfl
        have hD9 := hD.sub (ws' := [(h0, .inr (2, [.ref tO, .int so, .int pl, .int bh, .int fa_])), (tO, .inr (3, [.ref sA, .int (nI nq)])), (sA, .inl (cC, 1600, .inl fs))]) [0, 1, 2] (by decide) rfl
        have hens0 : (0 : Int32) = emV (tkO fs nq) qs.1 := (by unfold emV; rw [if_pos (show (tkO fs nq).T qs.1 9 = 0 from he_2.symm.trans c_6), if_pos (show (tkO fs nq).T qs.1 10 = 0 from he_4.symm.trans c_19), if_pos (show (tkO fs nq).T qs.1 11 = 0 from he_6.symm.trans c_32)])
        exact W.iret (v := 0) hx hb hr (fun t ht hW => ⟨⟨0, (), rfl, hens0, by rw [ht]; exact hP9, hD9⟩, hS.F ht⟩) hS.2.2 dX2_endMarkHere_41
      · skip
        refine lv_bipush (v := 6) hx hb dX2_endMarkHere_35 (by decide) ?_
        refine lv_goto (tgt := 41) hx hb dX2_endMarkHere_37 (by decide) ?_
        have hP9 := hP.sub (ws' := [(h0, .inr (2, [.ref tO, .int so, .int pl, .int bh, .int fa_])), (tO, .inr (3, [.ref sA, .int (nI nq)])), (sA, .inl (cC, 1600, .inl fs))]) [0, 1, 2] rfl
        have hD9 := hD.sub (ws' := [(h0, .inr (2, [.ref tO, .int so, .int pl, .int bh, .int fa_])), (tO, .inr (3, [.ref sA, .int (nI nq)])), (sA, .inl (cC, 1600, .inl fs))]) [0, 1, 2] (by decide) rfl
        have hens0 : (6 : Int32) = emV (tkO fs nq) qs.1 := (by unfold emV; rw [if_pos (show (tkO fs nq).T qs.1 9 = 0 from he_2.symm.trans c_6), if_pos (show (tkO fs nq).T qs.1 10 = 0 from he_4.symm.trans c_19), if_neg (show ¬ (tkO fs nq).T qs.1 11 = 0 from fun z => c_32 (he_6.trans z))])
        exact W.iret (v := 6) hx hb hr (fun t ht hW => ⟨⟨6, (), rfl, hens0, by rw [ht]; exact hP9, hD9⟩, hS.F ht⟩) hS.2.2 dX2_endMarkHere_41
    · skip
      refine lv_iconst (v := 5) hx hb dX2_endMarkHere_22 (by decide) ?_
      refine lv_goto (tgt := 41) hx hb dX2_endMarkHere_23 (by decide) ?_
      have hP9 := hP.sub (ws' := [(h0, .inr (2, [.ref tO, .int so, .int pl, .int bh, .int fa_])), (tO, .inr (3, [.ref sA, .int (nI nq)])), (sA, .inl (cC, 1600, .inl fs))]) [0, 1, 2] rfl
      have hD9 := hD.sub (ws' := [(h0, .inr (2, [.ref tO, .int so, .int pl, .int bh, .int fa_])), (tO, .inr (3, [.ref sA, .int (nI nq)])), (sA, .inl (cC, 1600, .inl fs))]) [0, 1, 2] (by decide) rfl
      have hens0 : (5 : Int32) = emV (tkO fs nq) qs.1 := (by unfold emV; rw [if_pos (show (tkO fs nq).T qs.1 9 = 0 from he_2.symm.trans c_6), if_neg (show ¬ (tkO fs nq).T qs.1 10 = 0 from fun z => c_19 (he_4.trans z))])
      exact W.iret (v := 5) hx hb hr (fun t ht hW => ⟨⟨5, (), rfl, hens0, by rw [ht]; exact hP9, hD9⟩, hS.F ht⟩) hS.2.2 dX2_endMarkHere_41
  · skip
    refine lv_iconst (v := 4) hx hb dX2_endMarkHere_9 (by decide) ?_
    refine lv_goto (tgt := 41) hx hb dX2_endMarkHere_10 (by decide) ?_
    have hP9 := hP.sub (ws' := [(h0, .inr (2, [.ref tO, .int so, .int pl, .int bh, .int fa_])), (tO, .inr (3, [.ref sA, .int (nI nq)])), (sA, .inl (cC, 1600, .inl fs))]) [0, 1, 2] rfl
    have hD9 := hD.sub (ws' := [(h0, .inr (2, [.ref tO, .int so, .int pl, .int bh, .int fa_])), (tO, .inr (3, [.ref sA, .int (nI nq)])), (sA, .inl (cC, 1600, .inl fs))]) [0, 1, 2] (by decide) rfl
    have hens0 : (4 : Int32) = emV (tkO fs nq) qs.1 := (by unfold emV; rw [if_neg (show ¬ (tkO fs nq).T qs.1 9 = 0 from fun z => c_6 (he_2.trans z))])
    exact W.iret (v := 4) hx hb hr (fun t ht hW => ⟨⟨4, (), rfl, hens0, by rw [ht]; exact hP9, hD9⟩, hS.F ht⟩) hS.2.2 dX2_endMarkHere_41

/-- a WORD's number, as both sides test it -/
def isW (x : Int32) : Int32 := if x < 1 then 0 else if 99 < x then 0 else 1
theorem in_ge {x c : Int32} {n : Nat} (hc : c.toInt = n) (h0 : ¬ x < 0) (h1 : ¬ c ≤ x) : vp_in x n := by
  have e1 : (0 : Int) ≤ x.toInt := by
    have := Int32.not_lt.mp h0
    rw [Int32.le_iff_toInt_le] at this
    exact this
  have e2 : x.toInt < n := by
    have := Int32.not_le.mp h1
    rw [Int32.lt_iff_toInt_lt, hc] at this
    exact this
  exact vp_in_iff.mpr ⟨e1, e2⟩
theorem in_lt {x c : Int32} {n : Nat} (hc : c.toInt = n) (h0 : ¬ x < 0) (h1 : x < c) : vp_in x n := in_ge hc h0 (Int32.not_le.mpr h1)
theorem isW_in {x : Int32} (h : ¬ isW x = 0) : vp_in x 100 := by
  have h1 : ¬ x < 1 := fun q => h (by simp only [isW, if_pos q])
  have h2 : ¬ 99 < x := fun q => h (by simp only [isW, if_neg h1, if_pos q])
  have e1 : (1 : Int) ≤ x.toInt := by
    have := Int32.not_lt.mp h1
    rw [Int32.le_iff_toInt_le] at this
    exact this
  have e2 : x.toInt ≤ 99 := by
    have := Int32.not_lt.mp h2
    rw [Int32.le_iff_toInt_le] at this
    exact this
  exact vp_in_iff.mpr ⟨by omega, by omega⟩
/-- a place below a count and below the array's length -/
def bnd (M x n : Int32) : Int32 := if x < 0 then 0 else if n ≤ x then 0 else if M ≤ x then 0 else 1
theorem bnd_in {M x n : Int32} {k : Nat} (hM : M.toInt = k) (h : ¬ bnd M x n = 0) : vp_in x k := by
  have h1 : ¬ x < 0 := fun q => h (by simp only [bnd, if_pos q])
  have h2 : ¬ n ≤ x := fun q => h (by simp only [bnd, if_neg h1, if_pos q])
  have h3 : ¬ M ≤ x := fun q => h (by simp only [bnd, if_neg h1, if_neg h2, if_pos q])
  exact in_ge hM h1 h3
def rKinds (w st : Int32) : Int32 := if isW w = 0 then 0 else if st < 1 then 0 else if st ≤ 255 then 1 else 0
def wdR (w z : Int32) : Int32 := if isW w = 0 then -1 else if z < 0 then -1 else if z < 60 then z + 1 else -1
def wdZ (w z : Int32) : Int32 := if isW w = 0 then z else if z < 0 then z else if z < 60 then z + 1 else z
def drR (z : Int32) : Int32 := if 0 < z then z - 1 else -1
def drZ (z : Int32) : Int32 := if 0 < z then z - 1 else z
def haR (i mk z : Int32) : Int32 := if bnd 60 i z = 0 then 0 else if mk < -1 then 0 else if 6 < mk then 0 else if i = 0 then (if mk < 4 then 1 else 0) else 1
def sgI (z c : Int32) : Int32 := if c = 10 then (if z < 0 then z else if 1600 ≤ z then z else z + 1) else if c < 32 then z else if 126 < c then z else (if z < 0 then z else if 1600 ≤ z then z else z + 1)
def sgC (f : Nat → Int32) (z c : Int32) : Nat → Int32 := if c = 10 then (if z < 0 then f else if 1600 ≤ z then f else upd f z.toNatClampNeg (vp_nar .char ((c.toUInt32 % 65536).toInt32))) else if c < 32 then f else if 126 < c then f else (if z < 0 then f else if 1600 ≤ z then f else upd f z.toNatClampNeg (vp_nar .char ((c.toUInt32 % 65536).toInt32)))
def sgCF (b : Int32 → Int32) : List Int32 → (Nat → Int32) → Int32 → Nat → Int32
  | [], f, _ => f
  | k :: ks, f, z => sgCF b ks (sgC f z (b k)) (sgI z (b k))
def byU (v : Int64) (k : Int32) : Int32 := (v.toUInt64 >>> (k.toInt64.toUInt64 &&& Int64.toUInt64 63)).toInt64.toInt32 &&& 255
def sgFI (b : Int32 → Int32) : List Int32 → Int32 → Int32
  | [], z => z
  | k :: ks, z => sgFI b ks (sgI z (b k))
abbrev ks8 : List Int32 := [56, 48, 40, 32, 24, 16, 8, 0]
def fdF (a b c : Int64) (f : Nat → Int32) (z : Int32) : Nat → Int32 := sgCF (byU c) ks8 (sgCF (byU b) ks8 (sgCF (byU a) ks8 f z) (sgFI (byU a) ks8 z)) (sgFI (byU b) ks8 (sgFI (byU a) ks8 z))
def goC (gc : Int32) (a b c d e : Nat → Int32) (x w : Int32) : Int32 := if bnd 40 x gc = 0 then -1 else if w = 0 then a x.toNatClampNeg else if w = 1 then b x.toNatClampNeg else if w = 2 then c x.toNatClampNeg else if w = 3 then d x.toNatClampNeg else if w = 4 then e x.toNatClampNeg else -1
def cM (f : Nat → Int32) : Nat → Nat
  | 0 => 0
  | k + 1 => cM f k + (if f k = -1 then 0 else 1)
theorem cM_s (f : Nat → Int32) (k : Nat) : cM f (k + 1) = cM f k + (if f k = -1 then 0 else 1) := rfl
def cnC (w : Int32) (n : Nat) (gc nc tl : Int32) (f : Nat → Int32) : Int32 := if w = 0 then nI n else if w = 1 then gc else if w = 2 then nc else if w = 3 then tl else if w = 4 then nI (cM f n) else -1
def rName (w : Int32) : Int32 := if isW w = 0 then 0 else 1
theorem up_f {i n : Int32} {k : Nat} (h : ¬ n ≤ i) (f : n.toInt - i.toInt < ((k + 1 : Nat) : Int) ∧ 0 < k + 1) : n.toInt - (i + 1).toInt < ((k : Nat) : Int) ∧ 0 < k := by
  have h1 : i.toInt < n.toInt := by
    have := Int32.not_le.mp h
    rw [Int32.lt_iff_toInt_lt] at this
    exact this
  have h2 : n.toInt < 2 ^ 31 := Int32.toInt_lt n
  have h4 : -2 ^ 31 ≤ i.toInt := Int32.le_toInt i
  have h3 : (i + 1).toInt = i.toInt + 1 := by
    rw [Int32.toInt_add]
    show (i.toInt + 1).bmod (2 ^ 32) = i.toInt + 1
    rw [Int.bmod_eq_of_le] <;> omega
  omega
theorem dn_f {i n : Int32} {k : Nat} (h : ¬ i ≤ n) (f : i.toInt - n.toInt < ((k + 1 : Nat) : Int) ∧ 0 < k + 1) : (i + (-1)).toInt - n.toInt < ((k : Nat) : Int) ∧ 0 < k := by
  have h1 : n.toInt < i.toInt := by
    have := Int32.not_le.mp h
    rw [Int32.lt_iff_toInt_lt] at this
    exact this
  have h2 : i.toInt < 2 ^ 31 := Int32.toInt_lt i
  have h4 : -2 ^ 31 ≤ n.toInt := Int32.le_toInt n
  have h3 : (i + (-1)).toInt = i.toInt - 1 := by
    rw [Int32.toInt_add]
    show (i.toInt + (-1)).bmod (2 ^ 32) = i.toInt - 1
    rw [Int.bmod_eq_of_le] <;> omega
  omega
theorem nk_lt {k N : Nat} {x : Int32} (hx : x = nI N) (h : ¬ x ≤ nI k) (hk : k < 2 ^ 31) : k < N := by
  rcases Nat.lt_or_ge k N with q | q
  · exact q
  · exact absurd (by rw [hx]; exact nI_le q hk) h
/-- a cell of the chart -/
def cl (a b : Int32) : Int32 := if a < 0 then 0 else if 60 < a then 0 else if b < 0 then 0 else if 20 ≤ b then 0 else a * 20 + b
theorem cl_in (a b : Int32) : vp_in (cl a b) 1220 := by
  unfold cl
  split
  · unfold vp_in; decide
  · split
    · unfold vp_in; decide
    · split
      · unfold vp_in; decide
      · split
        · unfold vp_in; decide
        · rename_i h1 h2 h3 h4
          have e1 : (0 : Int) ≤ a.toInt := by
            have := Int32.not_lt.mp h1
            rw [Int32.le_iff_toInt_le] at this
            exact this
          have e2 : a.toInt ≤ 60 := by
            have := Int32.not_lt.mp h2
            rw [Int32.le_iff_toInt_le] at this
            exact this
          have e3 : (0 : Int) ≤ b.toInt := by
            have := Int32.not_lt.mp h3
            rw [Int32.le_iff_toInt_le] at this
            exact this
          have e4 : b.toInt < 20 := by
            have := Int32.not_le.mp h4
            rw [Int32.lt_iff_toInt_lt] at this
            exact this
          have e5 : (a * 20 + b).toInt = a.toInt * 20 + b.toInt := by
            rw [Int32.toInt_add, Int32.toInt_mul]
            show ((a.toInt * 20).bmod (2 ^ 32) + b.toInt).bmod (2 ^ 32) = _
            rw [Int.bmod_eq_of_le (n := a.toInt * 20) (by omega) (by omega)]
            rw [Int.bmod_eq_of_le] <;> omega
          exact vp_in_iff.mpr ⟨by omega, by omega⟩
def canG (gc : Int32) (fF fK fM : Nat → Int32) (x st set mk : Int32) : Int32 := if bnd 40 x gc = 0 then 0 else if fF x.toNatClampNeg = st then (if (set >>> (fK x.toNatClampNeg &&& 31)) &&& 1 = 1 then (if mk = -1 then 1 else if fM x.toNatClampNeg = mk then 1 else 0) else 0) else 0
theorem canG_in {gc : Int32} {fF fK fM : Nat → Int32} {x st set mk : Int32} (h : ¬ canG gc fF fK fM x st set mk = 0) : vp_in x 40 := bnd_in (M := 40) (n := gc) rfl (fun q => h (by simp only [canG, if_pos q]))
def canE (ec : Int32) (fF fM : Nat → Int32) (x st mk : Int32) : Int32 := if bnd 10 x ec = 0 then 0 else if fF x.toNatClampNeg = st then (if mk = -1 then 1 else if fM x.toNatClampNeg = mk then 1 else 0) else 0
theorem upd_upd {f : Nat → Int32} {k : Nat} {x y : Int32} : upd (upd f k x) k y = upd f k y := by
  funext j
  unfold upd
  by_cases c : j = k
  · rw [if_pos c, if_pos c]
  · rw [if_neg c, if_neg c, if_neg c]
def nbC (gc : Int32) (fT fM : Nat → Int32) (x q : Int32) : Int32 := if bnd 40 x gc = 0 then -1 else if fM x.toNatClampNeg = 2 then (if q = 0 then fT x.toNatClampNeg * 2 + 1 else -1) else if fM x.toNatClampNeg = 3 then (if q = 1 then fT x.toNatClampNeg * 2 + 0 else -1) else fT x.toNatClampNeg * 2 + q
def ceA (ec : Int32) (fC : Nat → Int32) (x : Int32) : Int32 := if bnd 10 x ec = 0 then 0 else fC x.toNatClampNeg
def rcb (x : Int32) : Int32 := if 1000000000 ≤ x then 0 else 1
def kpR (w r : Int32) : Int32 := if w < 0 then r else if r ≤ w then r else w
def fpl (f : Nat → Int32) (w : Int32) : Nat → Nat → Nat
  | 0, a => a
  | d + 1, a => if f a = w then a else fpl f w d (a + 1)
theorem fpl_yes {f : Nat → Int32} {w : Int32} {n a : Nat} (ha : a < n) (h : f a = w) : fpl f w (n - a) a = a := by
  rw [show n - a = (n - (a + 1)) + 1 by omega]
  show (if f a = w then a else _) = a
  rw [if_pos h]
theorem fpl_no {f : Nat → Int32} {w : Int32} {n a : Nat} (ha : a < n) (h : ¬ f a = w) : fpl f w (n - a) a = fpl f w (n - (a + 1)) (a + 1) := by
  rw [show n - a = (n - (a + 1)) + 1 by omega]
  show (if f a = w then a else fpl f w (n - (a + 1)) (a + 1)) = _
  rw [if_neg h]
theorem fpl_le {f : Nat → Int32} {w : Int32} : ∀ d a : Nat, fpl f w d a ≤ a + d
  | 0, _ => Nat.le_refl _
  | d + 1, a => by
    unfold fpl
    by_cases h : f a = w
    · rw [if_pos h]; omega
    · rw [if_neg h]; have := fpl_le (f := f) (w := w) d (a + 1); omega
theorem fpl_ne {f : Nat → Int32} {w : Int32} : ∀ d a j : Nat, a ≤ j → j < fpl f w d a → ¬ f j = w
  | 0, a, j, h1, h2 => absurd h2 (by show ¬ j < a; omega)
  | d + 1, a, j, h1, h2 => by
    unfold fpl at h2
    by_cases h : f a = w
    · rw [if_pos h] at h2; omega
    · rw [if_neg h] at h2
      rcases Nat.lt_or_ge a j with q | q
      · exact fpl_ne d (a + 1) j q h2
      · rw [show j = a by omega]; exact h
theorem kpR_n {a b : Nat} (ha : a < 2 ^ 31) (hb : b < 2 ^ 31) : kpR (nI a) (nI b) = nI (min a b) := by
  unfold kpR
  rw [if_neg (nI_pos ha)]
  by_cases c : b ≤ a
  · rw [if_pos ((nI_leI hb ha).mpr c), Nat.min_eq_right c]
  · rw [if_neg (fun z => c ((nI_leI hb ha).mp z)), Nat.min_eq_left (by omega)]
theorem bnd_y {j m : Nat} (h : j < m) (hm : m ≤ 60) : ¬ bnd 60 (nI j) (nI m) = 0 := by
  unfold bnd
  rw [if_neg (nI_pos (by omega)), if_neg (nI_ge (a := j) (b := m) h (by omega)), if_neg (show ¬ (60 : Int32) ≤ nI j from nI_ge (a := j) (b := 60) (by omega) (by omega))]
  decide
theorem C_up9 {P : Nat → Prop} {n : Nat} (h : ∀ j : Nat, j < n → P j) (h2 : P n) : ∀ j : Nat, j < n + 1 → P j := fun j hj => by
  rcases Nat.lt_or_ge j n with q | q
  · exact h j q
  · rw [show j = n by omega]; exact h2
/-! HOPE: the nodes from which an end line can be reached, as the least set -/
def cl9 (E : Nat → Prop) (R : Nat → Nat → Prop) (P : Nat → Prop) : Prop := (∀ v : Nat, v < 20 → E v → P v) ∧ ∀ v w : Nat, v < 20 → w < 20 → R v w → P w → P v
def LF (E : Nat → Prop) (R : Nat → Nat → Prop) (S : Nat → Prop) : Prop := cl9 E R S ∧ ∀ P : Nat → Prop, cl9 E R P → ∀ v : Nat, v < 20 → S v → P v
def hE (n : Nat) (eF : Nat → Int32) (v : Nat) : Prop := ∃ j : Nat, j < n ∧ eF j * 2 + 0 = nI v
def hR (g : Nat) (F T M : Nat → Int32) (v w : Nat) : Prop := ∃ j : Nat, j < g ∧ ((F j * 2 + 0 = nI v ∧ nbC (nI g) T M (nI j) 0 = nI w) ∨ (F j * 2 + 1 = nI v ∧ nbC (nI g) T M (nI j) 1 = nI w))
def isH (f : Nat → Int32) (n : Int32) : Int32 := if n < 0 then 0 else if 20 ≤ n then 0 else if f n.toNatClampNeg = 0 then 0 else 1
def stH (f : Nat → Int32) (n : Int32) : Nat → Int32 := if n < 0 then f else if 20 ≤ n then f else upd f n.toNatClampNeg (vp_nar .boolean 1)
def phB (gc : Int32) (F T M f : Nat → Int32) (x q : Int32) : Nat → Int32 := if bnd 40 x gc = 0 then f else if isH f (nbC gc T M x q) = 0 then f else stH f (F x.toNatClampNeg * 2 + q)
/-- how many of the first k are not hopeful yet -/
def czq (f : Nat → Int32) : Nat → Nat
  | 0 => 0
  | k + 1 => czq f k + (if f k = 0 then 1 else 0)
theorem czq_le {f g : Nat → Int32} (h : ∀ i : Nat, g i = 0 → f i = 0) : ∀ k : Nat, czq g k ≤ czq f k
  | 0 => Nat.le_refl _
  | k + 1 => by
    have q := czq_le h k
    unfold czq
    by_cases e : g k = 0
    · rw [if_pos e, if_pos (h k e)]; omega
    · rw [if_neg e]; omega
theorem czq_lt {f g : Nat → Int32} {j : Nat} (h : ∀ i : Nat, g i = 0 → f i = 0) (h1 : f j = 0) (h2 : ¬ g j = 0) : ∀ k : Nat, j < k → czq g k < czq f k
  | 0, hj => absurd hj (Nat.not_lt_zero _)
  | k + 1, hj => by
    unfold czq
    rcases Nat.lt_or_ge j k with q | q
    · have := czq_lt h h1 h2 k q
      by_cases e : g k = 0
      · rw [if_pos e, if_pos (h k e)]; omega
      · rw [if_neg e]; omega
    · have ejk : j = k := by omega
      subst ejk
      have := czq_le h j
      rw [if_pos h1, if_neg h2]; omega
theorem czq_20 {f : Nat → Int32} : ∀ k : Nat, czq f k ≤ k
  | 0 => Nat.le_refl _
  | k + 1 => by
    have := czq_20 (f := f) k
    unfold czq
    split <;> omega
theorem czq_0 {f : Nat → Int32} : ∀ k : Nat, czq f k = 0 → ∀ v : Nat, v < k → ¬ f v = 0
  | 0, _, v, hv => absurd hv (Nat.not_lt_zero v)
  | k + 1, h, v, hv => by
    unfold czq at h
    rcases Nat.lt_or_ge v k with q | q
    · exact czq_0 k (by omega) v q
    · rw [show v = k by omega]
      intro z
      rw [if_pos z] at h
      omega
theorem nar1q : vp_nar .boolean 1 = 1 := by decide
theorem stH_mono {f : Nat → Int32} {n : Int32} : ∀ v : Nat, stH f n v = 0 → f v = 0 := by
  intro v h
  unfold stH at h
  by_cases c1 : n < 0
  · rw [if_pos c1] at h; exact h
  · rw [if_neg c1] at h
    by_cases c2 : 20 ≤ n
    · rw [if_pos c2] at h; exact h
    · rw [if_neg c2] at h
      by_cases e : v = n.toNatClampNeg
      · rw [e, pk_us, nar1q] at h; exact absurd h (by decide)
      · rw [pk_un e] at h; exact h
theorem stH_set {f : Nat → Int32} {v : Nat} (hv : v < 20) : ¬ stH f (nI v) v = 0 := by
  unfold stH
  rw [if_neg (nI_pos (by omega)), if_neg (show ¬ (20 : Int32) ≤ nI v from nI_ge (a := v) (b := 20) hv (by omega)), nI_clamp (by omega), pk_us, nar1q]
  decide
theorem stH_new {f : Nat → Int32} {n : Int32} {v : Nat} (h : ¬ stH f n v = 0) : ¬ f v = 0 ∨ n = nI v := by
  unfold stH at h
  by_cases c1 : n < 0
  · rw [if_pos c1] at h; exact Or.inl h
  · rw [if_neg c1] at h
    by_cases c2 : 20 ≤ n
    · rw [if_pos c2] at h; exact Or.inl h
    · rw [if_neg c2] at h
      by_cases e : v = n.toNatClampNeg
      · obtain ⟨k, hk, rfl⟩ := nI_of c1
        rw [nI_clamp hk] at e
        exact Or.inr (by rw [e])
      · rw [pk_un e] at h; exact Or.inl h
theorem isH_n {f : Nat → Int32} {v : Nat} (hv : v < 20) : isH f (nI v) = 0 ↔ f v = 0 := by
  unfold isH
  rw [if_neg (nI_pos (by omega)), if_neg (show ¬ (20 : Int32) ≤ nI v from nI_ge (a := v) (b := 20) hv (by omega)), nI_clamp (by omega)]
  by_cases c : f v = 0
  · rw [if_pos c]; exact ⟨fun _ => c, fun _ => rfl⟩
  · rw [if_neg c]; exact ⟨fun z => absurd z (by decide), fun z => absurd z c⟩
theorem isH_v {f : Nat → Int32} {n : Int32} (h : ¬ isH f n = 0) : ∃ w : Nat, w < 20 ∧ n = nI w ∧ ¬ f w = 0 := by
  unfold isH at h
  by_cases c1 : n < 0
  · rw [if_pos c1] at h; exact absurd rfl h
  · rw [if_neg c1] at h
    by_cases c2 : 20 ≤ n
    · rw [if_pos c2] at h; exact absurd rfl h
    · rw [if_neg c2] at h
      obtain ⟨k, hk, rfl⟩ := nI_of c1
      have h20 : k < 20 := nk_lt (N := 20) rfl c2 hk
      rw [nI_clamp hk] at h
      refine ⟨k, h20, rfl, fun z => ?_⟩
      rw [if_pos z] at h; exact absurd rfl h
/-- what holds of the class's row while it is filled -/
def hSo (E : Nat → Prop) (R : Nat → Nat → Prop) (f : Nat → Int32) : Prop := ∀ P : Nat → Prop, cl9 E R P → ∀ v : Nat, v < 20 → ¬ f v = 0 → P v
theorem hSo_0 {E : Nat → Prop} {R : Nat → Nat → Prop} {f : Nat → Int32} (h : ∀ v : Nat, v < 20 → f v = 0) : hSo E R f := fun _ _ v hv z => absurd (h v hv) z
section
variable {g n : Nat} {F T M eF f f0 : Nat → Int32}
def eSt (n : Nat) (eF f : Nat → Int32) : Prop := ∀ j v : Nat, j < n → v < 20 → eF j * 2 + 0 = nI v → ¬ f v = 0
theorem hSo_end {j : Nat} (h : hSo (hE n eF) (hR g F T M) f) (hj : j < n) : hSo (hE n eF) (hR g F T M) (stH f (eF j * 2 + 0)) := by
  intro P hP v hv hz
  rcases stH_new hz with q | q
  · exact h P hP v hv q
  · exact hP.1 v hv ⟨j, hj, q⟩
theorem eSt_end {j : Nat} (h : eSt j eF f) : eSt (j + 1) eF (stH f (eF j * 2 + 0)) := by
  intro i v hi hv e
  rcases Nat.lt_or_ge i j with q | q
  · exact fun z => h i v q hv e (stH_mono v z)
  · rw [show i = j by omega] at e
    rw [e]; exact stH_set hv
def lOK (g : Nat) (F T M f : Nat → Int32) (j : Nat) (q : Int32) : Prop := ∀ v w : Nat, v < 20 → w < 20 → F j * 2 + q = nI v → nbC (nI g) T M (nI j) q = nI w → ¬ f w = 0 → ¬ f v = 0
/-- one line passed back: nothing new, and the line is done; or a node more -/
theorem ph_step {j : Nat} {q : Int32} (hq : q = 0 ∨ q = 1) (hj : j < g) (hg : g ≤ 40) (h : hSo (hE n eF) (hR g F T M) f) : hSo (hE n eF) (hR g F T M) (phB (nI g) F T M f (nI j) q) ∧ (∀ v : Nat, phB (nI g) F T M f (nI j) q v = 0 → f v = 0) ∧ (czq (phB (nI g) F T M f (nI j) q) 20 < czq f 20 ∨ ((∀ v : Nat, v < 20 → (phB (nI g) F T M f (nI j) q v = 0 ↔ f v = 0)) ∧ lOK g F T M f j q)) := by
  have hb : ¬ bnd 40 (nI j) (nI g) = 0 := by
    unfold bnd
    rw [if_neg (nI_pos (by omega)), if_neg (nI_ge (a := j) (b := g) hj (by omega)), if_neg (show ¬ (40 : Int32) ≤ nI j from nI_ge (a := j) (b := 40) (by omega) (by omega))]
    decide
  by_cases c : isH f (nbC (nI g) T M (nI j) q) = 0
  · have e : phB (nI g) F T M f (nI j) q = f := by unfold phB; rw [if_neg hb, if_pos c]
    rw [e]
    refine ⟨h, fun v z => z, Or.inr ⟨fun v _ => Iff.rfl, fun v w hv hw e1 e2 hz => ?_⟩⟩
    rw [e2] at c
    exact absurd ((isH_n hw).mp c) hz
  · have e : phB (nI g) F T M f (nI j) q = stH f (F j * 2 + q) := by unfold phB; rw [if_neg hb, if_neg c, nI_clamp (by omega)]
    rw [e]
    obtain ⟨w, hw, ew, hfw⟩ := isH_v c
    refine ⟨fun P hP v hv hz => ?_, stH_mono, ?_⟩
    · rcases stH_new hz with y | y
      · exact h P hP v hv y
      · refine hP.2 v w hv hw ⟨j, hj, ?_⟩ (h P hP w hw hfw)
        rcases hq with rfl | rfl
        · exact Or.inl ⟨y, ew⟩
        · exact Or.inr ⟨y, ew⟩
    · by_cases c2 : ∀ v : Nat, v < 20 → (stH f (F j * 2 + q) v = 0 ↔ f v = 0)
      · refine Or.inr ⟨c2, fun v w2 hv hw2 e1 e2 hz => ?_⟩
        intro z
        have := (c2 v hv).mpr z
        rw [e1] at this
        exact stH_set hv this
      · refine Or.inl ?_
        have : ∃ v : Nat, v < 20 ∧ f v = 0 ∧ ¬ stH f (F j * 2 + q) v = 0 := by
          refine Classical.byContradiction (fun z => c2 (fun v hv => ⟨stH_mono v, fun y => Classical.byContradiction (fun x => z ⟨v, hv, y, x⟩)⟩))
        obtain ⟨v, hv, h1, h2⟩ := this
        exact czq_lt stH_mono h1 h2 20 hv
/-- a round of the lines: f0 stood at its start -/
def rnI (g : Nat) (F T M f0 f : Nat → Int32) (j : Nat) : Prop := (∀ v : Nat, f v = 0 → f0 v = 0) ∧ (czq f 20 < czq f0 20 ∨ ((∀ v : Nat, v < 20 → (f v = 0 ↔ f0 v = 0)) ∧ ∀ i : Nat, i < j → lOK g F T M f0 i 0 ∧ lOK g F T M f0 i 1))
theorem rnI_0 : rnI g F T M f f 0 := ⟨fun _ z => z, Or.inr ⟨fun _ _ => Iff.rfl, fun i hi => absurd hi (Nat.not_lt_zero i)⟩⟩
theorem lOK_cong {j : Nat} {q : Int32} (h : lOK g F T M f j q) (e : ∀ v : Nat, v < 20 → (f v = 0 ↔ f0 v = 0)) : lOK g F T M f0 j q := fun v w hv hw e1 e2 hz => fun z => h v w hv hw e1 e2 (fun y => hz ((e w hw).mp y)) ((e v hv).mpr z)
theorem rnI_s {j : Nat} (hj : j < g) (hg : g ≤ 40) (hS : hSo (hE n eF) (hR g F T M) f) (h : rnI g F T M f0 f j) : hSo (hE n eF) (hR g F T M) (phB (nI g) F T M (phB (nI g) F T M f (nI j) 0) (nI j) 1) ∧ rnI g F T M f0 (phB (nI g) F T M (phB (nI g) F T M f (nI j) 0) (nI j) 1) (j + 1) := by
  obtain ⟨a1, a2, a3⟩ := ph_step (F := F) (T := T) (M := M) (q := 0) (Or.inl rfl) hj hg hS
  obtain ⟨b1, b2, b3⟩ := ph_step (F := F) (T := T) (M := M) (q := 1) (Or.inr rfl) hj hg a1
  refine ⟨b1, fun v z => h.1 v (a2 v (b2 v z)), ?_⟩
  have l1 := czq_le a2 20
  have l2 := czq_le b2 20
  have l3 := czq_le h.1 20
  rcases h.2 with q | ⟨q1, q2⟩
  · exact Or.inl (by omega)
  · rcases a3 with y | ⟨y1, y2⟩
    · exact Or.inl (by omega)
    · rcases b3 with x | ⟨x1, x2⟩
      · exact Or.inl (by omega)
      · have e1 : ∀ v : Nat, v < 20 → (phB (nI g) F T M f (nI j) 0 v = 0 ↔ f0 v = 0) := fun v hv => (y1 v hv).trans (q1 v hv)
        refine Or.inr ⟨fun v hv => (x1 v hv).trans (e1 v hv), C_up9 q2 ⟨lOK_cong y2 q1, lOK_cong x2 e1⟩⟩
/-- all rounds -/
def rdI (g n : Nat) (F T M eF f : Nat → Int32) (r : Nat) : Prop := hSo (hE n eF) (hR g F T M) f ∧ eSt n eF f ∧ (cl9 (hE n eF) (hR g F T M) (fun v => ¬ f v = 0) ∨ czq f 20 + r ≤ 20)
theorem rdI_0 (h1 : hSo (hE n eF) (hR g F T M) f) (h2 : eSt n eF f) : rdI g n F T M eF f 0 := ⟨h1, h2, Or.inr (by have := czq_20 (f := f) 20; omega)⟩
theorem rdI_s {r : Nat} (h : rdI g n F T M eF f0 r) (hS : hSo (hE n eF) (hR g F T M) f) (hr : rnI g F T M f0 f g) : rdI g n F T M eF f (r + 1) := by
  obtain ⟨h1, h2, h3⟩ := h
  refine ⟨hS, fun j v hj hv e z => h2 j v hj hv e (hr.1 v z), ?_⟩
  rcases hr.2 with q | ⟨q1, q2⟩
  · rcases h3 with y | y
    · refine Or.inl ?_
      exfalso
      have e : ∀ v : Nat, v < 20 → (f v = 0 ↔ f0 v = 0) := fun v hv => ⟨hr.1 v, fun z => Classical.byContradiction (fun w => hS _ y v hv w z)⟩
      have : czq f0 20 ≤ czq f 20 := by
        have key : ∀ k : Nat, k ≤ 20 → czq f0 k = czq f k := by
          intro k
          induction k with
          | zero => intro _; rfl
          | succ k ih =>
            intro hk
            show czq f0 k + (if f0 k = 0 then 1 else 0) = czq f k + (if f k = 0 then 1 else 0)
            rw [ih (by omega)]
            by_cases c : f0 k = 0
            · rw [if_pos c, if_pos ((e k (by omega)).mpr c)]
            · rw [if_neg c, if_neg (fun z => c ((e k (by omega)).mp z))]
        rw [key 20 (Nat.le_refl _)]
        exact Nat.le_refl _
      omega
    · exact Or.inr (by omega)
  · refine Or.inl ⟨fun v hv hE9 => ?_, fun v w hv hw hR9 hz => ?_⟩
    · obtain ⟨j, hj, e⟩ := hE9
      exact fun z => h2 j v hj hv e (hr.1 v z)
    · obtain ⟨j, hj, hor⟩ := hR9
      have hz0 : ¬ f0 w = 0 := fun z => hz ((q1 w hw).mpr z)
      intro z
      have z0 := (q1 v hv).mp z
      rcases hor with ⟨e1, e2⟩ | ⟨e1, e2⟩
      · exact (q2 j hj).1 v w hv hw e1 e2 hz0 z0
      · exact (q2 j hj).2 v w hv hw e1 e2 hz0 z0
theorem rdI_end (h : rdI g n F T M eF f 20) : LF (hE n eF) (hR g F T M) (fun v => ¬ f v = 0) := by
  obtain ⟨h1, h2, h3⟩ := h
  refine ⟨?_, h1⟩
  rcases h3 with q | q
  · exact q
  · have h4 := czq_0 20 (by omega : czq f 20 = 0)
    exact ⟨fun v hv _ => h4 v hv, fun v w hv _ _ _ => h4 v hv⟩
end
/-- the class's row of hope belongs to its lines -/
def hpI (gc nc : Int32) (F T M eF hop : Nat → Int32) : Prop := ∃ g n : Nat, g ≤ 40 ∧ n ≤ 10 ∧ gc = nI g ∧ nc = nI n ∧ LF (hE n eF) (hR g F T M) (fun v => ¬ hop v = 0)
theorem bnd_yM {M : Int32} {k j m : Nat} (hM : M = nI k) (hk : k < 2 ^ 31) (h : j < m) (hm : m ≤ k) : ¬ bnd M (nI j) (nI m) = 0 := by
  unfold bnd
  rw [if_neg (nI_pos (by omega)), if_neg (nI_ge (a := j) (b := m) h (by omega)), hM, if_neg (show ¬ nI k ≤ nI j from nI_ge (a := j) (b := k) (by omega) (by omega))]
  decide
set_option maxHeartbeats 4000000 in
set_option maxRecDepth 100000 in
theorem k_isWord (l : Launch) (dC : Nat → ClassId) (dI : Nat → Nat → Nat) (cI cZ cC cJ : ClassId) (sz : Nat) (p0 : Int32)  : Met l yX4_isWord wsX4_isWord ({ frames := 0, cells := 0, slots := 0, locals := 0 }) (va_Pc [.int p0] (sPre dC dI cI cZ cC cJ [] sz)) (va_Qi (fun (r : Int32) (u : Unit) => r = isW p0) (fun _ => sB dC dI (va_A [] sz) []) (va_A [] sz)) 0 0 (va_A [] sz) := by
  refine Met.ofW (cc := cX4_isWord) (maxL := 1) (ret := (some .boolean)) (by decide) rfl ?_
  intro p e s m args below meth c s₁ B hml hv
  obtain ⟨rfl, hsz, hP, hsk, hD0⟩ := hv
  have hx := B.exec
  have hb := B.bytes
  have hr := B.returns
  have hts := atoms_spec (ws := wsX4_isWord) B.pre
  have hown : s.vm.findClass RX4 = some m.cls := findClass_of_methodNamed B.named
  have hlocks := B.notSynchronized
  have hK := hsk.1
  subst hsz
  have hD := hD0.self (sz := s.heap.size)
  generalize hAe : va_A [] s.heap.size = A at hD ⊢
  have hA : ∀ q : Nat, s.heap.size ≤ q → A q := fun q h => by rw [← hAe]; exact Or.inr h
  have hS : va_S A s.heap s.heap [] := va_S.rf
  have hl := lv_entry ([.int p0]) (n := 1) (Nat.le_of_ble_eq_true rfl)
  rw [lg_entry_eq]
  generalize (lg_sl ([.int p0]) ++ List.replicate (1 - (lg_sl ([.int p0])).length) Slot.unset).toArray = ls at hl ⊢
  have hl : lv_has ls 1 [(0, .int p0)] := hl
  refine lv_iload_n hx hb dX4_isWord_0 rfl (lv_at hl 0 rfl) ?_
  refine lv_iconst (v := 1) hx hb dX4_isWord_1 (by decide) ?_
  refine lv_icmp_lt (tgt := 15) hx hb dX4_isWord_2 (by decide) (fun c_2 => ?_) (fun c_2 => ?_)
  · skip
    refine lv_iconst (v := 0) hx hb dX4_isWord_15 (by decide) ?_
    have hP9 := hP.sub (ws' := []) [] rfl
    have hD9 := hD.sub (ws' := []) [] (by decide) rfl
    exact W.zret (v := 0) (ty := .boolean) hx hb hr rfl (fun t ht hW => ⟨⟨0, (), rfl, (by simp only [isW, if_pos c_2]), by rw [ht]; exact hP9, hD9⟩, hS.F ht⟩) hS.2.2 dX4_isWord_16
  · skip
    refine lv_iload_n hx hb dX4_isWord_5 rfl (lv_at hl 0 rfl) ?_
    refine lv_bipush (v := 99) hx hb dX4_isWord_6 (by decide) ?_
    refine lv_icmp_gt (tgt := 15) hx hb dX4_isWord_8 (by decide) (fun c_8 => ?_) (fun c_8 => ?_)
    · skip
      refine lv_iconst (v := 0) hx hb dX4_isWord_15 (by decide) ?_
      have hP9 := hP.sub (ws' := []) [] rfl
      have hD9 := hD.sub (ws' := []) [] (by decide) rfl
      exact W.zret (v := 0) (ty := .boolean) hx hb hr rfl (fun t ht hW => ⟨⟨0, (), rfl, (by simp only [isW, if_neg c_2, if_pos c_8]), by rw [ht]; exact hP9, hD9⟩, hS.F ht⟩) hS.2.2 dX4_isWord_16
    · skip
      refine lv_iconst (v := 1) hx hb dX4_isWord_11 (by decide) ?_
      refine lv_goto (tgt := 16) hx hb dX4_isWord_12 (by decide) ?_
      have hP9 := hP.sub (ws' := []) [] rfl
      have hD9 := hD.sub (ws' := []) [] (by decide) rfl
      exact W.zret (v := 1) (ty := .boolean) hx hb hr rfl (fun t ht hW => ⟨⟨1, (), rfl, (by simp only [isW, if_neg c_2, if_neg c_8]), by rw [ht]; exact hP9, hD9⟩, hS.F ht⟩) hS.2.2 dX4_isWord_16
set_option maxHeartbeats 4000000 in
set_option maxRecDepth 100000 in
theorem k_nodeOf (l : Launch) (dC : Nat → ClassId) (dI : Nat → Nat → Nat) (cI cZ cC cJ : ClassId) (sz : Nat) (p0 : Int32) (p1 : Int32)  : Met l yX4_nodeOf wsX4_nodeOf ({ frames := 0, cells := 0, slots := 0, locals := 0 }) (va_Pc [.int p0, .int p1] (sPre dC dI cI cZ cC cJ [] sz)) (va_Qi (fun (r : Int32) (u : Unit) => r = (p0 * 2 + p1)) (fun _ => sB dC dI (va_A [] sz) []) (va_A [] sz)) 0 0 (va_A [] sz) := by
  refine Met.ofW (cc := cX4_nodeOf) (maxL := 2) (ret := (some .int)) (by decide) rfl ?_
  intro p e s m args below meth c s₁ B hml hv
  obtain ⟨rfl, hsz, hP, hsk, hD0⟩ := hv
  have hx := B.exec
  have hb := B.bytes
  have hr := B.returns
  have hts := atoms_spec (ws := wsX4_nodeOf) B.pre
  have hown : s.vm.findClass RX4 = some m.cls := findClass_of_methodNamed B.named
  have hlocks := B.notSynchronized
  have hK := hsk.1
  subst hsz
  have hD := hD0.self (sz := s.heap.size)
  generalize hAe : va_A [] s.heap.size = A at hD ⊢
  have hA : ∀ q : Nat, s.heap.size ≤ q → A q := fun q h => by rw [← hAe]; exact Or.inr h
  have hS : va_S A s.heap s.heap [] := va_S.rf
  have hl := lv_entry ([.int p0, .int p1]) (n := 2) (Nat.le_of_ble_eq_true rfl)
  rw [lg_entry_eq]
  generalize (lg_sl ([.int p0, .int p1]) ++ List.replicate (2 - (lg_sl ([.int p0, .int p1])).length) Slot.unset).toArray = ls at hl ⊢
  have hl : lv_has ls 2 [(0, .int p0), (1, .int p1)] := hl
  refine lv_iload_n hx hb dX4_nodeOf_0 rfl (lv_at hl 0 rfl) ?_
  refine lv_iconst (v := 2) hx hb dX4_nodeOf_1 (by decide) ?_
  refine lv_imul hx hb dX4_nodeOf_2 ?_
  refine lv_iload_n hx hb dX4_nodeOf_3 rfl (lv_at hl 1 rfl) ?_
  refine lv_iadd hx hb dX4_nodeOf_4 ?_
  have hP9 := hP.sub (ws' := []) [] rfl
  have hD9 := hD.sub (ws' := []) [] (by decide) rfl
  exact W.iret (v := ((p0 * 2) + p1)) hx hb hr (fun t ht hW => ⟨⟨((p0 * 2) + p1), (), rfl, rfl, by rw [ht]; exact hP9, hD9⟩, hS.F ht⟩) hS.2.2 dX4_nodeOf_5
set_option maxHeartbeats 4000000 in
set_option maxRecDepth 100000 in
theorem k_stateOf (l : Launch) (dC : Nat → ClassId) (dI : Nat → Nat → Nat) (cI cZ cC cJ : ClassId) (sz : Nat) (p0 : Int32)  : Met l yX4_stateOf wsX4_stateOf ({ frames := 0, cells := 0, slots := 0, locals := 0 }) (va_Pc [.int p0] (sPre dC dI cI cZ cC cJ [] sz)) (va_Qi (fun (r : Int32) (u : Unit) => r = (p0 >>> (1 &&& 31))) (fun _ => sB dC dI (va_A [] sz) []) (va_A [] sz)) 0 0 (va_A [] sz) := by
  refine Met.ofW (cc := cX4_stateOf) (maxL := 1) (ret := (some .int)) (by decide) rfl ?_
  intro p e s m args below meth c s₁ B hml hv
  obtain ⟨rfl, hsz, hP, hsk, hD0⟩ := hv
  have hx := B.exec
  have hb := B.bytes
  have hr := B.returns
  have hts := atoms_spec (ws := wsX4_stateOf) B.pre
  have hown : s.vm.findClass RX4 = some m.cls := findClass_of_methodNamed B.named
  have hlocks := B.notSynchronized
  have hK := hsk.1
  subst hsz
  have hD := hD0.self (sz := s.heap.size)
  generalize hAe : va_A [] s.heap.size = A at hD ⊢
  have hA : ∀ q : Nat, s.heap.size ≤ q → A q := fun q h => by rw [← hAe]; exact Or.inr h
  have hS : va_S A s.heap s.heap [] := va_S.rf
  have hl := lv_entry ([.int p0]) (n := 1) (Nat.le_of_ble_eq_true rfl)
  rw [lg_entry_eq]
  generalize (lg_sl ([.int p0]) ++ List.replicate (1 - (lg_sl ([.int p0])).length) Slot.unset).toArray = ls at hl ⊢
  have hl : lv_has ls 1 [(0, .int p0)] := hl
  refine lv_iload_n hx hb dX4_stateOf_0 rfl (lv_at hl 0 rfl) ?_
  refine lv_iconst (v := 1) hx hb dX4_stateOf_1 (by decide) ?_
  refine lv_ishr hx hb dX4_stateOf_2 ?_
  have hP9 := hP.sub (ws' := []) [] rfl
  have hD9 := hD.sub (ws' := []) [] (by decide) rfl
  exact W.iret (v := (p0 >>> (1 &&& 31))) hx hb hr (fun t ht hW => ⟨⟨(p0 >>> (1 &&& 31)), (), rfl, rfl, by rw [ht]; exact hP9, hD9⟩, hS.F ht⟩) hS.2.2 dX4_stateOf_3
set_option maxHeartbeats 4000000 in
set_option maxRecDepth 100000 in
theorem k_quotesOf (l : Launch) (dC : Nat → ClassId) (dI : Nat → Nat → Nat) (cI cZ cC cJ : ClassId) (sz : Nat) (p0 : Int32)  : Met l yX4_quotesOf wsX4_quotesOf ({ frames := 0, cells := 0, slots := 0, locals := 0 }) (va_Pc [.int p0] (sPre dC dI cI cZ cC cJ [] sz)) (va_Qi (fun (r : Int32) (u : Unit) => r = (p0 &&& 1)) (fun _ => sB dC dI (va_A [] sz) []) (va_A [] sz)) 0 0 (va_A [] sz) := by
  refine Met.ofW (cc := cX4_quotesOf) (maxL := 1) (ret := (some .int)) (by decide) rfl ?_
  intro p e s m args below meth c s₁ B hml hv
  obtain ⟨rfl, hsz, hP, hsk, hD0⟩ := hv
  have hx := B.exec
  have hb := B.bytes
  have hr := B.returns
  have hts := atoms_spec (ws := wsX4_quotesOf) B.pre
  have hown : s.vm.findClass RX4 = some m.cls := findClass_of_methodNamed B.named
  have hlocks := B.notSynchronized
  have hK := hsk.1
  subst hsz
  have hD := hD0.self (sz := s.heap.size)
  generalize hAe : va_A [] s.heap.size = A at hD ⊢
  have hA : ∀ q : Nat, s.heap.size ≤ q → A q := fun q h => by rw [← hAe]; exact Or.inr h
  have hS : va_S A s.heap s.heap [] := va_S.rf
  have hl := lv_entry ([.int p0]) (n := 1) (Nat.le_of_ble_eq_true rfl)
  rw [lg_entry_eq]
  generalize (lg_sl ([.int p0]) ++ List.replicate (1 - (lg_sl ([.int p0])).length) Slot.unset).toArray = ls at hl ⊢
  have hl : lv_has ls 1 [(0, .int p0)] := hl
  refine lv_iload_n hx hb dX4_quotesOf_0 rfl (lv_at hl 0 rfl) ?_
  refine lv_iconst (v := 1) hx hb dX4_quotesOf_1 (by decide) ?_
  refine lv_iand hx hb dX4_quotesOf_2 ?_
  have hP9 := hP.sub (ws' := []) [] rfl
  have hD9 := hD.sub (ws' := []) [] (by decide) rfl
  exact W.iret (v := (p0 &&& 1)) hx hb hr (fun t ht hW => ⟨⟨(p0 &&& 1), (), rfl, rfl, by rw [ht]; exact hP9, hD9⟩, hS.F ht⟩) hS.2.2 dX4_quotesOf_3
set_option maxHeartbeats 4000000 in
set_option maxRecDepth 100000 in
theorem k_hasPlace (l : Launch) (dC : Nat → ClassId) (dI : Nat → Nat → Nat) (cI cZ cC cJ : ClassId) (sz : Nat) (h0 : Nat) (kO : Nat) (nO : Nat) (rO : Nat) (mO : Nat) (zs : Int32) (tO : Nat) (rdO : Nat) (lnO : Nat) (drO : Nat) (chO : Nat) (p0 : Int32)  : Met l yX4_hasPlace wsX4_hasPlace ({ frames := 0, cells := 0, slots := 0, locals := 0 }) (va_Pc [.ref h0, .int p0] (sPre dC dI cI cZ cC cJ [(h0, .inr (4, [.ref kO, .ref nO, .ref rO, .ref mO, .int zs, .ref tO, .ref rdO, .ref lnO, .ref drO, .ref chO]))] sz)) (va_Qi (fun (r : Int32) (u : Unit) => r = bnd 60 p0 zs) (fun _ => sB dC dI (va_A [(h0, .inr (4, [.ref kO, .ref nO, .ref rO, .ref mO, .int zs, .ref tO, .ref rdO, .ref lnO, .ref drO, .ref chO]))] sz) [(h0, .inr (4, [.ref kO, .ref nO, .ref rO, .ref mO, .int zs, .ref tO, .ref rdO, .ref lnO, .ref drO, .ref chO]))]) (va_A [(h0, .inr (4, [.ref kO, .ref nO, .ref rO, .ref mO, .int zs, .ref tO, .ref rdO, .ref lnO, .ref drO, .ref chO]))] sz)) 0 0 (va_A [(h0, .inr (4, [.ref kO, .ref nO, .ref rO, .ref mO, .int zs, .ref tO, .ref rdO, .ref lnO, .ref drO, .ref chO]))] sz) := by
  refine Met.ofW (cc := cX4_hasPlace) (maxL := 2) (ret := (some .boolean)) (by decide) rfl ?_
  intro p e s m args below meth c s₁ B hml hv
  obtain ⟨rfl, hsz, hP, hsk, hD0⟩ := hv
  have hx := B.exec
  have hb := B.bytes
  have hr := B.returns
  have hts := atoms_spec (ws := wsX4_hasPlace) B.pre
  have hown : s.vm.findClass RX4 = some m.cls := findClass_of_methodNamed B.named
  have hlocks := B.notSynchronized
  have hK := hsk.1
  have i4 : ∀ w ∈ wsX40, w ∈ wsX4_hasPlace := by decide +kernel
  subst hsz
  have hD := hD0.self (sz := s.heap.size)
  generalize hAe : va_A [(h0, .inr (4, [.ref kO, .ref nO, .ref rO, .ref mO, .int zs, .ref tO, .ref rdO, .ref lnO, .ref drO, .ref chO]))] s.heap.size = A at hD ⊢
  have hA : ∀ q : Nat, s.heap.size ≤ q → A q := fun q h => by rw [← hAe]; exact Or.inr h
  have hS : va_S A s.heap s.heap [] := va_S.rf
  have hl := lv_entry ([.ref h0, .int p0]) (n := 2) (Nat.le_of_ble_eq_true rfl)
  rw [lg_entry_eq]
  generalize (lg_sl ([.ref h0, .int p0]) ++ List.replicate (2 - (lg_sl ([.ref h0, .int p0])).length) Slot.unset).toArray = ls at hl ⊢
  have hl : lv_has ls 2 [(0, .ref h0), (1, .int p0)] := hl
  refine lv_iload_n hx hb dX4_hasPlace_0 rfl (lv_at hl 1 rfl) ?_
  refine lv_if_lt (tgt := 22) hx hb dX4_hasPlace_1 (by decide) (fun c_1 => ?_) (fun c_1 => ?_)
  · skip
    refine lv_iconst (v := 0) hx hb dX4_hasPlace_22 (by decide) ?_
    have hP9 := hP.sub (ws' := [(h0, .inr (4, [.ref kO, .ref nO, .ref rO, .ref mO, .int zs, .ref tO, .ref rdO, .ref lnO, .ref drO, .ref chO]))]) [0] rfl
    have hD9 := hD.sub (ws' := [(h0, .inr (4, [.ref kO, .ref nO, .ref rO, .ref mO, .int zs, .ref tO, .ref rdO, .ref lnO, .ref drO, .ref chO]))]) [0] (by decide) rfl
    exact W.zret (v := 0) (ty := .boolean) hx hb hr rfl (fun t ht hW => ⟨⟨0, (), rfl, (by simp only [bnd, if_pos c_1]), by rw [ht]; exact hP9, hD9⟩, hS.F ht⟩) hS.2.2 dX4_hasPlace_23
  · skip
    refine lv_iload_n hx hb dX4_hasPlace_4 rfl (lv_at hl 1 rfl) ?_
    refine lv_aload_n hx hb dX4_hasPlace_5 rfl (lv_at hl 0 rfl) ?_
    refine va_get (D := (dC, dI)) (ci := 4) (v := .int zs) (C := RX4) (T := TX4) (N := 10) hx hb hts i4 hown hK hP 0 rfl rfl 4 (by decide) (hts (.fieldLink RX4 74 "StopSetter" "size" "I") (by decide +kernel)) (fun _ h9 => h9) rfl dX4_hasPlace_6 ?_
    refine lv_icmp_ge (tgt := 22) hx hb dX4_hasPlace_9 (by decide) (fun c_9 => ?_) (fun c_9 => ?_)
    · skip
      refine lv_iconst (v := 0) hx hb dX4_hasPlace_22 (by decide) ?_
      have hP9 := hP.sub (ws' := [(h0, .inr (4, [.ref kO, .ref nO, .ref rO, .ref mO, .int zs, .ref tO, .ref rdO, .ref lnO, .ref drO, .ref chO]))]) [0] rfl
      have hD9 := hD.sub (ws' := [(h0, .inr (4, [.ref kO, .ref nO, .ref rO, .ref mO, .int zs, .ref tO, .ref rdO, .ref lnO, .ref drO, .ref chO]))]) [0] (by decide) rfl
      exact W.zret (v := 0) (ty := .boolean) hx hb hr rfl (fun t ht hW => ⟨⟨0, (), rfl, (by simp only [bnd, if_neg c_1, if_pos c_9]), by rw [ht]; exact hP9, hD9⟩, hS.F ht⟩) hS.2.2 dX4_hasPlace_23
    · skip
      refine lv_iload_n hx hb dX4_hasPlace_12 rfl (lv_at hl 1 rfl) ?_
      refine lv_bipush (v := 60) hx hb dX4_hasPlace_13 (by decide) ?_
      refine lv_icmp_ge (tgt := 22) hx hb dX4_hasPlace_15 (by decide) (fun c_15 => ?_) (fun c_15 => ?_)
      · skip
        refine lv_iconst (v := 0) hx hb dX4_hasPlace_22 (by decide) ?_
        have hP9 := hP.sub (ws' := [(h0, .inr (4, [.ref kO, .ref nO, .ref rO, .ref mO, .int zs, .ref tO, .ref rdO, .ref lnO, .ref drO, .ref chO]))]) [0] rfl
        have hD9 := hD.sub (ws' := [(h0, .inr (4, [.ref kO, .ref nO, .ref rO, .ref mO, .int zs, .ref tO, .ref rdO, .ref lnO, .ref drO, .ref chO]))]) [0] (by decide) rfl
        exact W.zret (v := 0) (ty := .boolean) hx hb hr rfl (fun t ht hW => ⟨⟨0, (), rfl, (by simp only [bnd, if_neg c_1, if_neg c_9, if_pos c_15]), by rw [ht]; exact hP9, hD9⟩, hS.F ht⟩) hS.2.2 dX4_hasPlace_23
      · skip
        refine lv_iconst (v := 1) hx hb dX4_hasPlace_18 (by decide) ?_
        refine lv_goto (tgt := 23) hx hb dX4_hasPlace_19 (by decide) ?_
        have hP9 := hP.sub (ws' := [(h0, .inr (4, [.ref kO, .ref nO, .ref rO, .ref mO, .int zs, .ref tO, .ref rdO, .ref lnO, .ref drO, .ref chO]))]) [0] rfl
        have hD9 := hD.sub (ws' := [(h0, .inr (4, [.ref kO, .ref nO, .ref rO, .ref mO, .int zs, .ref tO, .ref rdO, .ref lnO, .ref drO, .ref chO]))]) [0] (by decide) rfl
        exact W.zret (v := 1) (ty := .boolean) hx hb hr rfl (fun t ht hW => ⟨⟨1, (), rfl, (by simp only [bnd, if_neg c_1, if_neg c_9, if_neg c_15]), by rw [ht]; exact hP9, hD9⟩, hS.F ht⟩) hS.2.2 dX4_hasPlace_23
set_option maxHeartbeats 4000000 in
set_option maxRecDepth 100000 in
theorem k_cell (l : Launch) (dC : Nat → ClassId) (dI : Nat → Nat → Nat) (cI cZ cC cJ : ClassId) (sz : Nat) (p0 : Int32) (p1 : Int32)  : Met l yX0_cell wsX0_cell ({ frames := 0, cells := 0, slots := 0, locals := 0 }) (va_Pc [.int p0, .int p1] (sPre dC dI cI cZ cC cJ [] sz)) (va_Qi (fun (r : Int32) (u : Unit) => r = cl p0 p1) (fun _ => sB dC dI (va_A [] sz) []) (va_A [] sz)) 0 0 (va_A [] sz) := by
  refine Met.ofW (cc := cX0_cell) (maxL := 3) (ret := (some .int)) (by decide) rfl ?_
  intro p e s m args below meth c s₁ B hml hv
  obtain ⟨rfl, hsz, hP, hsk, hD0⟩ := hv
  have hx := B.exec
  have hb := B.bytes
  have hr := B.returns
  have hts := atoms_spec (ws := wsX0_cell) B.pre
  have hown : s.vm.findClass RX0 = some m.cls := findClass_of_methodNamed B.named
  have hlocks := B.notSynchronized
  have hK := hsk.1
  subst hsz
  have hD := hD0.self (sz := s.heap.size)
  generalize hAe : va_A [] s.heap.size = A at hD ⊢
  have hA : ∀ q : Nat, s.heap.size ≤ q → A q := fun q h => by rw [← hAe]; exact Or.inr h
  have hS : va_S A s.heap s.heap [] := va_S.rf
  have hl := lv_entry ([.int p0, .int p1]) (n := 3) (Nat.le_of_ble_eq_true rfl)
  rw [lg_entry_eq]
  generalize (lg_sl ([.int p0, .int p1]) ++ List.replicate (3 - (lg_sl ([.int p0, .int p1])).length) Slot.unset).toArray = ls at hl ⊢
  have hl : lv_has ls 3 [(0, .int p0), (1, .int p1)] := hl
  refine lv_iload_n hx hb dX0_cell_0 rfl (lv_at hl 0 rfl) ?_
  refine lv_if_lt (tgt := 24) hx hb dX0_cell_1 (by decide) (fun c_1 => ?_) (fun c_1 => ?_)
  · skip
    refine lv_iconst (v := 0) hx hb dX0_cell_24 (by decide) ?_
    refine lv_istore_n (lv' := [(2, .int 0), (0, .int p0), (1, .int p1)]) hx hb dX0_cell_25 rfl hl (by decide) rfl (fun ls hl => ?_)
    refine lv_iload_n hx hb dX0_cell_26 rfl (lv_at hl 0 rfl) ?_
    refine lv_if_eq (tgt := 39) hx hb dX0_cell_27 (by decide) (fun _ => ?_) (fun h9 => absurd (by decide) h9)
    refine lv_iconst (v := 0) hx hb dX0_cell_39 (by decide) ?_
    have hP9 := hP.sub (ws' := []) [] rfl
    have hD9 := hD.sub (ws' := []) [] (by decide) rfl
    exact W.iret (v := 0) hx hb hr (fun t ht hW => ⟨⟨0, (), rfl, (by simp only [cl, if_pos c_1]), by rw [ht]; exact hP9, hD9⟩, hS.F ht⟩) hS.2.2 dX0_cell_40
  · skip
    refine lv_iload_n hx hb dX0_cell_4 rfl (lv_at hl 0 rfl) ?_
    refine lv_bipush (v := 60) hx hb dX0_cell_5 (by decide) ?_
    refine lv_icmp_gt (tgt := 24) hx hb dX0_cell_7 (by decide) (fun c_7 => ?_) (fun c_7 => ?_)
    · skip
      refine lv_iconst (v := 0) hx hb dX0_cell_24 (by decide) ?_
      refine lv_istore_n (lv' := [(2, .int 0), (0, .int p0), (1, .int p1)]) hx hb dX0_cell_25 rfl hl (by decide) rfl (fun ls hl => ?_)
      refine lv_iload_n hx hb dX0_cell_26 rfl (lv_at hl 0 rfl) ?_
      refine lv_if_eq (tgt := 39) hx hb dX0_cell_27 (by decide) (fun _ => ?_) (fun h9 => absurd (by decide) h9)
      refine lv_iconst (v := 0) hx hb dX0_cell_39 (by decide) ?_
      have hP9 := hP.sub (ws' := []) [] rfl
      have hD9 := hD.sub (ws' := []) [] (by decide) rfl
      exact W.iret (v := 0) hx hb hr (fun t ht hW => ⟨⟨0, (), rfl, (by simp only [cl, if_neg c_1, if_pos c_7]), by rw [ht]; exact hP9, hD9⟩, hS.F ht⟩) hS.2.2 dX0_cell_40
    · skip
      refine lv_iload_n hx hb dX0_cell_10 rfl (lv_at hl 1 rfl) ?_
      refine lv_if_lt (tgt := 24) hx hb dX0_cell_11 (by decide) (fun c_11 => ?_) (fun c_11 => ?_)
      · skip
        refine lv_iconst (v := 0) hx hb dX0_cell_24 (by decide) ?_
        refine lv_istore_n (lv' := [(2, .int 0), (0, .int p0), (1, .int p1)]) hx hb dX0_cell_25 rfl hl (by decide) rfl (fun ls hl => ?_)
        refine lv_iload_n hx hb dX0_cell_26 rfl (lv_at hl 0 rfl) ?_
        refine lv_if_eq (tgt := 39) hx hb dX0_cell_27 (by decide) (fun _ => ?_) (fun h9 => absurd (by decide) h9)
        refine lv_iconst (v := 0) hx hb dX0_cell_39 (by decide) ?_
        have hP9 := hP.sub (ws' := []) [] rfl
        have hD9 := hD.sub (ws' := []) [] (by decide) rfl
        exact W.iret (v := 0) hx hb hr (fun t ht hW => ⟨⟨0, (), rfl, (by simp only [cl, if_neg c_1, if_neg c_7, if_pos c_11]), by rw [ht]; exact hP9, hD9⟩, hS.F ht⟩) hS.2.2 dX0_cell_40
      · skip
        refine lv_iload_n hx hb dX0_cell_14 rfl (lv_at hl 1 rfl) ?_
        refine lv_bipush (v := 20) hx hb dX0_cell_15 (by decide) ?_
        refine lv_icmp_ge (tgt := 24) hx hb dX0_cell_17 (by decide) (fun c_17 => ?_) (fun c_17 => ?_)
        · skip
          refine lv_iconst (v := 0) hx hb dX0_cell_24 (by decide) ?_
          refine lv_istore_n (lv' := [(2, .int 0), (0, .int p0), (1, .int p1)]) hx hb dX0_cell_25 rfl hl (by decide) rfl (fun ls hl => ?_)
          refine lv_iload_n hx hb dX0_cell_26 rfl (lv_at hl 0 rfl) ?_
          refine lv_if_eq (tgt := 39) hx hb dX0_cell_27 (by decide) (fun _ => ?_) (fun h9 => absurd (by decide) h9)
          refine lv_iconst (v := 0) hx hb dX0_cell_39 (by decide) ?_
          have hP9 := hP.sub (ws' := []) [] rfl
          have hD9 := hD.sub (ws' := []) [] (by decide) rfl
          exact W.iret (v := 0) hx hb hr (fun t ht hW => ⟨⟨0, (), rfl, (by simp only [cl, if_neg c_1, if_neg c_7, if_neg c_11, if_pos c_17]), by rw [ht]; exact hP9, hD9⟩, hS.F ht⟩) hS.2.2 dX0_cell_40
        · skip
          refine lv_iconst (v := 1) hx hb dX0_cell_20 (by decide) ?_
          refine lv_goto (tgt := 25) hx hb dX0_cell_21 (by decide) ?_
          refine lv_istore_n (lv' := [(2, .int 1), (0, .int p0), (1, .int p1)]) hx hb dX0_cell_25 rfl hl (by decide) rfl (fun ls hl => ?_)
          refine lv_iload_n hx hb dX0_cell_26 rfl (lv_at hl 0 rfl) ?_
          refine lv_if_eq (tgt := 39) hx hb dX0_cell_27 (by decide) (fun h9 => absurd h9 (by decide)) (fun _ => ?_)
          refine lv_iload_n hx hb dX0_cell_30 rfl (lv_at hl 1 rfl) ?_
          refine lv_bipush (v := 20) hx hb dX0_cell_31 (by decide) ?_
          refine lv_imul hx hb dX0_cell_33 ?_
          refine lv_iload_n hx hb dX0_cell_34 rfl (lv_at hl 2 rfl) ?_
          refine lv_iadd hx hb dX0_cell_35 ?_
          refine lv_goto (tgt := 40) hx hb dX0_cell_36 (by decide) ?_
          have hP9 := hP.sub (ws' := []) [] rfl
          have hD9 := hD.sub (ws' := []) [] (by decide) rfl
          exact W.iret (v := ((p0 * 20) + p1)) hx hb hr (fun t ht hW => ⟨⟨((p0 * 20) + p1), (), rfl, (by simp only [cl, if_neg c_1, if_neg c_7, if_neg c_11, if_neg c_17]), by rw [ht]; exact hP9, hD9⟩, hS.F ht⟩) hS.2.2 dX0_cell_40
set_option maxHeartbeats 4000000 in
set_option maxRecDepth 100000 in
theorem k_endInto (l : Launch) (dC : Nat → ClassId) (dI : Nat → Nat → Nat) (cI cZ cC cJ : ClassId) (sz : Nat) (h0 : Nat) (bA : Nat) (xA : Nat) (kA : Nat) (aA : Nat) (eA : Nat) (gA : Nat) (oA : Nat) (rd : Int32) (lc : Int32) (sc : Int32) (ln : Int32) (le : Int32) (fe : Nat → Int32) (p0 : Int32) (p1 : Int32)  : Met l yX0_endInto wsX0_endInto ({ frames := 1, cells := 0, slots := 0, locals := 22 }) (va_Pc [.ref h0, .int p0, .int p1] (sPre dC dI cI cZ cC cJ [(h0, .inr (0, [.ref bA, .ref xA, .ref kA, .ref aA, .ref eA, .ref gA, .ref oA, .int rd, .int lc, .int sc, .int ln, .int le])), (eA, .inl (cI, 1220, .inl fe))] sz)) (va_Qi (fun (r : Int32) (u : Unit) => True) (fun _ => sB dC dI (va_A [(h0, .inr (0, [.ref bA, .ref xA, .ref kA, .ref aA, .ref eA, .ref gA, .ref oA, .int rd, .int lc, .int sc, .int ln, .int le])), (eA, .inl (cI, 1220, .inl fe))] sz) [(h0, .inr (0, [.ref bA, .ref xA, .ref kA, .ref aA, .ref eA, .ref gA, .ref oA, .int rd, .int lc, .int sc, .int ln, .int le])), (eA, .inl (cI, 1220, .inl fe))]) (va_A [(h0, .inr (0, [.ref bA, .ref xA, .ref kA, .ref aA, .ref eA, .ref gA, .ref oA, .int rd, .int lc, .int sc, .int ln, .int le])), (eA, .inl (cI, 1220, .inl fe))] sz)) 0 0 (va_A [(h0, .inr (0, [.ref bA, .ref xA, .ref kA, .ref aA, .ref eA, .ref gA, .ref oA, .int rd, .int lc, .int sc, .int ln, .int le])), (eA, .inl (cI, 1220, .inl fe))] sz) := by
  refine Met.ofW (cc := cX0_endInto) (maxL := 3) (ret := (some .int)) (by decide) rfl ?_
  intro p e s m args below meth c s₁ B hml hv
  obtain ⟨rfl, hsz, hP, hsk, hD0⟩ := hv
  have hx := B.exec
  have hb := B.bytes
  have hr := B.returns
  have hts := atoms_spec (ws := wsX0_endInto) B.pre
  have hown : s.vm.findClass RX0 = some m.cls := findClass_of_methodNamed B.named
  have hlocks := B.notSynchronized
  have hK := hsk.1
  have i0 : ∀ w ∈ wsX00, w ∈ wsX0_endInto := by decide +kernel
  subst hsz
  have hD := hD0.self (sz := s.heap.size)
  generalize hAe : va_A [(h0, .inr (0, [.ref bA, .ref xA, .ref kA, .ref aA, .ref eA, .ref gA, .ref oA, .int rd, .int lc, .int sc, .int ln, .int le])), (eA, .inl (cI, 1220, .inl fe))] s.heap.size = A at hD ⊢
  have hA : ∀ q : Nat, s.heap.size ≤ q → A q := fun q h => by rw [← hAe]; exact Or.inr h
  have hS : va_S A s.heap s.heap [] := va_S.rf
  have hl := lv_entry ([.ref h0, .int p0, .int p1]) (n := 3) (Nat.le_of_ble_eq_true rfl)
  rw [lg_entry_eq]
  generalize (lg_sl ([.ref h0, .int p0, .int p1]) ++ List.replicate (3 - (lg_sl ([.ref h0, .int p0, .int p1])).length) Slot.unset).toArray = ls at hl ⊢
  have hl : lv_has ls 3 [(0, .ref h0), (1, .int p0), (2, .int p1)] := hl
  refine lv_aload_n hx hb dX0_endInto_0 rfl (lv_at hl 0 rfl) ?_
  refine va_get (D := (dC, dI)) (ci := 0) (v := .ref eA) (C := RX0) (T := TX0) (N := 12) hx hb hts i0 hown hK hP 0 rfl rfl 4 (by decide) (hts (.fieldLink RX0 24 "StopSetter$Chart" "endUsed" "[I") (by decide +kernel)) (fun _ h9 => h9) rfl dX0_endInto_1 ?_
  refine lv_iload_n hx hb dX0_endInto_4 rfl (lv_at hl 1 rfl) ?_
  refine lv_iload_n hx hb dX0_endInto_5 rfl (lv_at hl 2 rfl) ?_
  have hPc := hP.sub (ws' := []) [] rfl
  have hDc := hD.sub (ws' := []) [] (by decide) rfl
  have hFc := va_free (wc := []) hD hS hA [] rfl
  refine va_calli (va_runS (As := [.int p0, .int p1]) (rest := [.ref eA]) ⟨hx, hb, hml, hown, hts⟩ (k_cell l dC dI cI cZ cC cJ s.heap.size  p0 p1 ) (va_cwS 2 hts gX0_endInto_X0_cell rfl rfl rfl (by decide +kernel) ⟨Nat.le_of_ble_eq_true rfl, Nat.le_of_ble_eq_true rfl⟩) ⟨sPre_blind, fun U hU hW => ⟨rfl, sPre_ok hsk hPc hDc hU hW⟩⟩ rfl rfl hl.1 rfl (lv_room (Nat.le_of_ble_eq_true rfl)) dX0_endInto_6 ⟨(show 0 + 0 ≤ 0 by omega), (show 0 + 0 ≤ 0 by omega)⟩) hS (fun q _ h => hFc q h) hFc (fun r_1 u t H1 locs ht hvm hw hB hz1 hk1 hS => ?_)
  try dsimp only at hw hB
  have hw_2 := hw
  obtain rfl : r_1 = cl p0 p1 := hw_2
  obtain ⟨hP1, hD1⟩ := hB
  rw [ht] at hP1
  obtain ⟨hP, hD⟩ := va_join (wr := [(h0, .inr (0, [.ref bA, .ref xA, .ref kA, .ref aA, .ref eA, .ref gA, .ref oA, .int rd, .int lc, .int sc, .int ln, .int le])), (eA, .inl (cI, 1220, .inl fe))]) (w1 := []) hP hD [] [0, 1] rfl rfl (by decide) (by decide) hk1 hFc hP1 hD1
  generalize H1 = H at hP hS ⊢
  have hP : va_P (dC, dI) vwCl [(h0, .inr (0, [.ref bA, .ref xA, .ref kA, .ref aA, .ref eA, .ref gA, .ref oA, .int rd, .int lc, .int sc, .int ln, .int le])), (eA, .inl (cI, 1220, .inl fe))] H := hP
  have hD : va_D A [(h0, .inr (0, [.ref bA, .ref xA, .ref kA, .ref aA, .ref eA, .ref gA, .ref oA, .int rd, .int lc, .int sc, .int ln, .int le])), (eA, .inl (cI, 1220, .inl fe))] := hD
  refine va_iald hx hb hK hP 1 0 rfl rfl (cl_in _ _) dX0_endInto_9 ?_
  refine lv_topi (fun v_3 ev_3 => ?_)
  have hP9 := hP.sub (ws' := [(h0, .inr (0, [.ref bA, .ref xA, .ref kA, .ref aA, .ref eA, .ref gA, .ref oA, .int rd, .int lc, .int sc, .int ln, .int le])), (eA, .inl (cI, 1220, .inl fe))]) [0, 1] rfl
  have hD9 := hD.sub (ws' := [(h0, .inr (0, [.ref bA, .ref xA, .ref kA, .ref aA, .ref eA, .ref gA, .ref oA, .int rd, .int lc, .int sc, .int ln, .int le])), (eA, .inl (cI, 1220, .inl fe))]) [0, 1] (by decide) rfl
  exact W.iret (v := v_3) hx hb hr (fun t ht hW => ⟨⟨v_3, (), rfl, trivial, by rw [ht]; exact hP9, hD9⟩, hS.F ht⟩) hS.2.2 dX0_endInto_10
set_option maxHeartbeats 4000000 in
set_option maxRecDepth 100000 in
theorem k_goInto (l : Launch) (dC : Nat → ClassId) (dI : Nat → Nat → Nat) (cI cZ cC cJ : ClassId) (sz : Nat) (h0 : Nat) (bA : Nat) (xA : Nat) (kA : Nat) (aA : Nat) (eA : Nat) (gA : Nat) (oA : Nat) (rd : Int32) (lc : Int32) (sc : Int32) (ln : Int32) (le : Int32) (fg : Nat → Int32) (p0 : Int32) (p1 : Int32)  : Met l yX0_goInto wsX0_goInto ({ frames := 1, cells := 0, slots := 0, locals := 22 }) (va_Pc [.ref h0, .int p0, .int p1] (sPre dC dI cI cZ cC cJ [(h0, .inr (0, [.ref bA, .ref xA, .ref kA, .ref aA, .ref eA, .ref gA, .ref oA, .int rd, .int lc, .int sc, .int ln, .int le])), (gA, .inl (cI, 1220, .inl fg))] sz)) (va_Qi (fun (r : Int32) (u : Unit) => True) (fun _ => sB dC dI (va_A [(h0, .inr (0, [.ref bA, .ref xA, .ref kA, .ref aA, .ref eA, .ref gA, .ref oA, .int rd, .int lc, .int sc, .int ln, .int le])), (gA, .inl (cI, 1220, .inl fg))] sz) [(h0, .inr (0, [.ref bA, .ref xA, .ref kA, .ref aA, .ref eA, .ref gA, .ref oA, .int rd, .int lc, .int sc, .int ln, .int le])), (gA, .inl (cI, 1220, .inl fg))]) (va_A [(h0, .inr (0, [.ref bA, .ref xA, .ref kA, .ref aA, .ref eA, .ref gA, .ref oA, .int rd, .int lc, .int sc, .int ln, .int le])), (gA, .inl (cI, 1220, .inl fg))] sz)) 0 0 (va_A [(h0, .inr (0, [.ref bA, .ref xA, .ref kA, .ref aA, .ref eA, .ref gA, .ref oA, .int rd, .int lc, .int sc, .int ln, .int le])), (gA, .inl (cI, 1220, .inl fg))] sz) := by
  refine Met.ofW (cc := cX0_goInto) (maxL := 3) (ret := (some .int)) (by decide) rfl ?_
  intro p e s m args below meth c s₁ B hml hv
  obtain ⟨rfl, hsz, hP, hsk, hD0⟩ := hv
  have hx := B.exec
  have hb := B.bytes
  have hr := B.returns
  have hts := atoms_spec (ws := wsX0_goInto) B.pre
  have hown : s.vm.findClass RX0 = some m.cls := findClass_of_methodNamed B.named
  have hlocks := B.notSynchronized
  have hK := hsk.1
  have i0 : ∀ w ∈ wsX00, w ∈ wsX0_goInto := by decide +kernel
  subst hsz
  have hD := hD0.self (sz := s.heap.size)
  generalize hAe : va_A [(h0, .inr (0, [.ref bA, .ref xA, .ref kA, .ref aA, .ref eA, .ref gA, .ref oA, .int rd, .int lc, .int sc, .int ln, .int le])), (gA, .inl (cI, 1220, .inl fg))] s.heap.size = A at hD ⊢
  have hA : ∀ q : Nat, s.heap.size ≤ q → A q := fun q h => by rw [← hAe]; exact Or.inr h
  have hS : va_S A s.heap s.heap [] := va_S.rf
  have hl := lv_entry ([.ref h0, .int p0, .int p1]) (n := 3) (Nat.le_of_ble_eq_true rfl)
  rw [lg_entry_eq]
  generalize (lg_sl ([.ref h0, .int p0, .int p1]) ++ List.replicate (3 - (lg_sl ([.ref h0, .int p0, .int p1])).length) Slot.unset).toArray = ls at hl ⊢
  have hl : lv_has ls 3 [(0, .ref h0), (1, .int p0), (2, .int p1)] := hl
  refine lv_aload_n hx hb dX0_goInto_0 rfl (lv_at hl 0 rfl) ?_
  refine va_get (D := (dC, dI)) (ci := 0) (v := .ref gA) (C := RX0) (T := TX0) (N := 12) hx hb hts i0 hown hK hP 0 rfl rfl 5 (by decide) (hts (.fieldLink RX0 27 "StopSetter$Chart" "goUsed" "[I") (by decide +kernel)) (fun _ h9 => h9) rfl dX0_goInto_1 ?_
  refine lv_iload_n hx hb dX0_goInto_4 rfl (lv_at hl 1 rfl) ?_
  refine lv_iload_n hx hb dX0_goInto_5 rfl (lv_at hl 2 rfl) ?_
  have hPc := hP.sub (ws' := []) [] rfl
  have hDc := hD.sub (ws' := []) [] (by decide) rfl
  have hFc := va_free (wc := []) hD hS hA [] rfl
  refine va_calli (va_runS (As := [.int p0, .int p1]) (rest := [.ref gA]) ⟨hx, hb, hml, hown, hts⟩ (k_cell l dC dI cI cZ cC cJ s.heap.size  p0 p1 ) (va_cwS 2 hts gX0_goInto_X0_cell rfl rfl rfl (by decide +kernel) ⟨Nat.le_of_ble_eq_true rfl, Nat.le_of_ble_eq_true rfl⟩) ⟨sPre_blind, fun U hU hW => ⟨rfl, sPre_ok hsk hPc hDc hU hW⟩⟩ rfl rfl hl.1 rfl (lv_room (Nat.le_of_ble_eq_true rfl)) dX0_goInto_6 ⟨(show 0 + 0 ≤ 0 by omega), (show 0 + 0 ≤ 0 by omega)⟩) hS (fun q _ h => hFc q h) hFc (fun r_1 u t H1 locs ht hvm hw hB hz1 hk1 hS => ?_)
  try dsimp only at hw hB
  have hw_2 := hw
  obtain rfl : r_1 = cl p0 p1 := hw_2
  obtain ⟨hP1, hD1⟩ := hB
  rw [ht] at hP1
  obtain ⟨hP, hD⟩ := va_join (wr := [(h0, .inr (0, [.ref bA, .ref xA, .ref kA, .ref aA, .ref eA, .ref gA, .ref oA, .int rd, .int lc, .int sc, .int ln, .int le])), (gA, .inl (cI, 1220, .inl fg))]) (w1 := []) hP hD [] [0, 1] rfl rfl (by decide) (by decide) hk1 hFc hP1 hD1
  generalize H1 = H at hP hS ⊢
  have hP : va_P (dC, dI) vwCl [(h0, .inr (0, [.ref bA, .ref xA, .ref kA, .ref aA, .ref eA, .ref gA, .ref oA, .int rd, .int lc, .int sc, .int ln, .int le])), (gA, .inl (cI, 1220, .inl fg))] H := hP
  have hD : va_D A [(h0, .inr (0, [.ref bA, .ref xA, .ref kA, .ref aA, .ref eA, .ref gA, .ref oA, .int rd, .int lc, .int sc, .int ln, .int le])), (gA, .inl (cI, 1220, .inl fg))] := hD
  refine va_iald hx hb hK hP 1 0 rfl rfl (cl_in _ _) dX0_goInto_9 ?_
  refine lv_topi (fun v_3 ev_3 => ?_)
  have hP9 := hP.sub (ws' := [(h0, .inr (0, [.ref bA, .ref xA, .ref kA, .ref aA, .ref eA, .ref gA, .ref oA, .int rd, .int lc, .int sc, .int ln, .int le])), (gA, .inl (cI, 1220, .inl fg))]) [0, 1] rfl
  have hD9 := hD.sub (ws' := [(h0, .inr (0, [.ref bA, .ref xA, .ref kA, .ref aA, .ref eA, .ref gA, .ref oA, .int rd, .int lc, .int sc, .int ln, .int le])), (gA, .inl (cI, 1220, .inl fg))]) [0, 1] (by decide) rfl
  exact W.iret (v := v_3) hx hb hr (fun t ht hW => ⟨⟨v_3, (), rfl, trivial, by rw [ht]; exact hP9, hD9⟩, hS.F ht⟩) hS.2.2 dX0_goInto_10
set_option maxHeartbeats 4000000 in
set_option maxRecDepth 100000 in
theorem k_hasGo (l : Launch) (dC : Nat → ClassId) (dI : Nat → Nat → Nat) (cI cZ cC cJ : ClassId) (sz : Nat) (h0 : Nat) (gF : Nat) (gK : Nat) (gT : Nat) (gC : Nat) (gM : Nat) (gc : Int32) (eF : Nat) (eC : Nat) (eM : Nat) (ec : Int32) (hopA : Nat) (p0 : Int32)  : Met l yX1_hasGo wsX1_hasGo ({ frames := 0, cells := 0, slots := 0, locals := 0 }) (va_Pc [.ref h0, .int p0] (sPre dC dI cI cZ cC cJ [(h0, .inr (1, [.ref gF, .ref gK, .ref gT, .ref gC, .ref gM, .int gc, .ref eF, .ref eC, .ref eM, .int ec, .ref hopA]))] sz)) (va_Qi (fun (r : Int32) (u : Unit) => r = bnd 40 p0 gc) (fun _ => sB dC dI (va_A [(h0, .inr (1, [.ref gF, .ref gK, .ref gT, .ref gC, .ref gM, .int gc, .ref eF, .ref eC, .ref eM, .int ec, .ref hopA]))] sz) [(h0, .inr (1, [.ref gF, .ref gK, .ref gT, .ref gC, .ref gM, .int gc, .ref eF, .ref eC, .ref eM, .int ec, .ref hopA]))]) (va_A [(h0, .inr (1, [.ref gF, .ref gK, .ref gT, .ref gC, .ref gM, .int gc, .ref eF, .ref eC, .ref eM, .int ec, .ref hopA]))] sz)) 0 0 (va_A [(h0, .inr (1, [.ref gF, .ref gK, .ref gT, .ref gC, .ref gM, .int gc, .ref eF, .ref eC, .ref eM, .int ec, .ref hopA]))] sz) := by
  refine Met.ofW (cc := cX1_hasGo) (maxL := 2) (ret := (some .boolean)) (by decide) rfl ?_
  intro p e s m args below meth c s₁ B hml hv
  obtain ⟨rfl, hsz, hP, hsk, hD0⟩ := hv
  have hx := B.exec
  have hb := B.bytes
  have hr := B.returns
  have hts := atoms_spec (ws := wsX1_hasGo) B.pre
  have hown : s.vm.findClass RX1 = some m.cls := findClass_of_methodNamed B.named
  have hlocks := B.notSynchronized
  have hK := hsk.1
  have i1 : ∀ w ∈ wsX10, w ∈ wsX1_hasGo := by decide +kernel
  subst hsz
  have hD := hD0.self (sz := s.heap.size)
  generalize hAe : va_A [(h0, .inr (1, [.ref gF, .ref gK, .ref gT, .ref gC, .ref gM, .int gc, .ref eF, .ref eC, .ref eM, .int ec, .ref hopA]))] s.heap.size = A at hD ⊢
  have hA : ∀ q : Nat, s.heap.size ≤ q → A q := fun q h => by rw [← hAe]; exact Or.inr h
  have hS : va_S A s.heap s.heap [] := va_S.rf
  have hl := lv_entry ([.ref h0, .int p0]) (n := 2) (Nat.le_of_ble_eq_true rfl)
  rw [lg_entry_eq]
  generalize (lg_sl ([.ref h0, .int p0]) ++ List.replicate (2 - (lg_sl ([.ref h0, .int p0])).length) Slot.unset).toArray = ls at hl ⊢
  have hl : lv_has ls 2 [(0, .ref h0), (1, .int p0)] := hl
  refine lv_iload_n hx hb dX1_hasGo_0 rfl (lv_at hl 1 rfl) ?_
  refine lv_if_lt (tgt := 22) hx hb dX1_hasGo_1 (by decide) (fun c_1 => ?_) (fun c_1 => ?_)
  · skip
    refine lv_iconst (v := 0) hx hb dX1_hasGo_22 (by decide) ?_
    have hP9 := hP.sub (ws' := [(h0, .inr (1, [.ref gF, .ref gK, .ref gT, .ref gC, .ref gM, .int gc, .ref eF, .ref eC, .ref eM, .int ec, .ref hopA]))]) [0] rfl
    have hD9 := hD.sub (ws' := [(h0, .inr (1, [.ref gF, .ref gK, .ref gT, .ref gC, .ref gM, .int gc, .ref eF, .ref eC, .ref eM, .int ec, .ref hopA]))]) [0] (by decide) rfl
    exact W.zret (v := 0) (ty := .boolean) hx hb hr rfl (fun t ht hW => ⟨⟨0, (), rfl, (by simp only [bnd, if_pos c_1]), by rw [ht]; exact hP9, hD9⟩, hS.F ht⟩) hS.2.2 dX1_hasGo_23
  · skip
    refine lv_iload_n hx hb dX1_hasGo_4 rfl (lv_at hl 1 rfl) ?_
    refine lv_aload_n hx hb dX1_hasGo_5 rfl (lv_at hl 0 rfl) ?_
    refine va_get (D := (dC, dI)) (ci := 1) (v := .int gc) (C := RX1) (T := TX1) (N := 11) hx hb hts i1 hown hK hP 0 rfl rfl 5 (by decide) (hts (.fieldLink RX1 42 "StopSetter$Grammar" "goCount" "I") (by decide +kernel)) (fun _ h9 => h9) rfl dX1_hasGo_6 ?_
    refine lv_icmp_ge (tgt := 22) hx hb dX1_hasGo_9 (by decide) (fun c_9 => ?_) (fun c_9 => ?_)
    · skip
      refine lv_iconst (v := 0) hx hb dX1_hasGo_22 (by decide) ?_
      have hP9 := hP.sub (ws' := [(h0, .inr (1, [.ref gF, .ref gK, .ref gT, .ref gC, .ref gM, .int gc, .ref eF, .ref eC, .ref eM, .int ec, .ref hopA]))]) [0] rfl
      have hD9 := hD.sub (ws' := [(h0, .inr (1, [.ref gF, .ref gK, .ref gT, .ref gC, .ref gM, .int gc, .ref eF, .ref eC, .ref eM, .int ec, .ref hopA]))]) [0] (by decide) rfl
      exact W.zret (v := 0) (ty := .boolean) hx hb hr rfl (fun t ht hW => ⟨⟨0, (), rfl, (by simp only [bnd, if_neg c_1, if_pos c_9]), by rw [ht]; exact hP9, hD9⟩, hS.F ht⟩) hS.2.2 dX1_hasGo_23
    · skip
      refine lv_iload_n hx hb dX1_hasGo_12 rfl (lv_at hl 1 rfl) ?_
      refine lv_bipush (v := 40) hx hb dX1_hasGo_13 (by decide) ?_
      refine lv_icmp_ge (tgt := 22) hx hb dX1_hasGo_15 (by decide) (fun c_15 => ?_) (fun c_15 => ?_)
      · skip
        refine lv_iconst (v := 0) hx hb dX1_hasGo_22 (by decide) ?_
        have hP9 := hP.sub (ws' := [(h0, .inr (1, [.ref gF, .ref gK, .ref gT, .ref gC, .ref gM, .int gc, .ref eF, .ref eC, .ref eM, .int ec, .ref hopA]))]) [0] rfl
        have hD9 := hD.sub (ws' := [(h0, .inr (1, [.ref gF, .ref gK, .ref gT, .ref gC, .ref gM, .int gc, .ref eF, .ref eC, .ref eM, .int ec, .ref hopA]))]) [0] (by decide) rfl
        exact W.zret (v := 0) (ty := .boolean) hx hb hr rfl (fun t ht hW => ⟨⟨0, (), rfl, (by simp only [bnd, if_neg c_1, if_neg c_9, if_pos c_15]), by rw [ht]; exact hP9, hD9⟩, hS.F ht⟩) hS.2.2 dX1_hasGo_23
      · skip
        refine lv_iconst (v := 1) hx hb dX1_hasGo_18 (by decide) ?_
        refine lv_goto (tgt := 23) hx hb dX1_hasGo_19 (by decide) ?_
        have hP9 := hP.sub (ws' := [(h0, .inr (1, [.ref gF, .ref gK, .ref gT, .ref gC, .ref gM, .int gc, .ref eF, .ref eC, .ref eM, .int ec, .ref hopA]))]) [0] rfl
        have hD9 := hD.sub (ws' := [(h0, .inr (1, [.ref gF, .ref gK, .ref gT, .ref gC, .ref gM, .int gc, .ref eF, .ref eC, .ref eM, .int ec, .ref hopA]))]) [0] (by decide) rfl
        exact W.zret (v := 1) (ty := .boolean) hx hb hr rfl (fun t ht hW => ⟨⟨1, (), rfl, (by simp only [bnd, if_neg c_1, if_neg c_9, if_neg c_15]), by rw [ht]; exact hP9, hD9⟩, hS.F ht⟩) hS.2.2 dX1_hasGo_23
set_option maxHeartbeats 4000000 in
set_option maxRecDepth 100000 in
theorem k_hasEnd (l : Launch) (dC : Nat → ClassId) (dI : Nat → Nat → Nat) (cI cZ cC cJ : ClassId) (sz : Nat) (h0 : Nat) (gF : Nat) (gK : Nat) (gT : Nat) (gC : Nat) (gM : Nat) (gc : Int32) (eF : Nat) (eC : Nat) (eM : Nat) (ec : Int32) (hopA : Nat) (p0 : Int32)  : Met l yX1_hasEnd wsX1_hasEnd ({ frames := 0, cells := 0, slots := 0, locals := 0 }) (va_Pc [.ref h0, .int p0] (sPre dC dI cI cZ cC cJ [(h0, .inr (1, [.ref gF, .ref gK, .ref gT, .ref gC, .ref gM, .int gc, .ref eF, .ref eC, .ref eM, .int ec, .ref hopA]))] sz)) (va_Qi (fun (r : Int32) (u : Unit) => r = bnd 10 p0 ec) (fun _ => sB dC dI (va_A [(h0, .inr (1, [.ref gF, .ref gK, .ref gT, .ref gC, .ref gM, .int gc, .ref eF, .ref eC, .ref eM, .int ec, .ref hopA]))] sz) [(h0, .inr (1, [.ref gF, .ref gK, .ref gT, .ref gC, .ref gM, .int gc, .ref eF, .ref eC, .ref eM, .int ec, .ref hopA]))]) (va_A [(h0, .inr (1, [.ref gF, .ref gK, .ref gT, .ref gC, .ref gM, .int gc, .ref eF, .ref eC, .ref eM, .int ec, .ref hopA]))] sz)) 0 0 (va_A [(h0, .inr (1, [.ref gF, .ref gK, .ref gT, .ref gC, .ref gM, .int gc, .ref eF, .ref eC, .ref eM, .int ec, .ref hopA]))] sz) := by
  refine Met.ofW (cc := cX1_hasEnd) (maxL := 2) (ret := (some .boolean)) (by decide) rfl ?_
  intro p e s m args below meth c s₁ B hml hv
  obtain ⟨rfl, hsz, hP, hsk, hD0⟩ := hv
  have hx := B.exec
  have hb := B.bytes
  have hr := B.returns
  have hts := atoms_spec (ws := wsX1_hasEnd) B.pre
  have hown : s.vm.findClass RX1 = some m.cls := findClass_of_methodNamed B.named
  have hlocks := B.notSynchronized
  have hK := hsk.1
  have i1 : ∀ w ∈ wsX10, w ∈ wsX1_hasEnd := by decide +kernel
  subst hsz
  have hD := hD0.self (sz := s.heap.size)
  generalize hAe : va_A [(h0, .inr (1, [.ref gF, .ref gK, .ref gT, .ref gC, .ref gM, .int gc, .ref eF, .ref eC, .ref eM, .int ec, .ref hopA]))] s.heap.size = A at hD ⊢
  have hA : ∀ q : Nat, s.heap.size ≤ q → A q := fun q h => by rw [← hAe]; exact Or.inr h
  have hS : va_S A s.heap s.heap [] := va_S.rf
  have hl := lv_entry ([.ref h0, .int p0]) (n := 2) (Nat.le_of_ble_eq_true rfl)
  rw [lg_entry_eq]
  generalize (lg_sl ([.ref h0, .int p0]) ++ List.replicate (2 - (lg_sl ([.ref h0, .int p0])).length) Slot.unset).toArray = ls at hl ⊢
  have hl : lv_has ls 2 [(0, .ref h0), (1, .int p0)] := hl
  refine lv_iload_n hx hb dX1_hasEnd_0 rfl (lv_at hl 1 rfl) ?_
  refine lv_if_lt (tgt := 22) hx hb dX1_hasEnd_1 (by decide) (fun c_1 => ?_) (fun c_1 => ?_)
  · skip
    refine lv_iconst (v := 0) hx hb dX1_hasEnd_22 (by decide) ?_
    have hP9 := hP.sub (ws' := [(h0, .inr (1, [.ref gF, .ref gK, .ref gT, .ref gC, .ref gM, .int gc, .ref eF, .ref eC, .ref eM, .int ec, .ref hopA]))]) [0] rfl
    have hD9 := hD.sub (ws' := [(h0, .inr (1, [.ref gF, .ref gK, .ref gT, .ref gC, .ref gM, .int gc, .ref eF, .ref eC, .ref eM, .int ec, .ref hopA]))]) [0] (by decide) rfl
    exact W.zret (v := 0) (ty := .boolean) hx hb hr rfl (fun t ht hW => ⟨⟨0, (), rfl, (by simp only [bnd, if_pos c_1]), by rw [ht]; exact hP9, hD9⟩, hS.F ht⟩) hS.2.2 dX1_hasEnd_23
  · skip
    refine lv_iload_n hx hb dX1_hasEnd_4 rfl (lv_at hl 1 rfl) ?_
    refine lv_aload_n hx hb dX1_hasEnd_5 rfl (lv_at hl 0 rfl) ?_
    refine va_get (D := (dC, dI)) (ci := 1) (v := .int ec) (C := RX1) (T := TX1) (N := 11) hx hb hts i1 hown hK hP 0 rfl rfl 9 (by decide) (hts (.fieldLink RX1 46 "StopSetter$Grammar" "endCount" "I") (by decide +kernel)) (fun _ h9 => h9) rfl dX1_hasEnd_6 ?_
    refine lv_icmp_ge (tgt := 22) hx hb dX1_hasEnd_9 (by decide) (fun c_9 => ?_) (fun c_9 => ?_)
    · skip
      refine lv_iconst (v := 0) hx hb dX1_hasEnd_22 (by decide) ?_
      have hP9 := hP.sub (ws' := [(h0, .inr (1, [.ref gF, .ref gK, .ref gT, .ref gC, .ref gM, .int gc, .ref eF, .ref eC, .ref eM, .int ec, .ref hopA]))]) [0] rfl
      have hD9 := hD.sub (ws' := [(h0, .inr (1, [.ref gF, .ref gK, .ref gT, .ref gC, .ref gM, .int gc, .ref eF, .ref eC, .ref eM, .int ec, .ref hopA]))]) [0] (by decide) rfl
      exact W.zret (v := 0) (ty := .boolean) hx hb hr rfl (fun t ht hW => ⟨⟨0, (), rfl, (by simp only [bnd, if_neg c_1, if_pos c_9]), by rw [ht]; exact hP9, hD9⟩, hS.F ht⟩) hS.2.2 dX1_hasEnd_23
    · skip
      refine lv_iload_n hx hb dX1_hasEnd_12 rfl (lv_at hl 1 rfl) ?_
      refine lv_bipush (v := 10) hx hb dX1_hasEnd_13 (by decide) ?_
      refine lv_icmp_ge (tgt := 22) hx hb dX1_hasEnd_15 (by decide) (fun c_15 => ?_) (fun c_15 => ?_)
      · skip
        refine lv_iconst (v := 0) hx hb dX1_hasEnd_22 (by decide) ?_
        have hP9 := hP.sub (ws' := [(h0, .inr (1, [.ref gF, .ref gK, .ref gT, .ref gC, .ref gM, .int gc, .ref eF, .ref eC, .ref eM, .int ec, .ref hopA]))]) [0] rfl
        have hD9 := hD.sub (ws' := [(h0, .inr (1, [.ref gF, .ref gK, .ref gT, .ref gC, .ref gM, .int gc, .ref eF, .ref eC, .ref eM, .int ec, .ref hopA]))]) [0] (by decide) rfl
        exact W.zret (v := 0) (ty := .boolean) hx hb hr rfl (fun t ht hW => ⟨⟨0, (), rfl, (by simp only [bnd, if_neg c_1, if_neg c_9, if_pos c_15]), by rw [ht]; exact hP9, hD9⟩, hS.F ht⟩) hS.2.2 dX1_hasEnd_23
      · skip
        refine lv_iconst (v := 1) hx hb dX1_hasEnd_18 (by decide) ?_
        refine lv_goto (tgt := 23) hx hb dX1_hasEnd_19 (by decide) ?_
        have hP9 := hP.sub (ws' := [(h0, .inr (1, [.ref gF, .ref gK, .ref gT, .ref gC, .ref gM, .int gc, .ref eF, .ref eC, .ref eM, .int ec, .ref hopA]))]) [0] rfl
        have hD9 := hD.sub (ws' := [(h0, .inr (1, [.ref gF, .ref gK, .ref gT, .ref gC, .ref gM, .int gc, .ref eF, .ref eC, .ref eM, .int ec, .ref hopA]))]) [0] (by decide) rfl
        exact W.zret (v := 1) (ty := .boolean) hx hb hr rfl (fun t ht hW => ⟨⟨1, (), rfl, (by simp only [bnd, if_neg c_1, if_neg c_9, if_neg c_15]), by rw [ht]; exact hP9, hD9⟩, hS.F ht⟩) hS.2.2 dX1_hasEnd_23
set_option maxHeartbeats 4000000 in
set_option maxRecDepth 100000 in
theorem k_markOfGo (l : Launch) (dC : Nat → ClassId) (dI : Nat → Nat → Nat) (cI cZ cC cJ : ClassId) (sz : Nat) (h0 : Nat) (gF : Nat) (gK : Nat) (gT : Nat) (gC : Nat) (gM : Nat) (gc : Int32) (eF : Nat) (eC : Nat) (eM : Nat) (ec : Int32) (hopA : Nat) (fgM : Nat → Int32) (p0 : Int32)  : Met l yX1_markOfGo wsX1_markOfGo ({ frames := 1, cells := 0, slots := 0, locals := 21 }) (va_Pc [.ref h0, .int p0] (sPre dC dI cI cZ cC cJ [(h0, .inr (1, [.ref gF, .ref gK, .ref gT, .ref gC, .ref gM, .int gc, .ref eF, .ref eC, .ref eM, .int ec, .ref hopA])), (gM, .inl (cI, 40, .inl fgM))] sz)) (va_Qi (fun (r : Int32) (u : Unit) => True) (fun _ => sB dC dI (va_A [(h0, .inr (1, [.ref gF, .ref gK, .ref gT, .ref gC, .ref gM, .int gc, .ref eF, .ref eC, .ref eM, .int ec, .ref hopA])), (gM, .inl (cI, 40, .inl fgM))] sz) [(h0, .inr (1, [.ref gF, .ref gK, .ref gT, .ref gC, .ref gM, .int gc, .ref eF, .ref eC, .ref eM, .int ec, .ref hopA])), (gM, .inl (cI, 40, .inl fgM))]) (va_A [(h0, .inr (1, [.ref gF, .ref gK, .ref gT, .ref gC, .ref gM, .int gc, .ref eF, .ref eC, .ref eM, .int ec, .ref hopA])), (gM, .inl (cI, 40, .inl fgM))] sz)) 0 0 (va_A [(h0, .inr (1, [.ref gF, .ref gK, .ref gT, .ref gC, .ref gM, .int gc, .ref eF, .ref eC, .ref eM, .int ec, .ref hopA])), (gM, .inl (cI, 40, .inl fgM))] sz) := by
  refine Met.ofW (cc := cX1_markOfGo) (maxL := 2) (ret := (some .int)) (by decide) rfl ?_
  intro p e s m args below meth c s₁ B hml hv
  obtain ⟨rfl, hsz, hP, hsk, hD0⟩ := hv
  have hx := B.exec
  have hb := B.bytes
  have hr := B.returns
  have hts := atoms_spec (ws := wsX1_markOfGo) B.pre
  have hown : s.vm.findClass RX1 = some m.cls := findClass_of_methodNamed B.named
  have hlocks := B.notSynchronized
  have hK := hsk.1
  have i1 : ∀ w ∈ wsX10, w ∈ wsX1_markOfGo := by decide +kernel
  subst hsz
  have hD := hD0.self (sz := s.heap.size)
  generalize hAe : va_A [(h0, .inr (1, [.ref gF, .ref gK, .ref gT, .ref gC, .ref gM, .int gc, .ref eF, .ref eC, .ref eM, .int ec, .ref hopA])), (gM, .inl (cI, 40, .inl fgM))] s.heap.size = A at hD ⊢
  have hA : ∀ q : Nat, s.heap.size ≤ q → A q := fun q h => by rw [← hAe]; exact Or.inr h
  have hS : va_S A s.heap s.heap [] := va_S.rf
  have hl := lv_entry ([.ref h0, .int p0]) (n := 2) (Nat.le_of_ble_eq_true rfl)
  rw [lg_entry_eq]
  generalize (lg_sl ([.ref h0, .int p0]) ++ List.replicate (2 - (lg_sl ([.ref h0, .int p0])).length) Slot.unset).toArray = ls at hl ⊢
  have hl : lv_has ls 2 [(0, .ref h0), (1, .int p0)] := hl
  refine lv_aload_n hx hb dX1_markOfGo_0 rfl (lv_at hl 0 rfl) ?_
  refine lv_iload_n hx hb dX1_markOfGo_1 rfl (lv_at hl 1 rfl) ?_
  have hPc := hP.sub (ws' := [(h0, .inr (1, [.ref gF, .ref gK, .ref gT, .ref gC, .ref gM, .int gc, .ref eF, .ref eC, .ref eM, .int ec, .ref hopA]))]) [0] rfl
  have hDc := hD.sub (ws' := [(h0, .inr (1, [.ref gF, .ref gK, .ref gT, .ref gC, .ref gM, .int gc, .ref eF, .ref eC, .ref eM, .int ec, .ref hopA]))]) [0] (by decide) rfl
  have hFc := va_free (wc := [(h0, .inr (1, [.ref gF, .ref gK, .ref gT, .ref gC, .ref gM, .int gc, .ref eF, .ref eC, .ref eM, .int ec, .ref hopA]))]) hD hS hA [0] rfl
  refine va_calli (va_runV (As := [.int p0]) (rest := []) ⟨hx, hb, hml, hown, hts⟩ (k_hasGo l dC dI cI cZ cC cJ s.heap.size  h0 gF gK gT gC gM gc eF eC eM ec hopA p0 ) (cwV 1 hts gX1_markOfGo_X1_hasGo rfl rfl rfl (by decide +kernel) ⟨Nat.le_of_ble_eq_true rfl, Nat.le_of_ble_eq_true rfl⟩) ⟨sPre_blind, va_recv hK hPc (ci := 1) (q0 := 0) rfl rfl, fun U hU hW => ⟨rfl, sPre_ok hsk hPc hDc hU hW⟩⟩ rfl rfl hl.1 rfl (lv_room (Nat.le_of_ble_eq_true rfl)) dX1_markOfGo_2 ⟨(show 0 + 0 ≤ 0 by omega), (show 0 + 0 ≤ 0 by omega)⟩) hS (fun q _ h => hFc q h) hFc (fun r_1 u t H1 locs ht hvm hw hB hz1 hk1 hS => ?_)
  try dsimp only at hw hB
  have hw_2 := hw
  obtain rfl : r_1 = bnd 40 p0 gc := hw_2
  obtain ⟨hP1, hD1⟩ := hB
  rw [ht] at hP1
  obtain ⟨hP, hD⟩ := va_join (wr := [(gM, .inl (cI, 40, .inl fgM))]) (w1 := [(h0, .inr (1, [.ref gF, .ref gK, .ref gT, .ref gC, .ref gM, .int gc, .ref eF, .ref eC, .ref eM, .int ec, .ref hopA]))]) hP hD [0] [1] rfl rfl (by decide) (by decide) hk1 hFc hP1 hD1
  generalize H1 = H at hP hS ⊢
  have hP : va_P (dC, dI) vwCl [(gM, .inl (cI, 40, .inl fgM)), (h0, .inr (1, [.ref gF, .ref gK, .ref gT, .ref gC, .ref gM, .int gc, .ref eF, .ref eC, .ref eM, .int ec, .ref hopA]))] H := hP
  have hD : va_D A [(gM, .inl (cI, 40, .inl fgM)), (h0, .inr (1, [.ref gF, .ref gK, .ref gT, .ref gC, .ref gM, .int gc, .ref eF, .ref eC, .ref eM, .int ec, .ref hopA]))] := hD
  refine lv_if_eq (tgt := 17) hx hb dX1_markOfGo_5 (by decide) (fun c_5 => ?_) (fun c_5 => ?_)
  · skip
    refine lv_iconst (v := 0) hx hb dX1_markOfGo_17 (by decide) ?_
    have hP9 := hP.sub (ws' := [(h0, .inr (1, [.ref gF, .ref gK, .ref gT, .ref gC, .ref gM, .int gc, .ref eF, .ref eC, .ref eM, .int ec, .ref hopA])), (gM, .inl (cI, 40, .inl fgM))]) [1, 0] rfl
    have hD9 := hD.sub (ws' := [(h0, .inr (1, [.ref gF, .ref gK, .ref gT, .ref gC, .ref gM, .int gc, .ref eF, .ref eC, .ref eM, .int ec, .ref hopA])), (gM, .inl (cI, 40, .inl fgM))]) [1, 0] (by decide) rfl
    exact W.iret (v := 0) hx hb hr (fun t ht hW => ⟨⟨0, (), rfl, trivial, by rw [ht]; exact hP9, hD9⟩, hS.F ht⟩) hS.2.2 dX1_markOfGo_18
  · skip
    refine lv_aload_n hx hb dX1_markOfGo_8 rfl (lv_at hl 0 rfl) ?_
    refine va_get (D := (dC, dI)) (ci := 1) (v := .ref gM) (C := RX1) (T := TX1) (N := 11) hx hb hts i1 hown hK hP 1 rfl rfl 4 (by decide) (hts (.fieldLink RX1 24 "StopSetter$Grammar" "goMark" "[I") (by decide +kernel)) (fun _ h9 => h9) rfl dX1_markOfGo_9 ?_
    refine lv_iload_n hx hb dX1_markOfGo_12 rfl (lv_at hl 1 rfl) ?_
    refine va_iald hx hb hK hP 0 0 rfl rfl (bnd_in (M := 40) rfl c_5) dX1_markOfGo_13 ?_
    refine lv_topi (fun v_3 ev_3 => ?_)
    refine lv_goto (tgt := 18) hx hb dX1_markOfGo_14 (by decide) ?_
    have hP9 := hP.sub (ws' := [(h0, .inr (1, [.ref gF, .ref gK, .ref gT, .ref gC, .ref gM, .int gc, .ref eF, .ref eC, .ref eM, .int ec, .ref hopA])), (gM, .inl (cI, 40, .inl fgM))]) [1, 0] rfl
    have hD9 := hD.sub (ws' := [(h0, .inr (1, [.ref gF, .ref gK, .ref gT, .ref gC, .ref gM, .int gc, .ref eF, .ref eC, .ref eM, .int ec, .ref hopA])), (gM, .inl (cI, 40, .inl fgM))]) [1, 0] (by decide) rfl
    exact W.iret (v := v_3) hx hb hr (fun t ht hW => ⟨⟨v_3, (), rfl, trivial, by rw [ht]; exact hP9, hD9⟩, hS.F ht⟩) hS.2.2 dX1_markOfGo_18
set_option maxHeartbeats 4000000 in
set_option maxRecDepth 100000 in
theorem k_markOfEnd (l : Launch) (dC : Nat → ClassId) (dI : Nat → Nat → Nat) (cI cZ cC cJ : ClassId) (sz : Nat) (h0 : Nat) (gF : Nat) (gK : Nat) (gT : Nat) (gC : Nat) (gM : Nat) (gc : Int32) (eF : Nat) (eC : Nat) (eM : Nat) (ec : Int32) (hopA : Nat) (feM : Nat → Int32) (p0 : Int32)  : Met l yX1_markOfEnd wsX1_markOfEnd ({ frames := 1, cells := 0, slots := 0, locals := 21 }) (va_Pc [.ref h0, .int p0] (sPre dC dI cI cZ cC cJ [(h0, .inr (1, [.ref gF, .ref gK, .ref gT, .ref gC, .ref gM, .int gc, .ref eF, .ref eC, .ref eM, .int ec, .ref hopA])), (eM, .inl (cI, 10, .inl feM))] sz)) (va_Qi (fun (r : Int32) (u : Unit) => True) (fun _ => sB dC dI (va_A [(h0, .inr (1, [.ref gF, .ref gK, .ref gT, .ref gC, .ref gM, .int gc, .ref eF, .ref eC, .ref eM, .int ec, .ref hopA])), (eM, .inl (cI, 10, .inl feM))] sz) [(h0, .inr (1, [.ref gF, .ref gK, .ref gT, .ref gC, .ref gM, .int gc, .ref eF, .ref eC, .ref eM, .int ec, .ref hopA])), (eM, .inl (cI, 10, .inl feM))]) (va_A [(h0, .inr (1, [.ref gF, .ref gK, .ref gT, .ref gC, .ref gM, .int gc, .ref eF, .ref eC, .ref eM, .int ec, .ref hopA])), (eM, .inl (cI, 10, .inl feM))] sz)) 0 0 (va_A [(h0, .inr (1, [.ref gF, .ref gK, .ref gT, .ref gC, .ref gM, .int gc, .ref eF, .ref eC, .ref eM, .int ec, .ref hopA])), (eM, .inl (cI, 10, .inl feM))] sz) := by
  refine Met.ofW (cc := cX1_markOfEnd) (maxL := 2) (ret := (some .int)) (by decide) rfl ?_
  intro p e s m args below meth c s₁ B hml hv
  obtain ⟨rfl, hsz, hP, hsk, hD0⟩ := hv
  have hx := B.exec
  have hb := B.bytes
  have hr := B.returns
  have hts := atoms_spec (ws := wsX1_markOfEnd) B.pre
  have hown : s.vm.findClass RX1 = some m.cls := findClass_of_methodNamed B.named
  have hlocks := B.notSynchronized
  have hK := hsk.1
  have i1 : ∀ w ∈ wsX10, w ∈ wsX1_markOfEnd := by decide +kernel
  subst hsz
  have hD := hD0.self (sz := s.heap.size)
  generalize hAe : va_A [(h0, .inr (1, [.ref gF, .ref gK, .ref gT, .ref gC, .ref gM, .int gc, .ref eF, .ref eC, .ref eM, .int ec, .ref hopA])), (eM, .inl (cI, 10, .inl feM))] s.heap.size = A at hD ⊢
  have hA : ∀ q : Nat, s.heap.size ≤ q → A q := fun q h => by rw [← hAe]; exact Or.inr h
  have hS : va_S A s.heap s.heap [] := va_S.rf
  have hl := lv_entry ([.ref h0, .int p0]) (n := 2) (Nat.le_of_ble_eq_true rfl)
  rw [lg_entry_eq]
  generalize (lg_sl ([.ref h0, .int p0]) ++ List.replicate (2 - (lg_sl ([.ref h0, .int p0])).length) Slot.unset).toArray = ls at hl ⊢
  have hl : lv_has ls 2 [(0, .ref h0), (1, .int p0)] := hl
  refine lv_aload_n hx hb dX1_markOfEnd_0 rfl (lv_at hl 0 rfl) ?_
  refine lv_iload_n hx hb dX1_markOfEnd_1 rfl (lv_at hl 1 rfl) ?_
  have hPc := hP.sub (ws' := [(h0, .inr (1, [.ref gF, .ref gK, .ref gT, .ref gC, .ref gM, .int gc, .ref eF, .ref eC, .ref eM, .int ec, .ref hopA]))]) [0] rfl
  have hDc := hD.sub (ws' := [(h0, .inr (1, [.ref gF, .ref gK, .ref gT, .ref gC, .ref gM, .int gc, .ref eF, .ref eC, .ref eM, .int ec, .ref hopA]))]) [0] (by decide) rfl
  have hFc := va_free (wc := [(h0, .inr (1, [.ref gF, .ref gK, .ref gT, .ref gC, .ref gM, .int gc, .ref eF, .ref eC, .ref eM, .int ec, .ref hopA]))]) hD hS hA [0] rfl
  refine va_calli (va_runV (As := [.int p0]) (rest := []) ⟨hx, hb, hml, hown, hts⟩ (k_hasEnd l dC dI cI cZ cC cJ s.heap.size  h0 gF gK gT gC gM gc eF eC eM ec hopA p0 ) (cwV 1 hts gX1_markOfEnd_X1_hasEnd rfl rfl rfl (by decide +kernel) ⟨Nat.le_of_ble_eq_true rfl, Nat.le_of_ble_eq_true rfl⟩) ⟨sPre_blind, va_recv hK hPc (ci := 1) (q0 := 0) rfl rfl, fun U hU hW => ⟨rfl, sPre_ok hsk hPc hDc hU hW⟩⟩ rfl rfl hl.1 rfl (lv_room (Nat.le_of_ble_eq_true rfl)) dX1_markOfEnd_2 ⟨(show 0 + 0 ≤ 0 by omega), (show 0 + 0 ≤ 0 by omega)⟩) hS (fun q _ h => hFc q h) hFc (fun r_1 u t H1 locs ht hvm hw hB hz1 hk1 hS => ?_)
  try dsimp only at hw hB
  have hw_2 := hw
  obtain rfl : r_1 = bnd 10 p0 ec := hw_2
  obtain ⟨hP1, hD1⟩ := hB
  rw [ht] at hP1
  obtain ⟨hP, hD⟩ := va_join (wr := [(eM, .inl (cI, 10, .inl feM))]) (w1 := [(h0, .inr (1, [.ref gF, .ref gK, .ref gT, .ref gC, .ref gM, .int gc, .ref eF, .ref eC, .ref eM, .int ec, .ref hopA]))]) hP hD [0] [1] rfl rfl (by decide) (by decide) hk1 hFc hP1 hD1
  generalize H1 = H at hP hS ⊢
  have hP : va_P (dC, dI) vwCl [(eM, .inl (cI, 10, .inl feM)), (h0, .inr (1, [.ref gF, .ref gK, .ref gT, .ref gC, .ref gM, .int gc, .ref eF, .ref eC, .ref eM, .int ec, .ref hopA]))] H := hP
  have hD : va_D A [(eM, .inl (cI, 10, .inl feM)), (h0, .inr (1, [.ref gF, .ref gK, .ref gT, .ref gC, .ref gM, .int gc, .ref eF, .ref eC, .ref eM, .int ec, .ref hopA]))] := hD
  refine lv_if_eq (tgt := 17) hx hb dX1_markOfEnd_5 (by decide) (fun c_5 => ?_) (fun c_5 => ?_)
  · skip
    refine lv_iconst (v := 0) hx hb dX1_markOfEnd_17 (by decide) ?_
    have hP9 := hP.sub (ws' := [(h0, .inr (1, [.ref gF, .ref gK, .ref gT, .ref gC, .ref gM, .int gc, .ref eF, .ref eC, .ref eM, .int ec, .ref hopA])), (eM, .inl (cI, 10, .inl feM))]) [1, 0] rfl
    have hD9 := hD.sub (ws' := [(h0, .inr (1, [.ref gF, .ref gK, .ref gT, .ref gC, .ref gM, .int gc, .ref eF, .ref eC, .ref eM, .int ec, .ref hopA])), (eM, .inl (cI, 10, .inl feM))]) [1, 0] (by decide) rfl
    exact W.iret (v := 0) hx hb hr (fun t ht hW => ⟨⟨0, (), rfl, trivial, by rw [ht]; exact hP9, hD9⟩, hS.F ht⟩) hS.2.2 dX1_markOfEnd_18
  · skip
    refine lv_aload_n hx hb dX1_markOfEnd_8 rfl (lv_at hl 0 rfl) ?_
    refine va_get (D := (dC, dI)) (ci := 1) (v := .ref eM) (C := RX1) (T := TX1) (N := 11) hx hb hts i1 hown hK hP 1 rfl rfl 8 (by decide) (hts (.fieldLink RX1 33 "StopSetter$Grammar" "endMark" "[I") (by decide +kernel)) (fun _ h9 => h9) rfl dX1_markOfEnd_9 ?_
    refine lv_iload_n hx hb dX1_markOfEnd_12 rfl (lv_at hl 1 rfl) ?_
    refine va_iald hx hb hK hP 0 0 rfl rfl (bnd_in (M := 10) rfl c_5) dX1_markOfEnd_13 ?_
    refine lv_topi (fun v_3 ev_3 => ?_)
    refine lv_goto (tgt := 18) hx hb dX1_markOfEnd_14 (by decide) ?_
    have hP9 := hP.sub (ws' := [(h0, .inr (1, [.ref gF, .ref gK, .ref gT, .ref gC, .ref gM, .int gc, .ref eF, .ref eC, .ref eM, .int ec, .ref hopA])), (eM, .inl (cI, 10, .inl feM))]) [1, 0] rfl
    have hD9 := hD.sub (ws' := [(h0, .inr (1, [.ref gF, .ref gK, .ref gT, .ref gC, .ref gM, .int gc, .ref eF, .ref eC, .ref eM, .int ec, .ref hopA])), (eM, .inl (cI, 10, .inl feM))]) [1, 0] (by decide) rfl
    exact W.iret (v := v_3) hx hb hr (fun t ht hW => ⟨⟨v_3, (), rfl, trivial, by rw [ht]; exact hP9, hD9⟩, hS.F ht⟩) hS.2.2 dX1_markOfEnd_18
set_option maxHeartbeats 4000000 in
set_option maxRecDepth 100000 in
theorem k_canEnd (l : Launch) (dC : Nat → ClassId) (dI : Nat → Nat → Nat) (cI cZ cC cJ : ClassId) (sz : Nat) (h0 : Nat) (gF : Nat) (gK : Nat) (gT : Nat) (gC : Nat) (gM : Nat) (gc : Int32) (eF : Nat) (eC : Nat) (eM : Nat) (ec : Int32) (hopA : Nat) (feF : Nat → Int32) (feM : Nat → Int32) (p0 : Int32) (p1 : Int32) (p2 : Int32)  : Met l yX1_canEnd wsX1_canEnd ({ frames := 1, cells := 0, slots := 0, locals := 21 }) (va_Pc [.ref h0, .int p0, .int p1, .int p2] (sPre dC dI cI cZ cC cJ [(h0, .inr (1, [.ref gF, .ref gK, .ref gT, .ref gC, .ref gM, .int gc, .ref eF, .ref eC, .ref eM, .int ec, .ref hopA])), (eF, .inl (cI, 10, .inl feF)), (eM, .inl (cI, 10, .inl feM))] sz)) (va_Qi (fun (r : Int32) (u : Unit) => r = canE ec feF feM p0 p1 p2) (fun _ => sB dC dI (va_A [(h0, .inr (1, [.ref gF, .ref gK, .ref gT, .ref gC, .ref gM, .int gc, .ref eF, .ref eC, .ref eM, .int ec, .ref hopA])), (eF, .inl (cI, 10, .inl feF)), (eM, .inl (cI, 10, .inl feM))] sz) [(h0, .inr (1, [.ref gF, .ref gK, .ref gT, .ref gC, .ref gM, .int gc, .ref eF, .ref eC, .ref eM, .int ec, .ref hopA])), (eF, .inl (cI, 10, .inl feF)), (eM, .inl (cI, 10, .inl feM))]) (va_A [(h0, .inr (1, [.ref gF, .ref gK, .ref gT, .ref gC, .ref gM, .int gc, .ref eF, .ref eC, .ref eM, .int ec, .ref hopA])), (eF, .inl (cI, 10, .inl feF)), (eM, .inl (cI, 10, .inl feM))] sz)) 0 0 (va_A [(h0, .inr (1, [.ref gF, .ref gK, .ref gT, .ref gC, .ref gM, .int gc, .ref eF, .ref eC, .ref eM, .int ec, .ref hopA])), (eF, .inl (cI, 10, .inl feF)), (eM, .inl (cI, 10, .inl feM))] sz) := by
  refine Met.ofW (cc := cX1_canEnd) (maxL := 4) (ret := (some .boolean)) (by decide) rfl ?_
  intro p e s m args below meth c s₁ B hml hv
  obtain ⟨rfl, hsz, hP, hsk, hD0⟩ := hv
  have hx := B.exec
  have hb := B.bytes
  have hr := B.returns
  have hts := atoms_spec (ws := wsX1_canEnd) B.pre
  have hown : s.vm.findClass RX1 = some m.cls := findClass_of_methodNamed B.named
  have hlocks := B.notSynchronized
  have hK := hsk.1
  have i1 : ∀ w ∈ wsX10, w ∈ wsX1_canEnd := by decide +kernel
  subst hsz
  have hD := hD0.self (sz := s.heap.size)
  generalize hAe : va_A [(h0, .inr (1, [.ref gF, .ref gK, .ref gT, .ref gC, .ref gM, .int gc, .ref eF, .ref eC, .ref eM, .int ec, .ref hopA])), (eF, .inl (cI, 10, .inl feF)), (eM, .inl (cI, 10, .inl feM))] s.heap.size = A at hD ⊢
  have hA : ∀ q : Nat, s.heap.size ≤ q → A q := fun q h => by rw [← hAe]; exact Or.inr h
  have hS : va_S A s.heap s.heap [] := va_S.rf
  have hl := lv_entry ([.ref h0, .int p0, .int p1, .int p2]) (n := 4) (Nat.le_of_ble_eq_true rfl)
  rw [lg_entry_eq]
  generalize (lg_sl ([.ref h0, .int p0, .int p1, .int p2]) ++ List.replicate (4 - (lg_sl ([.ref h0, .int p0, .int p1, .int p2])).length) Slot.unset).toArray = ls at hl ⊢
  have hl : lv_has ls 4 [(0, .ref h0), (1, .int p0), (2, .int p1), (3, .int p2)] := hl
  refine lv_aload_n hx hb dX1_canEnd_0 rfl (lv_at hl 0 rfl) ?_
  refine lv_iload_n hx hb dX1_canEnd_1 rfl (lv_at hl 1 rfl) ?_
  have hPc := hP.sub (ws' := [(h0, .inr (1, [.ref gF, .ref gK, .ref gT, .ref gC, .ref gM, .int gc, .ref eF, .ref eC, .ref eM, .int ec, .ref hopA]))]) [0] rfl
  have hDc := hD.sub (ws' := [(h0, .inr (1, [.ref gF, .ref gK, .ref gT, .ref gC, .ref gM, .int gc, .ref eF, .ref eC, .ref eM, .int ec, .ref hopA]))]) [0] (by decide) rfl
  have hFc := va_free (wc := [(h0, .inr (1, [.ref gF, .ref gK, .ref gT, .ref gC, .ref gM, .int gc, .ref eF, .ref eC, .ref eM, .int ec, .ref hopA]))]) hD hS hA [0] rfl
  refine va_calli (va_runV (As := [.int p0]) (rest := []) ⟨hx, hb, hml, hown, hts⟩ (k_hasEnd l dC dI cI cZ cC cJ s.heap.size  h0 gF gK gT gC gM gc eF eC eM ec hopA p0 ) (cwV 1 hts gX1_canEnd_X1_hasEnd rfl rfl rfl (by decide +kernel) ⟨Nat.le_of_ble_eq_true rfl, Nat.le_of_ble_eq_true rfl⟩) ⟨sPre_blind, va_recv hK hPc (ci := 1) (q0 := 0) rfl rfl, fun U hU hW => ⟨rfl, sPre_ok hsk hPc hDc hU hW⟩⟩ rfl rfl hl.1 rfl (lv_room (Nat.le_of_ble_eq_true rfl)) dX1_canEnd_2 ⟨(show 0 + 0 ≤ 0 by omega), (show 0 + 0 ≤ 0 by omega)⟩) hS (fun q _ h => hFc q h) hFc (fun r_1 u t H1 locs ht hvm hw hB hz1 hk1 hS => ?_)
  try dsimp only at hw hB
  have hw_2 := hw
  obtain rfl : r_1 = bnd 10 p0 ec := hw_2
  obtain ⟨hP1, hD1⟩ := hB
  rw [ht] at hP1
  obtain ⟨hP, hD⟩ := va_join (wr := [(eF, .inl (cI, 10, .inl feF)), (eM, .inl (cI, 10, .inl feM))]) (w1 := [(h0, .inr (1, [.ref gF, .ref gK, .ref gT, .ref gC, .ref gM, .int gc, .ref eF, .ref eC, .ref eM, .int ec, .ref hopA]))]) hP hD [0] [1, 2] rfl rfl (by decide) (by decide) hk1 hFc hP1 hD1
  generalize H1 = H at hP hS ⊢
  have hP : va_P (dC, dI) vwCl [(eF, .inl (cI, 10, .inl feF)), (eM, .inl (cI, 10, .inl feM)), (h0, .inr (1, [.ref gF, .ref gK, .ref gT, .ref gC, .ref gM, .int gc, .ref eF, .ref eC, .ref eM, .int ec, .ref hopA]))] H := hP
  have hD : va_D A [(eF, .inl (cI, 10, .inl feF)), (eM, .inl (cI, 10, .inl feM)), (h0, .inr (1, [.ref gF, .ref gK, .ref gT, .ref gC, .ref gM, .int gc, .ref eF, .ref eC, .ref eM, .int ec, .ref hopA]))] := hD
  refine lv_if_eq (tgt := 37) hx hb dX1_canEnd_5 (by decide) (fun c_5 => ?_) (fun c_5 => ?_)
  · skip
    refine lv_iconst (v := 0) hx hb dX1_canEnd_37 (by decide) ?_
    have hP9 := hP.sub (ws' := [(h0, .inr (1, [.ref gF, .ref gK, .ref gT, .ref gC, .ref gM, .int gc, .ref eF, .ref eC, .ref eM, .int ec, .ref hopA])), (eF, .inl (cI, 10, .inl feF)), (eM, .inl (cI, 10, .inl feM))]) [2, 0, 1] rfl
    have hD9 := hD.sub (ws' := [(h0, .inr (1, [.ref gF, .ref gK, .ref gT, .ref gC, .ref gM, .int gc, .ref eF, .ref eC, .ref eM, .int ec, .ref hopA])), (eF, .inl (cI, 10, .inl feF)), (eM, .inl (cI, 10, .inl feM))]) [2, 0, 1] (by decide) rfl
    exact W.zret (v := 0) (ty := .boolean) hx hb hr rfl (fun t ht hW => ⟨⟨0, (), rfl, (by simp only [canE, if_pos c_5]), by rw [ht]; exact hP9, hD9⟩, hS.F ht⟩) hS.2.2 dX1_canEnd_38
  · skip
    refine lv_aload_n hx hb dX1_canEnd_8 rfl (lv_at hl 0 rfl) ?_
    refine va_get (D := (dC, dI)) (ci := 1) (v := .ref eF) (C := RX1) (T := TX1) (N := 11) hx hb hts i1 hown hK hP 2 rfl rfl 6 (by decide) (hts (.fieldLink RX1 27 "StopSetter$Grammar" "endFrom" "[I") (by decide +kernel)) (fun _ h9 => h9) rfl dX1_canEnd_9 ?_
    refine lv_iload_n hx hb dX1_canEnd_12 rfl (lv_at hl 1 rfl) ?_
    refine va_iald hx hb hK hP 0 0 rfl rfl (bnd_in (M := 10) rfl c_5) dX1_canEnd_13 ?_
    refine lv_iload_n hx hb dX1_canEnd_14 rfl (lv_at hl 2 rfl) ?_
    refine lv_icmp_ne (tgt := 37) hx hb dX1_canEnd_15 (by decide) (fun c_15 => ?_) (fun c_15 => ?_)
    · skip
      refine lv_iconst (v := 0) hx hb dX1_canEnd_37 (by decide) ?_
      have hP9 := hP.sub (ws' := [(h0, .inr (1, [.ref gF, .ref gK, .ref gT, .ref gC, .ref gM, .int gc, .ref eF, .ref eC, .ref eM, .int ec, .ref hopA])), (eF, .inl (cI, 10, .inl feF)), (eM, .inl (cI, 10, .inl feM))]) [2, 0, 1] rfl
      have hD9 := hD.sub (ws' := [(h0, .inr (1, [.ref gF, .ref gK, .ref gT, .ref gC, .ref gM, .int gc, .ref eF, .ref eC, .ref eM, .int ec, .ref hopA])), (eF, .inl (cI, 10, .inl feF)), (eM, .inl (cI, 10, .inl feM))]) [2, 0, 1] (by decide) rfl
      exact W.zret (v := 0) (ty := .boolean) hx hb hr rfl (fun t ht hW => ⟨⟨0, (), rfl, (by simp only [canE, if_neg c_5, if_neg c_15]), by rw [ht]; exact hP9, hD9⟩, hS.F ht⟩) hS.2.2 dX1_canEnd_38
    · skip
      refine lv_iload_n hx hb dX1_canEnd_18 rfl (lv_at hl 3 rfl) ?_
      refine lv_iconst (v := (-1)) hx hb dX1_canEnd_19 (by decide) ?_
      refine lv_icmp_eq (tgt := 33) hx hb dX1_canEnd_20 (by decide) (fun c_20 => ?_) (fun c_20 => ?_)
      · skip
        refine lv_iconst (v := 1) hx hb dX1_canEnd_33 (by decide) ?_
        refine lv_goto (tgt := 38) hx hb dX1_canEnd_34 (by decide) ?_
        have hP9 := hP.sub (ws' := [(h0, .inr (1, [.ref gF, .ref gK, .ref gT, .ref gC, .ref gM, .int gc, .ref eF, .ref eC, .ref eM, .int ec, .ref hopA])), (eF, .inl (cI, 10, .inl feF)), (eM, .inl (cI, 10, .inl feM))]) [2, 0, 1] rfl
        have hD9 := hD.sub (ws' := [(h0, .inr (1, [.ref gF, .ref gK, .ref gT, .ref gC, .ref gM, .int gc, .ref eF, .ref eC, .ref eM, .int ec, .ref hopA])), (eF, .inl (cI, 10, .inl feF)), (eM, .inl (cI, 10, .inl feM))]) [2, 0, 1] (by decide) rfl
        exact W.zret (v := 1) (ty := .boolean) hx hb hr rfl (fun t ht hW => ⟨⟨1, (), rfl, (by simp only [canE, if_neg c_5, if_pos c_15, if_pos c_20]), by rw [ht]; exact hP9, hD9⟩, hS.F ht⟩) hS.2.2 dX1_canEnd_38
      · skip
        refine lv_aload_n hx hb dX1_canEnd_23 rfl (lv_at hl 0 rfl) ?_
        refine va_get (D := (dC, dI)) (ci := 1) (v := .ref eM) (C := RX1) (T := TX1) (N := 11) hx hb hts i1 hown hK hP 2 rfl rfl 8 (by decide) (hts (.fieldLink RX1 33 "StopSetter$Grammar" "endMark" "[I") (by decide +kernel)) (fun _ h9 => h9) rfl dX1_canEnd_24 ?_
        refine lv_iload_n hx hb dX1_canEnd_27 rfl (lv_at hl 1 rfl) ?_
        refine va_iald hx hb hK hP 1 0 rfl rfl (bnd_in (M := 10) rfl c_5) dX1_canEnd_28 ?_
        refine lv_iload_n hx hb dX1_canEnd_29 rfl (lv_at hl 3 rfl) ?_
        refine lv_icmp_ne (tgt := 37) hx hb dX1_canEnd_30 (by decide) (fun c_30 => ?_) (fun c_30 => ?_)
        · skip
          refine lv_iconst (v := 0) hx hb dX1_canEnd_37 (by decide) ?_
          have hP9 := hP.sub (ws' := [(h0, .inr (1, [.ref gF, .ref gK, .ref gT, .ref gC, .ref gM, .int gc, .ref eF, .ref eC, .ref eM, .int ec, .ref hopA])), (eF, .inl (cI, 10, .inl feF)), (eM, .inl (cI, 10, .inl feM))]) [2, 0, 1] rfl
          have hD9 := hD.sub (ws' := [(h0, .inr (1, [.ref gF, .ref gK, .ref gT, .ref gC, .ref gM, .int gc, .ref eF, .ref eC, .ref eM, .int ec, .ref hopA])), (eF, .inl (cI, 10, .inl feF)), (eM, .inl (cI, 10, .inl feM))]) [2, 0, 1] (by decide) rfl
          exact W.zret (v := 0) (ty := .boolean) hx hb hr rfl (fun t ht hW => ⟨⟨0, (), rfl, (by simp only [canE, if_neg c_5, if_pos c_15, if_neg c_20, if_neg c_30]), by rw [ht]; exact hP9, hD9⟩, hS.F ht⟩) hS.2.2 dX1_canEnd_38
        · skip
          refine lv_iconst (v := 1) hx hb dX1_canEnd_33 (by decide) ?_
          refine lv_goto (tgt := 38) hx hb dX1_canEnd_34 (by decide) ?_
          have hP9 := hP.sub (ws' := [(h0, .inr (1, [.ref gF, .ref gK, .ref gT, .ref gC, .ref gM, .int gc, .ref eF, .ref eC, .ref eM, .int ec, .ref hopA])), (eF, .inl (cI, 10, .inl feF)), (eM, .inl (cI, 10, .inl feM))]) [2, 0, 1] rfl
          have hD9 := hD.sub (ws' := [(h0, .inr (1, [.ref gF, .ref gK, .ref gT, .ref gC, .ref gM, .int gc, .ref eF, .ref eC, .ref eM, .int ec, .ref hopA])), (eF, .inl (cI, 10, .inl feF)), (eM, .inl (cI, 10, .inl feM))]) [2, 0, 1] (by decide) rfl
          exact W.zret (v := 1) (ty := .boolean) hx hb hr rfl (fun t ht hW => ⟨⟨1, (), rfl, (by simp only [canE, if_neg c_5, if_pos c_15, if_neg c_20, if_pos c_30]), by rw [ht]; exact hP9, hD9⟩, hS.F ht⟩) hS.2.2 dX1_canEnd_38
set_option maxHeartbeats 4000000 in
set_option maxRecDepth 100000 in
theorem k_canGo (l : Launch) (dC : Nat → ClassId) (dI : Nat → Nat → Nat) (cI cZ cC cJ : ClassId) (sz : Nat) (h0 : Nat) (gF : Nat) (gK : Nat) (gT : Nat) (gC : Nat) (gM : Nat) (gc : Int32) (eF : Nat) (eC : Nat) (eM : Nat) (ec : Int32) (hopA : Nat) (fgF : Nat → Int32) (fgK : Nat → Int32) (fgM : Nat → Int32) (p0 : Int32) (p1 : Int32) (p2 : Int32) (p3 : Int32)  : Met l yX1_canGo wsX1_canGo ({ frames := 1, cells := 0, slots := 0, locals := 21 }) (va_Pc [.ref h0, .int p0, .int p1, .int p2, .int p3] (sPre dC dI cI cZ cC cJ [(h0, .inr (1, [.ref gF, .ref gK, .ref gT, .ref gC, .ref gM, .int gc, .ref eF, .ref eC, .ref eM, .int ec, .ref hopA])), (gF, .inl (cI, 40, .inl fgF)), (gK, .inl (cI, 40, .inl fgK)), (gM, .inl (cI, 40, .inl fgM))] sz)) (va_Qi (fun (r : Int32) (u : Unit) => r = canG gc fgF fgK fgM p0 p1 p2 p3) (fun _ => sB dC dI (va_A [(h0, .inr (1, [.ref gF, .ref gK, .ref gT, .ref gC, .ref gM, .int gc, .ref eF, .ref eC, .ref eM, .int ec, .ref hopA])), (gF, .inl (cI, 40, .inl fgF)), (gK, .inl (cI, 40, .inl fgK)), (gM, .inl (cI, 40, .inl fgM))] sz) [(h0, .inr (1, [.ref gF, .ref gK, .ref gT, .ref gC, .ref gM, .int gc, .ref eF, .ref eC, .ref eM, .int ec, .ref hopA])), (gF, .inl (cI, 40, .inl fgF)), (gK, .inl (cI, 40, .inl fgK)), (gM, .inl (cI, 40, .inl fgM))]) (va_A [(h0, .inr (1, [.ref gF, .ref gK, .ref gT, .ref gC, .ref gM, .int gc, .ref eF, .ref eC, .ref eM, .int ec, .ref hopA])), (gF, .inl (cI, 40, .inl fgF)), (gK, .inl (cI, 40, .inl fgK)), (gM, .inl (cI, 40, .inl fgM))] sz)) 0 0 (va_A [(h0, .inr (1, [.ref gF, .ref gK, .ref gT, .ref gC, .ref gM, .int gc, .ref eF, .ref eC, .ref eM, .int ec, .ref hopA])), (gF, .inl (cI, 40, .inl fgF)), (gK, .inl (cI, 40, .inl fgK)), (gM, .inl (cI, 40, .inl fgM))] sz) := by
  refine Met.ofW (cc := cX1_canGo) (maxL := 5) (ret := (some .boolean)) (by decide) rfl ?_
  intro p e s m args below meth c s₁ B hml hv
  obtain ⟨rfl, hsz, hP, hsk, hD0⟩ := hv
  have hx := B.exec
  have hb := B.bytes
  have hr := B.returns
  have hts := atoms_spec (ws := wsX1_canGo) B.pre
  have hown : s.vm.findClass RX1 = some m.cls := findClass_of_methodNamed B.named
  have hlocks := B.notSynchronized
  have hK := hsk.1
  have i1 : ∀ w ∈ wsX10, w ∈ wsX1_canGo := by decide +kernel
  subst hsz
  have hD := hD0.self (sz := s.heap.size)
  generalize hAe : va_A [(h0, .inr (1, [.ref gF, .ref gK, .ref gT, .ref gC, .ref gM, .int gc, .ref eF, .ref eC, .ref eM, .int ec, .ref hopA])), (gF, .inl (cI, 40, .inl fgF)), (gK, .inl (cI, 40, .inl fgK)), (gM, .inl (cI, 40, .inl fgM))] s.heap.size = A at hD ⊢
  have hA : ∀ q : Nat, s.heap.size ≤ q → A q := fun q h => by rw [← hAe]; exact Or.inr h
  have hS : va_S A s.heap s.heap [] := va_S.rf
  have hl := lv_entry ([.ref h0, .int p0, .int p1, .int p2, .int p3]) (n := 5) (Nat.le_of_ble_eq_true rfl)
  rw [lg_entry_eq]
  generalize (lg_sl ([.ref h0, .int p0, .int p1, .int p2, .int p3]) ++ List.replicate (5 - (lg_sl ([.ref h0, .int p0, .int p1, .int p2, .int p3])).length) Slot.unset).toArray = ls at hl ⊢
  have hl : lv_has ls 5 [(0, .ref h0), (1, .int p0), (2, .int p1), (3, .int p2), (4, .int p3)] := hl
  refine lv_aload_n hx hb dX1_canGo_0 rfl (lv_at hl 0 rfl) ?_
  refine lv_iload_n hx hb dX1_canGo_1 rfl (lv_at hl 1 rfl) ?_
  have hPc := hP.sub (ws' := [(h0, .inr (1, [.ref gF, .ref gK, .ref gT, .ref gC, .ref gM, .int gc, .ref eF, .ref eC, .ref eM, .int ec, .ref hopA]))]) [0] rfl
  have hDc := hD.sub (ws' := [(h0, .inr (1, [.ref gF, .ref gK, .ref gT, .ref gC, .ref gM, .int gc, .ref eF, .ref eC, .ref eM, .int ec, .ref hopA]))]) [0] (by decide) rfl
  have hFc := va_free (wc := [(h0, .inr (1, [.ref gF, .ref gK, .ref gT, .ref gC, .ref gM, .int gc, .ref eF, .ref eC, .ref eM, .int ec, .ref hopA]))]) hD hS hA [0] rfl
  refine va_calli (va_runV (As := [.int p0]) (rest := []) ⟨hx, hb, hml, hown, hts⟩ (k_hasGo l dC dI cI cZ cC cJ s.heap.size  h0 gF gK gT gC gM gc eF eC eM ec hopA p0 ) (cwV 1 hts gX1_canGo_X1_hasGo rfl rfl rfl (by decide +kernel) ⟨Nat.le_of_ble_eq_true rfl, Nat.le_of_ble_eq_true rfl⟩) ⟨sPre_blind, va_recv hK hPc (ci := 1) (q0 := 0) rfl rfl, fun U hU hW => ⟨rfl, sPre_ok hsk hPc hDc hU hW⟩⟩ rfl rfl hl.1 rfl (lv_room (Nat.le_of_ble_eq_true rfl)) dX1_canGo_2 ⟨(show 0 + 0 ≤ 0 by omega), (show 0 + 0 ≤ 0 by omega)⟩) hS (fun q _ h => hFc q h) hFc (fun r_1 u t H1 locs ht hvm hw hB hz1 hk1 hS => ?_)
  try dsimp only at hw hB
  have hw_2 := hw
  obtain rfl : r_1 = bnd 40 p0 gc := hw_2
  obtain ⟨hP1, hD1⟩ := hB
  rw [ht] at hP1
  obtain ⟨hP, hD⟩ := va_join (wr := [(gF, .inl (cI, 40, .inl fgF)), (gK, .inl (cI, 40, .inl fgK)), (gM, .inl (cI, 40, .inl fgM))]) (w1 := [(h0, .inr (1, [.ref gF, .ref gK, .ref gT, .ref gC, .ref gM, .int gc, .ref eF, .ref eC, .ref eM, .int ec, .ref hopA]))]) hP hD [0] [1, 2, 3] rfl rfl (by decide) (by decide) hk1 hFc hP1 hD1
  generalize H1 = H at hP hS ⊢
  have hP : va_P (dC, dI) vwCl [(gF, .inl (cI, 40, .inl fgF)), (gK, .inl (cI, 40, .inl fgK)), (gM, .inl (cI, 40, .inl fgM)), (h0, .inr (1, [.ref gF, .ref gK, .ref gT, .ref gC, .ref gM, .int gc, .ref eF, .ref eC, .ref eM, .int ec, .ref hopA]))] H := hP
  have hD : va_D A [(gF, .inl (cI, 40, .inl fgF)), (gK, .inl (cI, 40, .inl fgK)), (gM, .inl (cI, 40, .inl fgM)), (h0, .inr (1, [.ref gF, .ref gK, .ref gT, .ref gC, .ref gM, .int gc, .ref eF, .ref eC, .ref eM, .int ec, .ref hopA]))] := hD
  refine lv_if_eq (tgt := 53) hx hb dX1_canGo_5 (by decide) (fun c_5 => ?_) (fun c_5 => ?_)
  · skip
    refine lv_iconst (v := 0) hx hb dX1_canGo_53 (by decide) ?_
    have hP9 := hP.sub (ws' := [(h0, .inr (1, [.ref gF, .ref gK, .ref gT, .ref gC, .ref gM, .int gc, .ref eF, .ref eC, .ref eM, .int ec, .ref hopA])), (gF, .inl (cI, 40, .inl fgF)), (gK, .inl (cI, 40, .inl fgK)), (gM, .inl (cI, 40, .inl fgM))]) [3, 0, 1, 2] rfl
    have hD9 := hD.sub (ws' := [(h0, .inr (1, [.ref gF, .ref gK, .ref gT, .ref gC, .ref gM, .int gc, .ref eF, .ref eC, .ref eM, .int ec, .ref hopA])), (gF, .inl (cI, 40, .inl fgF)), (gK, .inl (cI, 40, .inl fgK)), (gM, .inl (cI, 40, .inl fgM))]) [3, 0, 1, 2] (by decide) rfl
    exact W.zret (v := 0) (ty := .boolean) hx hb hr rfl (fun t ht hW => ⟨⟨0, (), rfl, (by simp only [canG, if_pos c_5]), by rw [ht]; exact hP9, hD9⟩, hS.F ht⟩) hS.2.2 dX1_canGo_54
  · skip
    refine lv_aload_n hx hb dX1_canGo_8 rfl (lv_at hl 0 rfl) ?_
    refine va_get (D := (dC, dI)) (ci := 1) (v := .ref gF) (C := RX1) (T := TX1) (N := 11) hx hb hts i1 hown hK hP 3 rfl rfl 0 (by decide) (hts (.fieldLink RX1 11 "StopSetter$Grammar" "goFrom" "[I") (by decide +kernel)) (fun _ h9 => h9) rfl dX1_canGo_9 ?_
    refine lv_iload_n hx hb dX1_canGo_12 rfl (lv_at hl 1 rfl) ?_
    refine va_iald hx hb hK hP 0 0 rfl rfl (bnd_in (M := 40) rfl c_5) dX1_canGo_13 ?_
    refine lv_iload_n hx hb dX1_canGo_14 rfl (lv_at hl 2 rfl) ?_
    refine lv_icmp_ne (tgt := 53) hx hb dX1_canGo_15 (by decide) (fun c_15 => ?_) (fun c_15 => ?_)
    · skip
      refine lv_iconst (v := 0) hx hb dX1_canGo_53 (by decide) ?_
      have hP9 := hP.sub (ws' := [(h0, .inr (1, [.ref gF, .ref gK, .ref gT, .ref gC, .ref gM, .int gc, .ref eF, .ref eC, .ref eM, .int ec, .ref hopA])), (gF, .inl (cI, 40, .inl fgF)), (gK, .inl (cI, 40, .inl fgK)), (gM, .inl (cI, 40, .inl fgM))]) [3, 0, 1, 2] rfl
      have hD9 := hD.sub (ws' := [(h0, .inr (1, [.ref gF, .ref gK, .ref gT, .ref gC, .ref gM, .int gc, .ref eF, .ref eC, .ref eM, .int ec, .ref hopA])), (gF, .inl (cI, 40, .inl fgF)), (gK, .inl (cI, 40, .inl fgK)), (gM, .inl (cI, 40, .inl fgM))]) [3, 0, 1, 2] (by decide) rfl
      exact W.zret (v := 0) (ty := .boolean) hx hb hr rfl (fun t ht hW => ⟨⟨0, (), rfl, (by simp only [canG, if_neg c_5, if_neg c_15]), by rw [ht]; exact hP9, hD9⟩, hS.F ht⟩) hS.2.2 dX1_canGo_54
    · skip
      refine lv_iload_n hx hb dX1_canGo_18 rfl (lv_at hl 3 rfl) ?_
      refine lv_aload_n hx hb dX1_canGo_19 rfl (lv_at hl 0 rfl) ?_
      refine va_get (D := (dC, dI)) (ci := 1) (v := .ref gK) (C := RX1) (T := TX1) (N := 11) hx hb hts i1 hown hK hP 3 rfl rfl 1 (by decide) (hts (.fieldLink RX1 15 "StopSetter$Grammar" "goKind" "[I") (by decide +kernel)) (fun _ h9 => h9) rfl dX1_canGo_20 ?_
      refine lv_iload_n hx hb dX1_canGo_23 rfl (lv_at hl 1 rfl) ?_
      refine va_iald hx hb hK hP 1 0 rfl rfl (bnd_in (M := 40) rfl c_5) dX1_canGo_24 ?_
      refine lv_ishr hx hb dX1_canGo_25 ?_
      refine lv_iconst (v := 1) hx hb dX1_canGo_26 (by decide) ?_
      refine lv_iand hx hb dX1_canGo_27 ?_
      refine lv_iconst (v := 1) hx hb dX1_canGo_28 (by decide) ?_
      refine lv_icmp_ne (tgt := 53) hx hb dX1_canGo_29 (by decide) (fun c_29 => ?_) (fun c_29 => ?_)
      · skip
        refine lv_iconst (v := 0) hx hb dX1_canGo_53 (by decide) ?_
        have hP9 := hP.sub (ws' := [(h0, .inr (1, [.ref gF, .ref gK, .ref gT, .ref gC, .ref gM, .int gc, .ref eF, .ref eC, .ref eM, .int ec, .ref hopA])), (gF, .inl (cI, 40, .inl fgF)), (gK, .inl (cI, 40, .inl fgK)), (gM, .inl (cI, 40, .inl fgM))]) [3, 0, 1, 2] rfl
        have hD9 := hD.sub (ws' := [(h0, .inr (1, [.ref gF, .ref gK, .ref gT, .ref gC, .ref gM, .int gc, .ref eF, .ref eC, .ref eM, .int ec, .ref hopA])), (gF, .inl (cI, 40, .inl fgF)), (gK, .inl (cI, 40, .inl fgK)), (gM, .inl (cI, 40, .inl fgM))]) [3, 0, 1, 2] (by decide) rfl
        exact W.zret (v := 0) (ty := .boolean) hx hb hr rfl (fun t ht hW => ⟨⟨0, (), rfl, (by simp only [canG, if_neg c_5, if_pos c_15, if_neg c_29]), by rw [ht]; exact hP9, hD9⟩, hS.F ht⟩) hS.2.2 dX1_canGo_54
      · skip
        refine lv_iload hx hb dX1_canGo_32 (lv_at hl 4 rfl) ?_
        refine lv_iconst (v := (-1)) hx hb dX1_canGo_34 (by decide) ?_
        refine lv_icmp_eq (tgt := 49) hx hb dX1_canGo_35 (by decide) (fun c_35 => ?_) (fun c_35 => ?_)
        · skip
          refine lv_iconst (v := 1) hx hb dX1_canGo_49 (by decide) ?_
          refine lv_goto (tgt := 54) hx hb dX1_canGo_50 (by decide) ?_
          have hP9 := hP.sub (ws' := [(h0, .inr (1, [.ref gF, .ref gK, .ref gT, .ref gC, .ref gM, .int gc, .ref eF, .ref eC, .ref eM, .int ec, .ref hopA])), (gF, .inl (cI, 40, .inl fgF)), (gK, .inl (cI, 40, .inl fgK)), (gM, .inl (cI, 40, .inl fgM))]) [3, 0, 1, 2] rfl
          have hD9 := hD.sub (ws' := [(h0, .inr (1, [.ref gF, .ref gK, .ref gT, .ref gC, .ref gM, .int gc, .ref eF, .ref eC, .ref eM, .int ec, .ref hopA])), (gF, .inl (cI, 40, .inl fgF)), (gK, .inl (cI, 40, .inl fgK)), (gM, .inl (cI, 40, .inl fgM))]) [3, 0, 1, 2] (by decide) rfl
          exact W.zret (v := 1) (ty := .boolean) hx hb hr rfl (fun t ht hW => ⟨⟨1, (), rfl, (by simp only [canG, if_neg c_5, if_pos c_15, if_pos c_29, if_pos c_35]), by rw [ht]; exact hP9, hD9⟩, hS.F ht⟩) hS.2.2 dX1_canGo_54
        · skip
          refine lv_aload_n hx hb dX1_canGo_38 rfl (lv_at hl 0 rfl) ?_
          refine va_get (D := (dC, dI)) (ci := 1) (v := .ref gM) (C := RX1) (T := TX1) (N := 11) hx hb hts i1 hown hK hP 3 rfl rfl 4 (by decide) (hts (.fieldLink RX1 24 "StopSetter$Grammar" "goMark" "[I") (by decide +kernel)) (fun _ h9 => h9) rfl dX1_canGo_39 ?_
          refine lv_iload_n hx hb dX1_canGo_42 rfl (lv_at hl 1 rfl) ?_
          refine va_iald hx hb hK hP 2 0 rfl rfl (bnd_in (M := 40) rfl c_5) dX1_canGo_43 ?_
          refine lv_iload hx hb dX1_canGo_44 (lv_at hl 4 rfl) ?_
          refine lv_icmp_ne (tgt := 53) hx hb dX1_canGo_46 (by decide) (fun c_46 => ?_) (fun c_46 => ?_)
          · skip
            refine lv_iconst (v := 0) hx hb dX1_canGo_53 (by decide) ?_
            have hP9 := hP.sub (ws' := [(h0, .inr (1, [.ref gF, .ref gK, .ref gT, .ref gC, .ref gM, .int gc, .ref eF, .ref eC, .ref eM, .int ec, .ref hopA])), (gF, .inl (cI, 40, .inl fgF)), (gK, .inl (cI, 40, .inl fgK)), (gM, .inl (cI, 40, .inl fgM))]) [3, 0, 1, 2] rfl
            have hD9 := hD.sub (ws' := [(h0, .inr (1, [.ref gF, .ref gK, .ref gT, .ref gC, .ref gM, .int gc, .ref eF, .ref eC, .ref eM, .int ec, .ref hopA])), (gF, .inl (cI, 40, .inl fgF)), (gK, .inl (cI, 40, .inl fgK)), (gM, .inl (cI, 40, .inl fgM))]) [3, 0, 1, 2] (by decide) rfl
            exact W.zret (v := 0) (ty := .boolean) hx hb hr rfl (fun t ht hW => ⟨⟨0, (), rfl, (by simp only [canG, if_neg c_5, if_pos c_15, if_pos c_29, if_neg c_35, if_neg c_46]), by rw [ht]; exact hP9, hD9⟩, hS.F ht⟩) hS.2.2 dX1_canGo_54
          · skip
            refine lv_iconst (v := 1) hx hb dX1_canGo_49 (by decide) ?_
            refine lv_goto (tgt := 54) hx hb dX1_canGo_50 (by decide) ?_
            have hP9 := hP.sub (ws' := [(h0, .inr (1, [.ref gF, .ref gK, .ref gT, .ref gC, .ref gM, .int gc, .ref eF, .ref eC, .ref eM, .int ec, .ref hopA])), (gF, .inl (cI, 40, .inl fgF)), (gK, .inl (cI, 40, .inl fgK)), (gM, .inl (cI, 40, .inl fgM))]) [3, 0, 1, 2] rfl
            have hD9 := hD.sub (ws' := [(h0, .inr (1, [.ref gF, .ref gK, .ref gT, .ref gC, .ref gM, .int gc, .ref eF, .ref eC, .ref eM, .int ec, .ref hopA])), (gF, .inl (cI, 40, .inl fgF)), (gK, .inl (cI, 40, .inl fgK)), (gM, .inl (cI, 40, .inl fgM))]) [3, 0, 1, 2] (by decide) rfl
            exact W.zret (v := 1) (ty := .boolean) hx hb hr rfl (fun t ht hW => ⟨⟨1, (), rfl, (by simp only [canG, if_neg c_5, if_pos c_15, if_pos c_29, if_neg c_35, if_pos c_46]), by rw [ht]; exact hP9, hD9⟩, hS.F ht⟩) hS.2.2 dX1_canGo_54
set_option maxHeartbeats 4000000 in
set_option maxRecDepth 100000 in
theorem k_isReachedG (l : Launch) (dC : Nat → ClassId) (dI : Nat → Nat → Nat) (cI cZ cC cJ : ClassId) (sz : Nat) (h0 : Nat) (bA : Nat) (xA : Nat) (kA : Nat) (aA : Nat) (eA : Nat) (gA : Nat) (oA : Nat) (rd : Int32) (lc : Int32) (sc : Int32) (ln : Int32) (le : Int32) (fb : Nat → Int32) (p0 : Int32)  : Met l yX0_isReached wsX0_isReached ({ frames := 1, cells := 0, slots := 0, locals := 22 }) (va_Pc [.ref h0, .int p0] (sPre dC dI cI cZ cC cJ [(h0, .inr (0, [.ref bA, .ref xA, .ref kA, .ref aA, .ref eA, .ref gA, .ref oA, .int rd, .int lc, .int sc, .int ln, .int le])), (bA, .inl (cI, 1220, .inl fb))] sz)) (va_Qi (fun (r : Int32) (u : Unit) => True) (fun _ => sB dC dI (va_A [(h0, .inr (0, [.ref bA, .ref xA, .ref kA, .ref aA, .ref eA, .ref gA, .ref oA, .int rd, .int lc, .int sc, .int ln, .int le])), (bA, .inl (cI, 1220, .inl fb))] sz) [(h0, .inr (0, [.ref bA, .ref xA, .ref kA, .ref aA, .ref eA, .ref gA, .ref oA, .int rd, .int lc, .int sc, .int ln, .int le])), (bA, .inl (cI, 1220, .inl fb))]) (va_A [(h0, .inr (0, [.ref bA, .ref xA, .ref kA, .ref aA, .ref eA, .ref gA, .ref oA, .int rd, .int lc, .int sc, .int ln, .int le])), (bA, .inl (cI, 1220, .inl fb))] sz)) 0 0 (va_A [(h0, .inr (0, [.ref bA, .ref xA, .ref kA, .ref aA, .ref eA, .ref gA, .ref oA, .int rd, .int lc, .int sc, .int ln, .int le])), (bA, .inl (cI, 1220, .inl fb))] sz) := by
  refine Met.ofW (cc := cX0_isReached) (maxL := 2) (ret := (some .boolean)) (by decide) rfl ?_
  intro p e s m args below meth c s₁ B hml hv
  obtain ⟨rfl, hsz, hP, hsk, hD0⟩ := hv
  have hx := B.exec
  have hb := B.bytes
  have hr := B.returns
  have hts := atoms_spec (ws := wsX0_isReached) B.pre
  have hown : s.vm.findClass RX0 = some m.cls := findClass_of_methodNamed B.named
  have hlocks := B.notSynchronized
  have hK := hsk.1
  have i0 : ∀ w ∈ wsX00, w ∈ wsX0_isReached := by decide +kernel
  subst hsz
  have hD := hD0.self (sz := s.heap.size)
  generalize hAe : va_A [(h0, .inr (0, [.ref bA, .ref xA, .ref kA, .ref aA, .ref eA, .ref gA, .ref oA, .int rd, .int lc, .int sc, .int ln, .int le])), (bA, .inl (cI, 1220, .inl fb))] s.heap.size = A at hD ⊢
  have hA : ∀ q : Nat, s.heap.size ≤ q → A q := fun q h => by rw [← hAe]; exact Or.inr h
  have hS : va_S A s.heap s.heap [] := va_S.rf
  have hl := lv_entry ([.ref h0, .int p0]) (n := 2) (Nat.le_of_ble_eq_true rfl)
  rw [lg_entry_eq]
  generalize (lg_sl ([.ref h0, .int p0]) ++ List.replicate (2 - (lg_sl ([.ref h0, .int p0])).length) Slot.unset).toArray = ls at hl ⊢
  have hl : lv_has ls 2 [(0, .ref h0), (1, .int p0)] := hl
  refine lv_aload_n hx hb dX0_isReached_0 rfl (lv_at hl 0 rfl) ?_
  refine va_get (D := (dC, dI)) (ci := 0) (v := .ref bA) (C := RX0) (T := TX0) (N := 12) hx hb hts i0 hown hK hP 0 rfl rfl 0 (by decide) (hts (.fieldLink RX0 11 "StopSetter$Chart" "best" "[I") (by decide +kernel)) (fun _ h9 => h9) rfl dX0_isReached_1 ?_
  refine lv_aload_n hx hb dX0_isReached_4 rfl (lv_at hl 0 rfl) ?_
  refine va_get (D := (dC, dI)) (ci := 0) (v := .int rd) (C := RX0) (T := TX0) (N := 12) hx hb hts i0 hown hK hP 0 rfl rfl 7 (by decide) (hts (.fieldLink RX0 47 "StopSetter$Chart" "ready" "I") (by decide +kernel)) (fun _ h9 => h9) rfl dX0_isReached_5 ?_
  refine lv_iload_n hx hb dX0_isReached_8 rfl (lv_at hl 1 rfl) ?_
  have hPc := hP.sub (ws' := []) [] rfl
  have hDc := hD.sub (ws' := []) [] (by decide) rfl
  have hFc := va_free (wc := []) hD hS hA [] rfl
  refine va_calli (va_runS (As := [.int rd, .int p0]) (rest := [.ref bA]) ⟨hx, hb, hml, hown, hts⟩ (k_cell l dC dI cI cZ cC cJ s.heap.size  rd p0 ) (va_cwS 2 hts gX0_isReached_X0_cell rfl rfl rfl (by decide +kernel) ⟨Nat.le_of_ble_eq_true rfl, Nat.le_of_ble_eq_true rfl⟩) ⟨sPre_blind, fun U hU hW => ⟨rfl, sPre_ok hsk hPc hDc hU hW⟩⟩ rfl rfl hl.1 rfl (lv_room (Nat.le_of_ble_eq_true rfl)) dX0_isReached_9 ⟨(show 0 + 0 ≤ 0 by omega), (show 0 + 0 ≤ 0 by omega)⟩) hS (fun q _ h => hFc q h) hFc (fun r_1 u t H1 locs ht hvm hw hB hz1 hk1 hS => ?_)
  try dsimp only at hw hB
  have hw_2 := hw
  obtain rfl : r_1 = cl rd p0 := hw_2
  obtain ⟨hP1, hD1⟩ := hB
  rw [ht] at hP1
  obtain ⟨hP, hD⟩ := va_join (wr := [(h0, .inr (0, [.ref bA, .ref xA, .ref kA, .ref aA, .ref eA, .ref gA, .ref oA, .int rd, .int lc, .int sc, .int ln, .int le])), (bA, .inl (cI, 1220, .inl fb))]) (w1 := []) hP hD [] [0, 1] rfl rfl (by decide) (by decide) hk1 hFc hP1 hD1
  generalize H1 = H at hP hS ⊢
  have hP : va_P (dC, dI) vwCl [(h0, .inr (0, [.ref bA, .ref xA, .ref kA, .ref aA, .ref eA, .ref gA, .ref oA, .int rd, .int lc, .int sc, .int ln, .int le])), (bA, .inl (cI, 1220, .inl fb))] H := hP
  have hD : va_D A [(h0, .inr (0, [.ref bA, .ref xA, .ref kA, .ref aA, .ref eA, .ref gA, .ref oA, .int rd, .int lc, .int sc, .int ln, .int le])), (bA, .inl (cI, 1220, .inl fb))] := hD
  refine va_iald hx hb hK hP 1 0 rfl rfl (cl_in _ _) dX0_isReached_12 ?_
  refine lv_topi (fun v_3 ev_3 => ?_)
  refine lv_ldc (v := 1000000000) hx hb hown (hts (.constant RX0 33 (1000000000)) (by decide +kernel)) dX0_isReached_13 ?_
  refine lv_icmp_ge (tgt := 22) hx hb dX0_isReached_15 (by decide) (fun c_15 => ?_) (fun c_15 => ?_)
  · skip
    refine lv_iconst (v := 0) hx hb dX0_isReached_22 (by decide) ?_
    have hP9 := hP.sub (ws' := [(h0, .inr (0, [.ref bA, .ref xA, .ref kA, .ref aA, .ref eA, .ref gA, .ref oA, .int rd, .int lc, .int sc, .int ln, .int le])), (bA, .inl (cI, 1220, .inl fb))]) [0, 1] rfl
    have hD9 := hD.sub (ws' := [(h0, .inr (0, [.ref bA, .ref xA, .ref kA, .ref aA, .ref eA, .ref gA, .ref oA, .int rd, .int lc, .int sc, .int ln, .int le])), (bA, .inl (cI, 1220, .inl fb))]) [0, 1] (by decide) rfl
    exact W.zret (v := 0) (ty := .boolean) hx hb hr rfl (fun t ht hW => ⟨⟨0, (), rfl, trivial, by rw [ht]; exact hP9, hD9⟩, hS.F ht⟩) hS.2.2 dX0_isReached_23
  · skip
    refine lv_iconst (v := 1) hx hb dX0_isReached_18 (by decide) ?_
    refine lv_goto (tgt := 23) hx hb dX0_isReached_19 (by decide) ?_
    have hP9 := hP.sub (ws' := [(h0, .inr (0, [.ref bA, .ref xA, .ref kA, .ref aA, .ref eA, .ref gA, .ref oA, .int rd, .int lc, .int sc, .int ln, .int le])), (bA, .inl (cI, 1220, .inl fb))]) [0, 1] rfl
    have hD9 := hD.sub (ws' := [(h0, .inr (0, [.ref bA, .ref xA, .ref kA, .ref aA, .ref eA, .ref gA, .ref oA, .int rd, .int lc, .int sc, .int ln, .int le])), (bA, .inl (cI, 1220, .inl fb))]) [0, 1] (by decide) rfl
    exact W.zret (v := 1) (ty := .boolean) hx hb hr rfl (fun t ht hW => ⟨⟨1, (), rfl, trivial, by rw [ht]; exact hP9, hD9⟩, hS.F ht⟩) hS.2.2 dX0_isReached_23
set_option maxHeartbeats 4000000 in
set_option maxRecDepth 100000 in
theorem k_gnodeBehind (l : Launch) (dC : Nat → ClassId) (dI : Nat → Nat → Nat) (cI cZ cC cJ : ClassId) (sz : Nat) (h0 : Nat) (gF : Nat) (gK : Nat) (gT : Nat) (gC : Nat) (gM : Nat) (gc : Int32) (eF : Nat) (eC : Nat) (eM : Nat) (ec : Int32) (hopA : Nat) (fgT : Nat → Int32) (fgM : Nat → Int32) (p0 : Int32) (p1 : Int32)  : Met l yX1_nodeBehind wsX1_nodeBehind ({ frames := 1, cells := 0, slots := 0, locals := 21 }) (va_Pc [.ref h0, .int p0, .int p1] (sPre dC dI cI cZ cC cJ [(h0, .inr (1, [.ref gF, .ref gK, .ref gT, .ref gC, .ref gM, .int gc, .ref eF, .ref eC, .ref eM, .int ec, .ref hopA])), (gT, .inl (cI, 40, .inl fgT)), (gM, .inl (cI, 40, .inl fgM))] sz)) (va_Qi (fun (r : Int32) (u : Unit) => r = nbC gc fgT fgM p0 p1) (fun _ => sB dC dI (va_A [(h0, .inr (1, [.ref gF, .ref gK, .ref gT, .ref gC, .ref gM, .int gc, .ref eF, .ref eC, .ref eM, .int ec, .ref hopA])), (gT, .inl (cI, 40, .inl fgT)), (gM, .inl (cI, 40, .inl fgM))] sz) [(h0, .inr (1, [.ref gF, .ref gK, .ref gT, .ref gC, .ref gM, .int gc, .ref eF, .ref eC, .ref eM, .int ec, .ref hopA])), (gT, .inl (cI, 40, .inl fgT)), (gM, .inl (cI, 40, .inl fgM))]) (va_A [(h0, .inr (1, [.ref gF, .ref gK, .ref gT, .ref gC, .ref gM, .int gc, .ref eF, .ref eC, .ref eM, .int ec, .ref hopA])), (gT, .inl (cI, 40, .inl fgT)), (gM, .inl (cI, 40, .inl fgM))] sz)) 0 0 (va_A [(h0, .inr (1, [.ref gF, .ref gK, .ref gT, .ref gC, .ref gM, .int gc, .ref eF, .ref eC, .ref eM, .int ec, .ref hopA])), (gT, .inl (cI, 40, .inl fgT)), (gM, .inl (cI, 40, .inl fgM))] sz) := by
  refine Met.ofW (cc := cX1_nodeBehind) (maxL := 3) (ret := (some .int)) (by decide) rfl ?_
  intro p e s m args below meth c s₁ B hml hv
  obtain ⟨rfl, hsz, hP, hsk, hD0⟩ := hv
  have hx := B.exec
  have hb := B.bytes
  have hr := B.returns
  have hts := atoms_spec (ws := wsX1_nodeBehind) B.pre
  have hown : s.vm.findClass RX1 = some m.cls := findClass_of_methodNamed B.named
  have hlocks := B.notSynchronized
  have hK := hsk.1
  have i1 : ∀ w ∈ wsX10, w ∈ wsX1_nodeBehind := by decide +kernel
  subst hsz
  have hD := hD0.self (sz := s.heap.size)
  generalize hAe : va_A [(h0, .inr (1, [.ref gF, .ref gK, .ref gT, .ref gC, .ref gM, .int gc, .ref eF, .ref eC, .ref eM, .int ec, .ref hopA])), (gT, .inl (cI, 40, .inl fgT)), (gM, .inl (cI, 40, .inl fgM))] s.heap.size = A at hD ⊢
  have hA : ∀ q : Nat, s.heap.size ≤ q → A q := fun q h => by rw [← hAe]; exact Or.inr h
  have hS : va_S A s.heap s.heap [] := va_S.rf
  have hl := lv_entry ([.ref h0, .int p0, .int p1]) (n := 3) (Nat.le_of_ble_eq_true rfl)
  rw [lg_entry_eq]
  generalize (lg_sl ([.ref h0, .int p0, .int p1]) ++ List.replicate (3 - (lg_sl ([.ref h0, .int p0, .int p1])).length) Slot.unset).toArray = ls at hl ⊢
  have hl : lv_has ls 3 [(0, .ref h0), (1, .int p0), (2, .int p1)] := hl
  refine lv_aload_n hx hb dX1_nodeBehind_0 rfl (lv_at hl 0 rfl) ?_
  refine lv_iload_n hx hb dX1_nodeBehind_1 rfl (lv_at hl 1 rfl) ?_
  have hPc := hP.sub (ws' := [(h0, .inr (1, [.ref gF, .ref gK, .ref gT, .ref gC, .ref gM, .int gc, .ref eF, .ref eC, .ref eM, .int ec, .ref hopA]))]) [0] rfl
  have hDc := hD.sub (ws' := [(h0, .inr (1, [.ref gF, .ref gK, .ref gT, .ref gC, .ref gM, .int gc, .ref eF, .ref eC, .ref eM, .int ec, .ref hopA]))]) [0] (by decide) rfl
  have hFc := va_free (wc := [(h0, .inr (1, [.ref gF, .ref gK, .ref gT, .ref gC, .ref gM, .int gc, .ref eF, .ref eC, .ref eM, .int ec, .ref hopA]))]) hD hS hA [0] rfl
  refine va_calli (va_runV (As := [.int p0]) (rest := []) ⟨hx, hb, hml, hown, hts⟩ (k_hasGo l dC dI cI cZ cC cJ s.heap.size  h0 gF gK gT gC gM gc eF eC eM ec hopA p0 ) (cwV 1 hts gX1_nodeBehind_X1_hasGo rfl rfl rfl (by decide +kernel) ⟨Nat.le_of_ble_eq_true rfl, Nat.le_of_ble_eq_true rfl⟩) ⟨sPre_blind, va_recv hK hPc (ci := 1) (q0 := 0) rfl rfl, fun U hU hW => ⟨rfl, sPre_ok hsk hPc hDc hU hW⟩⟩ rfl rfl hl.1 rfl (lv_room (Nat.le_of_ble_eq_true rfl)) dX1_nodeBehind_2 ⟨(show 0 + 0 ≤ 0 by omega), (show 0 + 0 ≤ 0 by omega)⟩) hS (fun q _ h => hFc q h) hFc (fun r_1 u t H1 locs ht hvm hw hB hz1 hk1 hS => ?_)
  try dsimp only at hw hB
  have hw_2 := hw
  obtain rfl : r_1 = bnd 40 p0 gc := hw_2
  obtain ⟨hP1, hD1⟩ := hB
  rw [ht] at hP1
  obtain ⟨hP, hD⟩ := va_join (wr := [(gT, .inl (cI, 40, .inl fgT)), (gM, .inl (cI, 40, .inl fgM))]) (w1 := [(h0, .inr (1, [.ref gF, .ref gK, .ref gT, .ref gC, .ref gM, .int gc, .ref eF, .ref eC, .ref eM, .int ec, .ref hopA]))]) hP hD [0] [1, 2] rfl rfl (by decide) (by decide) hk1 hFc hP1 hD1
  generalize H1 = H at hP hS ⊢
  have hP : va_P (dC, dI) vwCl [(gT, .inl (cI, 40, .inl fgT)), (gM, .inl (cI, 40, .inl fgM)), (h0, .inr (1, [.ref gF, .ref gK, .ref gT, .ref gC, .ref gM, .int gc, .ref eF, .ref eC, .ref eM, .int ec, .ref hopA]))] H := hP
  have hD : va_D A [(gT, .inl (cI, 40, .inl fgT)), (gM, .inl (cI, 40, .inl fgM)), (h0, .inr (1, [.ref gF, .ref gK, .ref gT, .ref gC, .ref gM, .int gc, .ref eF, .ref eC, .ref eM, .int ec, .ref hopA]))] := hD
  refine lv_if_ne (tgt := 10) hx hb dX1_nodeBehind_5 (by decide) (fun c_5 => ?_) (fun c_5 => ?_)
  · skip
    refine lv_aload_n hx hb dX1_nodeBehind_10 rfl (lv_at hl 0 rfl) ?_
    refine va_get (D := (dC, dI)) (ci := 1) (v := .ref gM) (C := RX1) (T := TX1) (N := 11) hx hb hts i1 hown hK hP 2 rfl rfl 4 (by decide) (hts (.fieldLink RX1 24 "StopSetter$Grammar" "goMark" "[I") (by decide +kernel)) (fun _ h9 => h9) rfl dX1_nodeBehind_11 ?_
    refine lv_iload_n hx hb dX1_nodeBehind_14 rfl (lv_at hl 1 rfl) ?_
    refine va_iald hx hb hK hP 1 0 rfl rfl (bnd_in (M := 40) rfl c_5) dX1_nodeBehind_15 ?_
    refine lv_iconst (v := 2) hx hb dX1_nodeBehind_16 (by decide) ?_
    refine lv_icmp_ne (tgt := 39) hx hb dX1_nodeBehind_17 (by decide) (fun c_17 => ?_) (fun c_17 => ?_)
    · skip
      refine lv_aload_n hx hb dX1_nodeBehind_39 rfl (lv_at hl 0 rfl) ?_
      refine va_get (D := (dC, dI)) (ci := 1) (v := .ref gM) (C := RX1) (T := TX1) (N := 11) hx hb hts i1 hown hK hP 2 rfl rfl 4 (by decide) (hts (.fieldLink RX1 24 "StopSetter$Grammar" "goMark" "[I") (by decide +kernel)) (fun _ h9 => h9) rfl dX1_nodeBehind_40 ?_
      refine lv_iload_n hx hb dX1_nodeBehind_43 rfl (lv_at hl 1 rfl) ?_
      refine va_iald hx hb hK hP 1 0 rfl rfl (bnd_in (M := 40) rfl c_5) dX1_nodeBehind_44 ?_
      refine lv_iconst (v := 3) hx hb dX1_nodeBehind_45 (by decide) ?_
      refine lv_icmp_ne (tgt := 69) hx hb dX1_nodeBehind_46 (by decide) (fun c_46 => ?_) (fun c_46 => ?_)
      · skip
        refine lv_aload_n hx hb dX1_nodeBehind_69 rfl (lv_at hl 0 rfl) ?_
        refine va_get (D := (dC, dI)) (ci := 1) (v := .ref gT) (C := RX1) (T := TX1) (N := 11) hx hb hts i1 hown hK hP 2 rfl rfl 2 (by decide) (hts (.fieldLink RX1 18 "StopSetter$Grammar" "goTo" "[I") (by decide +kernel)) (fun _ h9 => h9) rfl dX1_nodeBehind_70 ?_
        refine lv_iload_n hx hb dX1_nodeBehind_73 rfl (lv_at hl 1 rfl) ?_
        refine va_iald hx hb hK hP 0 0 rfl rfl (bnd_in (M := 40) rfl c_5) dX1_nodeBehind_74 ?_
        refine lv_iload_n hx hb dX1_nodeBehind_75 rfl (lv_at hl 2 rfl) ?_
        have hPc := hP.sub (ws' := []) [] rfl
        have hDc := hD.sub (ws' := []) [] (by decide) rfl
        have hFc := va_free (wc := []) hD hS hA [] rfl
        refine va_calli (va_runSN (As := [.int (fgT p0.toNatClampNeg), .int p1]) (rest := []) ⟨hx, hb, hml, hown, hts⟩ (k_nodeOf l dC dI cI cZ cC cJ H.size  (fgT p0.toNatClampNeg) p1 ) ⟨va_cnB (host := "StopSetter") 2 hts gX1_nodeBehind_X4_nodeOf_n56 rfl rfl rfl (hsk.2.2 (RX1, 56, yX4_nodeOf, "StopSetter") (by decide +kernel)) (hts (.initialized RX4) (by decide +kernel)) (by decide +kernel) ⟨Nat.le_of_ble_eq_true rfl, Nat.le_of_ble_eq_true rfl⟩, hts (.static yX4_nodeOf) (by decide +kernel), trivial⟩ ⟨sPre_blind, fun U hU hW => ⟨rfl, sPre_ok hsk hPc hDc hU hW⟩⟩ rfl rfl hl.1 rfl (lv_room (Nat.le_of_ble_eq_true rfl)) dX1_nodeBehind_76 ⟨(show 0 + 0 ≤ 0 by omega), (show 0 + 0 ≤ 0 by omega)⟩) hS (fun q _ h => hFc q h) hFc (fun r_3 u t H1 locs ht hvm hw hB hz1 hk1 hS => ?_)
        try dsimp only at hw hB
        have hw_4 := hw
        obtain rfl : r_3 = ((fgT p0.toNatClampNeg) * 2 + p1) := hw_4
        obtain ⟨hP1, hD1⟩ := hB
        rw [ht] at hP1
        obtain ⟨hP, hD⟩ := va_join (wr := [(gT, .inl (cI, 40, .inl fgT)), (gM, .inl (cI, 40, .inl fgM)), (h0, .inr (1, [.ref gF, .ref gK, .ref gT, .ref gC, .ref gM, .int gc, .ref eF, .ref eC, .ref eM, .int ec, .ref hopA]))]) (w1 := []) hP hD [] [0, 1, 2] rfl rfl (by decide) (by decide) hk1 hFc hP1 hD1
        generalize H1 = H at hP hS ⊢
        have hP : va_P (dC, dI) vwCl [(gT, .inl (cI, 40, .inl fgT)), (gM, .inl (cI, 40, .inl fgM)), (h0, .inr (1, [.ref gF, .ref gK, .ref gT, .ref gC, .ref gM, .int gc, .ref eF, .ref eC, .ref eM, .int ec, .ref hopA]))] H := hP
        have hD : va_D A [(gT, .inl (cI, 40, .inl fgT)), (gM, .inl (cI, 40, .inl fgM)), (h0, .inr (1, [.ref gF, .ref gK, .ref gT, .ref gC, .ref gM, .int gc, .ref eF, .ref eC, .ref eM, .int ec, .ref hopA]))] := hD
        have hP9 := hP.sub (ws' := [(h0, .inr (1, [.ref gF, .ref gK, .ref gT, .ref gC, .ref gM, .int gc, .ref eF, .ref eC, .ref eM, .int ec, .ref hopA])), (gT, .inl (cI, 40, .inl fgT)), (gM, .inl (cI, 40, .inl fgM))]) [2, 0, 1] rfl
        have hD9 := hD.sub (ws' := [(h0, .inr (1, [.ref gF, .ref gK, .ref gT, .ref gC, .ref gM, .int gc, .ref eF, .ref eC, .ref eM, .int ec, .ref hopA])), (gT, .inl (cI, 40, .inl fgT)), (gM, .inl (cI, 40, .inl fgM))]) [2, 0, 1] (by decide) rfl
        exact W.iret (v := ((fgT p0.toNatClampNeg) * 2 + p1)) hx hb hr (fun t ht hW => ⟨⟨((fgT p0.toNatClampNeg) * 2 + p1), (), rfl, (by simp only [nbC, if_neg c_5, if_neg c_17, if_neg c_46]), by rw [ht]; exact hP9, hD9⟩, hS.F ht⟩) hS.2.2 dX1_nodeBehind_79
      · skip
        refine lv_iload_n hx hb dX1_nodeBehind_49 rfl (lv_at hl 2 rfl) ?_
        refine lv_iconst (v := 1) hx hb dX1_nodeBehind_50 (by decide) ?_
        refine lv_icmp_ne (tgt := 67) hx hb dX1_nodeBehind_51 (by decide) (fun c_51 => ?_) (fun c_51 => ?_)
        · skip
          refine lv_iconst (v := (-1)) hx hb dX1_nodeBehind_67 (by decide) ?_
          have hP9 := hP.sub (ws' := [(h0, .inr (1, [.ref gF, .ref gK, .ref gT, .ref gC, .ref gM, .int gc, .ref eF, .ref eC, .ref eM, .int ec, .ref hopA])), (gT, .inl (cI, 40, .inl fgT)), (gM, .inl (cI, 40, .inl fgM))]) [2, 0, 1] rfl
          have hD9 := hD.sub (ws' := [(h0, .inr (1, [.ref gF, .ref gK, .ref gT, .ref gC, .ref gM, .int gc, .ref eF, .ref eC, .ref eM, .int ec, .ref hopA])), (gT, .inl (cI, 40, .inl fgT)), (gM, .inl (cI, 40, .inl fgM))]) [2, 0, 1] (by decide) rfl
          exact W.iret (v := (-1)) hx hb hr (fun t ht hW => ⟨⟨(-1), (), rfl, (by simp only [nbC, if_neg c_5, if_neg c_17, if_pos c_46, if_neg c_51]), by rw [ht]; exact hP9, hD9⟩, hS.F ht⟩) hS.2.2 dX1_nodeBehind_68
        · skip
          refine lv_aload_n hx hb dX1_nodeBehind_54 rfl (lv_at hl 0 rfl) ?_
          refine va_get (D := (dC, dI)) (ci := 1) (v := .ref gT) (C := RX1) (T := TX1) (N := 11) hx hb hts i1 hown hK hP 2 rfl rfl 2 (by decide) (hts (.fieldLink RX1 18 "StopSetter$Grammar" "goTo" "[I") (by decide +kernel)) (fun _ h9 => h9) rfl dX1_nodeBehind_55 ?_
          refine lv_iload_n hx hb dX1_nodeBehind_58 rfl (lv_at hl 1 rfl) ?_
          refine va_iald hx hb hK hP 0 0 rfl rfl (bnd_in (M := 40) rfl c_5) dX1_nodeBehind_59 ?_
          refine lv_iconst (v := 0) hx hb dX1_nodeBehind_60 (by decide) ?_
          have hPc := hP.sub (ws' := []) [] rfl
          have hDc := hD.sub (ws' := []) [] (by decide) rfl
          have hFc := va_free (wc := []) hD hS hA [] rfl
          refine va_calli (va_runSN (As := [.int (fgT p0.toNatClampNeg), .int 0]) (rest := []) ⟨hx, hb, hml, hown, hts⟩ (k_nodeOf l dC dI cI cZ cC cJ H.size  (fgT p0.toNatClampNeg) 0 ) ⟨va_cnB (host := "StopSetter") 2 hts gX1_nodeBehind_X4_nodeOf_n56 rfl rfl rfl (hsk.2.2 (RX1, 56, yX4_nodeOf, "StopSetter") (by decide +kernel)) (hts (.initialized RX4) (by decide +kernel)) (by decide +kernel) ⟨Nat.le_of_ble_eq_true rfl, Nat.le_of_ble_eq_true rfl⟩, hts (.static yX4_nodeOf) (by decide +kernel), trivial⟩ ⟨sPre_blind, fun U hU hW => ⟨rfl, sPre_ok hsk hPc hDc hU hW⟩⟩ rfl rfl hl.1 rfl (lv_room (Nat.le_of_ble_eq_true rfl)) dX1_nodeBehind_61 ⟨(show 0 + 0 ≤ 0 by omega), (show 0 + 0 ≤ 0 by omega)⟩) hS (fun q _ h => hFc q h) hFc (fun r_5 u t H1 locs ht hvm hw hB hz1 hk1 hS => ?_)
          try dsimp only at hw hB
          have hw_6 := hw
          obtain rfl : r_5 = ((fgT p0.toNatClampNeg) * 2 + 0) := hw_6
          obtain ⟨hP1, hD1⟩ := hB
          rw [ht] at hP1
          obtain ⟨hP, hD⟩ := va_join (wr := [(gT, .inl (cI, 40, .inl fgT)), (gM, .inl (cI, 40, .inl fgM)), (h0, .inr (1, [.ref gF, .ref gK, .ref gT, .ref gC, .ref gM, .int gc, .ref eF, .ref eC, .ref eM, .int ec, .ref hopA]))]) (w1 := []) hP hD [] [0, 1, 2] rfl rfl (by decide) (by decide) hk1 hFc hP1 hD1
          generalize H1 = H at hP hS ⊢
          have hP : va_P (dC, dI) vwCl [(gT, .inl (cI, 40, .inl fgT)), (gM, .inl (cI, 40, .inl fgM)), (h0, .inr (1, [.ref gF, .ref gK, .ref gT, .ref gC, .ref gM, .int gc, .ref eF, .ref eC, .ref eM, .int ec, .ref hopA]))] H := hP
          have hD : va_D A [(gT, .inl (cI, 40, .inl fgT)), (gM, .inl (cI, 40, .inl fgM)), (h0, .inr (1, [.ref gF, .ref gK, .ref gT, .ref gC, .ref gM, .int gc, .ref eF, .ref eC, .ref eM, .int ec, .ref hopA]))] := hD
          refine lv_goto (tgt := 68) hx hb dX1_nodeBehind_64 (by decide) ?_
          have hP9 := hP.sub (ws' := [(h0, .inr (1, [.ref gF, .ref gK, .ref gT, .ref gC, .ref gM, .int gc, .ref eF, .ref eC, .ref eM, .int ec, .ref hopA])), (gT, .inl (cI, 40, .inl fgT)), (gM, .inl (cI, 40, .inl fgM))]) [2, 0, 1] rfl
          have hD9 := hD.sub (ws' := [(h0, .inr (1, [.ref gF, .ref gK, .ref gT, .ref gC, .ref gM, .int gc, .ref eF, .ref eC, .ref eM, .int ec, .ref hopA])), (gT, .inl (cI, 40, .inl fgT)), (gM, .inl (cI, 40, .inl fgM))]) [2, 0, 1] (by decide) rfl
          exact W.iret (v := ((fgT p0.toNatClampNeg) * 2 + 0)) hx hb hr (fun t ht hW => ⟨⟨((fgT p0.toNatClampNeg) * 2 + 0), (), rfl, (by simp only [nbC, if_neg c_5, if_neg c_17, if_pos c_46, if_pos c_51]), by rw [ht]; exact hP9, hD9⟩, hS.F ht⟩) hS.2.2 dX1_nodeBehind_68
    · skip
      refine lv_iload_n hx hb dX1_nodeBehind_20 rfl (lv_at hl 2 rfl) ?_
      refine lv_if_ne (tgt := 37) hx hb dX1_nodeBehind_21 (by decide) (fun c_21 => ?_) (fun c_21 => ?_)
      · skip
        refine lv_iconst (v := (-1)) hx hb dX1_nodeBehind_37 (by decide) ?_
        have hP9 := hP.sub (ws' := [(h0, .inr (1, [.ref gF, .ref gK, .ref gT, .ref gC, .ref gM, .int gc, .ref eF, .ref eC, .ref eM, .int ec, .ref hopA])), (gT, .inl (cI, 40, .inl fgT)), (gM, .inl (cI, 40, .inl fgM))]) [2, 0, 1] rfl
        have hD9 := hD.sub (ws' := [(h0, .inr (1, [.ref gF, .ref gK, .ref gT, .ref gC, .ref gM, .int gc, .ref eF, .ref eC, .ref eM, .int ec, .ref hopA])), (gT, .inl (cI, 40, .inl fgT)), (gM, .inl (cI, 40, .inl fgM))]) [2, 0, 1] (by decide) rfl
        exact W.iret (v := (-1)) hx hb hr (fun t ht hW => ⟨⟨(-1), (), rfl, (by simp only [nbC, if_neg c_5, if_pos c_17, if_neg c_21]), by rw [ht]; exact hP9, hD9⟩, hS.F ht⟩) hS.2.2 dX1_nodeBehind_38
      · skip
        refine lv_aload_n hx hb dX1_nodeBehind_24 rfl (lv_at hl 0 rfl) ?_
        refine va_get (D := (dC, dI)) (ci := 1) (v := .ref gT) (C := RX1) (T := TX1) (N := 11) hx hb hts i1 hown hK hP 2 rfl rfl 2 (by decide) (hts (.fieldLink RX1 18 "StopSetter$Grammar" "goTo" "[I") (by decide +kernel)) (fun _ h9 => h9) rfl dX1_nodeBehind_25 ?_
        refine lv_iload_n hx hb dX1_nodeBehind_28 rfl (lv_at hl 1 rfl) ?_
        refine va_iald hx hb hK hP 0 0 rfl rfl (bnd_in (M := 40) rfl c_5) dX1_nodeBehind_29 ?_
        refine lv_iconst (v := 1) hx hb dX1_nodeBehind_30 (by decide) ?_
        have hPc := hP.sub (ws' := []) [] rfl
        have hDc := hD.sub (ws' := []) [] (by decide) rfl
        have hFc := va_free (wc := []) hD hS hA [] rfl
        refine va_calli (va_runSN (As := [.int (fgT p0.toNatClampNeg), .int 1]) (rest := []) ⟨hx, hb, hml, hown, hts⟩ (k_nodeOf l dC dI cI cZ cC cJ H.size  (fgT p0.toNatClampNeg) 1 ) ⟨va_cnB (host := "StopSetter") 2 hts gX1_nodeBehind_X4_nodeOf_n56 rfl rfl rfl (hsk.2.2 (RX1, 56, yX4_nodeOf, "StopSetter") (by decide +kernel)) (hts (.initialized RX4) (by decide +kernel)) (by decide +kernel) ⟨Nat.le_of_ble_eq_true rfl, Nat.le_of_ble_eq_true rfl⟩, hts (.static yX4_nodeOf) (by decide +kernel), trivial⟩ ⟨sPre_blind, fun U hU hW => ⟨rfl, sPre_ok hsk hPc hDc hU hW⟩⟩ rfl rfl hl.1 rfl (lv_room (Nat.le_of_ble_eq_true rfl)) dX1_nodeBehind_31 ⟨(show 0 + 0 ≤ 0 by omega), (show 0 + 0 ≤ 0 by omega)⟩) hS (fun q _ h => hFc q h) hFc (fun r_7 u t H1 locs ht hvm hw hB hz1 hk1 hS => ?_)
        try dsimp only at hw hB
        have hw_8 := hw
        obtain rfl : r_7 = ((fgT p0.toNatClampNeg) * 2 + 1) := hw_8
        obtain ⟨hP1, hD1⟩ := hB
        rw [ht] at hP1
        obtain ⟨hP, hD⟩ := va_join (wr := [(gT, .inl (cI, 40, .inl fgT)), (gM, .inl (cI, 40, .inl fgM)), (h0, .inr (1, [.ref gF, .ref gK, .ref gT, .ref gC, .ref gM, .int gc, .ref eF, .ref eC, .ref eM, .int ec, .ref hopA]))]) (w1 := []) hP hD [] [0, 1, 2] rfl rfl (by decide) (by decide) hk1 hFc hP1 hD1
        generalize H1 = H at hP hS ⊢
        have hP : va_P (dC, dI) vwCl [(gT, .inl (cI, 40, .inl fgT)), (gM, .inl (cI, 40, .inl fgM)), (h0, .inr (1, [.ref gF, .ref gK, .ref gT, .ref gC, .ref gM, .int gc, .ref eF, .ref eC, .ref eM, .int ec, .ref hopA]))] H := hP
        have hD : va_D A [(gT, .inl (cI, 40, .inl fgT)), (gM, .inl (cI, 40, .inl fgM)), (h0, .inr (1, [.ref gF, .ref gK, .ref gT, .ref gC, .ref gM, .int gc, .ref eF, .ref eC, .ref eM, .int ec, .ref hopA]))] := hD
        refine lv_goto (tgt := 38) hx hb dX1_nodeBehind_34 (by decide) ?_
        have hP9 := hP.sub (ws' := [(h0, .inr (1, [.ref gF, .ref gK, .ref gT, .ref gC, .ref gM, .int gc, .ref eF, .ref eC, .ref eM, .int ec, .ref hopA])), (gT, .inl (cI, 40, .inl fgT)), (gM, .inl (cI, 40, .inl fgM))]) [2, 0, 1] rfl
        have hD9 := hD.sub (ws' := [(h0, .inr (1, [.ref gF, .ref gK, .ref gT, .ref gC, .ref gM, .int gc, .ref eF, .ref eC, .ref eM, .int ec, .ref hopA])), (gT, .inl (cI, 40, .inl fgT)), (gM, .inl (cI, 40, .inl fgM))]) [2, 0, 1] (by decide) rfl
        exact W.iret (v := ((fgT p0.toNatClampNeg) * 2 + 1)) hx hb hr (fun t ht hW => ⟨⟨((fgT p0.toNatClampNeg) * 2 + 1), (), rfl, (by simp only [nbC, if_neg c_5, if_pos c_17, if_pos c_21]), by rw [ht]; exact hP9, hD9⟩, hS.F ht⟩) hS.2.2 dX1_nodeBehind_38
  · skip
    refine lv_iconst (v := (-1)) hx hb dX1_nodeBehind_8 (by decide) ?_
    have hP9 := hP.sub (ws' := [(h0, .inr (1, [.ref gF, .ref gK, .ref gT, .ref gC, .ref gM, .int gc, .ref eF, .ref eC, .ref eM, .int ec, .ref hopA])), (gT, .inl (cI, 40, .inl fgT)), (gM, .inl (cI, 40, .inl fgM))]) [2, 0, 1] rfl
    have hD9 := hD.sub (ws' := [(h0, .inr (1, [.ref gF, .ref gK, .ref gT, .ref gC, .ref gM, .int gc, .ref eF, .ref eC, .ref eM, .int ec, .ref hopA])), (gT, .inl (cI, 40, .inl fgT)), (gM, .inl (cI, 40, .inl fgM))]) [2, 0, 1] (by decide) rfl
    exact W.iret (v := (-1)) hx hb hr (fun t ht hW => ⟨⟨(-1), (), rfl, (by simp only [nbC, if_pos c_5]), by rw [ht]; exact hP9, hD9⟩, hS.F ht⟩) hS.2.2 dX1_nodeBehind_9
set_option maxHeartbeats 4000000 in
set_option maxRecDepth 100000 in
theorem k_costOfEnd (l : Launch) (dC : Nat → ClassId) (dI : Nat → Nat → Nat) (cI cZ cC cJ : ClassId) (sz : Nat) (h0 : Nat) (gF : Nat) (gK : Nat) (gT : Nat) (gC : Nat) (gM : Nat) (gc : Int32) (eF : Nat) (eC : Nat) (eM : Nat) (ec : Int32) (hopA : Nat) (feC : Nat → Int32) (p0 : Int32)  : Met l yX1_costOfEnd wsX1_costOfEnd ({ frames := 1, cells := 0, slots := 0, locals := 21 }) (va_Pc [.ref h0, .int p0] (sPre dC dI cI cZ cC cJ [(h0, .inr (1, [.ref gF, .ref gK, .ref gT, .ref gC, .ref gM, .int gc, .ref eF, .ref eC, .ref eM, .int ec, .ref hopA])), (eC, .inl (cI, 10, .inl feC))] sz)) (va_Qi (fun (r : Int32) (u : Unit) => r = ceA ec feC p0) (fun _ => sB dC dI (va_A [(h0, .inr (1, [.ref gF, .ref gK, .ref gT, .ref gC, .ref gM, .int gc, .ref eF, .ref eC, .ref eM, .int ec, .ref hopA])), (eC, .inl (cI, 10, .inl feC))] sz) [(h0, .inr (1, [.ref gF, .ref gK, .ref gT, .ref gC, .ref gM, .int gc, .ref eF, .ref eC, .ref eM, .int ec, .ref hopA])), (eC, .inl (cI, 10, .inl feC))]) (va_A [(h0, .inr (1, [.ref gF, .ref gK, .ref gT, .ref gC, .ref gM, .int gc, .ref eF, .ref eC, .ref eM, .int ec, .ref hopA])), (eC, .inl (cI, 10, .inl feC))] sz)) 0 0 (va_A [(h0, .inr (1, [.ref gF, .ref gK, .ref gT, .ref gC, .ref gM, .int gc, .ref eF, .ref eC, .ref eM, .int ec, .ref hopA])), (eC, .inl (cI, 10, .inl feC))] sz) := by
  refine Met.ofW (cc := cX1_costOfEnd) (maxL := 2) (ret := (some .int)) (by decide) rfl ?_
  intro p e s m args below meth c s₁ B hml hv
  obtain ⟨rfl, hsz, hP, hsk, hD0⟩ := hv
  have hx := B.exec
  have hb := B.bytes
  have hr := B.returns
  have hts := atoms_spec (ws := wsX1_costOfEnd) B.pre
  have hown : s.vm.findClass RX1 = some m.cls := findClass_of_methodNamed B.named
  have hlocks := B.notSynchronized
  have hK := hsk.1
  have i1 : ∀ w ∈ wsX10, w ∈ wsX1_costOfEnd := by decide +kernel
  subst hsz
  have hD := hD0.self (sz := s.heap.size)
  generalize hAe : va_A [(h0, .inr (1, [.ref gF, .ref gK, .ref gT, .ref gC, .ref gM, .int gc, .ref eF, .ref eC, .ref eM, .int ec, .ref hopA])), (eC, .inl (cI, 10, .inl feC))] s.heap.size = A at hD ⊢
  have hA : ∀ q : Nat, s.heap.size ≤ q → A q := fun q h => by rw [← hAe]; exact Or.inr h
  have hS : va_S A s.heap s.heap [] := va_S.rf
  have hl := lv_entry ([.ref h0, .int p0]) (n := 2) (Nat.le_of_ble_eq_true rfl)
  rw [lg_entry_eq]
  generalize (lg_sl ([.ref h0, .int p0]) ++ List.replicate (2 - (lg_sl ([.ref h0, .int p0])).length) Slot.unset).toArray = ls at hl ⊢
  have hl : lv_has ls 2 [(0, .ref h0), (1, .int p0)] := hl
  refine lv_aload_n hx hb dX1_costOfEnd_0 rfl (lv_at hl 0 rfl) ?_
  refine lv_iload_n hx hb dX1_costOfEnd_1 rfl (lv_at hl 1 rfl) ?_
  have hPc := hP.sub (ws' := [(h0, .inr (1, [.ref gF, .ref gK, .ref gT, .ref gC, .ref gM, .int gc, .ref eF, .ref eC, .ref eM, .int ec, .ref hopA]))]) [0] rfl
  have hDc := hD.sub (ws' := [(h0, .inr (1, [.ref gF, .ref gK, .ref gT, .ref gC, .ref gM, .int gc, .ref eF, .ref eC, .ref eM, .int ec, .ref hopA]))]) [0] (by decide) rfl
  have hFc := va_free (wc := [(h0, .inr (1, [.ref gF, .ref gK, .ref gT, .ref gC, .ref gM, .int gc, .ref eF, .ref eC, .ref eM, .int ec, .ref hopA]))]) hD hS hA [0] rfl
  refine va_calli (va_runV (As := [.int p0]) (rest := []) ⟨hx, hb, hml, hown, hts⟩ (k_hasEnd l dC dI cI cZ cC cJ s.heap.size  h0 gF gK gT gC gM gc eF eC eM ec hopA p0 ) (cwV 1 hts gX1_costOfEnd_X1_hasEnd rfl rfl rfl (by decide +kernel) ⟨Nat.le_of_ble_eq_true rfl, Nat.le_of_ble_eq_true rfl⟩) ⟨sPre_blind, va_recv hK hPc (ci := 1) (q0 := 0) rfl rfl, fun U hU hW => ⟨rfl, sPre_ok hsk hPc hDc hU hW⟩⟩ rfl rfl hl.1 rfl (lv_room (Nat.le_of_ble_eq_true rfl)) dX1_costOfEnd_2 ⟨(show 0 + 0 ≤ 0 by omega), (show 0 + 0 ≤ 0 by omega)⟩) hS (fun q _ h => hFc q h) hFc (fun r_1 u t H1 locs ht hvm hw hB hz1 hk1 hS => ?_)
  try dsimp only at hw hB
  have hw_2 := hw
  obtain rfl : r_1 = bnd 10 p0 ec := hw_2
  obtain ⟨hP1, hD1⟩ := hB
  rw [ht] at hP1
  obtain ⟨hP, hD⟩ := va_join (wr := [(eC, .inl (cI, 10, .inl feC))]) (w1 := [(h0, .inr (1, [.ref gF, .ref gK, .ref gT, .ref gC, .ref gM, .int gc, .ref eF, .ref eC, .ref eM, .int ec, .ref hopA]))]) hP hD [0] [1] rfl rfl (by decide) (by decide) hk1 hFc hP1 hD1
  generalize H1 = H at hP hS ⊢
  have hP : va_P (dC, dI) vwCl [(eC, .inl (cI, 10, .inl feC)), (h0, .inr (1, [.ref gF, .ref gK, .ref gT, .ref gC, .ref gM, .int gc, .ref eF, .ref eC, .ref eM, .int ec, .ref hopA]))] H := hP
  have hD : va_D A [(eC, .inl (cI, 10, .inl feC)), (h0, .inr (1, [.ref gF, .ref gK, .ref gT, .ref gC, .ref gM, .int gc, .ref eF, .ref eC, .ref eM, .int ec, .ref hopA]))] := hD
  refine lv_if_eq (tgt := 17) hx hb dX1_costOfEnd_5 (by decide) (fun c_5 => ?_) (fun c_5 => ?_)
  · skip
    refine lv_iconst (v := 0) hx hb dX1_costOfEnd_17 (by decide) ?_
    have hP9 := hP.sub (ws' := [(h0, .inr (1, [.ref gF, .ref gK, .ref gT, .ref gC, .ref gM, .int gc, .ref eF, .ref eC, .ref eM, .int ec, .ref hopA])), (eC, .inl (cI, 10, .inl feC))]) [1, 0] rfl
    have hD9 := hD.sub (ws' := [(h0, .inr (1, [.ref gF, .ref gK, .ref gT, .ref gC, .ref gM, .int gc, .ref eF, .ref eC, .ref eM, .int ec, .ref hopA])), (eC, .inl (cI, 10, .inl feC))]) [1, 0] (by decide) rfl
    exact W.iret (v := 0) hx hb hr (fun t ht hW => ⟨⟨0, (), rfl, (by simp only [ceA, if_pos c_5]), by rw [ht]; exact hP9, hD9⟩, hS.F ht⟩) hS.2.2 dX1_costOfEnd_18
  · skip
    refine lv_aload_n hx hb dX1_costOfEnd_8 rfl (lv_at hl 0 rfl) ?_
    refine va_get (D := (dC, dI)) (ci := 1) (v := .ref eC) (C := RX1) (T := TX1) (N := 11) hx hb hts i1 hown hK hP 1 rfl rfl 7 (by decide) (hts (.fieldLink RX1 30 "StopSetter$Grammar" "endCost" "[I") (by decide +kernel)) (fun _ h9 => h9) rfl dX1_costOfEnd_9 ?_
    refine lv_iload_n hx hb dX1_costOfEnd_12 rfl (lv_at hl 1 rfl) ?_
    refine va_iald hx hb hK hP 0 0 rfl rfl (bnd_in (M := 10) rfl c_5) dX1_costOfEnd_13 ?_
    refine lv_goto (tgt := 18) hx hb dX1_costOfEnd_14 (by decide) ?_
    have hP9 := hP.sub (ws' := [(h0, .inr (1, [.ref gF, .ref gK, .ref gT, .ref gC, .ref gM, .int gc, .ref eF, .ref eC, .ref eM, .int ec, .ref hopA])), (eC, .inl (cI, 10, .inl feC))]) [1, 0] rfl
    have hD9 := hD.sub (ws' := [(h0, .inr (1, [.ref gF, .ref gK, .ref gT, .ref gC, .ref gM, .int gc, .ref eF, .ref eC, .ref eM, .int ec, .ref hopA])), (eC, .inl (cI, 10, .inl feC))]) [1, 0] (by decide) rfl
    exact W.iret (v := (feC p0.toNatClampNeg)) hx hb hr (fun t ht hW => ⟨⟨(feC p0.toNatClampNeg), (), rfl, (by simp only [ceA, if_neg c_5]), by rw [ht]; exact hP9, hD9⟩, hS.F ht⟩) hS.2.2 dX1_costOfEnd_18
set_option maxHeartbeats 4000000 in
set_option maxRecDepth 100000 in
theorem k_wordAt (l : Launch) (dC : Nat → ClassId) (dI : Nat → Nat → Nat) (cI cZ cC cJ : ClassId) (sz : Nat) (h0 : Nat) (kO : Nat) (nO : Nat) (rO : Nat) (mO : Nat) (zs : Int32) (tO : Nat) (rdO : Nat) (lnO : Nat) (drO : Nat) (chO : Nat) (fr : Nat → Int32) (p0 : Int32)  : Met l yX4_wordAt wsX4_wordAt ({ frames := 1, cells := 0, slots := 0, locals := 21 }) (va_Pc [.ref h0, .int p0] (sPre dC dI cI cZ cC cJ [(h0, .inr (4, [.ref kO, .ref nO, .ref rO, .ref mO, .int zs, .ref tO, .ref rdO, .ref lnO, .ref drO, .ref chO])), (rO, .inl (cI, 60, .inl fr))] sz)) (va_Qi (fun (r : Int32) (u : Unit) => r = (if bnd 60 p0 zs = 0 then 0 else fr p0.toNatClampNeg)) (fun _ => sB dC dI (va_A [(h0, .inr (4, [.ref kO, .ref nO, .ref rO, .ref mO, .int zs, .ref tO, .ref rdO, .ref lnO, .ref drO, .ref chO])), (rO, .inl (cI, 60, .inl fr))] sz) [(h0, .inr (4, [.ref kO, .ref nO, .ref rO, .ref mO, .int zs, .ref tO, .ref rdO, .ref lnO, .ref drO, .ref chO])), (rO, .inl (cI, 60, .inl fr))]) (va_A [(h0, .inr (4, [.ref kO, .ref nO, .ref rO, .ref mO, .int zs, .ref tO, .ref rdO, .ref lnO, .ref drO, .ref chO])), (rO, .inl (cI, 60, .inl fr))] sz)) 0 0 (va_A [(h0, .inr (4, [.ref kO, .ref nO, .ref rO, .ref mO, .int zs, .ref tO, .ref rdO, .ref lnO, .ref drO, .ref chO])), (rO, .inl (cI, 60, .inl fr))] sz) := by
  refine Met.ofW (cc := cX4_wordAt) (maxL := 2) (ret := (some .int)) (by decide) rfl ?_
  intro p e s m args below meth c s₁ B hml hv
  obtain ⟨rfl, hsz, hP, hsk, hD0⟩ := hv
  have hx := B.exec
  have hb := B.bytes
  have hr := B.returns
  have hts := atoms_spec (ws := wsX4_wordAt) B.pre
  have hown : s.vm.findClass RX4 = some m.cls := findClass_of_methodNamed B.named
  have hlocks := B.notSynchronized
  have hK := hsk.1
  have i4 : ∀ w ∈ wsX40, w ∈ wsX4_wordAt := by decide +kernel
  subst hsz
  have hD := hD0.self (sz := s.heap.size)
  generalize hAe : va_A [(h0, .inr (4, [.ref kO, .ref nO, .ref rO, .ref mO, .int zs, .ref tO, .ref rdO, .ref lnO, .ref drO, .ref chO])), (rO, .inl (cI, 60, .inl fr))] s.heap.size = A at hD ⊢
  have hA : ∀ q : Nat, s.heap.size ≤ q → A q := fun q h => by rw [← hAe]; exact Or.inr h
  have hS : va_S A s.heap s.heap [] := va_S.rf
  have hl := lv_entry ([.ref h0, .int p0]) (n := 2) (Nat.le_of_ble_eq_true rfl)
  rw [lg_entry_eq]
  generalize (lg_sl ([.ref h0, .int p0]) ++ List.replicate (2 - (lg_sl ([.ref h0, .int p0])).length) Slot.unset).toArray = ls at hl ⊢
  have hl : lv_has ls 2 [(0, .ref h0), (1, .int p0)] := hl
  refine lv_aload_n hx hb dX4_wordAt_0 rfl (lv_at hl 0 rfl) ?_
  refine lv_iload_n hx hb dX4_wordAt_1 rfl (lv_at hl 1 rfl) ?_
  have hPc := hP.sub (ws' := [(h0, .inr (4, [.ref kO, .ref nO, .ref rO, .ref mO, .int zs, .ref tO, .ref rdO, .ref lnO, .ref drO, .ref chO]))]) [0] rfl
  have hDc := hD.sub (ws' := [(h0, .inr (4, [.ref kO, .ref nO, .ref rO, .ref mO, .int zs, .ref tO, .ref rdO, .ref lnO, .ref drO, .ref chO]))]) [0] (by decide) rfl
  have hFc := va_free (wc := [(h0, .inr (4, [.ref kO, .ref nO, .ref rO, .ref mO, .int zs, .ref tO, .ref rdO, .ref lnO, .ref drO, .ref chO]))]) hD hS hA [0] rfl
  refine va_calli (va_runV (As := [.int p0]) (rest := []) ⟨hx, hb, hml, hown, hts⟩ (k_hasPlace l dC dI cI cZ cC cJ s.heap.size  h0 kO nO rO mO zs tO rdO lnO drO chO p0 ) (cwV 1 hts gX4_wordAt_X4_hasPlace rfl rfl rfl (by decide +kernel) ⟨Nat.le_of_ble_eq_true rfl, Nat.le_of_ble_eq_true rfl⟩) ⟨sPre_blind, va_recv hK hPc (ci := 4) (q0 := 0) rfl rfl, fun U hU hW => ⟨rfl, sPre_ok hsk hPc hDc hU hW⟩⟩ rfl rfl hl.1 rfl (lv_room (Nat.le_of_ble_eq_true rfl)) dX4_wordAt_2 ⟨(show 0 + 0 ≤ 0 by omega), (show 0 + 0 ≤ 0 by omega)⟩) hS (fun q _ h => hFc q h) hFc (fun r_1 u t H1 locs ht hvm hw hB hz1 hk1 hS => ?_)
  try dsimp only at hw hB
  have hw_2 := hw
  obtain rfl : r_1 = bnd 60 p0 zs := hw_2
  obtain ⟨hP1, hD1⟩ := hB
  rw [ht] at hP1
  obtain ⟨hP, hD⟩ := va_join (wr := [(rO, .inl (cI, 60, .inl fr))]) (w1 := [(h0, .inr (4, [.ref kO, .ref nO, .ref rO, .ref mO, .int zs, .ref tO, .ref rdO, .ref lnO, .ref drO, .ref chO]))]) hP hD [0] [1] rfl rfl (by decide) (by decide) hk1 hFc hP1 hD1
  generalize H1 = H at hP hS ⊢
  have hP : va_P (dC, dI) vwCl [(rO, .inl (cI, 60, .inl fr)), (h0, .inr (4, [.ref kO, .ref nO, .ref rO, .ref mO, .int zs, .ref tO, .ref rdO, .ref lnO, .ref drO, .ref chO]))] H := hP
  have hD : va_D A [(rO, .inl (cI, 60, .inl fr)), (h0, .inr (4, [.ref kO, .ref nO, .ref rO, .ref mO, .int zs, .ref tO, .ref rdO, .ref lnO, .ref drO, .ref chO]))] := hD
  refine lv_if_eq (tgt := 17) hx hb dX4_wordAt_5 (by decide) (fun c_5 => ?_) (fun c_5 => ?_)
  · skip
    refine lv_iconst (v := 0) hx hb dX4_wordAt_17 (by decide) ?_
    have hP9 := hP.sub (ws' := [(h0, .inr (4, [.ref kO, .ref nO, .ref rO, .ref mO, .int zs, .ref tO, .ref rdO, .ref lnO, .ref drO, .ref chO])), (rO, .inl (cI, 60, .inl fr))]) [1, 0] rfl
    have hD9 := hD.sub (ws' := [(h0, .inr (4, [.ref kO, .ref nO, .ref rO, .ref mO, .int zs, .ref tO, .ref rdO, .ref lnO, .ref drO, .ref chO])), (rO, .inl (cI, 60, .inl fr))]) [1, 0] (by decide) rfl
    exact W.iret (v := 0) hx hb hr (fun t ht hW => ⟨⟨0, (), rfl, (by rw [if_pos c_5]), by rw [ht]; exact hP9, hD9⟩, hS.F ht⟩) hS.2.2 dX4_wordAt_18
  · skip
    refine lv_aload_n hx hb dX4_wordAt_8 rfl (lv_at hl 0 rfl) ?_
    refine va_get (D := (dC, dI)) (ci := 4) (v := .ref rO) (C := RX4) (T := TX4) (N := 10) hx hb hts i4 hown hK hP 1 rfl rfl 2 (by decide) (hts (.fieldLink RX4 17 "StopSetter" "row" "[I") (by decide +kernel)) (fun _ h9 => h9) rfl dX4_wordAt_9 ?_
    refine lv_iload_n hx hb dX4_wordAt_12 rfl (lv_at hl 1 rfl) ?_
    refine va_iald hx hb hK hP 0 0 rfl rfl (bnd_in (M := 60) rfl c_5) dX4_wordAt_13 ?_
    refine lv_goto (tgt := 18) hx hb dX4_wordAt_14 (by decide) ?_
    have hP9 := hP.sub (ws' := [(h0, .inr (4, [.ref kO, .ref nO, .ref rO, .ref mO, .int zs, .ref tO, .ref rdO, .ref lnO, .ref drO, .ref chO])), (rO, .inl (cI, 60, .inl fr))]) [1, 0] rfl
    have hD9 := hD.sub (ws' := [(h0, .inr (4, [.ref kO, .ref nO, .ref rO, .ref mO, .int zs, .ref tO, .ref rdO, .ref lnO, .ref drO, .ref chO])), (rO, .inl (cI, 60, .inl fr))]) [1, 0] (by decide) rfl
    exact W.iret (v := (fr p0.toNatClampNeg)) hx hb hr (fun t ht hW => ⟨⟨(fr p0.toNatClampNeg), (), rfl, (by rw [if_neg c_5]), by rw [ht]; exact hP9, hD9⟩, hS.F ht⟩) hS.2.2 dX4_wordAt_18
set_option maxHeartbeats 4000000 in
set_option maxRecDepth 100000 in
theorem k_isParted (l : Launch) (dC : Nat → ClassId) (dI : Nat → Nat → Nat) (cI cZ cC cJ : ClassId) (sz : Nat) (h0 : Nat) (bA : Nat) (xA : Nat) (kA : Nat) (aA : Nat) (eA : Nat) (gA : Nat) (oA : Nat) (rd : Int32) (lc : Int32) (sc : Int32) (ln : Int32) (le : Int32)  : Met l yX0_isParted wsX0_isParted ({ frames := 0, cells := 0, slots := 0, locals := 0 }) (va_Pc [.ref h0] (sPre dC dI cI cZ cC cJ [(h0, .inr (0, [.ref bA, .ref xA, .ref kA, .ref aA, .ref eA, .ref gA, .ref oA, .int rd, .int lc, .int sc, .int ln, .int le]))] sz)) (va_Qi (fun (r : Int32) (u : Unit) => r = rcb lc) (fun _ => sB dC dI (va_A [(h0, .inr (0, [.ref bA, .ref xA, .ref kA, .ref aA, .ref eA, .ref gA, .ref oA, .int rd, .int lc, .int sc, .int ln, .int le]))] sz) [(h0, .inr (0, [.ref bA, .ref xA, .ref kA, .ref aA, .ref eA, .ref gA, .ref oA, .int rd, .int lc, .int sc, .int ln, .int le]))]) (va_A [(h0, .inr (0, [.ref bA, .ref xA, .ref kA, .ref aA, .ref eA, .ref gA, .ref oA, .int rd, .int lc, .int sc, .int ln, .int le]))] sz)) 0 0 (va_A [(h0, .inr (0, [.ref bA, .ref xA, .ref kA, .ref aA, .ref eA, .ref gA, .ref oA, .int rd, .int lc, .int sc, .int ln, .int le]))] sz) := by
  refine Met.ofW (cc := cX0_isParted) (maxL := 1) (ret := (some .boolean)) (by decide) rfl ?_
  intro p e s m args below meth c s₁ B hml hv
  obtain ⟨rfl, hsz, hP, hsk, hD0⟩ := hv
  have hx := B.exec
  have hb := B.bytes
  have hr := B.returns
  have hts := atoms_spec (ws := wsX0_isParted) B.pre
  have hown : s.vm.findClass RX0 = some m.cls := findClass_of_methodNamed B.named
  have hlocks := B.notSynchronized
  have hK := hsk.1
  have i0 : ∀ w ∈ wsX00, w ∈ wsX0_isParted := by decide +kernel
  subst hsz
  have hD := hD0.self (sz := s.heap.size)
  generalize hAe : va_A [(h0, .inr (0, [.ref bA, .ref xA, .ref kA, .ref aA, .ref eA, .ref gA, .ref oA, .int rd, .int lc, .int sc, .int ln, .int le]))] s.heap.size = A at hD ⊢
  have hA : ∀ q : Nat, s.heap.size ≤ q → A q := fun q h => by rw [← hAe]; exact Or.inr h
  have hS : va_S A s.heap s.heap [] := va_S.rf
  have hl := lv_entry ([.ref h0]) (n := 1) (Nat.le_of_ble_eq_true rfl)
  rw [lg_entry_eq]
  generalize (lg_sl ([.ref h0]) ++ List.replicate (1 - (lg_sl ([.ref h0])).length) Slot.unset).toArray = ls at hl ⊢
  have hl : lv_has ls 1 [(0, .ref h0)] := hl
  refine lv_aload_n hx hb dX0_isParted_0 rfl (lv_at hl 0 rfl) ?_
  refine va_get (D := (dC, dI)) (ci := 0) (v := .int lc) (C := RX0) (T := TX0) (N := 12) hx hb hts i0 hown hK hP 0 rfl rfl 8 (by decide) (hts (.fieldLink RX0 34 "StopSetter$Chart" "leastCost" "I") (by decide +kernel)) (fun _ h9 => h9) rfl dX0_isParted_1 ?_
  refine lv_ldc (v := 1000000000) hx hb hown (hts (.constant RX0 33 (1000000000)) (by decide +kernel)) dX0_isParted_4 ?_
  refine lv_icmp_ge (tgt := 13) hx hb dX0_isParted_6 (by decide) (fun c_6 => ?_) (fun c_6 => ?_)
  · skip
    refine lv_iconst (v := 0) hx hb dX0_isParted_13 (by decide) ?_
    have hP9 := hP.sub (ws' := [(h0, .inr (0, [.ref bA, .ref xA, .ref kA, .ref aA, .ref eA, .ref gA, .ref oA, .int rd, .int lc, .int sc, .int ln, .int le]))]) [0] rfl
    have hD9 := hD.sub (ws' := [(h0, .inr (0, [.ref bA, .ref xA, .ref kA, .ref aA, .ref eA, .ref gA, .ref oA, .int rd, .int lc, .int sc, .int ln, .int le]))]) [0] (by decide) rfl
    exact W.zret (v := 0) (ty := .boolean) hx hb hr rfl (fun t ht hW => ⟨⟨0, (), rfl, (by simp only [rcb, if_pos c_6]), by rw [ht]; exact hP9, hD9⟩, hS.F ht⟩) hS.2.2 dX0_isParted_14
  · skip
    refine lv_iconst (v := 1) hx hb dX0_isParted_9 (by decide) ?_
    refine lv_goto (tgt := 14) hx hb dX0_isParted_10 (by decide) ?_
    have hP9 := hP.sub (ws' := [(h0, .inr (0, [.ref bA, .ref xA, .ref kA, .ref aA, .ref eA, .ref gA, .ref oA, .int rd, .int lc, .int sc, .int ln, .int le]))]) [0] rfl
    have hD9 := hD.sub (ws' := [(h0, .inr (0, [.ref bA, .ref xA, .ref kA, .ref aA, .ref eA, .ref gA, .ref oA, .int rd, .int lc, .int sc, .int ln, .int le]))]) [0] (by decide) rfl
    exact W.zret (v := 1) (ty := .boolean) hx hb hr rfl (fun t ht hW => ⟨⟨1, (), rfl, (by simp only [rcb, if_neg c_6]), by rw [ht]; exact hP9, hD9⟩, hS.F ht⟩) hS.2.2 dX0_isParted_14
set_option maxHeartbeats 4000000 in
set_option maxRecDepth 100000 in
theorem k_isPartedTwice (l : Launch) (dC : Nat → ClassId) (dI : Nat → Nat → Nat) (cI cZ cC cJ : ClassId) (sz : Nat) (h0 : Nat) (bA : Nat) (xA : Nat) (kA : Nat) (aA : Nat) (eA : Nat) (gA : Nat) (oA : Nat) (rd : Int32) (lc : Int32) (sc : Int32) (ln : Int32) (le : Int32)  : Met l yX0_isPartedTwice wsX0_isPartedTwice ({ frames := 0, cells := 0, slots := 0, locals := 0 }) (va_Pc [.ref h0] (sPre dC dI cI cZ cC cJ [(h0, .inr (0, [.ref bA, .ref xA, .ref kA, .ref aA, .ref eA, .ref gA, .ref oA, .int rd, .int lc, .int sc, .int ln, .int le]))] sz)) (va_Qi (fun (r : Int32) (u : Unit) => r = rcb sc) (fun _ => sB dC dI (va_A [(h0, .inr (0, [.ref bA, .ref xA, .ref kA, .ref aA, .ref eA, .ref gA, .ref oA, .int rd, .int lc, .int sc, .int ln, .int le]))] sz) [(h0, .inr (0, [.ref bA, .ref xA, .ref kA, .ref aA, .ref eA, .ref gA, .ref oA, .int rd, .int lc, .int sc, .int ln, .int le]))]) (va_A [(h0, .inr (0, [.ref bA, .ref xA, .ref kA, .ref aA, .ref eA, .ref gA, .ref oA, .int rd, .int lc, .int sc, .int ln, .int le]))] sz)) 0 0 (va_A [(h0, .inr (0, [.ref bA, .ref xA, .ref kA, .ref aA, .ref eA, .ref gA, .ref oA, .int rd, .int lc, .int sc, .int ln, .int le]))] sz) := by
  refine Met.ofW (cc := cX0_isPartedTwice) (maxL := 1) (ret := (some .boolean)) (by decide) rfl ?_
  intro p e s m args below meth c s₁ B hml hv
  obtain ⟨rfl, hsz, hP, hsk, hD0⟩ := hv
  have hx := B.exec
  have hb := B.bytes
  have hr := B.returns
  have hts := atoms_spec (ws := wsX0_isPartedTwice) B.pre
  have hown : s.vm.findClass RX0 = some m.cls := findClass_of_methodNamed B.named
  have hlocks := B.notSynchronized
  have hK := hsk.1
  have i0 : ∀ w ∈ wsX00, w ∈ wsX0_isPartedTwice := by decide +kernel
  subst hsz
  have hD := hD0.self (sz := s.heap.size)
  generalize hAe : va_A [(h0, .inr (0, [.ref bA, .ref xA, .ref kA, .ref aA, .ref eA, .ref gA, .ref oA, .int rd, .int lc, .int sc, .int ln, .int le]))] s.heap.size = A at hD ⊢
  have hA : ∀ q : Nat, s.heap.size ≤ q → A q := fun q h => by rw [← hAe]; exact Or.inr h
  have hS : va_S A s.heap s.heap [] := va_S.rf
  have hl := lv_entry ([.ref h0]) (n := 1) (Nat.le_of_ble_eq_true rfl)
  rw [lg_entry_eq]
  generalize (lg_sl ([.ref h0]) ++ List.replicate (1 - (lg_sl ([.ref h0])).length) Slot.unset).toArray = ls at hl ⊢
  have hl : lv_has ls 1 [(0, .ref h0)] := hl
  refine lv_aload_n hx hb dX0_isPartedTwice_0 rfl (lv_at hl 0 rfl) ?_
  refine va_get (D := (dC, dI)) (ci := 0) (v := .int sc) (C := RX0) (T := TX0) (N := 12) hx hb hts i0 hown hK hP 0 rfl rfl 9 (by decide) (hts (.fieldLink RX0 38 "StopSetter$Chart" "secondCost" "I") (by decide +kernel)) (fun _ h9 => h9) rfl dX0_isPartedTwice_1 ?_
  refine lv_ldc (v := 1000000000) hx hb hown (hts (.constant RX0 33 (1000000000)) (by decide +kernel)) dX0_isPartedTwice_4 ?_
  refine lv_icmp_ge (tgt := 13) hx hb dX0_isPartedTwice_6 (by decide) (fun c_6 => ?_) (fun c_6 => ?_)
  · skip
    refine lv_iconst (v := 0) hx hb dX0_isPartedTwice_13 (by decide) ?_
    have hP9 := hP.sub (ws' := [(h0, .inr (0, [.ref bA, .ref xA, .ref kA, .ref aA, .ref eA, .ref gA, .ref oA, .int rd, .int lc, .int sc, .int ln, .int le]))]) [0] rfl
    have hD9 := hD.sub (ws' := [(h0, .inr (0, [.ref bA, .ref xA, .ref kA, .ref aA, .ref eA, .ref gA, .ref oA, .int rd, .int lc, .int sc, .int ln, .int le]))]) [0] (by decide) rfl
    exact W.zret (v := 0) (ty := .boolean) hx hb hr rfl (fun t ht hW => ⟨⟨0, (), rfl, (by simp only [rcb, if_pos c_6]), by rw [ht]; exact hP9, hD9⟩, hS.F ht⟩) hS.2.2 dX0_isPartedTwice_14
  · skip
    refine lv_iconst (v := 1) hx hb dX0_isPartedTwice_9 (by decide) ?_
    refine lv_goto (tgt := 14) hx hb dX0_isPartedTwice_10 (by decide) ?_
    have hP9 := hP.sub (ws' := [(h0, .inr (0, [.ref bA, .ref xA, .ref kA, .ref aA, .ref eA, .ref gA, .ref oA, .int rd, .int lc, .int sc, .int ln, .int le]))]) [0] rfl
    have hD9 := hD.sub (ws' := [(h0, .inr (0, [.ref bA, .ref xA, .ref kA, .ref aA, .ref eA, .ref gA, .ref oA, .int rd, .int lc, .int sc, .int ln, .int le]))]) [0] (by decide) rfl
    exact W.zret (v := 1) (ty := .boolean) hx hb hr rfl (fun t ht hW => ⟨⟨1, (), rfl, (by simp only [rcb, if_neg c_6]), by rw [ht]; exact hP9, hD9⟩, hS.F ht⟩) hS.2.2 dX0_isPartedTwice_14
set_option maxHeartbeats 4000000 in
set_option maxRecDepth 100000 in
theorem k_keep (l : Launch) (dC : Nat → ClassId) (dI : Nat → Nat → Nat) (cI cZ cC cJ : ClassId) (sz : Nat) (h0 : Nat) (bA : Nat) (xA : Nat) (kA : Nat) (aA : Nat) (eA : Nat) (gA : Nat) (oA : Nat) (rd : Int32) (lc : Int32) (sc : Int32) (ln : Int32) (le : Int32) (p0 : Int32)  : Met l yX0_keep wsX0_keep ({ frames := 0, cells := 0, slots := 0, locals := 0 }) (va_Pc [.ref h0, .int p0] (sPre dC dI cI cZ cC cJ [(h0, .inr (0, [.ref bA, .ref xA, .ref kA, .ref aA, .ref eA, .ref gA, .ref oA, .int rd, .int lc, .int sc, .int ln, .int le]))] sz)) (va_Qv (fun (u : (Int32)) => match u with | rd2 => (rd2 = kpR p0 rd)) (fun (u : (Int32)) t => match u with | rd2 => sB dC dI (va_A [(h0, .inr (0, [.ref bA, .ref xA, .ref kA, .ref aA, .ref eA, .ref gA, .ref oA, .int rd, .int lc, .int sc, .int ln, .int le]))] sz) [(h0, .inr (0, [.ref bA, .ref xA, .ref kA, .ref aA, .ref eA, .ref gA, .ref oA, .int rd2, .int lc, .int sc, .int ln, .int le]))] t) (va_A [(h0, .inr (0, [.ref bA, .ref xA, .ref kA, .ref aA, .ref eA, .ref gA, .ref oA, .int rd, .int lc, .int sc, .int ln, .int le]))] sz)) 0 0 (va_A [(h0, .inr (0, [.ref bA, .ref xA, .ref kA, .ref aA, .ref eA, .ref gA, .ref oA, .int rd, .int lc, .int sc, .int ln, .int le]))] sz) := by
  refine Met.ofW (cc := cX0_keep) (maxL := 2) (ret := none) (by decide) rfl ?_
  intro p e s m args below meth c s₁ B hml hv
  obtain ⟨rfl, hsz, hP, hsk, hD0⟩ := hv
  have hx := B.exec
  have hb := B.bytes
  have hr := B.returns
  have hts := atoms_spec (ws := wsX0_keep) B.pre
  have hown : s.vm.findClass RX0 = some m.cls := findClass_of_methodNamed B.named
  have hlocks := B.notSynchronized
  have hK := hsk.1
  have i0 : ∀ w ∈ wsX00, w ∈ wsX0_keep := by decide +kernel
  subst hsz
  have hD := hD0.self (sz := s.heap.size)
  generalize hAe : va_A [(h0, .inr (0, [.ref bA, .ref xA, .ref kA, .ref aA, .ref eA, .ref gA, .ref oA, .int rd, .int lc, .int sc, .int ln, .int le]))] s.heap.size = A at hD ⊢
  have hA : ∀ q : Nat, s.heap.size ≤ q → A q := fun q h => by rw [← hAe]; exact Or.inr h
  have hS : va_S A s.heap s.heap [] := va_S.rf
  have hl := lv_entry ([.ref h0, .int p0]) (n := 2) (Nat.le_of_ble_eq_true rfl)
  rw [lg_entry_eq]
  generalize (lg_sl ([.ref h0, .int p0]) ++ List.replicate (2 - (lg_sl ([.ref h0, .int p0])).length) Slot.unset).toArray = ls at hl ⊢
  have hl : lv_has ls 2 [(0, .ref h0), (1, .int p0)] := hl
  refine lv_iload_n hx hb dX0_keep_0 rfl (lv_at hl 1 rfl) ?_
  refine lv_if_lt (tgt := 17) hx hb dX0_keep_1 (by decide) (fun c_1 => ?_) (fun c_1 => ?_)
  · skip
    have hP9 := hP.sub (ws' := [(h0, .inr (0, [.ref bA, .ref xA, .ref kA, .ref aA, .ref eA, .ref gA, .ref oA, .int rd, .int lc, .int sc, .int ln, .int le]))]) [0] rfl
    have hD9 := hD.sub (ws' := [(h0, .inr (0, [.ref bA, .ref xA, .ref kA, .ref aA, .ref eA, .ref gA, .ref oA, .int rd, .int lc, .int sc, .int ln, .int le]))]) [0] (by decide) rfl
    have hens0 : rd = kpR p0 rd := (by unfold kpR; rw [if_pos c_1])
    exact W.vret hx hb hr (fun t ht hW => ⟨⟨(rd), rfl, hens0, by rw [ht]; exact hP9, hD9⟩, hS.F ht⟩) hS.2.2 dX0_keep_17
  · skip
    refine lv_iload_n hx hb dX0_keep_4 rfl (lv_at hl 1 rfl) ?_
    refine lv_aload_n hx hb dX0_keep_5 rfl (lv_at hl 0 rfl) ?_
    refine va_get (D := (dC, dI)) (ci := 0) (v := .int rd) (C := RX0) (T := TX0) (N := 12) hx hb hts i0 hown hK hP 0 rfl rfl 7 (by decide) (hts (.fieldLink RX0 47 "StopSetter$Chart" "ready" "I") (by decide +kernel)) (fun _ h9 => h9) rfl dX0_keep_6 ?_
    refine lv_icmp_ge (tgt := 17) hx hb dX0_keep_9 (by decide) (fun c_9 => ?_) (fun c_9 => ?_)
    · skip
      have hP9 := hP.sub (ws' := [(h0, .inr (0, [.ref bA, .ref xA, .ref kA, .ref aA, .ref eA, .ref gA, .ref oA, .int rd, .int lc, .int sc, .int ln, .int le]))]) [0] rfl
      have hD9 := hD.sub (ws' := [(h0, .inr (0, [.ref bA, .ref xA, .ref kA, .ref aA, .ref eA, .ref gA, .ref oA, .int rd, .int lc, .int sc, .int ln, .int le]))]) [0] (by decide) rfl
      have hens0 : rd = kpR p0 rd := (by unfold kpR; rw [if_neg c_1, if_pos c_9])
      exact W.vret hx hb hr (fun t ht hW => ⟨⟨(rd), rfl, hens0, by rw [ht]; exact hP9, hD9⟩, hS.F ht⟩) hS.2.2 dX0_keep_17
    · skip
      refine lv_aload_n hx hb dX0_keep_12 rfl (lv_at hl 0 rfl) ?_
      refine lv_iload_n hx hb dX0_keep_13 rfl (lv_at hl 1 rfl) ?_
      refine va_put (D := (dC, dI)) (ci := 0) (v := .int p0) (ty := tyX0 7) (C := RX0) (T := TX0) (N := 12) hx hb hts i0 tyX0 tyX0_ok nmX0 hown hK hP hD hS 0 rfl rfl 7 (by decide) (hts (.fieldLink RX0 47 "StopSetter$Chart" "ready" "I") (by decide +kernel)) (fun _ h9 => h9) rfl (by decide +kernel) rfl rfl (Nat.le_of_ble_eq_true rfl) dX0_keep_14 (fun H locs hP hD hS => ?_)
      have hP : va_P (dC, dI) vwCl [(h0, .inr (0, [.ref bA, .ref xA, .ref kA, .ref aA, .ref eA, .ref gA, .ref oA, .int p0, .int lc, .int sc, .int ln, .int le]))] H := hP
      have hD : va_D A [(h0, .inr (0, [.ref bA, .ref xA, .ref kA, .ref aA, .ref eA, .ref gA, .ref oA, .int p0, .int lc, .int sc, .int ln, .int le]))] := hD
      have hP9 := hP.sub (ws' := [(h0, .inr (0, [.ref bA, .ref xA, .ref kA, .ref aA, .ref eA, .ref gA, .ref oA, .int p0, .int lc, .int sc, .int ln, .int le]))]) [0] rfl
      have hD9 := hD.sub (ws' := [(h0, .inr (0, [.ref bA, .ref xA, .ref kA, .ref aA, .ref eA, .ref gA, .ref oA, .int p0, .int lc, .int sc, .int ln, .int le]))]) [0] (by decide) rfl
      have hens0 : p0 = kpR p0 rd := (by unfold kpR; rw [if_neg c_1, if_neg c_9])
      exact W.vret hx hb hr (fun t ht hW => ⟨⟨(p0), rfl, hens0, by rw [ht]; exact hP9, hD9⟩, hS.F ht⟩) hS.2.2 dX0_keep_17
set_option maxHeartbeats 4000000 in
set_option maxRecDepth 100000 in
theorem k_isHopeful (l : Launch) (dC : Nat → ClassId) (dI : Nat → Nat → Nat) (cI cZ cC cJ : ClassId) (sz : Nat) (h0 : Nat) (gF : Nat) (gK : Nat) (gT : Nat) (gC : Nat) (gM : Nat) (gc : Int32) (eF : Nat) (eC : Nat) (eM : Nat) (ec : Int32) (hopA : Nat) (fhopA : Nat → Int32) (p0 : Int32)  : Met l yX1_isHopeful wsX1_isHopeful ({ frames := 0, cells := 0, slots := 0, locals := 0 }) (va_Pc [.ref h0, .int p0] (sPre dC dI cI cZ cC cJ [(h0, .inr (1, [.ref gF, .ref gK, .ref gT, .ref gC, .ref gM, .int gc, .ref eF, .ref eC, .ref eM, .int ec, .ref hopA])), (hopA, .inl (cZ, 20, .inl fhopA))] sz)) (va_Qi (fun (r : Int32) (u : Unit) => r = isH fhopA p0) (fun _ => sB dC dI (va_A [(h0, .inr (1, [.ref gF, .ref gK, .ref gT, .ref gC, .ref gM, .int gc, .ref eF, .ref eC, .ref eM, .int ec, .ref hopA])), (hopA, .inl (cZ, 20, .inl fhopA))] sz) [(h0, .inr (1, [.ref gF, .ref gK, .ref gT, .ref gC, .ref gM, .int gc, .ref eF, .ref eC, .ref eM, .int ec, .ref hopA])), (hopA, .inl (cZ, 20, .inl fhopA))]) (va_A [(h0, .inr (1, [.ref gF, .ref gK, .ref gT, .ref gC, .ref gM, .int gc, .ref eF, .ref eC, .ref eM, .int ec, .ref hopA])), (hopA, .inl (cZ, 20, .inl fhopA))] sz)) 0 0 (va_A [(h0, .inr (1, [.ref gF, .ref gK, .ref gT, .ref gC, .ref gM, .int gc, .ref eF, .ref eC, .ref eM, .int ec, .ref hopA])), (hopA, .inl (cZ, 20, .inl fhopA))] sz) := by
  refine Met.ofW (cc := cX1_isHopeful) (maxL := 2) (ret := (some .boolean)) (by decide) rfl ?_
  intro p e s m args below meth c s₁ B hml hv
  obtain ⟨rfl, hsz, hP, hsk, hD0⟩ := hv
  have hx := B.exec
  have hb := B.bytes
  have hr := B.returns
  have hts := atoms_spec (ws := wsX1_isHopeful) B.pre
  have hown : s.vm.findClass RX1 = some m.cls := findClass_of_methodNamed B.named
  have hlocks := B.notSynchronized
  have hK := hsk.1
  have i1 : ∀ w ∈ wsX10, w ∈ wsX1_isHopeful := by decide +kernel
  subst hsz
  have hD := hD0.self (sz := s.heap.size)
  generalize hAe : va_A [(h0, .inr (1, [.ref gF, .ref gK, .ref gT, .ref gC, .ref gM, .int gc, .ref eF, .ref eC, .ref eM, .int ec, .ref hopA])), (hopA, .inl (cZ, 20, .inl fhopA))] s.heap.size = A at hD ⊢
  have hA : ∀ q : Nat, s.heap.size ≤ q → A q := fun q h => by rw [← hAe]; exact Or.inr h
  have hS : va_S A s.heap s.heap [] := va_S.rf
  have hl := lv_entry ([.ref h0, .int p0]) (n := 2) (Nat.le_of_ble_eq_true rfl)
  rw [lg_entry_eq]
  generalize (lg_sl ([.ref h0, .int p0]) ++ List.replicate (2 - (lg_sl ([.ref h0, .int p0])).length) Slot.unset).toArray = ls at hl ⊢
  have hl : lv_has ls 2 [(0, .ref h0), (1, .int p0)] := hl
  refine lv_iload_n hx hb dX1_isHopeful_0 rfl (lv_at hl 1 rfl) ?_
  refine lv_if_lt (tgt := 23) hx hb dX1_isHopeful_1 (by decide) (fun c_1 => ?_) (fun c_1 => ?_)
  · skip
    refine lv_iconst (v := 0) hx hb dX1_isHopeful_23 (by decide) ?_
    have hP9 := hP.sub (ws' := [(h0, .inr (1, [.ref gF, .ref gK, .ref gT, .ref gC, .ref gM, .int gc, .ref eF, .ref eC, .ref eM, .int ec, .ref hopA])), (hopA, .inl (cZ, 20, .inl fhopA))]) [0, 1] rfl
    have hD9 := hD.sub (ws' := [(h0, .inr (1, [.ref gF, .ref gK, .ref gT, .ref gC, .ref gM, .int gc, .ref eF, .ref eC, .ref eM, .int ec, .ref hopA])), (hopA, .inl (cZ, 20, .inl fhopA))]) [0, 1] (by decide) rfl
    exact W.zret (v := 0) (ty := .boolean) hx hb hr rfl (fun t ht hW => ⟨⟨0, (), rfl, (by simp only [isH, if_pos c_1]), by rw [ht]; exact hP9, hD9⟩, hS.F ht⟩) hS.2.2 dX1_isHopeful_24
  · skip
    refine lv_iload_n hx hb dX1_isHopeful_4 rfl (lv_at hl 1 rfl) ?_
    refine lv_bipush (v := 20) hx hb dX1_isHopeful_5 (by decide) ?_
    refine lv_icmp_ge (tgt := 23) hx hb dX1_isHopeful_7 (by decide) (fun c_7 => ?_) (fun c_7 => ?_)
    · skip
      refine lv_iconst (v := 0) hx hb dX1_isHopeful_23 (by decide) ?_
      have hP9 := hP.sub (ws' := [(h0, .inr (1, [.ref gF, .ref gK, .ref gT, .ref gC, .ref gM, .int gc, .ref eF, .ref eC, .ref eM, .int ec, .ref hopA])), (hopA, .inl (cZ, 20, .inl fhopA))]) [0, 1] rfl
      have hD9 := hD.sub (ws' := [(h0, .inr (1, [.ref gF, .ref gK, .ref gT, .ref gC, .ref gM, .int gc, .ref eF, .ref eC, .ref eM, .int ec, .ref hopA])), (hopA, .inl (cZ, 20, .inl fhopA))]) [0, 1] (by decide) rfl
      exact W.zret (v := 0) (ty := .boolean) hx hb hr rfl (fun t ht hW => ⟨⟨0, (), rfl, (by simp only [isH, if_neg c_1, if_pos c_7]), by rw [ht]; exact hP9, hD9⟩, hS.F ht⟩) hS.2.2 dX1_isHopeful_24
    · skip
      refine lv_aload_n hx hb dX1_isHopeful_10 rfl (lv_at hl 0 rfl) ?_
      refine va_get (D := (dC, dI)) (ci := 1) (v := .ref hopA) (C := RX1) (T := TX1) (N := 11) hx hb hts i1 hown hK hP 0 rfl rfl 10 (by decide) (hts (.fieldLink RX1 38 "StopSetter$Grammar" "hopeful" "[Z") (by decide +kernel)) (fun _ h9 => h9) rfl dX1_isHopeful_11 ?_
      refine lv_iload_n hx hb dX1_isHopeful_14 rfl (lv_at hl 1 rfl) ?_
      refine va_zald hx hb hK hP 1 1 rfl rfl (in_ge (c := 20) rfl c_1 c_7) dX1_isHopeful_15 ?_
      refine lv_if_eq (tgt := 23) hx hb dX1_isHopeful_16 (by decide) (fun c_16 => ?_) (fun c_16 => ?_)
      · skip
        refine lv_iconst (v := 0) hx hb dX1_isHopeful_23 (by decide) ?_
        have hP9 := hP.sub (ws' := [(h0, .inr (1, [.ref gF, .ref gK, .ref gT, .ref gC, .ref gM, .int gc, .ref eF, .ref eC, .ref eM, .int ec, .ref hopA])), (hopA, .inl (cZ, 20, .inl fhopA))]) [0, 1] rfl
        have hD9 := hD.sub (ws' := [(h0, .inr (1, [.ref gF, .ref gK, .ref gT, .ref gC, .ref gM, .int gc, .ref eF, .ref eC, .ref eM, .int ec, .ref hopA])), (hopA, .inl (cZ, 20, .inl fhopA))]) [0, 1] (by decide) rfl
        exact W.zret (v := 0) (ty := .boolean) hx hb hr rfl (fun t ht hW => ⟨⟨0, (), rfl, (by simp only [isH, if_neg c_1, if_neg c_7, if_pos c_16]), by rw [ht]; exact hP9, hD9⟩, hS.F ht⟩) hS.2.2 dX1_isHopeful_24
      · skip
        refine lv_iconst (v := 1) hx hb dX1_isHopeful_19 (by decide) ?_
        refine lv_goto (tgt := 24) hx hb dX1_isHopeful_20 (by decide) ?_
        have hP9 := hP.sub (ws' := [(h0, .inr (1, [.ref gF, .ref gK, .ref gT, .ref gC, .ref gM, .int gc, .ref eF, .ref eC, .ref eM, .int ec, .ref hopA])), (hopA, .inl (cZ, 20, .inl fhopA))]) [0, 1] rfl
        have hD9 := hD.sub (ws' := [(h0, .inr (1, [.ref gF, .ref gK, .ref gT, .ref gC, .ref gM, .int gc, .ref eF, .ref eC, .ref eM, .int ec, .ref hopA])), (hopA, .inl (cZ, 20, .inl fhopA))]) [0, 1] (by decide) rfl
        exact W.zret (v := 1) (ty := .boolean) hx hb hr rfl (fun t ht hW => ⟨⟨1, (), rfl, (by simp only [isH, if_neg c_1, if_neg c_7, if_neg c_16]), by rw [ht]; exact hP9, hD9⟩, hS.F ht⟩) hS.2.2 dX1_isHopeful_24
set_option maxHeartbeats 4000000 in
set_option maxRecDepth 100000 in
theorem k_setHopeful (l : Launch) (dC : Nat → ClassId) (dI : Nat → Nat → Nat) (cI cZ cC cJ : ClassId) (sz : Nat) (h0 : Nat) (gF : Nat) (gK : Nat) (gT : Nat) (gC : Nat) (gM : Nat) (gc : Int32) (eF : Nat) (eC : Nat) (eM : Nat) (ec : Int32) (hopA : Nat) (fhopA : Nat → Int32) (p0 : Int32)  : Met l yX1_setHopeful wsX1_setHopeful ({ frames := 0, cells := 0, slots := 0, locals := 0 }) (va_Pc [.ref h0, .int p0] (sPre dC dI cI cZ cC cJ [(h0, .inr (1, [.ref gF, .ref gK, .ref gT, .ref gC, .ref gM, .int gc, .ref eF, .ref eC, .ref eM, .int ec, .ref hopA])), (hopA, .inl (cZ, 20, .inl fhopA))] sz)) (va_Qv (fun (u : (Nat → Int32)) => match u with | fhopA2 => (fhopA2 = stH fhopA p0)) (fun (u : (Nat → Int32)) t => match u with | fhopA2 => sB dC dI (va_A [(h0, .inr (1, [.ref gF, .ref gK, .ref gT, .ref gC, .ref gM, .int gc, .ref eF, .ref eC, .ref eM, .int ec, .ref hopA])), (hopA, .inl (cZ, 20, .inl fhopA))] sz) [(h0, .inr (1, [.ref gF, .ref gK, .ref gT, .ref gC, .ref gM, .int gc, .ref eF, .ref eC, .ref eM, .int ec, .ref hopA])), (hopA, .inl (cZ, 20, .inl fhopA2))] t) (va_A [(h0, .inr (1, [.ref gF, .ref gK, .ref gT, .ref gC, .ref gM, .int gc, .ref eF, .ref eC, .ref eM, .int ec, .ref hopA])), (hopA, .inl (cZ, 20, .inl fhopA))] sz)) 0 0 (va_A [(h0, .inr (1, [.ref gF, .ref gK, .ref gT, .ref gC, .ref gM, .int gc, .ref eF, .ref eC, .ref eM, .int ec, .ref hopA])), (hopA, .inl (cZ, 20, .inl fhopA))] sz) := by
  refine Met.ofW (cc := cX1_setHopeful) (maxL := 2) (ret := none) (by decide) rfl ?_
  intro p e s m args below meth c s₁ B hml hv
  obtain ⟨rfl, hsz, hP, hsk, hD0⟩ := hv
  have hx := B.exec
  have hb := B.bytes
  have hr := B.returns
  have hts := atoms_spec (ws := wsX1_setHopeful) B.pre
  have hown : s.vm.findClass RX1 = some m.cls := findClass_of_methodNamed B.named
  have hlocks := B.notSynchronized
  have hK := hsk.1
  have i1 : ∀ w ∈ wsX10, w ∈ wsX1_setHopeful := by decide +kernel
  subst hsz
  have hD := hD0.self (sz := s.heap.size)
  generalize hAe : va_A [(h0, .inr (1, [.ref gF, .ref gK, .ref gT, .ref gC, .ref gM, .int gc, .ref eF, .ref eC, .ref eM, .int ec, .ref hopA])), (hopA, .inl (cZ, 20, .inl fhopA))] s.heap.size = A at hD ⊢
  have hA : ∀ q : Nat, s.heap.size ≤ q → A q := fun q h => by rw [← hAe]; exact Or.inr h
  have hS : va_S A s.heap s.heap [] := va_S.rf
  have hl := lv_entry ([.ref h0, .int p0]) (n := 2) (Nat.le_of_ble_eq_true rfl)
  rw [lg_entry_eq]
  generalize (lg_sl ([.ref h0, .int p0]) ++ List.replicate (2 - (lg_sl ([.ref h0, .int p0])).length) Slot.unset).toArray = ls at hl ⊢
  have hl : lv_has ls 2 [(0, .ref h0), (1, .int p0)] := hl
  refine lv_iload_n hx hb dX1_setHopeful_0 rfl (lv_at hl 1 rfl) ?_
  refine lv_if_lt (tgt := 17) hx hb dX1_setHopeful_1 (by decide) (fun c_1 => ?_) (fun c_1 => ?_)
  · skip
    have hP9 := hP.sub (ws' := [(h0, .inr (1, [.ref gF, .ref gK, .ref gT, .ref gC, .ref gM, .int gc, .ref eF, .ref eC, .ref eM, .int ec, .ref hopA])), (hopA, .inl (cZ, 20, .inl fhopA))]) [0, 1] rfl
    have hD9 := hD.sub (ws' := [(h0, .inr (1, [.ref gF, .ref gK, .ref gT, .ref gC, .ref gM, .int gc, .ref eF, .ref eC, .ref eM, .int ec, .ref hopA])), (hopA, .inl (cZ, 20, .inl fhopA))]) [0, 1] (by decide) rfl
    have hens0 : fhopA = stH fhopA p0 := (by simp only [stH, if_pos c_1])
    exact W.vret hx hb hr (fun t ht hW => ⟨⟨(fhopA), rfl, hens0, by rw [ht]; exact hP9, hD9⟩, hS.F ht⟩) hS.2.2 dX1_setHopeful_17
  · skip
    refine lv_iload_n hx hb dX1_setHopeful_4 rfl (lv_at hl 1 rfl) ?_
    refine lv_bipush (v := 20) hx hb dX1_setHopeful_5 (by decide) ?_
    refine lv_icmp_ge (tgt := 17) hx hb dX1_setHopeful_7 (by decide) (fun c_7 => ?_) (fun c_7 => ?_)
    · skip
      have hP9 := hP.sub (ws' := [(h0, .inr (1, [.ref gF, .ref gK, .ref gT, .ref gC, .ref gM, .int gc, .ref eF, .ref eC, .ref eM, .int ec, .ref hopA])), (hopA, .inl (cZ, 20, .inl fhopA))]) [0, 1] rfl
      have hD9 := hD.sub (ws' := [(h0, .inr (1, [.ref gF, .ref gK, .ref gT, .ref gC, .ref gM, .int gc, .ref eF, .ref eC, .ref eM, .int ec, .ref hopA])), (hopA, .inl (cZ, 20, .inl fhopA))]) [0, 1] (by decide) rfl
      have hens0 : fhopA = stH fhopA p0 := (by simp only [stH, if_neg c_1, if_pos c_7])
      exact W.vret hx hb hr (fun t ht hW => ⟨⟨(fhopA), rfl, hens0, by rw [ht]; exact hP9, hD9⟩, hS.F ht⟩) hS.2.2 dX1_setHopeful_17
    · skip
      refine lv_aload_n hx hb dX1_setHopeful_10 rfl (lv_at hl 0 rfl) ?_
      refine va_get (D := (dC, dI)) (ci := 1) (v := .ref hopA) (C := RX1) (T := TX1) (N := 11) hx hb hts i1 hown hK hP 0 rfl rfl 10 (by decide) (hts (.fieldLink RX1 38 "StopSetter$Grammar" "hopeful" "[Z") (by decide +kernel)) (fun _ h9 => h9) rfl dX1_setHopeful_11 ?_
      refine lv_iload_n hx hb dX1_setHopeful_14 rfl (lv_at hl 1 rfl) ?_
      refine lv_iconst (v := 1) hx hb dX1_setHopeful_15 (by decide) ?_
      refine va_zast hx hb hK hP hD hS 1 1 rfl rfl (in_ge (c := 20) rfl c_1 c_7) dX1_setHopeful_16 (fun H locs hP hD hS => ?_)
      have hP : va_P (dC, dI) vwCl [(h0, .inr (1, [.ref gF, .ref gK, .ref gT, .ref gC, .ref gM, .int gc, .ref eF, .ref eC, .ref eM, .int ec, .ref hopA])), (hopA, .inl (cZ, 20, .inl (upd fhopA (p0.toNatClampNeg) (vp_nar .boolean 1))))] H := hP
      have hD : va_D A [(h0, .inr (1, [.ref gF, .ref gK, .ref gT, .ref gC, .ref gM, .int gc, .ref eF, .ref eC, .ref eM, .int ec, .ref hopA])), (hopA, .inl (cZ, 20, .inl (upd fhopA (p0.toNatClampNeg) (vp_nar .boolean 1))))] := hD
      have hP9 := hP.sub (ws' := [(h0, .inr (1, [.ref gF, .ref gK, .ref gT, .ref gC, .ref gM, .int gc, .ref eF, .ref eC, .ref eM, .int ec, .ref hopA])), (hopA, .inl (cZ, 20, .inl (upd fhopA (p0.toNatClampNeg) (vp_nar .boolean 1))))]) [0, 1] rfl
      have hD9 := hD.sub (ws' := [(h0, .inr (1, [.ref gF, .ref gK, .ref gT, .ref gC, .ref gM, .int gc, .ref eF, .ref eC, .ref eM, .int ec, .ref hopA])), (hopA, .inl (cZ, 20, .inl (upd fhopA (p0.toNatClampNeg) (vp_nar .boolean 1))))]) [0, 1] (by decide) rfl
      have hens0 : (upd fhopA (p0.toNatClampNeg) (vp_nar .boolean 1)) = stH fhopA p0 := (by simp only [stH, if_neg c_1, if_neg c_7])
      exact W.vret hx hb hr (fun t ht hW => ⟨⟨((upd fhopA (p0.toNatClampNeg) (vp_nar .boolean 1))), rfl, hens0, by rw [ht]; exact hP9, hD9⟩, hS.F ht⟩) hS.2.2 dX1_setHopeful_17

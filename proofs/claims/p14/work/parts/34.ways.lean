def found (L gA eA nB : Nat → Int32) (i : Nat) : Prop := ∃ g e v : Nat, g < 40 ∧ e ≤ 10 ∧ v < 20 ∧ gA i = nI g ∧ eA i = evl e ∧ nB i = nI v ∧ L (20 * (i + 1) + v) ≠ nI 1000000
def fails (sp : Nat → Nat → Nat → Nat → Int32) (cs : Nat → Nat → Int32) (L : Nat → Int32) (i nd e g : Nat) : Prop := ∀ v : Nat, v < 20 → sp i nd e g = nI v → ¬ cs e g + L (20 * (i + 1) + v) = L (20 * i + nd)
def gOK (gA eA : Nat → Int32) (i : Nat) : Prop := (∃ g : Nat, g < 40 ∧ gA i = nI g) ∧ (∃ e : Nat, e ≤ 10 ∧ eA i = evl e)
def nbOK (f : Nat → Int32) : Prop := ∀ i : Nat, i < 60 → ∃ v : Nat, v < 20 ∧ f i = nI v
theorem nbOK_upd {f : Nat → Int32} {k v : Nat} (h : nbOK f) (hv : v < 20) : nbOK (upd f k (nI v)) := by
  intro i hi
  unfold upd
  by_cases e : i = k
  · exact ⟨v, hv, by rw [if_pos e]⟩
  · rw [if_neg e]; exact h i hi
theorem found_ge {L gA eA nB : Nat → Int32} {i : Nat} (h : found L gA eA nB i) : 0 ≤ gA i := by
  obtain ⟨g, e, v, h1, h2, h3, h4, h5, h6, h7⟩ := h
  rw [h4]; exact nI_pos' (by omega)
theorem gOK_of {L gA eA nB : Nat → Int32} {i : Nat} (h : found L gA eA nB i) : gOK gA eA i := by
  obtain ⟨g, e, v, h1, h2, h3, h4, h5, h6, h7⟩ := h
  exact ⟨⟨g, h1, h4⟩, ⟨e, h2, h5⟩⟩
theorem gOK_off {gA eA : Nat → Int32} {n : Nat} {x : Int32} (h : ∀ i : Nat, i < n → gOK gA eA i) : ∀ i : Nat, i < n → gOK (upd gA n x) eA i := fun i hi => by
  obtain ⟨h1, h2⟩ := h i hi
  unfold gOK
  rw [upd_off (by omega)]
  exact ⟨h1, h2⟩
theorem gOK_off2 {gA eA : Nat → Int32} {n : Nat} {x y : Int32} (h : ∀ i : Nat, i < n → gOK gA eA i) : ∀ i : Nat, i < n → gOK (upd gA n x) (upd eA n y) i := fun i hi => by
  obtain ⟨h1, h2⟩ := h i hi
  unfold gOK
  rw [upd_off (by omega), upd_off (by omega)]
  exact ⟨h1, h2⟩
theorem found_new {L gA eA nB : Nat → Int32} {i g e v : Nat} (h1 : g < 40) (h2 : e ≤ 10) (h3 : v < 20) (h4 : L (20 * (i + 1) + v) ≠ nI 1000000) : found L (upd gA i (nI g)) (upd eA i (evl e)) (upd nB i (nI v)) i := ⟨g, e, v, h1, h2, h3, upd_self, upd_self, upd_self, h4⟩
/-- where a step attains a cost that is not FAR, the next one is not FAR -/
theorem not_far {L S : Nat → Int32} {k t c : Nat} (h : okL L S k) (h9 : L k ≠ nI 1000000) (e : nI c + L t = L k) (hc : c ≤ 1998) : L t ≠ nI 1000000 := by
  obtain ⟨a, b, h1, h2, h3, h4⟩ := h
  intro z
  rw [z, h3] at e
  have : c + 1000000 = a := (nI_eq (by omega) (by omega)).mp ((nI_add c 1000000).symm.trans e)
  exact h9 (by rw [h3, show a = 1000000 by omega])
theorem all_fail {sp : Nat → Nat → Nat → Nat → Int32} {cs : Nat → Nat → Int32} {L S : Nat → Int32} {E G i nd : Nat} {P : Prop} (h : cok sp cs L S E G i nd) (h9 : L (20 * i + nd) ≠ nI 1000000) (hf : ∀ e g : Nat, e < E + 1 → g < G → fails sp cs L i nd e g) : P := by
  rcases h.2 with q | ⟨e, g, v, q1, q2, q3, q4, q5, q6⟩
  · exact absurd q h9
  · exact absurd q5 (hf e g (by omega) q2 v q3 q4)
theorem fail_lt {sp : Nat → Nat → Nat → Nat → Int32} {cs : Nat → Nat → Int32} {L : Nat → Int32} {i nd e g : Nat} (h : sp i nd e g < 0) : fails sp cs L i nd e g := fun v hv e1 => by
  rw [e1] at h; exact absurd h (nI_pos (by omega))
theorem fail_ne {sp : Nat → Nat → Nat → Nat → Int32} {cs : Nat → Nat → Int32} {L : Nat → Int32} {i nd e g t : Nat} (ht : t < 20) (et : sp i nd e g = nI t) (h : ¬ cs e g + L (20 * (i + 1) + t) = L (20 * i + nd)) : fails sp cs L i nd e g := fun v hv e1 => by
  have : v = t := (nI_eq (by omega) (by omega)).mp (e1.symm.trans et)
  rw [this]; exact h
theorem F_up {P : Nat → Nat → Prop} {e G : Nat} (h : ∀ a b : Nat, a < e → b < G → P a b) (h2 : ∀ b : Nat, b < G → P e b) : ∀ a b : Nat, a < e + 1 → b < G → P a b := fun a b ha hb => by
  rcases Nat.lt_or_ge a e with q | q
  · exact h a b q hb
  · rw [show a = e by omega]; exact h2 b hb
theorem go_nn {f : Nat → Int32} {i : Nat} (h : ∃ e : Nat, e ≤ 10 ∧ f i = evl e) (c : ¬ f i < 0) : ∃ j : Nat, j < 10 ∧ f i = nI j := by
  obtain ⟨e, he, ee⟩ := h
  cases e with
  | zero => rw [ee] at c; exact absurd (by decide) c
  | succ j => exact ⟨j, by omega, ee⟩
theorem go_nn2 {f : Nat → Int32} {i : Nat} (h : ∃ e : Nat, e ≤ 10 ∧ f i = evl e) (c : 0 ≤ f i) : ∃ j : Nat, j < 10 ∧ f i = nI j := go_nn h (Int32.not_lt.mpr c)
theorem nb_at {f : Nat → Int32} {i : Nat} (h : nbOK f) (hi : i < 60) : ∃ v : Nat, v < 20 ∧ f (nI i).toNatClampNeg = nI v := by
  rw [nI_clamp (by omega)]; exact h i hi
theorem arg_in {x : Int32} {m9 : Nat} (h0 : ¬ x < 0) (h1 : ¬ nI m9 ≤ x) : ∃ i : Nat, i < m9 ∧ x = nI i := by
  obtain ⟨j, hj, rfl⟩ := nI_of h0
  exact ⟨j, nk_lt rfl h1 (by omega), rfl⟩
theorem base1 {L S : Nat → Int32} {m9 n : Nat} (h : ∀ nd : Nat, nd < n → okL L S (20 * m9 + nd)) {L2 S2 : Nat → Int32} (o : offK L S L2 S2 (20 * m9 + n)) : ∀ nd : Nat, nd < n → okL L2 S2 (20 * m9 + nd) := fun nd hn => okL_off (h nd hn) o (by omega)
theorem okL_new {L S : Nat → Int32} {k : Nat} : okL (upd L k 1000000) (upd S k 1000000) k := ⟨1000000, 1000000, by omega, by omega, upd_self, upd_self⟩
theorem okL_new0 {L S : Nat → Int32} {k : Nat} : okL (upd L k 0) (upd S k 1000000) k := ⟨0, 1000000, by omega, by omega, upd_self, upd_self⟩
theorem LV_base {sp : Nat → Nat → Nat → Nat → Int32} {cs : Nat → Nat → Int32} {L S : Nat → Int32} {E G m9 : Nat} (h : ∀ nd : Nat, nd < 20 → okL L S (20 * m9 + nd)) : LV sp cs L S E G m9 m9 := ⟨h, fun i h1 h2 => by omega⟩
theorem LV_at {sp : Nat → Nat → Nat → Nat → Int32} {cs : Nat → Nat → Int32} {L S : Nat → Int32} {E G m9 i t : Nat} (h : LV sp cs L S E G m9 (i + 1)) (hi : i < m9) (ht : t < 20) : okL L S (20 * (i + 1) + t) := by
  rcases Nat.lt_or_ge (i + 1) m9 with q | q
  · exact (h.2 (i + 1) (Nat.le_refl _) q t ht).1
  · rw [show i + 1 = m9 by omega]; exact h.1 t ht
theorem LV_cell {sp : Nat → Nat → Nat → Nat → Int32} {cs : Nat → Nat → Int32} {L S : Nat → Int32} {E G m9 i t : Nat} (h : LV sp cs L S E G m9 0) (hi : i < m9) (ht : t < 20) : cok sp cs L S E G i t := h.2 i (Nat.zero_le _) hi t ht
def bOK (f : Nat → Int32) : Prop := ∀ i : Nat, f i = 0 ∨ f i = 1
theorem bOK_upd {f : Nat → Int32} {k : Nat} {x : Int32} (h : bOK f) (hx : x = 0 ∨ x = 1) : bOK (upd f k (vp_nar .boolean x)) := by
  intro i
  unfold upd
  by_cases e : i = k
  · rw [if_pos e]
    rcases hx with rfl | rfl
    · exact Or.inl (by decide)
    · exact Or.inr (by decide)
  · rw [if_neg e]; exact h i
/-- how many of the first k are not out yet -/
def cz (f : Nat → Int32) : Nat → Nat
  | 0 => 0
  | k + 1 => cz f k + (if f k = 0 then 1 else 0)
theorem cz_le {f g : Nat → Int32} (h : ∀ i : Nat, g i = 0 → f i = 0) : ∀ k : Nat, cz g k ≤ cz f k
  | 0 => Nat.le_refl _
  | k + 1 => by
    have q := cz_le h k
    unfold cz
    by_cases e : g k = 0
    · rw [if_pos e, if_pos (h k e)]; omega
    · rw [if_neg e]; omega
theorem cz_lt {f g : Nat → Int32} {j : Nat} (h : ∀ i : Nat, g i = 0 → f i = 0) (h1 : f j = 0) (h2 : ¬ g j = 0) : ∀ k : Nat, j < k → cz g k < cz f k
  | 0, hj => absurd hj (Nat.not_lt_zero _)
  | k + 1, hj => by
    unfold cz
    rcases Nat.lt_or_ge j k with q | q
    · have := cz_lt h h1 h2 k q
      by_cases e : g k = 0
      · rw [if_pos e, if_pos (h k e)]; omega
      · rw [if_neg e]; omega
    · have ejk : j = k := by omega
      subst ejk
      have := cz_le h j
      rw [if_pos h1, if_neg h2]; omega
theorem nar1 : vp_nar .boolean 1 = 1 := by decide
theorem nar0 : vp_nar .boolean 0 = 0 := by decide
/-- a node set to 1: no node comes back -/
theorem set1 {f : Nat → Int32} {k : Nat} : ∀ i : Nat, upd f (nI k).toNatClampNeg (vp_nar .boolean 1) i = 0 → f i = 0 := by
  intro i h
  unfold upd at h
  by_cases e : i = (nI k).toNatClampNeg
  · rw [if_pos e, nar1] at h; exact absurd h (by decide)
  · rw [if_neg e] at h; exact h
theorem set1_lt {f : Nat → Int32} {k : Nat} (hk : k < 20) (h0 : f k = 0) : cz (upd f (nI k).toNatClampNeg (vp_nar .boolean 1)) 20 < cz f 20 := by
  refine cz_lt (j := k) set1 h0 ?_ 20 hk
  rw [nI_clamp (by omega), upd_self, nar1]
  decide
theorem set1_le {f : Nat → Int32} {k : Nat} : cz (upd f (nI k).toNatClampNeg (vp_nar .boolean 1)) 20 ≤ cz f 20 := cz_le set1 20
theorem set0_le {f : Nat → Int32} {k : Nat} (hk : k < 20) (h0 : f k = 0) : cz (upd f (nI k).toNatClampNeg (vp_nar .boolean 0)) 20 ≤ cz f 20 := by
  refine cz_le (fun i h => ?_) 20
  rw [nI_clamp (by omega)] at h
  unfold upd at h
  by_cases e : i = k
  · rw [e]; exact h0
  · rw [if_neg e] at h; exact h
theorem cz_20 {f : Nat → Int32} : ∀ k : Nat, cz f k ≤ k
  | 0 => Nat.le_refl _
  | k + 1 => by
    have := cz_20 (f := f) k
    unfold cz
    split <;> omega
def mz (mo : Int32) (f : Nat → Int32) : Nat := if mo = 0 then 0 else cz f 20 + 1
theorem mz_f {mo : Int32} {f : Nat → Int32} {c k : Nat} (h : mo = 0 ∨ cz f 20 < c) (hf : c + 1 < k + 1) : mz mo f < k := by
  unfold mz
  by_cases e : mo = 0
  · rw [if_pos e]; omega
  · rw [if_neg e]
    have := h.resolve_left e
    omega
def okS (m9 : Nat) (x : Int32) : Prop := x = -1 ∨ ∃ v : Nat, v ≤ m9 ∧ x = nI v
theorem okS_nn {m9 : Nat} {x : Int32} (h : okS m9 x) (c : 0 ≤ x) : ∃ v : Nat, v ≤ m9 ∧ x = nI v := by
  rcases h with h | h
  · rw [h] at c; exact absurd c (by decide)
  · exact h
theorem okS_le {m9 k : Nat} {x : Int32} (h : ∃ v : Nat, v ≤ k ∧ x = nI v) (hk : k ≤ m9) : okS m9 x := by
  obtain ⟨v, h1, h2⟩ := h
  exact Or.inr ⟨v, by omega, h2⟩
/-! WAYS through a row of steps: costs and codes. A step's label l is below 440 (40 * end + go), a way's code is its labels as a number of base 440: ways of one length come in the order of their codes. -/
def PbW : Type := (Nat → Nat → Nat → Option Nat) × (Nat → Nat) × (Nat → Nat → Option Nat)
def PbW.st (p : PbW) : Nat → Nat → Nat → Option Nat := Prod.fst p
def PbW.cs (p : PbW) : Nat → Nat := Prod.fst (Prod.snd p)
def PbW.tm (p : PbW) : Nat → Nat → Option Nat := Prod.snd (Prod.snd p)
def Way (p : PbW) : Nat → Nat → Nat → Nat → Prop
  | 0, v, c, k => v = 0 ∧ c = 0 ∧ k = 0
  | i + 1, w, c, k => ∃ v c0 k0 l : Nat, Way p i v c0 k0 ∧ l < 440 ∧ p.st i v l = some w ∧ c = c0 + p.cs l ∧ k = k0 * 440 + l
set_option maxRecDepth 20000 in
theorem dig_eq {M a b l m : Nat} (hl : l < M) (hm : m < M) (h : a * M + l = b * M + m) : a = b ∧ l = m := by
  have e1 : l = m := by
    have h1 : (a * M + l) % M = l := by rw [Nat.mul_comm, Nat.mul_add_mod, Nat.mod_eq_of_lt hl]
    have h2 : (b * M + m) % M = m := by rw [Nat.mul_comm, Nat.mul_add_mod, Nat.mod_eq_of_lt hm]
    rw [← h1, h, h2]
  subst e1
  refine ⟨Nat.eq_of_mul_eq_mul_right (Nat.lt_of_le_of_lt (Nat.zero_le _) hl) (Nat.add_right_cancel h), rfl⟩
set_option maxRecDepth 20000 in
theorem dig_lt {M a b l m : Nat} (hl : l < M) (h : a < b) : a * M + l < b * M + m := by
  have h1 : (a + 1) * M ≤ b * M := Nat.mul_le_mul_right M h
  rw [Nat.add_mul, Nat.one_mul] at h1
  omega
set_option maxRecDepth 20000 in
theorem dig_le {M a b l m : Nat} (hm : m < M) (h : a * M + l ≤ b * M + m) : a < b ∨ (a = b ∧ l ≤ m) := by
  rcases Nat.lt_trichotomy a b with q | q | q
  · exact Or.inl q
  · subst q; exact Or.inr ⟨rfl, by omega⟩
  · have := dig_lt (m := l) hm q; omega
set_option maxRecDepth 20000 in
theorem Way_det {p : PbW} : ∀ {i v w c d k : Nat}, Way p i v c k → Way p i w d k → v = w ∧ c = d
  | 0, _, _, _, _, _, h1, h2 => ⟨h1.1.trans h2.1.symm, h1.2.1.trans h2.2.1.symm⟩
  | i + 1, _, _, _, _, _, h1, h2 => by
    obtain ⟨v1, c1, k1, l1, a1, a2, a3, a4, a5⟩ := h1
    obtain ⟨v2, c2, k2, l2, b1, b2, b3, b4, b5⟩ := h2
    obtain ⟨e1, e2⟩ := dig_eq a2 b2 (a5.symm.trans b5)
    subst e1 e2
    obtain ⟨e3, e4⟩ := Way_det a1 b1
    subst e3 e4
    exact ⟨Option.some.inj (a3.symm.trans b3), a4.trans b4.symm⟩
set_option maxRecDepth 20000 in
theorem Way_cost {p : PbW} {C : Nat} (hC : ∀ l : Nat, l < 440 → p.cs l ≤ C) : ∀ {i v c k : Nat}, Way p i v c k → c ≤ C * i
  | 0, _, _, _, h => by rw [h.2.1]; exact Nat.zero_le _
  | i + 1, _, _, _, h => by
    obtain ⟨v, c0, k0, l, h1, h2, h3, rfl, h5⟩ := h
    have := Way_cost hC h1
    have := hC l h2
    rw [Nat.mul_succ]; omega
set_option maxRecDepth 20000 in
theorem Way_node {p : PbW} (hn : ∀ i v l w : Nat, p.st i v l = some w → w < 20) : ∀ {i v c k : Nat}, Way p i v c k → v < 20
  | 0, _, _, _, h => by rw [h.1]; decide
  | i + 1, _, _, _, h => by
    obtain ⟨v, c0, k0, l, h1, h2, h3, h4, h5⟩ := h
    exact hn _ _ _ _ h3
/- the least cost b with its first code k, and the least cost x of all others; F stands for none -/
def MF (F : Nat) (S : Nat → Nat → Prop) (b x k : Nat) : Prop := (b = F ∧ x = F ∧ ∀ s j : Nat, ¬ S s j) ∨ (b < F ∧ S b k ∧ (∀ s j : Nat, S s j → b < s ∨ (b = s ∧ k ≤ j)) ∧ ((x = F ∧ ∀ s j : Nat, S s j → j = k) ∨ (x < F ∧ (∃ j : Nat, j ≠ k ∧ S x j) ∧ ∀ s j : Nat, S s j → j ≠ k → x ≤ s)))
/- S and the ways of T with one step more -/
def addW (S T : Nat → Nat → Prop) (f : Nat → Nat) (c : Nat) (s j : Nat) : Prop := S s j ∨ ∃ s0 j0 : Nat, T s0 j0 ∧ s = s0 + c ∧ j = f j0
set_option maxRecDepth 20000 in
theorem MF_le {F : Nat} {S : Nat → Nat → Prop} {b x k : Nat} (h : MF F S b x k) : b ≤ x ∧ x ≤ F := by
  rcases h with ⟨h1, h2, _⟩ | ⟨h1, h2, h3, h4⟩
  · omega
  · rcases h4 with ⟨h5, _⟩ | ⟨h5, ⟨j, h6, h7⟩, _⟩
    · omega
    · rcases h3 x j h7 with q | q <;> omega
set_option maxRecDepth 20000 in
theorem MF_yes {F : Nat} {S T : Nat → Nat → Prop} {f : Nat → Nat} {b x k b1 x1 k1 c : Nat} (hS : MF F S b x k) (hT : MF F T b1 x1 k1) (hb1 : b1 < F) (h1 : b1 + c < F) (h2 : x1 < F → x1 + c < F) (hf : ∀ a d : Nat, f a = f d → a = d) (hm : ∀ a d : Nat, a ≤ d → f a ≤ f d) (hd : ∀ s j s0 j0 : Nat, S s j → T s0 j0 → j ≠ f j0) (hlt : b1 + c < b ∨ (b1 + c = b ∧ f k1 < k)) : MF F (addW S T f c) (b1 + c) (if x1 < F then min b (x1 + c) else b) (f k1) := by
  have hT2 := hT
  rcases hT with ⟨z, _⟩ | ⟨_, t1, t2, t3⟩
  · omega
  have hmin : ∀ s j : Nat, addW S T f c s j → b1 + c < s ∨ (b1 + c = s ∧ f k1 ≤ j) := by
    intro s j h
    rcases h with h | ⟨s0, j0, h3, rfl, rfl⟩
    · rcases hS with ⟨_, _, q⟩ | ⟨_, _, q, _⟩
      · exact absurd h (q s j)
      · rcases q s j h with r | r <;> rcases hlt with y | y <;> omega
    · rcases t2 s0 j0 h3 with r | ⟨r1, r2⟩
      · left; omega
      · right
        have := hm _ _ r2
        omega
  have hSb : ∀ s j : Nat, S s j → b ≤ s := by
    intro s j h
    rcases hS with ⟨_, _, q⟩ | ⟨_, _, q, _⟩
    · exact absurd h (q s j)
    · rcases q s j h with r | r <;> omega
  have hTx : ∀ s0 j0 : Nat, T s0 j0 → j0 ≠ k1 → x1 < F ∧ x1 ≤ s0 := by
    intro s0 j0 h3 hne
    rcases t3 with ⟨_, q⟩ | ⟨q1, _, q2⟩
    · exact absurd (q s0 j0 h3) hne
    · exact ⟨q1, q2 s0 j0 h3 hne⟩
  have hbF : b ≤ F := (Nat.le_trans (MF_le hS).1 (MF_le hS).2)
  refine Or.inr ⟨h1, Or.inr ⟨b1, k1, t1, rfl, rfl⟩, hmin, ?_⟩
  have hoth : ∀ s j : Nat, addW S T f c s j → j ≠ f k1 → (if x1 < F then min b (x1 + c) else b) ≤ s := by
    intro s j h hne
    rcases h with h | ⟨s0, j0, h3, rfl, rfl⟩
    · have := hSb s j h
      split <;> omega
    · have hj : j0 ≠ k1 := fun z => hne (by rw [z])
      obtain ⟨q1, q2⟩ := hTx s0 j0 h3 hj
      rw [if_pos q1]; omega
  by_cases hx : (if x1 < F then min b (x1 + c) else b) < F
  · refine Or.inr ⟨hx, ?_, hoth⟩
    -- the second is attained
    by_cases hx1 : x1 < F
    · rw [if_pos hx1] at hx ⊢
      rcases Nat.lt_or_ge (x1 + c) b with q | q
      · rw [Nat.min_eq_right (by omega)]
        rcases t3 with ⟨q1, _⟩ | ⟨_, ⟨j, q1, q2⟩, _⟩
        · omega
        · exact ⟨f j, fun z => q1 (hf _ _ z), Or.inr ⟨x1, j, q2, rfl, rfl⟩⟩
      · rw [Nat.min_eq_left q] at hx ⊢
        rcases hS with ⟨q1, _⟩ | ⟨_, q1, _⟩
        · omega
        · exact ⟨k, hd b k b1 k1 q1 t1, Or.inl q1⟩
    · rw [if_neg hx1] at hx ⊢
      rcases hS with ⟨q1, _⟩ | ⟨_, q1, _⟩
      · omega
      · exact ⟨k, hd b k b1 k1 q1 t1, Or.inl q1⟩
  · refine Or.inl ⟨?_, ?_⟩
    · split at hx
      · rename_i q; have := h2 q; rw [if_pos q]; omega
      · rename_i q; rw [if_neg q]; omega
    · intro s j h
      by_cases hne : j = f k1
      · exact hne
      · exfalso
        have h5 := hoth s j h hne
        rcases h with h | ⟨s0, j0, h3, rfl, rfl⟩
        · rcases hS with ⟨_, _, q⟩ | ⟨q, _, _, _⟩
          · exact q s j h
          · split at hx <;> omega
        · have hj : j0 ≠ k1 := fun z => hne (by rw [z])
          obtain ⟨q1, q2⟩ := hTx s0 j0 h3 hj
          have := h2 q1
          rw [if_pos q1] at hx
          omega
set_option maxRecDepth 20000 in
theorem MF_no {F : Nat} {S T : Nat → Nat → Prop} {f : Nat → Nat} {b x k b1 x1 k1 c : Nat} (hS : MF F S b x k) (hT : MF F T b1 x1 k1) (hb1 : b1 < F) (h1 : b1 + c < F) (h2 : x1 < F → x1 + c < F) (hf : ∀ a d : Nat, f a = f d → a = d) (hm : ∀ a d : Nat, a ≤ d → f a ≤ f d) (hd : ∀ s j s0 j0 : Nat, S s j → T s0 j0 → j ≠ f j0) (hlt : ¬ (b1 + c < b ∨ (b1 + c = b ∧ f k1 < k))) : MF F (addW S T f c) b (if x1 < F then min (min x (b1 + c)) (x1 + c) else min x (b1 + c)) k := by
  rcases hS with ⟨z, _⟩ | ⟨s1, s2, s3, s4⟩
  · omega
  have hTl := MF_le hT
  rcases hT with ⟨z, _⟩ | ⟨_, t1, t2, t3⟩
  · omega
  have ex : (if x1 < F then min (min x (b1 + c)) (x1 + c) else min x (b1 + c)) = min x (b1 + c) := by
    split
    · omega
    · rfl
  rw [ex]
  have hTk : ∀ s0 j0 : Nat, T s0 j0 → b1 ≤ s0 := by
    intro s0 j0 h
    rcases t2 s0 j0 h with r | r <;> omega
  refine Or.inr ⟨s1, Or.inl s2, ?_, ?_⟩
  · intro s j h
    rcases h with h | ⟨s0, j0, h3, rfl, rfl⟩
    · exact s3 s j h
    · rcases t2 s0 j0 h3 with r | ⟨r1, r2⟩
      · left; omega
      · have h7 := hm _ _ r2
        rcases Nat.lt_or_ge b (s0 + c) with y | y
        · exact Or.inl y
        · clear ex s4 t3
          have e8 : b1 + c = b := by omega
          have e9 : ¬ f k1 < k := fun z => hlt (Or.inr ⟨e8, z⟩)
          exact Or.inr ⟨by omega, by omega⟩
  · refine Or.inr ⟨by omega, ?_, ?_⟩
    · rcases Nat.lt_or_ge x (b1 + c) with y | y
      · rw [Nat.min_eq_left (by omega)]
        rcases s4 with ⟨q, _⟩ | ⟨_, ⟨j, q1, q2⟩, _⟩
        · omega
        · exact ⟨j, q1, Or.inl q2⟩
      · rw [Nat.min_eq_right y]
        exact ⟨f k1, fun z => hd b k b1 k1 s2 t1 z.symm, Or.inr ⟨b1, k1, t1, rfl, rfl⟩⟩
    · intro s j h hne
      rcases h with h | ⟨s0, j0, h3, rfl, rfl⟩
      · rcases s4 with ⟨_, q⟩ | ⟨_, _, q⟩
        · exact absurd (q s j h) hne
        · have := q s j h hne; omega
      · have := hTk s0 j0 h3; omega
set_option maxRecDepth 20000 in
theorem MF_uniq {F : Nat} {S : Nat → Nat → Prop} {b x k b2 x2 k2 : Nat} (hdet : ∀ s t j : Nat, S s j → S t j → s = t) (h : MF F S b x k) (g : MF F S b2 x2 k2) : b = b2 ∧ x = x2 ∧ (b < F → k = k2) := by
  rcases h with ⟨h1, h2, h3⟩ | ⟨h1, h2, h3, h4⟩
  · rcases g with ⟨g1, g2, g3⟩ | ⟨g1, g2, g3, g4⟩
    · exact ⟨by omega, by omega, fun z => by omega⟩
    · exact absurd g2 (h3 _ _)
  · rcases g with ⟨g1, g2, g3⟩ | ⟨g1, g2, g3, g4⟩
    · exact absurd h2 (g3 _ _)
    · have e : b = b2 ∧ k = k2 := by
        rcases h3 _ _ g2 with q | q <;> rcases g3 _ _ h2 with r | r <;> omega
      obtain ⟨e1, e2⟩ := e
      subst e1 e2
      refine ⟨rfl, ?_, fun _ => rfl⟩
      rcases h4 with ⟨q1, q2⟩ | ⟨q1, ⟨j, q2, q3⟩, q4⟩
      · rcases g4 with ⟨r1, _⟩ | ⟨_, ⟨j2, r2, r3⟩, _⟩
        · omega
        · exact absurd (q2 _ _ r3) r2
      · rcases g4 with ⟨_, r1⟩ | ⟨_, ⟨j2, r2, r3⟩, r4⟩
        · exact absurd (r1 _ _ q3) q2
        · have := q4 _ _ r3 r2
          have := r4 _ _ q3 q2
          omega
set_option maxRecDepth 20000 in
theorem MF_congr {F : Nat} {S T : Nat → Nat → Prop} {b x k : Nat} (h : MF F S b x k) (e : ∀ s j : Nat, S s j ↔ T s j) : MF F T b x k := by
  have : S = T := funext fun s => funext fun j => propext (e s j)
  rw [← this]; exact h
/-! completions: what may follow a node, with the last end line; their codes go on with the ways' -/
def Qb (r : Nat) : Nat := 440 ^ r * 16
set_option maxRecDepth 20000 in
theorem Qb_s (r : Nat) : Qb (r + 1) = 440 * Qb r := by
  unfold Qb
  rw [Nat.pow_succ, Nat.mul_comm (440 ^ r) 440, Nat.mul_assoc]
set_option maxRecDepth 20000 in
theorem Qb_pos (r : Nat) : 0 < Qb r := Nat.mul_pos (Nat.pow_pos (by decide)) (by decide)
def Cmp (p : PbW) : Nat → Nat → Nat → Nat → Nat → Prop
  | 0, _, v, s, k => k < 16 ∧ p.tm v k = some s
  | r + 1, i, v, s, k => ∃ l w s0 k0 : Nat, l < 440 ∧ p.st i v l = some w ∧ Cmp p r (i + 1) w s0 k0 ∧ s = s0 + p.cs l ∧ k = l * Qb r + k0
set_option maxRecDepth 20000 in
theorem Cmp_lt {p : PbW} : ∀ {r i v s k : Nat}, Cmp p r i v s k → k < Qb r
  | 0, _, _, _, _, h => h.1
  | r + 1, _, _, _, _, h => by
    obtain ⟨l, w, s0, k0, h1, h2, h3, h4, rfl⟩ := h
    have h5 := Cmp_lt h3
    have h6 : (l + 1) * Qb r ≤ 440 * Qb r := Nat.mul_le_mul_right _ h1
    rw [Qb_s]
    rw [Nat.add_mul, Nat.one_mul] at h6
    omega
set_option maxRecDepth 20000 in
theorem Cmp_det {p : PbW} : ∀ {r i v s t k : Nat}, Cmp p r i v s k → Cmp p r i v t k → s = t
  | 0, _, _, _, _, _, h, g => Option.some.inj (h.2.symm.trans g.2)
  | r + 1, _, _, _, _, _, h, g => by
    obtain ⟨l, w, s0, k0, h1, h2, h3, rfl, h5⟩ := h
    obtain ⟨l2, w2, s2, k2, g1, g2, g3, rfl, g5⟩ := g
    obtain ⟨e1, e2⟩ := dig_eq (Cmp_lt h3) (Cmp_lt g3) (h5.symm.trans g5)
    subst e1 e2
    have e3 := Option.some.inj (h2.symm.trans g2)
    subst e3
    rw [Cmp_det h3 g3]
/- all ways and what may follow them, cut at step i -/
def Ful (p : PbW) (r i : Nat) (s T : Nat) : Prop := ∃ v s0 k0 s1 k1 : Nat, Way p i v s0 k0 ∧ Cmp p r i v s1 k1 ∧ s = s0 + s1 ∧ T = k0 * Qb r + k1
set_option maxRecDepth 20000 in
theorem Ful_step {p : PbW} {r i s T : Nat} : Ful p (r + 1) i s T ↔ Ful p r (i + 1) s T := by
  constructor
  · rintro ⟨v, s0, k0, s1, k1, h1, ⟨l, w, s2, k2, g1, g2, g3, rfl, rfl⟩, rfl, rfl⟩
    refine ⟨w, s0 + p.cs l, k0 * 440 + l, s2, k2, ⟨v, s0, k0, l, h1, g1, g2, rfl, rfl⟩, g3, by omega, ?_⟩
    rw [Qb_s, Nat.add_mul, Nat.mul_assoc]; omega
  · rintro ⟨w, s0, k0, s2, k2, ⟨v, s1, k1, l, h1, g1, g2, rfl, rfl⟩, g3, rfl, rfl⟩
    refine ⟨v, s1, k1, s2 + p.cs l, l * Qb r + k2, h1, ⟨l, w, s2, k2, g1, g2, g3, rfl, rfl⟩, by omega, ?_⟩
    rw [Qb_s, Nat.add_mul, Nat.mul_assoc]; omega
set_option maxRecDepth 20000 in
theorem Ful_all {p : PbW} : ∀ {r i s T : Nat}, Ful p r i s T ↔ Ful p 0 (i + r) s T
  | 0, _, _, _ => Iff.rfl
  | r + 1, i, s, T => by
    rw [Ful_step, Ful_all (r := r) (i := i + 1), show i + 1 + r = i + (r + 1) by omega]
set_option maxRecDepth 20000 in
theorem Ful_start {p : PbW} {m s T : Nat} : Ful p m 0 s T ↔ Cmp p m 0 0 s T := by
  constructor
  · rintro ⟨v, s0, k0, s1, k1, ⟨rfl, rfl, rfl⟩, h2, rfl, rfl⟩
    rw [Nat.zero_mul, Nat.zero_add, Nat.zero_add]; exact h2
  · intro h
    exact ⟨0, 0, 0, s, T, ⟨rfl, rfl, rfl⟩, h, by omega, by omega⟩
set_option maxRecDepth 20000 in
theorem Ful_det {p : PbW} {m s t T : Nat} (h : Ful p 0 m s T) (g : Ful p 0 m t T) : s = t := by
  have h1 : Cmp p m 0 0 s T := Ful_start.mp (Ful_all.mpr (by rw [Nat.zero_add]; exact h))
  have g1 : Cmp p m 0 0 t T := Ful_start.mp (Ful_all.mpr (by rw [Nat.zero_add]; exact g))
  exact Cmp_det h1 g1
/- the first label that attains the least cost leads the first of the cheapest -/
set_option maxRecDepth 20000 in
theorem greedy {p : PbW} {F r i v b x k : Nat} (L X : Nat → Nat) (K : Nat → Nat) (h : MF F (Cmp p (r + 1) i v) b x k) (hb : b < F) (hw : ∀ w : Nat, w < 20 → MF F (Cmp p r (i + 1) w) (L w) (X w) (K w)) (hn : ∀ i v l w : Nat, p.st i v l = some w → w < 20) {l w : Nat} (hl : l < 440) (hst : p.st i v l = some w) (hat : p.cs l + L w = b) (hfirst : ∀ l2 w2 : Nat, l2 < l → p.st i v l2 = some w2 → ¬ p.cs l2 + L w2 = b) : k = l * Qb r + K w ∧ L w < F := by
  rcases h with ⟨z, _⟩ | ⟨_, ⟨l0, w0, s0, k0, g1, g2, g3, g4, g5⟩, h3, _⟩
  · omega
  have hLF : ∀ w2 s2 k2 : Nat, w2 < 20 → Cmp p r (i + 1) w2 s2 k2 → L w2 < F ∧ L w2 ≤ s2 := by
    intro w2 s2 k2 h20 hc
    rcases hw w2 h20 with ⟨_, _, q⟩ | ⟨q1, _, q2, _⟩
    · exact absurd hc (q _ _)
    · refine ⟨q1, ?_⟩
      rcases q2 _ _ hc with r | r <;> omega
  have hLc : ∀ w2 : Nat, w2 < 20 → L w2 < F → Cmp p r (i + 1) w2 (L w2) (K w2) := by
    intro w2 h20 hf
    rcases hw w2 h20 with ⟨q, _⟩ | ⟨_, q, _⟩
    · omega
    · exact q
  have hge : ∀ l2 w2 : Nat, l2 < 440 → p.st i v l2 = some w2 → L w2 < F → b < p.cs l2 + L w2 ∨ (b = p.cs l2 + L w2 ∧ k ≤ l2 * Qb r + K w2) := by
    intro l2 w2 h1 h2 hf
    have := h3 _ _ ⟨l2, w2, L w2, K w2, h1, h2, hLc w2 (hn _ _ _ _ h2) hf, rfl, rfl⟩
    omega
  have h20 := hn _ _ _ _ g2
  obtain ⟨q1, q2⟩ := hLF w0 s0 k0 h20 g3
  have q3 := hge l0 w0 g1 g2 q1
  have e0 : p.cs l0 + L w0 = b := by omega
  have hle : l ≤ l0 := by
    rcases Nat.lt_or_ge l0 l with z | z
    · exact absurd e0 (hfirst l0 w0 z g2)
    · exact z
  have hLwF : L w < F := by omega
  have q4 := hge l w hl hst hLwF
  have q5 : k ≤ l * Qb r + K w := by omega
  have hk0 := Cmp_lt g3
  have hKw := Cmp_lt (hLc w (hn _ _ _ _ hst) hLwF)
  rw [g5] at q5
  have e1 : l0 = l := by
    rcases dig_le hKw q5 with z | z <;> omega
  subst e1
  have e2 : w0 = w := Option.some.inj (g2.symm.trans hst)
  subst e2
  refine ⟨?_, hLwF⟩
  rw [g5]
  have q6 : k0 ≤ K w0 := by omega
  have q7 : K w0 ≤ k0 := by
    rcases hw w0 h20 with ⟨q, _⟩ | ⟨_, _, q, _⟩
    · omega
    · rcases q _ _ g3 with r | r <;> omega
  omega
/-! one level forward: the ways to w whose last step (v, l) has been taken up: v below nd, or v = nd and l below lc -/
def WD (p : PbW) (i nd lc w : Nat) (s j : Nat) : Prop := ∃ v c0 k0 l : Nat, Way p i v c0 k0 ∧ l < 440 ∧ p.st i v l = some w ∧ s = c0 + p.cs l ∧ j = k0 * 440 + l ∧ (v < nd ∨ (v = nd ∧ l < lc))
set_option maxRecDepth 20000 in
theorem WD_0 {p : PbW} {i w s j : Nat} : ¬ WD p i 0 0 w s j := by
  rintro ⟨v, c0, k0, l, h1, h2, h3, h4, h5, h6⟩
  omega
set_option maxRecDepth 20000 in
theorem WD_all {p : PbW} {i w s j : Nat} (hn : ∀ v c k : Nat, Way p i v c k → v < 20) : WD p i 20 0 w s j ↔ Way p (i + 1) w s j := by
  constructor
  · rintro ⟨v, c0, k0, l, h1, h2, h3, h4, h5, h6⟩
    exact ⟨v, c0, k0, l, h1, h2, h3, h4, h5⟩
  · rintro ⟨v, c0, k0, l, h1, h2, h3, h4, h5⟩
    exact ⟨v, c0, k0, l, h1, h2, h3, h4, h5, Or.inl (hn v c0 k0 h1)⟩
set_option maxRecDepth 20000 in
theorem WD_next {p : PbW} {i nd w s j : Nat} : WD p i nd 440 w s j ↔ WD p i (nd + 1) 0 w s j := by
  constructor
  · rintro ⟨v, c0, k0, l, h1, h2, h3, h4, h5, h6⟩
    exact ⟨v, c0, k0, l, h1, h2, h3, h4, h5, Or.inl (by omega)⟩
  · rintro ⟨v, c0, k0, l, h1, h2, h3, h4, h5, h6⟩
    exact ⟨v, c0, k0, l, h1, h2, h3, h4, h5, by omega⟩
/- labels from a on up to b lead nowhere -/
set_option maxRecDepth 20000 in
theorem WD_skip {p : PbW} {i nd a b w s j : Nat} (hab : a ≤ b) (h : ∀ l : Nat, a ≤ l → l < b → p.st i nd l ≠ some w) : WD p i nd a w s j ↔ WD p i nd b w s j := by
  constructor
  · rintro ⟨v, c0, k0, l, h1, h2, h3, h4, h5, h6⟩
    exact ⟨v, c0, k0, l, h1, h2, h3, h4, h5, by omega⟩
  · rintro ⟨v, c0, k0, l, h1, h2, h3, h4, h5, h6⟩
    refine ⟨v, c0, k0, l, h1, h2, h3, h4, h5, ?_⟩
    rcases h6 with q | ⟨q1, q2⟩
    · exact Or.inl q
    · subst q1
      rcases Nat.lt_or_ge l a with z | z
      · exact Or.inr ⟨rfl, z⟩
      · exact absurd h3 (h l z q2)
/- a node that no way reaches adds nothing -/
set_option maxRecDepth 20000 in
theorem WD_none {p : PbW} {i nd a b w s j : Nat} (h : ∀ c k : Nat, ¬ Way p i nd c k) : WD p i nd a w s j ↔ WD p i nd b w s j := by
  constructor
  · rintro ⟨v, c0, k0, l, h1, h2, h3, h4, h5, h6⟩
    refine ⟨v, c0, k0, l, h1, h2, h3, h4, h5, ?_⟩
    rcases h6 with q | ⟨q1, q2⟩
    · exact Or.inl q
    · subst q1; exact absurd h1 (h _ _)
  · rintro ⟨v, c0, k0, l, h1, h2, h3, h4, h5, h6⟩
    refine ⟨v, c0, k0, l, h1, h2, h3, h4, h5, ?_⟩
    rcases h6 with q | ⟨q1, q2⟩
    · exact Or.inl q
    · subst q1; exact absurd h1 (h _ _)
set_option maxRecDepth 20000 in
theorem WD_add {p : PbW} {i nd l w s j : Nat} (hl : l < 440) (h : p.st i nd l = some w) : WD p i nd (l + 1) w s j ↔ addW (WD p i nd l w) (Way p i nd) (fun a => a * 440 + l) (p.cs l) s j := by
  constructor
  · rintro ⟨v, c0, k0, l2, h1, h2, h3, h4, h5, h6⟩
    rcases h6 with q | ⟨q1, q2⟩
    · exact Or.inl ⟨v, c0, k0, l2, h1, h2, h3, h4, h5, Or.inl q⟩
    · rcases Nat.lt_or_ge l2 l with z | z
      · exact Or.inl ⟨v, c0, k0, l2, h1, h2, h3, h4, h5, Or.inr ⟨q1, z⟩⟩
      · have e : l2 = l := by omega
        subst e q1
        exact Or.inr ⟨c0, k0, h1, h4, h5⟩
  · rintro (⟨v, c0, k0, l2, h1, h2, h3, h4, h5, h6⟩ | ⟨c0, k0, h1, h4, h5⟩)
    · exact ⟨v, c0, k0, l2, h1, h2, h3, h4, h5, by omega⟩
    · exact ⟨nd, c0, k0, l, h1, hl, h, h4, h5, Or.inr ⟨rfl, by omega⟩⟩
set_option maxRecDepth 20000 in
theorem WD_new {p : PbW} {i nd l w : Nat} (hl : l < 440) : ∀ s j s0 j0 : Nat, WD p i nd l w s j → Way p i nd s0 j0 → j ≠ j0 * 440 + l := by
  rintro s j s0 j0 ⟨v, c0, k0, l2, h1, h2, h3, h4, h5, h6⟩ h7 e
  obtain ⟨e1, e2⟩ := dig_eq h2 hl (h5.symm.trans e)
  subst e1 e2
  have := (Way_det h1 h7).1
  omega
set_option maxRecDepth 20000 in
theorem f440_inj {l : Nat} (hl : l < 440) : ∀ a d : Nat, a * 440 + l = d * 440 + l → a = d := fun a d h => by omega
set_option maxRecDepth 20000 in
theorem f440_mono {l : Nat} : ∀ a d : Nat, a ≤ d → a * 440 + l ≤ d * 440 + l := fun a d h => by omega
/-! the last end lines: the same with 16 -/
def FD (p : PbW) (m nd ec : Nat) (s T : Nat) : Prop := ∃ v c0 k0 e c : Nat, Way p m v c0 k0 ∧ e < 16 ∧ p.tm v e = some c ∧ s = c0 + c ∧ T = k0 * 16 + e ∧ (v < nd ∨ (v = nd ∧ e < ec))
set_option maxRecDepth 20000 in
theorem FD_0 {p : PbW} {m s T : Nat} : ¬ FD p m 0 0 s T := by
  rintro ⟨v, c0, k0, e, c, h1, h2, h3, h4, h5, h6⟩
  omega
set_option maxRecDepth 20000 in
theorem FD_all {p : PbW} {m s T : Nat} (hn : ∀ v c k : Nat, Way p m v c k → v < 20) : FD p m 20 0 s T ↔ Ful p 0 m s T := by
  constructor
  · rintro ⟨v, c0, k0, e, c, h1, h2, h3, h4, h5, h6⟩
    exact ⟨v, c0, k0, c, e, h1, ⟨h2, h3⟩, h4, by rw [h5]; rfl⟩
  · rintro ⟨v, c0, k0, c, e, h1, ⟨h2, h3⟩, h4, h5⟩
    exact ⟨v, c0, k0, e, c, h1, h2, h3, h4, by rw [h5]; rfl, Or.inl (hn v c0 k0 h1)⟩
set_option maxRecDepth 20000 in
theorem FD_next {p : PbW} {m nd s T : Nat} : FD p m nd 16 s T ↔ FD p m (nd + 1) 0 s T := by
  constructor
  · rintro ⟨v, c0, k0, e, c, h1, h2, h3, h4, h5, h6⟩
    exact ⟨v, c0, k0, e, c, h1, h2, h3, h4, h5, Or.inl (by omega)⟩
  · rintro ⟨v, c0, k0, e, c, h1, h2, h3, h4, h5, h6⟩
    exact ⟨v, c0, k0, e, c, h1, h2, h3, h4, h5, by omega⟩
set_option maxRecDepth 20000 in
theorem FD_skip {p : PbW} {m nd a b s T : Nat} (hab : a ≤ b) (h : (∀ c k : Nat, ¬ Way p m nd c k) ∨ ∀ e : Nat, a ≤ e → e < b → p.tm nd e = none) : FD p m nd a s T ↔ FD p m nd b s T := by
  constructor
  · rintro ⟨v, c0, k0, e, c, h1, h2, h3, h4, h5, h6⟩
    exact ⟨v, c0, k0, e, c, h1, h2, h3, h4, h5, by omega⟩
  · rintro ⟨v, c0, k0, e, c, h1, h2, h3, h4, h5, h6⟩
    refine ⟨v, c0, k0, e, c, h1, h2, h3, h4, h5, ?_⟩
    rcases h6 with q | ⟨q1, q2⟩
    · exact Or.inl q
    · subst q1
      rcases Nat.lt_or_ge e a with z | z
      · exact Or.inr ⟨rfl, z⟩
      · rcases h with h | h
        · exact absurd h1 (h _ _)
        · rw [h e z q2] at h3; cases h3
set_option maxRecDepth 20000 in
theorem FD_add {p : PbW} {m nd e c s T : Nat} (he : e < 16) (h : p.tm nd e = some c) : FD p m nd (e + 1) s T ↔ addW (FD p m nd e) (Way p m nd) (fun a => a * 16 + e) c s T := by
  constructor
  · rintro ⟨v, c0, k0, e2, c2, h1, h2, h3, h4, h5, h6⟩
    rcases h6 with q | ⟨q1, q2⟩
    · exact Or.inl ⟨v, c0, k0, e2, c2, h1, h2, h3, h4, h5, Or.inl q⟩
    · rcases Nat.lt_or_ge e2 e with z | z
      · exact Or.inl ⟨v, c0, k0, e2, c2, h1, h2, h3, h4, h5, Or.inr ⟨q1, z⟩⟩
      · have e9 : e2 = e := by omega
        subst e9 q1
        have e8 := Option.some.inj (h3.symm.trans h)
        subst e8
        exact Or.inr ⟨c0, k0, h1, h4, h5⟩
  · rintro (⟨v, c0, k0, e2, c2, h1, h2, h3, h4, h5, h6⟩ | ⟨c0, k0, h1, h4, h5⟩)
    · exact ⟨v, c0, k0, e2, c2, h1, h2, h3, h4, h5, by omega⟩
    · exact ⟨nd, c0, k0, e, c, h1, he, h, h4, h5, Or.inr ⟨rfl, by omega⟩⟩
set_option maxRecDepth 20000 in
theorem FD_new {p : PbW} {m nd e : Nat} (he : e < 16) : ∀ s j s0 j0 : Nat, FD p m nd e s j → Way p m nd s0 j0 → j ≠ j0 * 16 + e := by
  rintro s j s0 j0 ⟨v, c0, k0, e2, c, h1, h2, h3, h4, h5, h6⟩ h7 e9
  obtain ⟨e1, e3⟩ := dig_eq h2 he (h5.symm.trans e9)
  subst e1 e3
  have := (Way_det h1 h7).1
  omega
/-! backward: the completions of (i, v) whose first label is below lc -/
def CD (p : PbW) (r i v lc : Nat) (s k : Nat) : Prop := ∃ l w s0 k0 : Nat, l < 440 ∧ p.st i v l = some w ∧ Cmp p r (i + 1) w s0 k0 ∧ s = s0 + p.cs l ∧ k = l * Qb r + k0 ∧ l < lc
set_option maxRecDepth 20000 in
theorem CD_0 {p : PbW} {r i v s k : Nat} : ¬ CD p r i v 0 s k := by
  rintro ⟨l, w, s0, k0, h1, h2, h3, h4, h5, h6⟩
  omega
set_option maxRecDepth 20000 in
theorem CD_all {p : PbW} {r i v s k : Nat} : CD p r i v 440 s k ↔ Cmp p (r + 1) i v s k := by
  constructor
  · rintro ⟨l, w, s0, k0, h1, h2, h3, h4, h5, h6⟩
    exact ⟨l, w, s0, k0, h1, h2, h3, h4, h5⟩
  · rintro ⟨l, w, s0, k0, h1, h2, h3, h4, h5⟩
    exact ⟨l, w, s0, k0, h1, h2, h3, h4, h5, h1⟩
set_option maxRecDepth 20000 in
theorem CD_skip {p : PbW} {r i v a b s k : Nat} (hab : a ≤ b) (h : ∀ l : Nat, a ≤ l → l < b → p.st i v l = none) : CD p r i v a s k ↔ CD p r i v b s k := by
  constructor
  · rintro ⟨l, w, s0, k0, h1, h2, h3, h4, h5, h6⟩
    exact ⟨l, w, s0, k0, h1, h2, h3, h4, h5, by omega⟩
  · rintro ⟨l, w, s0, k0, h1, h2, h3, h4, h5, h6⟩
    refine ⟨l, w, s0, k0, h1, h2, h3, h4, h5, ?_⟩
    rcases Nat.lt_or_ge l a with z | z
    · exact z
    · rw [h l z h6] at h2; cases h2
set_option maxRecDepth 20000 in
theorem CD_dead {p : PbW} {r i v l w s k : Nat} (h : p.st i v l = some w) (hw : ∀ c j : Nat, ¬ Cmp p r (i + 1) w c j) : CD p r i v l s k ↔ CD p r i v (l + 1) s k := by
  constructor
  · rintro ⟨l2, w2, s0, k0, h1, h2, h3, h4, h5, h6⟩
    exact ⟨l2, w2, s0, k0, h1, h2, h3, h4, h5, by omega⟩
  · rintro ⟨l2, w2, s0, k0, h1, h2, h3, h4, h5, h6⟩
    refine ⟨l2, w2, s0, k0, h1, h2, h3, h4, h5, ?_⟩
    rcases Nat.lt_or_ge l2 l with z | z
    · exact z
    · have e : l2 = l := by omega
      subst e
      have e2 := Option.some.inj (h2.symm.trans h)
      subst e2
      exact absurd h3 (hw _ _)
set_option maxRecDepth 20000 in
theorem CD_add {p : PbW} {r i v l w s k : Nat} (hl : l < 440) (h : p.st i v l = some w) : CD p r i v (l + 1) s k ↔ addW (CD p r i v l) (Cmp p r (i + 1) w) (fun a => l * Qb r + a) (p.cs l) s k := by
  constructor
  · rintro ⟨l2, w2, s0, k0, h1, h2, h3, h4, h5, h6⟩
    rcases Nat.lt_or_ge l2 l with z | z
    · exact Or.inl ⟨l2, w2, s0, k0, h1, h2, h3, h4, h5, z⟩
    · have e : l2 = l := by omega
      subst e
      have e2 := Option.some.inj (h2.symm.trans h)
      subst e2
      exact Or.inr ⟨s0, k0, h3, h4, h5⟩
  · rintro (⟨l2, w2, s0, k0, h1, h2, h3, h4, h5, h6⟩ | ⟨s0, k0, h3, h4, h5⟩)
    · exact ⟨l2, w2, s0, k0, h1, h2, h3, h4, h5, by omega⟩
    · exact ⟨l, w, s0, k0, hl, h, h3, h4, h5, by omega⟩
/- codes with a smaller first label come ahead -/
set_option maxRecDepth 20000 in
theorem CD_lt {p : PbW} {r i v l : Nat} : ∀ s k : Nat, CD p r i v l s k → k < l * Qb r := by
  rintro s k ⟨l2, w2, s0, k0, h1, h2, h3, h4, h5, h6⟩
  have := Cmp_lt h3
  have h8 : (l2 + 1) * Qb r ≤ l * Qb r := Nat.mul_le_mul_right _ h6
  rw [Nat.add_mul, Nat.one_mul] at h8
  omega
/- two offers: the least and the second of what follows -/
def ofr (a : Nat × Nat) (x : Nat) : Nat × Nat := if x < a.1 then (x, a.1) else if x < a.2 then (a.1, x) else a
set_option maxRecDepth 20000 in
theorem MF_ofr {F : Nat} {S T : Nat → Nat → Prop} {f : Nat → Nat} {b x k b1 x1 k1 c : Nat} (hS : MF F S b x k) (hT : MF F T b1 x1 k1) (hb1 : b1 < F) (h1 : b1 + c < F) (h2 : x1 < F → x1 + c < F) (hf : ∀ a d : Nat, f a = f d → a = d) (hm : ∀ a d : Nat, a ≤ d → f a ≤ f d) (hd : ∀ s j j0 : Nat, S s j → j < f j0) : ∃ k2 : Nat, MF F (addW S T f c) (if x1 < F then ofr (ofr (b, x) (b1 + c)) (x1 + c) else ofr (b, x) (b1 + c)).1 (if x1 < F then ofr (ofr (b, x) (b1 + c)) (x1 + c) else ofr (b, x) (b1 + c)).2 k2 := by
  have hbx := MF_le hS
  have hbx1 := MF_le hT
  have hdd : ∀ s j s0 j0 : Nat, S s j → T s0 j0 → j ≠ f j0 := fun s j s0 j0 hs _ => by have := hd s j j0 hs; omega
  by_cases c1 : b1 + c < b
  · have h := MF_yes hS hT hb1 h1 h2 hf hm hdd (Or.inl c1)
    refine ⟨f k1, ?_⟩
    have e1 : ofr (b, x) (b1 + c) = (b1 + c, b) := by unfold ofr; rw [if_pos c1]
    rw [e1]
    by_cases c2 : x1 < F
    · rw [if_pos c2] at h ⊢
      have e2 : ofr (b1 + c, b) (x1 + c) = (b1 + c, min b (x1 + c)) := by
        unfold ofr
        rw [if_neg (by show ¬ x1 + c < b1 + c; omega)]
        by_cases c3 : x1 + c < b
        · rw [if_pos c3, Nat.min_eq_right (by omega)]
        · rw [if_neg c3, Nat.min_eq_left (by omega)]
      rw [e2]; exact h
    · rw [if_neg c2] at h ⊢; exact h
  · have hlt : ¬ (b1 + c < b ∨ (b1 + c = b ∧ f k1 < k)) := by
      rintro (q | ⟨q1, q2⟩)
      · exact c1 q
      · rcases hS with ⟨q, _⟩ | ⟨_, q, _⟩
        · omega
        · have := hd b k k1 q; omega
    have h := MF_no hS hT hb1 h1 h2 hf hm hdd hlt
    refine ⟨k, ?_⟩
    have e1 : ofr (b, x) (b1 + c) = (b, min x (b1 + c)) := by
      unfold ofr
      rw [if_neg c1]
      by_cases c3 : b1 + c < x
      · rw [if_pos c3, Nat.min_eq_right (by omega)]
      · rw [if_neg c3, Nat.min_eq_left (by omega)]
    rw [e1]
    by_cases c2 : x1 < F
    · rw [if_pos c2] at h ⊢
      have e2 : ofr (b, min x (b1 + c)) (x1 + c) = (b, min (min x (b1 + c)) (x1 + c)) := by
        unfold ofr
        rw [if_neg (by show ¬ x1 + c < b; omega), if_neg (by show ¬ x1 + c < min x (b1 + c); omega), Nat.min_eq_left (a := min x (b1 + c)) (b := x1 + c) (by omega)]
      rw [e2]; exact h
    · rw [if_neg c2] at h ⊢; exact h
/-! THE CLASS'S CHART: a level holds, node by node, the least cost of the ways to it, the first of the cheapest, the least cost of the others -/
abbrev FN : Nat := 1000000000
set_option maxRecDepth 20000 in
theorem cl_nI {a b : Nat} (ha : a ≤ 60) (hb : b < 20) : cl (nI a) (nI b) = nI (20 * a + b) := by
  unfold cl
  rw [if_neg (nI_pos (by omega)), if_neg (show ¬ (60 : Int32) < nI a from nI_nlt (a := 60) (b := a) ha (by omega)), if_neg (nI_pos (by omega)), if_neg (show ¬ (20 : Int32) ≤ nI b from nI_ge (a := b) (b := 20) hb (by omega)), show (20 : Int32) = nI 20 from rfl, pk_mul, nI_add, Nat.mul_comm]
def mi9 (x y : Int32) : Int32 := if y < x then y else x
set_option maxRecDepth 20000 in
theorem mi9_n {a b : Nat} (ha : a < 2 ^ 31) (hb : b < 2 ^ 31) : mi9 (nI a) (nI b) = nI (min a b) := by
  unfold mi9
  by_cases c : b < a
  · rw [if_pos ((nI_ltI hb ha).mpr c), Nat.min_eq_right (by omega)]
  · rw [if_neg (fun z => c ((nI_ltI hb ha).mp z)), Nat.min_eq_left (by omega)]
def ofD (A T g : Nat) (pr pl nd en ln : Int32) (fb fx fa fe fg fo fb2 fx2 fa2 fe2 fg2 fo2 : Nat → Int32) : Prop :=
  ((fb A + pr < fb T ∨ (fb A + pr = fb T ∧ pl < fo g)) ∧ fb2 = upd fb T (fb A + pr) ∧ fx2 = upd fx T (if fx A < 1000000000 then mi9 (fb T) (fx A + pr) else fb T) ∧ fo2 = upd fo g pl ∧ fa2 = upd fa T nd ∧ fe2 = upd fe T en ∧ fg2 = upd fg T ln) ∨
  (¬ (fb A + pr < fb T ∨ (fb A + pr = fb T ∧ pl < fo g)) ∧ fb2 = fb ∧ fx2 = upd fx T (if fx A < 1000000000 then mi9 (mi9 (fx T) (fb A + pr)) (fx A + pr) else mi9 (fx T) (fb A + pr)) ∧ fo2 = fo ∧ fa2 = fa ∧ fe2 = fe ∧ fg2 = fg)
def LC (p : PbW) (i : Nat) (K r : Nat → Nat) (fb fx fq : Nat → Int32) : Prop := (∀ v : Nat, v < 20 → ∃ b x : Nat, fb (20 * i + v) = nI b ∧ fx (20 * i + v) = nI x ∧ MF FN (Way p i v) b x (K v) ∧ (b < FN → fq (20 * i + v) = nI (r v) ∧ r v < 20)) ∧ ∀ v w c d : Nat, v < 20 → w < 20 → Way p i v c (K v) → Way p i w d (K w) → (r v < r w ↔ K v < K w)
/- the step that the first cheapest way to w has taken last -/
def LCand (p : PbW) (i : Nat) (K : Nat → Nat) (w kw : Nat) (a9 e9 g9 : Int32) (v l : Nat) : Prop := v < 20 ∧ l < 440 ∧ (∃ c : Nat, Way p i v c (K v)) ∧ p.st i v l = some w ∧ kw = K v * 440 + l ∧ a9 = nI v ∧ e9 = evl (l / 40) ∧ g9 = nI (l % 40)
def LvP (p : PbW) (i : Nat) (K r : Nat → Nat) (nd lc : Nat) (fb fx fa fe fg fo : Nat → Int32) (k : Nat → Nat) : Prop := ∀ w : Nat, w < 20 → ∃ b x : Nat, fb (20 * (i + 1) + w) = nI b ∧ fx (20 * (i + 1) + w) = nI x ∧ MF FN (WD p i nd lc w) b x (k w) ∧ (b < FN → ∃ v l : Nat, LCand p i K w (k w) (fa (20 * (i + 1) + w)) (fe (20 * (i + 1) + w)) (fg (20 * (i + 1) + w)) v l ∧ fo w = nI (r v * 440 + l))
set_option maxRecDepth 20000 in
theorem MF_re {F : Nat} {S : Nat → Nat → Prop} {b x k : Nat} (h : MF F S b x k) {s j : Nat} (hs : S s j) : b < F ∧ S b k ∧ b ≤ s := by
  rcases h with ⟨_, _, q⟩ | ⟨q1, q2, q3, _⟩
  · exact absurd hs (q s j)
  · refine ⟨q1, q2, ?_⟩
    rcases q3 s j hs with r | r <;> omega
set_option maxRecDepth 20000 in
theorem MF_x {F : Nat} {S : Nat → Nat → Prop} {b x k : Nat} (h : MF F S b x k) (hx : x < F) : ∃ j : Nat, S x j := by
  rcases h with ⟨_, q, _⟩ | ⟨_, _, _, q⟩
  · omega
  · rcases q with ⟨q, _⟩ | ⟨_, ⟨j, _, q⟩, _⟩
    · omega
    · exact ⟨j, q⟩
set_option maxRecDepth 20000 in
theorem rk_iff {p : PbW} {i : Nat} {K r : Nat → Nat} {fb fx fq : Nat → Int32} (hC : LC p i K r fb fx fq) {v w c d l m : Nat} (hv : v < 20) (hw : w < 20) (h1 : Way p i v c (K v)) (h2 : Way p i w d (K w)) (hl : l < 440) (hm : m < 440) : r v * 440 + l < r w * 440 + m ↔ K v * 440 + l < K w * 440 + m := by
  have q1 := hC.2 v w c d hv hw h1 h2
  have q2 := hC.2 w v d c hw hv h2 h1
  by_cases e : v = w
  · subst e; omega
  · have ne : K v ≠ K w := fun z => by
      rw [← z] at h2
      exact e (Way_det h1 h2).1
    rcases Nat.lt_or_gt_of_ne ne with z | z
    · have := q1.mpr z; omega
    · have := q2.mpr z; omega
def updN (f : Nat → Nat) (k x : Nat) : Nat → Nat := fun j => if j = k then x else f j
set_option maxRecDepth 20000 in
theorem updN_s {f : Nat → Nat} {k x : Nat} : updN f k x k = x := by unfold updN; rw [if_pos rfl]
set_option maxRecDepth 20000 in
theorem updN_n {f : Nat → Nat} {k x j : Nat} (h : j ≠ k) : updN f k x j = f j := by unfold updN; rw [if_neg h]
set_option maxRecDepth 20000 in
theorem LvP_offer {p : PbW} {i nd l w : Nat} {K r k : Nat → Nat} {fb fx fq fa fe fg fo fb2 fx2 fa2 fe2 fg2 fo2 : Nat → Int32} (hC : LC p i K r fb fx fq) (hP : LvP p i K r nd l fb fx fa fe fg fo k) (hst : p.st i nd l = some w) (hw : w < 20) (hnd : nd < 20) (hl : l < 440) (hi : i < 60) (hcs : p.cs l ≤ 1998) (hcost : ∀ v c k : Nat, Way p i v c k → c ≤ 1998 * i) (hre : ∃ c k : Nat, Way p i nd c k)
    (h : ofD (20 * i + nd) (20 * (i + 1) + w) w (nI (p.cs l)) (nI (r nd * 440 + l)) (nI nd) (evl (l / 40)) (nI (l % 40)) fb fx fa fe fg fo fb2 fx2 fa2 fe2 fg2 fo2) : ∃ k2 : Nat → Nat, LvP p i K r nd (l + 1) fb2 fx2 fa2 fe2 fg2 fo2 k2 := by
  have hFN : FN = 1000000000 := rfl
  obtain ⟨b1, x1, eb1, ex1, m1, hr1⟩ := hC.1 nd hnd
  obtain ⟨c9, k9, hre⟩ := hre
  obtain ⟨hb1, hw1, _⟩ := MF_re m1 hre
  have hc1 := hcost _ _ _ hw1
  have hx1 : x1 < FN → x1 ≤ 1998 * i := fun z => by
    obtain ⟨j, hj⟩ := MF_x m1 z
    exact hcost _ _ _ hj
  have hxF := (MF_le m1).2
  obtain ⟨b, x, eb, ex, m2, hcd⟩ := hP w hw
  have hbx := MF_le m2
  have eA : fb (20 * i + nd) + nI (p.cs l) = nI (b1 + p.cs l) := by rw [eb1]; exact nI_add _ _
  have eX : fx (20 * i + nd) + nI (p.cs l) = nI (x1 + p.cs l) := by rw [ex1]; exact nI_add _ _
  have hcond : (fb (20 * i + nd) + nI (p.cs l) < fb (20 * (i + 1) + w) ∨ (fb (20 * i + nd) + nI (p.cs l) = fb (20 * (i + 1) + w) ∧ nI (r nd * 440 + l) < fo w)) ↔ (b1 + p.cs l < b ∨ (b1 + p.cs l = b ∧ K nd * 440 + l < k w)) := by
    rw [eA, eb]
    have q1 : nI (b1 + p.cs l) < nI b ↔ b1 + p.cs l < b := nI_ltI (by omega) (by omega)
    have q2 : nI (b1 + p.cs l) = nI b ↔ b1 + p.cs l = b := nI_eq (by omega) (by omega)
    rw [q1, q2]
    constructor
    · rintro (z | ⟨z1, z2⟩)
      · exact Or.inl z
      · refine Or.inr ⟨z1, ?_⟩
        obtain ⟨v, l2, ⟨g1, g2, ⟨c3, g3⟩, g4, g5, _⟩, g6⟩ := hcd (by omega)
        obtain ⟨b3, x3, _, _, m3, hr3⟩ := hC.1 v g1
        have hr4 := (hr3 (MF_re m3 g3).1).2
        have hr5 := (hr1 hb1).2
        rw [g6] at z2
        rw [g5]
        exact (rk_iff hC hnd g1 hw1 g3 hl g2).mp ((nI_ltI (by omega) (by omega)).mp z2)
    · rintro (z | ⟨z1, z2⟩)
      · exact Or.inl z
      · refine Or.inr ⟨z1, ?_⟩
        obtain ⟨v, l2, ⟨g1, g2, ⟨c3, g3⟩, g4, g5, _⟩, g6⟩ := hcd (by omega)
        obtain ⟨b3, x3, _, _, m3, hr3⟩ := hC.1 v g1
        have hr4 := (hr3 (MF_re m3 g3).1).2
        have hr5 := (hr1 hb1).2
        have u1 : r nd * 440 + l < 2 ^ 31 := by clear z2 hcd; omega
        have u2 : r v * 440 + l2 < 2 ^ 31 := by clear z2 hcd; omega
        rw [g6]
        rw [g5] at z2
        exact (nI_ltI u1 u2).mpr ((rk_iff hC hnd g1 hw1 g3 hl g2).mpr z2)
  have hxlt : (fx (20 * i + nd) < 1000000000) ↔ x1 < FN := by
    rw [ex1]
    exact nI_ltI (a := x1) (b := FN) (by omega) (by omega)
  have hoff : ∀ u : Nat, u < 20 → u ≠ w → ∀ s j : Nat, WD p i nd l u s j ↔ WD p i nd (l + 1) u s j := fun u _ hne s j => WD_skip (by omega) (fun l2 h1 h2 => by
    have e9 : l2 = l := by omega
    rw [e9, hst]; exact fun z => hne (Option.some.inj z).symm)
  have hsame : ∀ s j : Nat, addW (WD p i nd l w) (Way p i nd) (fun a => a * 440 + l) (p.cs l) s j ↔ WD p i nd (l + 1) w s j := fun s j => (WD_add hl hst).symm
  rcases h with ⟨hc, e1, e2, e3, e4, e5, e6⟩ | ⟨hc, e1, e2, e3, e4, e5, e6⟩
  · have hlt := hcond.mp hc
    have hm := MF_congr (MF_yes m2 m1 hb1 (show b1 + p.cs l < FN by omega) (fun z => by have := hx1 z; omega) (f440_inj hl) f440_mono (WD_new hl) hlt) hsame
    refine ⟨updN k w (K nd * 440 + l), fun u hu => ?_⟩
    by_cases eu : u = w
    · subst eu
      refine ⟨b1 + p.cs l, (if x1 < FN then min b (x1 + p.cs l) else b), by rw [e1, pk_us]; exact eA, ?_, by rw [updN_s]; exact hm, fun _ => ⟨nd, l, ⟨hnd, hl, ⟨_, hw1⟩, hst, by rw [updN_s], by rw [e4, pk_us], by rw [e5, pk_us], by rw [e6, pk_us]⟩, by rw [e3, pk_us]⟩⟩
      rw [e2, pk_us]
      by_cases z : x1 < FN
      · have := hx1 z
        rw [if_pos (hxlt.mpr z), if_pos z, eX, eb]; exact mi9_n (by omega) (by omega)
      · rw [if_neg (fun y => z (hxlt.mp y)), if_neg z]; exact eb
    · obtain ⟨b4, x4, q1, q2, q3, q4⟩ := hP u hu
      refine ⟨b4, x4, by rw [e1, pk_un (by omega)]; exact q1, by rw [e2, pk_un (by omega)]; exact q2, by rw [updN_n eu]; exact MF_congr q3 (hoff u hu eu), fun hb4 => ?_⟩
      rw [updN_n eu, e4, e5, e6, pk_un (by omega), pk_un (by omega), pk_un (by omega), e3, pk_un eu]
      exact q4 hb4
  · have hlt : ¬ (b1 + p.cs l < b ∨ (b1 + p.cs l = b ∧ K nd * 440 + l < k w)) := fun z => hc (hcond.mpr z)
    have hm := MF_congr (MF_no m2 m1 hb1 (show b1 + p.cs l < FN by omega) (fun z => by have := hx1 z; omega) (f440_inj hl) f440_mono (WD_new hl) hlt) hsame
    refine ⟨k, fun u hu => ?_⟩
    by_cases eu : u = w
    · subst eu
      refine ⟨b, (if x1 < FN then min (min x (b1 + p.cs l)) (x1 + p.cs l) else min x (b1 + p.cs l)), by rw [e1]; exact eb, ?_, hm, fun hb => by rw [e3, e4, e5, e6]; exact hcd hb⟩
      rw [e2, pk_us, eA, ex, mi9_n (by omega) (by omega)]
      by_cases z : x1 < FN
      · have := hx1 z
        rw [if_pos (hxlt.mpr z), if_pos z, eX]; exact mi9_n (by omega) (by omega)
      · rw [if_neg (fun y => z (hxlt.mp y)), if_neg z]
    · obtain ⟨b4, x4, q1, q2, q3, q4⟩ := hP u hu
      refine ⟨b4, x4, by rw [e1]; exact q1, by rw [e2, pk_un (by omega)]; exact q2, MF_congr q3 (hoff u hu eu), fun hb4 => ?_⟩
      rw [e3, e4, e5, e6]
      exact q4 hb4
set_option maxRecDepth 20000 in
theorem LvP_skip {p : PbW} {i nd a b : Nat} {K r k : Nat → Nat} {fb fx fa fe fg fo : Nat → Int32} (hP : LvP p i K r nd a fb fx fa fe fg fo k) (hab : a ≤ b) (h : ∀ l : Nat, a ≤ l → l < b → p.st i nd l = none) : LvP p i K r nd b fb fx fa fe fg fo k := fun w hw => by
  obtain ⟨b4, x4, q1, q2, q3, q4⟩ := hP w hw
  exact ⟨b4, x4, q1, q2, MF_congr q3 (fun s j => WD_skip hab (fun l h1 h2 => by rw [h l h1 h2]; exact fun z => by cases z)), q4⟩
set_option maxRecDepth 20000 in
theorem LvP_next {p : PbW} {i nd : Nat} {K r k : Nat → Nat} {fb fx fa fe fg fo : Nat → Int32} (hP : LvP p i K r nd 440 fb fx fa fe fg fo k) : LvP p i K r (nd + 1) 0 fb fx fa fe fg fo k := fun w hw => by
  obtain ⟨b4, x4, q1, q2, q3, q4⟩ := hP w hw
  exact ⟨b4, x4, q1, q2, MF_congr q3 (fun s j => WD_next), q4⟩
set_option maxRecDepth 20000 in
theorem LvP_none {p : PbW} {i nd a : Nat} {K r k : Nat → Nat} {fb fx fa fe fg fo : Nat → Int32} (hP : LvP p i K r nd a fb fx fa fe fg fo k) (h : ∀ c k : Nat, ¬ Way p i nd c k) : LvP p i K r (nd + 1) 0 fb fx fa fe fg fo k := LvP_next (fun w hw => by
  obtain ⟨b4, x4, q1, q2, q3, q4⟩ := hP w hw
  exact ⟨b4, x4, q1, q2, MF_congr q3 (fun s j => WD_none h), q4⟩)
set_option maxRecDepth 20000 in
theorem LvP_0 {p : PbW} {i : Nat} {K r k : Nat → Nat} {fb fx fa fe fg fo : Nat → Int32} (h1 : ∀ w : Nat, w < 20 → fb (20 * (i + 1) + w) = 1000000000) (h2 : ∀ w : Nat, w < 20 → fx (20 * (i + 1) + w) = 1000000000) : LvP p i K r 0 0 fb fx fa fe fg fo k := fun w hw => ⟨FN, FN, h1 w hw, h2 w hw, Or.inl ⟨rfl, rfl, fun _ _ => WD_0⟩, fun z => by omega⟩
/- levels up to i are as they were -/
def LFr (i : Nat) (fb fx fa fe fg fb2 fx2 fa2 fe2 fg2 : Nat → Int32) : Prop := ∀ j : Nat, j < 20 * (i + 1) → fb2 j = fb j ∧ fx2 j = fx j ∧ fa2 j = fa j ∧ fe2 j = fe j ∧ fg2 j = fg j
set_option maxRecDepth 20000 in
theorem LFr_0 {i : Nat} {fb fx fa fe fg : Nat → Int32} : LFr i fb fx fa fe fg fb fx fa fe fg := fun _ _ => ⟨rfl, rfl, rfl, rfl, rfl⟩
set_option maxRecDepth 20000 in
theorem LFr_t {i : Nat} {fb fx fa fe fg fb2 fx2 fa2 fe2 fg2 fb3 fx3 fa3 fe3 fg3 : Nat → Int32} (h : LFr i fb fx fa fe fg fb2 fx2 fa2 fe2 fg2) (g : LFr i fb2 fx2 fa2 fe2 fg2 fb3 fx3 fa3 fe3 fg3) : LFr i fb fx fa fe fg fb3 fx3 fa3 fe3 fg3 := fun j hj => by
  obtain ⟨a1, a2, a3, a4, a5⟩ := h j hj
  obtain ⟨b1, b2, b3, b4, b5⟩ := g j hj
  exact ⟨b1.trans a1, b2.trans a2, b3.trans a3, b4.trans a4, b5.trans a5⟩
set_option maxRecDepth 20000 in
theorem LFr_of {i A w g : Nat} {pr pl nd en ln : Int32} {fb fx fa fe fg fo fb2 fx2 fa2 fe2 fg2 fo2 : Nat → Int32} (h : ofD A (20 * (i + 1) + w) g pr pl nd en ln fb fx fa fe fg fo fb2 fx2 fa2 fe2 fg2 fo2) : LFr i fb fx fa fe fg fb2 fx2 fa2 fe2 fg2 := fun j hj => by
  rcases h with ⟨hc, e1, e2, e3, e4, e5, e6⟩ | ⟨hc, e1, e2, e3, e4, e5, e6⟩
  · rw [e1, e2, e4, e5, e6]
    exact ⟨pk_un (by omega), pk_un (by omega), pk_un (by omega), pk_un (by omega), pk_un (by omega)⟩
  · rw [e1, e2, e4, e5, e6]
    exact ⟨rfl, pk_un (by omega), rfl, rfl, rfl⟩
set_option maxRecDepth 20000 in
theorem LC_fr {p : PbW} {i : Nat} {K r : Nat → Nat} {fb fx fq fa fe fg fb2 fx2 fa2 fe2 fg2 : Nat → Int32} (hC : LC p i K r fb fx fq) (h : LFr i fb fx fa fe fg fb2 fx2 fa2 fe2 fg2) : LC p i K r fb2 fx2 fq := ⟨fun v hv => by
  obtain ⟨b, x, q1, q2, q3, q4⟩ := hC.1 v hv
  obtain ⟨a1, a2, _⟩ := h (20 * i + v) (by omega)
  exact ⟨b, x, a1.trans q1, a2.trans q2, q3, q4⟩, hC.2⟩
/-! ranks: how many nodes come ahead -/
def cAh (P : Nat → Bool) : Nat → Nat
  | 0 => 0
  | n + 1 => cAh P n + (if P n = true then 1 else 0)
set_option maxRecDepth 20000 in
theorem cAh_le {P Q : Nat → Bool} : ∀ n : Nat, (∀ u : Nat, u < n → P u = true → Q u = true) → cAh P n ≤ cAh Q n
  | 0, _ => Nat.le_refl _
  | n + 1, h => by
    have q := cAh_le n (fun u hu => h u (by omega))
    unfold cAh
    by_cases c : P n = true
    · rw [if_pos c, if_pos (h n (by omega) c)]; omega
    · rw [if_neg c]; omega
set_option maxRecDepth 20000 in
theorem cAh_lt {P Q : Nat → Bool} : ∀ n : Nat, (∀ u : Nat, u < n → P u = true → Q u = true) → ∀ w : Nat, w < n → Q w = true → ¬ P w = true → cAh P n < cAh Q n
  | 0, _, _, h, _, _ => absurd h (Nat.not_lt_zero _)
  | n + 1, h, w, hw, h1, h2 => by
    unfold cAh
    rcases Nat.lt_or_ge w n with z | z
    · have q := cAh_lt n (fun u hu => h u (by omega)) w z h1 h2
      by_cases c : P n = true
      · rw [if_pos c, if_pos (h n (by omega) c)]; omega
      · rw [if_neg c]; omega
    · have e : w = n := by omega
      subst e
      have q := cAh_le w (fun u hu => h u (by omega))
      rw [if_neg h2, if_pos h1]; omega
set_option maxRecDepth 20000 in
theorem cAh_n {P : Nat → Bool} : ∀ n : Nat, cAh P n ≤ n
  | 0 => Nat.le_refl _
  | n + 1 => by
    have := cAh_n (P := P) n
    unfold cAh
    split <;> omega
/- nodes ahead of w on the level: reached, and their first cheapest ways come first -/
def aheadP (i : Nat) (fb fo : Nat → Int32) (w u : Nat) : Bool := decide (fb (20 * i + u) < 1000000000) && decide (fo u < fo w)
set_option maxRecDepth 20000 in
theorem aheadP_iff {i w u : Nat} {fb fo : Nat → Int32} : aheadP i fb fo w u = true ↔ (fb (20 * i + u) < 1000000000 ∧ fo u < fo w) := by
  unfold aheadP
  rw [Bool.and_eq_true, decide_eq_true_iff, decide_eq_true_iff]
set_option maxRecDepth 20000 in
theorem LvP_done {p : PbW} {i : Nat} {K r k : Nat → Nat} {fb fx fq fa fe fg fo fb0 fx0 : Nat → Int32} (hC : LC p i K r fb0 fx0 fq) (hP : LvP p i K r 20 0 fb fx fa fe fg fo k) (hn : ∀ v c k : Nat, Way p i v c k → v < 20) (fq2 : Nat → Int32) (hq : ∀ w : Nat, w < 20 → fb (20 * (i + 1) + w) < 1000000000 → fq2 (20 * (i + 1) + w) = nI (cAh (aheadP (i + 1) fb fo w) 20)) :
    LC p (i + 1) k (fun w => cAh (aheadP (i + 1) fb fo w) 20) fb fx fq2 ∧ ∀ w c : Nat, w < 20 → Way p (i + 1) w c (k w) → ∃ v l : Nat, LCand p i K w (k w) (fa (20 * (i + 1) + w)) (fe (20 * (i + 1) + w)) (fg (20 * (i + 1) + w)) v l := by
  have hFN : FN = 1000000000 := rfl
  have hall : ∀ w s j : Nat, WD p i 20 0 w s j ↔ Way p (i + 1) w s j := fun w s j => WD_all hn
  have hlt : ∀ b : Nat, b ≤ FN → (nI b < 1000000000 ↔ b < FN) := fun b hb => nI_ltI (a := b) (b := FN) (by omega) (by omega)
  have hone : ∀ w c : Nat, w < 20 → Way p (i + 1) w c (k w) → fb (20 * (i + 1) + w) < 1000000000 ∧ ∃ v l : Nat, LCand p i K w (k w) (fa (20 * (i + 1) + w)) (fe (20 * (i + 1) + w)) (fg (20 * (i + 1) + w)) v l ∧ fo w = nI (r v * 440 + l) := by
    intro w c hw hc
    obtain ⟨b, x, q1, q2, q3, q4⟩ := hP w hw
    have h1 := (MF_re q3 ((hall w c (k w)).mpr hc)).1
    rw [q1]
    exact ⟨(hlt b (by omega)).mpr h1, q4 h1⟩
  have hord : ∀ u w c d : Nat, u < 20 → w < 20 → Way p (i + 1) u c (k u) → Way p (i + 1) w d (k w) → (fo u < fo w ↔ k u < k w) := by
    intro u w c d hu hw h1 h2
    obtain ⟨_, v1, l1, ⟨a1, a2, ⟨c1, a3⟩, _, a5, _⟩, a6⟩ := hone u c hu h1
    obtain ⟨_, v2, l2, ⟨g1, g2, ⟨c2, g3⟩, _, g5, _⟩, g6⟩ := hone w d hw h2
    obtain ⟨b3, x3, _, _, m3, hr3⟩ := hC.1 v1 a1
    obtain ⟨b4, x4, _, _, m4, hr4⟩ := hC.1 v2 g1
    have z1 := (hr3 (MF_re m3 a3).1).2
    have z2 := (hr4 (MF_re m4 g3).1).2
    rw [a6, g6, a5, g5, nI_ltI (by omega) (by omega)]
    exact rk_iff hC a1 g1 a3 g3 a2 g2
  have hway : ∀ u : Nat, u < 20 → fb (20 * (i + 1) + u) < 1000000000 → ∃ c : Nat, Way p (i + 1) u c (k u) := by
    intro u hu hb
    obtain ⟨b, x, q1, q2, q3, q4⟩ := hP u hu
    rw [q1] at hb
    have hbF := MF_le q3
    rcases q3 with ⟨z, _⟩ | ⟨_, z, _⟩
    · exact absurd ((hlt b (by omega)).mp hb) (by omega)
    · exact ⟨b, (hall u b (k u)).mp z⟩
  have hsub : ∀ v w c d : Nat, v < 20 → w < 20 → Way p (i + 1) v c (k v) → Way p (i + 1) w d (k w) → k v ≤ k w → ∀ u : Nat, u < 20 → aheadP (i + 1) fb fo v u = true → aheadP (i + 1) fb fo w u = true := by
    intro v w c d hv hw h1 h2 hle u hu ha9
    have ha := aheadP_iff.mp ha9
    obtain ⟨c3, h3⟩ := hway u hu ha.1
    refine aheadP_iff.mpr ⟨ha.1, (hord u w c3 d hu hw h3 h2).mpr ?_⟩
    have := (hord u v c3 c hu hv h3 h1).mp ha.2
    omega
  refine ⟨⟨fun w hw => ?_, fun v w c d hv hw h1 h2 => ?_⟩, fun w c hw hc => ?_⟩
  · obtain ⟨b, x, q1, q2, q3, q4⟩ := hP w hw
    refine ⟨b, x, q1, q2, MF_congr q3 (hall w), fun hb => ⟨hq w hw (by rw [q1]; exact (hlt b (by omega)).mpr hb), ?_⟩⟩
    have hirr : ¬ aheadP (i + 1) fb fo w w = true := fun z => Int32.lt_irrefl (aheadP_iff.mp z).2
    have h5 := cAh_lt (P := aheadP (i + 1) fb fo w) (Q := fun _ => true) 20 (fun _ _ _ => rfl) w hw rfl hirr
    have h6 := cAh_n (P := fun _ : Nat => true) 20
    show cAh (aheadP (i + 1) fb fo w) 20 < 20
    omega
  · constructor
    · intro h
      rcases Nat.lt_or_ge (k v) (k w) with z | z
      · exact z
      · have := cAh_le (P := aheadP (i + 1) fb fo w) (Q := aheadP (i + 1) fb fo v) 20 (hsub w v d c hw hv h2 h1 z)
        have h9 : cAh (aheadP (i + 1) fb fo v) 20 < cAh (aheadP (i + 1) fb fo w) 20 := h
        omega
    · intro h
      exact cAh_lt 20 (hsub v w c d hv hw h1 h2 (by omega)) v hv (aheadP_iff.mpr ⟨(hone v c hv h1).1, (hord v w c d hv hw h1 h2).mpr h⟩) (fun z => Int32.lt_irrefl (aheadP_iff.mp z).2)
  · obtain ⟨_, v, l, z, _⟩ := hone w c hw hc
    exact ⟨v, l, z⟩
/-! one step of the class: which node a label leads to -/
def goA (gc : Int32) (F K T M : Nat → Int32) (st set mk : Int32) (nd g : Nat) : Option Nat := if canG gc F K M (nI g) st set mk = 0 then none else if nbC gc T M (nI g) (nI nd &&& 1) < 0 then none else some (nbC gc T M (nI g) (nI nd &&& 1)).toNatClampNeg
def stpA (gn en : Nat) (F K T M eF eM : Nat → Int32) (set mk : Int32) (i nd l : Nat) : Option Nat := if l % 40 < gn then (if l < 40 then (if mk < 4 then goA (nI gn) F K T M (nI nd >>> ((1 : Int32) &&& 31)) set mk nd (l % 40) else none) else if i = 0 then none else if nI nd &&& 1 = 1 then none else if mk = -1 ∨ ¬ mk < 4 then (if l / 40 - 1 < en then (if canE (nI en) eF eM (nI (l / 40 - 1)) (nI nd >>> ((1 : Int32) &&& 31)) mk = 0 then none else goA (nI gn) F K T M 0 set (-1) nd (l % 40)) else none) else none) else none
/- what goFrom needs to know of its labels -/
def goH (p : PbW) (i nd base gn : Nat) (gc : Int32) (F K T C M : Nat → Int32) (st set mk ce : Int32) : Prop := ∀ g : Nat, g < gn → (canG gc F K M (nI g) st set mk = 0 → p.st i nd (base + g) = none) ∧ (¬ canG gc F K M (nI g) st set mk = 0 → (nbC gc T M (nI g) (nI nd &&& 1) = -1 ∧ p.st i nd (base + g) = none) ∨ ∃ t : Nat, t < 20 ∧ nbC gc T M (nI g) (nI nd &&& 1) = nI t ∧ p.st i nd (base + g) = some t) ∧ ce + C g = nI (p.cs (base + g)) ∧ p.cs (base + g) ≤ 1998
set_option maxRecDepth 20000 in
theorem and1 : ∀ n : Nat, n < 20 → (nI n &&& 1 = 0 ∨ nI n &&& 1 = 1) := by decide
set_option maxRecDepth 20000 in
theorem nbC_ok {gc : Int32} {fT fM : Nat → Int32} {x : Int32} {nd t : Nat} (hnd : nd < 20) (ht : t ≤ 9) (e : fT x.toNatClampNeg = nI t) : nbC gc fT fM x (nI nd &&& 1) = -1 ∨ ∃ u : Nat, u < 20 ∧ nbC gc fT fM x (nI nd &&& 1) = nI u := by
  have e0 : fT x.toNatClampNeg * 2 + 0 = nI (2 * t) := by rw [e, show (2 : Int32) = nI 2 from rfl, show (0 : Int32) = nI 0 from rfl, pk_mul, nI_add]; exact congrArg nI (by omega)
  have e1 : fT x.toNatClampNeg * 2 + 1 = nI (2 * t + 1) := by rw [e, show (2 : Int32) = nI 2 from rfl, show (1 : Int32) = nI 1 from rfl, pk_mul, nI_add]; exact congrArg nI (by omega)
  have k0 : ∃ u : Nat, u < 20 ∧ fT x.toNatClampNeg * 2 + 0 = nI u := ⟨2 * t, by omega, e0⟩
  have k1 : ∃ u : Nat, u < 20 ∧ fT x.toNatClampNeg * 2 + 1 = nI u := ⟨2 * t + 1, by omega, e1⟩
  unfold nbC
  by_cases c0 : bnd 40 x gc = 0
  · rw [if_pos c0]; exact Or.inl rfl
  · rw [if_neg c0]
    by_cases c1 : fM x.toNatClampNeg = 2
    · rw [if_pos c1]
      by_cases c2 : nI nd &&& 1 = 0
      · rw [if_pos c2]; exact Or.inr k1
      · rw [if_neg c2]; exact Or.inl rfl
    · rw [if_neg c1]
      by_cases c3 : fM x.toNatClampNeg = 3
      · rw [if_pos c3]
        by_cases c2 : nI nd &&& 1 = 1
        · rw [if_pos c2]; exact Or.inr k0
        · rw [if_neg c2]; exact Or.inl rfl
      · rw [if_neg c3]
        rcases and1 nd hnd with q | q
        · rw [q]; exact Or.inr k0
        · rw [q]; exact Or.inr k1
set_option maxRecDepth 20000 in
theorem goA_iff {gc : Int32} {F K T M : Nat → Int32} {st set mk : Int32} {nd g t : Nat} (hnd : nd < 20) (hg : g < 40) (ht : t ≤ 9) (e : T g = nI t) : (canG gc F K M (nI g) st set mk = 0 → goA gc F K T M st set mk nd g = none) ∧ (¬ canG gc F K M (nI g) st set mk = 0 → (nbC gc T M (nI g) (nI nd &&& 1) = -1 ∧ goA gc F K T M st set mk nd g = none) ∨ ∃ t : Nat, t < 20 ∧ nbC gc T M (nI g) (nI nd &&& 1) = nI t ∧ goA gc F K T M st set mk nd g = some t) := by
  refine ⟨fun h => by unfold goA; rw [if_pos h], fun h => ?_⟩
  unfold goA
  rw [if_neg h]
  rcases nbC_ok (gc := gc) (fT := T) (fM := M) (x := nI g) hnd ht (by rw [nI_clamp (by omega)]; exact e) with q | ⟨u, hu, q⟩
  · exact Or.inl ⟨q, by rw [q, if_pos (by decide)]⟩
  · exact Or.inr ⟨u, hu, q, by rw [q, if_neg (nI_pos (by omega)), nI_clamp (by omega)]⟩
set_option maxRecDepth 20000 in
theorem nI_m1 {n : Nat} (h : n < 2 ^ 31) : ¬ nI n = -1 := fun z => nI_pos h (by rw [z]; decide)
set_option maxRecDepth 20000 in
theorem pl0 {r g : Nat} {x : Int32} (h : x = nI r) : (x * 11 + (-1) + 1) * 40 + nI g = nI (r * 440 + (0 + g)) := by
  have e : nI r * 11 + (-1) + 1 = nI (r * 11) := by
    rw [show (11 : Int32) = nI 11 from rfl, pk_mul, Int32.add_assoc, show (-1 : Int32) + 1 = 0 from by decide, Int32.add_zero]
  rw [h, e, show (40 : Int32) = nI 40 from rfl, pk_mul, nI_add]
  exact congrArg nI (by omega)
set_option maxRecDepth 20000 in
theorem plE {r e g : Nat} {x : Int32} (h : x = nI r) : (x * 11 + nI e + 1) * 40 + nI g = nI (r * 440 + ((e + 1) * 40 + g)) := by
  rw [h, show (11 : Int32) = nI 11 from rfl, pk_mul, nI_add, nI_1, show (40 : Int32) = nI 40 from rfl, pk_mul, nI_add]
  exact congrArg nI (by omega)
set_option maxRecDepth 20000 in
theorem LC_r {p : PbW} {i nd : Nat} {K r : Nat → Nat} {fb fx fq : Nat → Int32} (hC : LC p i K r fb fx fq) (hnd : nd < 20) (hre : ∃ c k : Nat, Way p i nd c k) : fq (20 * i + nd) = nI (r nd) := by
  obtain ⟨b, x, _, _, m, hr⟩ := hC.1 nd hnd
  obtain ⟨c, k, h⟩ := hre
  exact (hr (MF_re m h).1).1
def csH (p : PbW) (gn en : Nat) (eC C : Nat → Int32) : Prop := ∀ e g : Nat, e ≤ en → g < gn → ceA (nI en) eC (evl e) + C g = nI (p.cs (e * 40 + g)) ∧ p.cs (e * 40 + g) ≤ 1998
def toH (gn : Nat) (T : Nat → Int32) : Prop := ∀ g : Nat, g < gn → ∃ t : Nat, t ≤ 9 ∧ T g = nI t
section
variable {p : PbW} {gn en i nd : Nat} {F K T C M eF eC eM : Nat → Int32} {set mk : Int32}
set_option maxRecDepth 20000 in
theorem goH_0 (hnd : nd < 20) (hg : gn ≤ 40) (hst : ∀ l : Nat, l < 440 → p.st i nd l = stpA gn en F K T M eF eM set mk i nd l) (hcs : csH p gn en eC C) (hto : toH gn T) (h4 : mk < 4) : goH p i nd 0 gn (nI gn) F K T C M (nI nd >>> ((1 : Int32) &&& 31)) set mk (ceA (nI en) eC (-1)) := by
  intro g hgn
  have e : p.st i nd (0 + g) = goA (nI gn) F K T M (nI nd >>> ((1 : Int32) &&& 31)) set mk nd g := by
    rw [hst _ (by omega)]
    unfold stpA
    rw [show (0 + g) % 40 = g by omega, if_pos hgn, if_pos (by omega), if_pos h4]
  obtain ⟨t, ht, et⟩ := hto g hgn
  obtain ⟨h1, h2⟩ := goA_iff (gc := nI gn) (F := F) (K := K) (M := M) (st := nI nd >>> ((1 : Int32) &&& 31)) (set := set) (mk := mk) hnd (by omega) ht et
  rw [e]
  have h3 := hcs 0 g (Nat.zero_le _) hgn
  exact ⟨h1, h2, by rw [Nat.zero_mul] at h3; exact h3.1, by rw [Nat.zero_mul] at h3; exact h3.2⟩
set_option maxRecDepth 20000 in
theorem goH_E {e : Nat} (hnd : nd < 20) (hg : gn ≤ 40) (he : en ≤ 10) (hst : ∀ l : Nat, l < 440 → p.st i nd l = stpA gn en F K T M eF eM set mk i nd l) (hcs : csH p gn en eC C) (hto : toH gn T) (hi : ¬ i = 0) (hq : ¬ nI nd &&& 1 = 1) (hm : mk = -1 ∨ ¬ mk < 4) (hen : e < en) (hce : ¬ canE (nI en) eF eM (nI e) (nI nd >>> ((1 : Int32) &&& 31)) mk = 0) : goH p i nd ((e + 1) * 40) gn (nI gn) F K T C M 0 set (-1) (ceA (nI en) eC (nI e)) := by
  intro g hgn
  have e9 : p.st i nd ((e + 1) * 40 + g) = goA (nI gn) F K T M 0 set (-1) nd g := by
    rw [hst _ (by omega)]
    unfold stpA
    rw [show ((e + 1) * 40 + g) % 40 = g by omega, show ((e + 1) * 40 + g) / 40 - 1 = e by omega, if_pos hgn, if_neg (by omega), if_neg hi, if_neg hq, if_pos hm, if_pos hen, if_neg hce]
  obtain ⟨t, ht, et⟩ := hto g hgn
  obtain ⟨h1, h2⟩ := goA_iff (gc := nI gn) (F := F) (K := K) (M := M) (st := 0) (set := set) (mk := -1) hnd (by omega) ht et
  rw [e9]
  have h3 := hcs (e + 1) g (by omega) hgn
  exact ⟨h1, h2, h3.1, h3.2⟩
set_option maxRecDepth 20000 in
theorem st_g (hst : ∀ l : Nat, l < 440 → p.st i nd l = stpA gn en F K T M eF eM set mk i nd l) {l : Nat} (h : l < 440) (hl : gn ≤ l % 40) : p.st i nd l = none := by
  rw [hst l h]
  unfold stpA
  rw [if_neg (by omega)]
set_option maxRecDepth 20000 in
theorem st_0 (hst : ∀ l : Nat, l < 440 → p.st i nd l = stpA gn en F K T M eF eM set mk i nd l) {l : Nat} (h : l < 40) (h4 : ¬ mk < 4) : p.st i nd l = none := by
  rw [hst l (by omega)]
  unfold stpA
  rw [if_pos h, if_neg h4]
  split <;> rfl
set_option maxRecDepth 20000 in
theorem st_e (hst : ∀ l : Nat, l < 440 → p.st i nd l = stpA gn en F K T M eF eM set mk i nd l) {l : Nat} (h : l < 440) (h40 : 40 ≤ l) (hc : i = 0 ∨ nI nd &&& 1 = 1 ∨ ¬ (mk = -1 ∨ ¬ mk < 4) ∨ en ≤ l / 40 - 1 ∨ canE (nI en) eF eM (nI (l / 40 - 1)) (nI nd >>> ((1 : Int32) &&& 31)) mk = 0) : p.st i nd l = none := by
  rw [hst l h]
  unfold stpA
  rw [if_neg (show ¬ l < 40 by omega)]
  by_cases c1 : i = 0
  · rw [if_pos c1]; split <;> rfl
  · rw [if_neg c1]
    by_cases c2 : nI nd &&& 1 = 1
    · rw [if_pos c2]; split <;> rfl
    · rw [if_neg c2]
      by_cases c3 : mk = -1 ∨ ¬ mk < 4
      · rw [if_pos c3]
        by_cases c4 : l / 40 - 1 < en
        · rw [if_pos c4]
          by_cases c5 : canE (nI en) eF eM (nI (l / 40 - 1)) (nI nd >>> ((1 : Int32) &&& 31)) mk = 0
          · rw [if_pos c5]; split <;> rfl
          · rcases hc with h | h | h | h | h
            · exact absurd h c1
            · exact absurd h c2
            · exact absurd c3 h
            · omega
            · exact absurd h c5
        · rw [if_neg c4]; split <;> rfl
      · rw [if_neg c3]; split <;> rfl
end
set_option maxRecDepth 20000 in
theorem rcb_0 {b : Nat} {x : Int32} (hb : b ≤ FN) (e : x = nI b) (h : rcb x = 0) : b = FN := by
  have hFN : FN = 1000000000 := rfl
  unfold rcb at h
  by_cases c : (1000000000 : Int32) ≤ x
  · rw [e] at c
    have := (nI_leI (a := FN) (b := b) (by omega) (by omega)).mp c
    omega
  · rw [if_neg c] at h; exact absurd h (by decide)
set_option maxRecDepth 20000 in
theorem rcb_1 {x : Int32} (h : ¬ rcb x = 0) : x < 1000000000 := by
  unfold rcb at h
  by_cases c : (1000000000 : Int32) ≤ x
  · rw [if_pos c] at h; exact absurd rfl h
  · exact Int32.not_le.mp c
set_option maxRecDepth 20000 in
theorem rcb_n {x : Int32} (h : rcb x = 0) : ¬ x < 1000000000 := by
  unfold rcb at h
  by_cases c : (1000000000 : Int32) ≤ x
  · exact Int32.not_lt.mpr c
  · rw [if_neg c] at h; exact absurd h (by decide)
set_option maxRecDepth 20000 in
theorem LC_un {p : PbW} {i nd : Nat} {K r : Nat → Nat} {fb fx fq : Nat → Int32} (hC : LC p i K r fb fx fq) (hnd : nd < 20) (h : rcb (fb (20 * i + nd)) = 0) : ∀ c k : Nat, ¬ Way p i nd c k := by
  obtain ⟨b, x, e1, _, m, _⟩ := hC.1 nd hnd
  have hb := MF_le m
  have e := rcb_0 (by omega) e1 h
  intro c k hw
  have := (MF_re m hw).1
  omega
set_option maxRecDepth 20000 in
theorem LC_re {p : PbW} {i nd : Nat} {K r : Nat → Nat} {fb fx fq : Nat → Int32} (hC : LC p i K r fb fx fq) (hnd : nd < 20) (h : ¬ rcb (fb (20 * i + nd)) = 0) : ∃ c k : Nat, Way p i nd c k := by
  have hFN : FN = 1000000000 := rfl
  obtain ⟨b, x, e1, _, m, _⟩ := hC.1 nd hnd
  have h1 := rcb_1 h
  rcases m with ⟨q, _⟩ | ⟨_, q, _⟩
  · rw [e1, q] at h1; exact absurd h1 (by decide)
  · exact ⟨b, K nd, q⟩
set_option maxRecDepth 20000 in
theorem cAh_s {P : Nat → Bool} {n : Nat} : cAh P (n + 1) = cAh P n + (if P n = true then 1 else 0) := rfl
set_option maxRecDepth 20000 in
theorem LvX_skip {p : PbW} {i nd a : Nat} {K r : Nat → Nat} {fb fx fa fe fg fo : Nat → Int32} (b : Nat) (hP : ∃ k9 : Nat → Nat, LvP p i K r nd a fb fx fa fe fg fo k9) (hab : a ≤ b) (h : ∀ l : Nat, a ≤ l → l < b → p.st i nd l = none) : ∃ k9 : Nat → Nat, LvP p i K r nd b fb fx fa fe fg fo k9 := hP.elim (fun k9 h9 => ⟨k9, LvP_skip h9 hab h⟩)
set_option maxRecDepth 20000 in
theorem LvX_next {p : PbW} {i nd : Nat} {K r : Nat → Nat} {fb fx fa fe fg fo : Nat → Int32} (hP : ∃ k9 : Nat → Nat, LvP p i K r nd 440 fb fx fa fe fg fo k9) : ∃ k9 : Nat → Nat, LvP p i K r (nd + 1) 0 fb fx fa fe fg fo k9 := hP.elim (fun k9 h9 => ⟨k9, LvP_next h9⟩)
set_option maxRecDepth 20000 in
theorem LvX_none {p : PbW} {i nd : Nat} {K r : Nat → Nat} {fb fx fa fe fg fo : Nat → Int32} (hP : ∃ k9 : Nat → Nat, LvP p i K r nd 0 fb fx fa fe fg fo k9) (h : ∀ c k : Nat, ¬ Way p i nd c k) : ∃ k9 : Nat → Nat, LvP p i K r (nd + 1) 0 fb fx fa fe fg fo k9 := hP.elim (fun k9 h9 => ⟨k9, LvP_none h9 h⟩)
/-! the last end lines: the least cost of a whole way, the first of the cheapest, the second cost -/
def olD (A B : Nat) (pr nd en : Int32) (fb fx fq : Nat → Int32) (lc sc ln le lc2 sc2 ln2 le2 : Int32) : Prop :=
  ((fb A + pr < lc ∨ (fb A + pr = lc ∧ fq A < fq B)) ∧ lc2 = fb A + pr ∧ sc2 = (if fx A < 1000000000 then mi9 lc (fx A + pr) else lc) ∧ ln2 = nd ∧ le2 = en) ∨
  (¬ (fb A + pr < lc ∨ (fb A + pr = lc ∧ fq A < fq B)) ∧ lc2 = lc ∧ sc2 = (if fx A < 1000000000 then mi9 (mi9 sc (fb A + pr)) (fx A + pr) else mi9 sc (fb A + pr)) ∧ ln2 = ln ∧ le2 = le)
def FP (p : PbW) (m : Nat) (K : Nat → Nat) (nd ec : Nat) (lc sc : Int32) (ln : Nat) (le : Int32) (T : Nat) : Prop := ln < 20 ∧ ∃ b x : Nat, lc = nI b ∧ sc = nI x ∧ MF FN (FD p m nd ec) b x T ∧ (b = FN → le = -1) ∧ (b < FN → ∃ e c s : Nat, e < 16 ∧ Way p m ln c (K ln) ∧ p.tm ln e = some s ∧ T = K ln * 16 + e ∧ le = nI e ∧ (ln < nd ∨ (ln = nd ∧ e < ec)))
set_option maxRecDepth 20000 in
theorem FP_0 {p : PbW} {m : Nat} {K : Nat → Nat} : FP p m K 0 0 1000000000 1000000000 0 (-1) 0 := ⟨by decide, FN, FN, rfl, rfl, Or.inl ⟨rfl, rfl, fun _ _ => FD_0⟩, fun _ => rfl, fun z => by omega⟩
set_option maxRecDepth 20000 in
theorem FP_skip {p : PbW} {m nd a b ln T : Nat} {K : Nat → Nat} {lc sc le : Int32} (h : FP p m K nd a lc sc ln le T) (hab : a ≤ b) (hn : (∀ c k : Nat, ¬ Way p m nd c k) ∨ ∀ e : Nat, a ≤ e → e < b → p.tm nd e = none) : FP p m K nd b lc sc ln le T := by
  obtain ⟨h0, b1, x1, h1, h2, h3, h4, h5⟩ := h
  refine ⟨h0, b1, x1, h1, h2, MF_congr h3 (fun s j => FD_skip hab hn), h4, fun z => ?_⟩
  obtain ⟨e, c, s, g1, g2, g3, g4, g5, g6⟩ := h5 z
  exact ⟨e, c, s, g1, g2, g3, g4, g5, by omega⟩
set_option maxRecDepth 20000 in
theorem FP_next {p : PbW} {m nd ln T : Nat} {K : Nat → Nat} {lc sc le : Int32} (h : FP p m K nd 16 lc sc ln le T) : FP p m K (nd + 1) 0 lc sc ln le T := by
  obtain ⟨h0, b1, x1, h1, h2, h3, h4, h5⟩ := h
  refine ⟨h0, b1, x1, h1, h2, MF_congr h3 (fun s j => FD_next), h4, fun z => ?_⟩
  obtain ⟨e, c, s, g1, g2, g3, g4, g5, g6⟩ := h5 z
  exact ⟨e, c, s, g1, g2, g3, g4, g5, by omega⟩
set_option maxRecDepth 20000 in
theorem f16_inj {l : Nat} (hl : l < 16) : ∀ a d : Nat, a * 16 + l = d * 16 + l → a = d := fun a d h => by omega
set_option maxRecDepth 20000 in
theorem f16_mono {l : Nat} : ∀ a d : Nat, a ≤ d → a * 16 + l ≤ d * 16 + l := fun a d h => by omega
set_option maxRecDepth 20000 in
theorem FP_offer {p : PbW} {m nd e c9 ln T : Nat} {K r : Nat → Nat} {fb fx fq : Nat → Int32} {lc sc le lc2 sc2 ln2 le2 : Int32} (hC : LC p m K r fb fx fq) (hP : FP p m K nd e lc sc ln le T) (htm : p.tm nd e = some c9) (hnd : nd < 20) (he : e < 16) (hm : m ≤ 60) (hc9 : c9 ≤ 999) (hcost : ∀ v c k : Nat, Way p m v c k → c ≤ 1998 * m) (hre : ∃ c k : Nat, Way p m nd c k)
    (h : olD (20 * m + nd) (20 * m + ln) (nI c9) (nI nd) (nI e) fb fx fq lc sc (nI ln) le lc2 sc2 ln2 le2) : ∃ ln3 T3 : Nat, ln2 = nI ln3 ∧ FP p m K nd (e + 1) lc2 sc2 ln3 le2 T3 := by
  have hFN : FN = 1000000000 := rfl
  obtain ⟨h0, b, x, eb, ex, m2, hle, hcd⟩ := hP
  obtain ⟨b1, x1, eb1, ex1, m1, hr1⟩ := hC.1 nd hnd
  obtain ⟨c8, k8, hre⟩ := hre
  obtain ⟨hb1, hw1, _⟩ := MF_re m1 hre
  have hc1 := hcost _ _ _ hw1
  have hx1 : x1 < FN → x1 ≤ 1998 * m := fun z => by
    obtain ⟨j, hj⟩ := MF_x m1 z
    exact hcost _ _ _ hj
  have hxF := (MF_le m1).2
  have hbx := MF_le m2
  have eA : fb (20 * m + nd) + nI c9 = nI (b1 + c9) := by rw [eb1]; exact nI_add _ _
  have eX : fx (20 * m + nd) + nI c9 = nI (x1 + c9) := by rw [ex1]; exact nI_add _ _
  have hcond : (fb (20 * m + nd) + nI c9 < lc ∨ (fb (20 * m + nd) + nI c9 = lc ∧ fq (20 * m + nd) < fq (20 * m + ln))) ↔ (b1 + c9 < b ∨ (b1 + c9 = b ∧ K nd * 16 + e < T)) := by
    rw [eA, eb]
    have q1 : nI (b1 + c9) < nI b ↔ b1 + c9 < b := nI_ltI (by omega) (by omega)
    have q2 : nI (b1 + c9) = nI b ↔ b1 + c9 = b := nI_eq (by omega) (by omega)
    rw [q1, q2]
    have key : b1 + c9 = b → (fq (20 * m + nd) < fq (20 * m + ln) ↔ K nd * 16 + e < T) := fun z => by
      obtain ⟨e2, c2, s2, g1, g2, g3, g4, g5, g6⟩ := hcd (by omega)
      obtain ⟨b3, x3, _, _, m3, hr3⟩ := hC.1 ln h0
      have hr4 := hr3 (MF_re m3 g2).1
      have hr5 := hr1 hb1
      rw [hr4.1, hr5.1, nI_ltI (by omega) (by omega), g4]
      have q3 := hC.2 nd ln b1 c2 hnd h0 hw1 g2
      have q4 := hC.2 ln nd c2 b1 h0 hnd g2 hw1
      by_cases ev : nd = ln
      · subst ev; omega
      · have ne : K nd ≠ K ln := fun y => by
          rw [← y] at g2
          exact ev (Way_det hw1 g2).1
        omega
    constructor
    · rintro (z | ⟨z1, z2⟩)
      · exact Or.inl z
      · exact Or.inr ⟨z1, (key z1).mp z2⟩
    · rintro (z | ⟨z1, z2⟩)
      · exact Or.inl z
      · exact Or.inr ⟨z1, (key z1).mpr z2⟩
  have hxlt : (fx (20 * m + nd) < 1000000000) ↔ x1 < FN := by
    rw [ex1]
    exact nI_ltI (a := x1) (b := FN) (by omega) (by omega)
  have hsame : ∀ s j : Nat, addW (FD p m nd e) (Way p m nd) (fun a => a * 16 + e) c9 s j ↔ FD p m nd (e + 1) s j := fun s j => (FD_add he htm).symm
  rcases h with ⟨hc, e1, e2, e3, e4⟩ | ⟨hc, e1, e2, e3, e4⟩
  · have hlt := hcond.mp hc
    have hmm := MF_congr (MF_yes m2 m1 hb1 (show b1 + c9 < FN by omega) (fun z => by have := hx1 z; omega) (f16_inj he) f16_mono (FD_new he) hlt) hsame
    refine ⟨nd, K nd * 16 + e, e3, hnd, b1 + c9, (if x1 < FN then min b (x1 + c9) else b), by rw [e1]; exact eA, ?_, hmm, fun z => by omega, fun _ => ⟨e, b1, c9, he, hw1, htm, rfl, e4, by omega⟩⟩
    rw [e2]
    by_cases z : x1 < FN
    · have := hx1 z
      rw [if_pos (hxlt.mpr z), if_pos z, eX, eb]; exact mi9_n (by omega) (by omega)
    · rw [if_neg (fun y => z (hxlt.mp y)), if_neg z]; exact eb
  · have hlt : ¬ (b1 + c9 < b ∨ (b1 + c9 = b ∧ K nd * 16 + e < T)) := fun z => hc (hcond.mpr z)
    have hmm := MF_congr (MF_no m2 m1 hb1 (show b1 + c9 < FN by omega) (fun z => by have := hx1 z; omega) (f16_inj he) f16_mono (FD_new he) hlt) hsame
    refine ⟨ln, T, e3, h0, b, (if x1 < FN then min (min x (b1 + c9)) (x1 + c9) else min x (b1 + c9)), by rw [e1]; exact eb, ?_, hmm, fun z => by rw [e4]; exact hle z, fun z => ?_⟩
    · rw [e2, eA, ex, mi9_n (by omega) (by omega)]
      by_cases z : x1 < FN
      · have := hx1 z
        rw [if_pos (hxlt.mpr z), if_pos z, eX]; exact mi9_n (by omega) (by omega)
      · rw [if_neg (fun y => z (hxlt.mp y)), if_neg z]
    · obtain ⟨e2, c2, s2, g1, g2, g3, g4, g5, g6⟩ := hcd z
      exact ⟨e2, c2, s2, g1, g2, g3, g4, by rw [e4]; exact g5, by omega⟩
def tmH (p : PbW) (en : Nat) (eF eM eC : Nat → Int32) : Prop := (∀ v e : Nat, v < 20 → (v % 2 = 1 ∨ en ≤ e) → p.tm v e = none) ∧ ∀ t e : Nat, t < 10 → e < en → (canE (nI en) eF eM (nI e) (nI t) (-1) = 0 → p.tm (2 * t) e = none) ∧ (¬ canE (nI en) eF eM (nI e) (nI t) (-1) = 0 → ∃ c : Nat, c ≤ 999 ∧ ceA (nI en) eC (nI e) = nI c ∧ p.tm (2 * t) e = some c)
/- levels up to rd hold the cheapest ways -/
def chK (p : PbW) (K r : Nat → Nat → Nat) (i : Nat) (fb fx fq fa fe fg : Nat → Int32) : Prop := LC p i (K i) (r i) fb fx fq ∧ (0 < i → ∀ w c : Nat, w < 20 → Way p i w c (K i w) → ∃ v l : Nat, LCand p (i - 1) (K (i - 1)) w (K i w) (fa (20 * i + w)) (fe (20 * i + w)) (fg (20 * i + w)) v l)
def chQ (p : PbW) (rd : Nat) (fb fx fq fa fe fg : Nat → Int32) : Prop := ∃ K r : Nat → Nat → Nat, ∀ i : Nat, i ≤ rd → chK p K r i fb fx fq fa fe fg
set_option maxRecDepth 20000 in
theorem chQ_up {p : PbW} {i : Nat} {K r : Nat → Nat → Nat} {fb fx fq fa fe fg fb2 fx2 fq2 fa2 fe2 fg2 : Nat → Int32} (h : ∀ j : Nat, j ≤ i → chK p K r j fb fx fq fa fe fg) (hE : ∃ K2 r2 : Nat → Nat, LC p (i + 1) K2 r2 fb2 fx2 fq2 ∧ ∀ w c : Nat, w < 20 → Way p (i + 1) w c (K2 w) → ∃ v l : Nat, LCand p i (K i) w (K2 w) (fa2 (20 * (i + 1) + w)) (fe2 (20 * (i + 1) + w)) (fg2 (20 * (i + 1) + w)) v l) (hF : LFr i fb fx fa fe fg fb2 fx2 fa2 fe2 fg2) (hq : ∀ j : Nat, j < 20 * (i + 1) → fq2 j = fq j) : chQ p (i + 1) fb2 fx2 fq2 fa2 fe2 fg2 := by
  obtain ⟨K2, r2, h1, h2⟩ := hE
  refine ⟨fun j => if j = i + 1 then K2 else K j, fun j => if j = i + 1 then r2 else r j, fun j hj => ?_⟩
  by_cases e : j = i + 1
  · subst e
    unfold chK
    simp only [if_true, Nat.add_sub_cancel, if_neg (show ¬ i = i + 1 by omega)]
    exact ⟨h1, fun _ => h2⟩
  · have hj2 : j ≤ i := by omega
    obtain ⟨g1, g2⟩ := h j hj2
    unfold chK
    simp only [if_neg e, if_neg (show ¬ j - 1 = i + 1 by omega)]
    refine ⟨⟨fun v hv => ?_, g1.2⟩, fun h0 w c hw hc => ?_⟩
    · obtain ⟨b, x, q1, q2, q3, q4⟩ := g1.1 v hv
      obtain ⟨a1, a2, _⟩ := hF (20 * j + v) (by omega)
      exact ⟨b, x, a1.trans q1, a2.trans q2, q3, fun z => ⟨(hq _ (by omega)).trans (q4 z).1, (q4 z).2⟩⟩
    · obtain ⟨v, l, q⟩ := g2 h0 w c hw hc
      obtain ⟨_, _, a3, a4, a5⟩ := hF (20 * j + w) (by omega)
      rw [a3, a4, a5]
      exact ⟨v, l, q⟩
set_option maxRecDepth 20000 in
theorem chQ_le {p : PbW} {a b : Nat} {fb fx fq fa fe fg : Nat → Int32} (h : chQ p b fb fx fq fa fe fg) (hab : a ≤ b) : chQ p a fb fx fq fa fe fg := by
  obtain ⟨K, r, h1⟩ := h
  exact ⟨K, r, fun i hi => h1 i (by omega)⟩
set_option maxRecDepth 20000 in
theorem Way_cong {p q : PbW} (hc : p.cs = q.cs) : ∀ {i v c k : Nat}, (∀ j v l : Nat, j < i → p.st j v l = q.st j v l) → (Way p i v c k ↔ Way q i v c k)
  | 0, _, _, _, _ => Iff.rfl
  | i + 1, w, c, k, h => by
    have ih := fun v c k => Way_cong (p := p) (q := q) hc (i := i) (v := v) (c := c) (k := k) (fun j v l hj => h j v l (by omega))
    constructor
    · rintro ⟨v, c0, k0, l, h1, h2, h3, h4, h5⟩
      exact ⟨v, c0, k0, l, (ih v c0 k0).mp h1, h2, by rw [← h i v l (by omega)]; exact h3, by rw [← hc]; exact h4, h5⟩
    · rintro ⟨v, c0, k0, l, h1, h2, h3, h4, h5⟩
      exact ⟨v, c0, k0, l, (ih v c0 k0).mpr h1, h2, by rw [h i v l (by omega)]; exact h3, by rw [hc]; exact h4, h5⟩
set_option maxRecDepth 20000 in
theorem chQ_cong {p q : PbW} {rd : Nat} {fb fx fq fa fe fg : Nat → Int32} (h : chQ p rd fb fx fq fa fe fg) (hc : p.cs = q.cs) (hs : ∀ j v l : Nat, j < rd → p.st j v l = q.st j v l) : chQ q rd fb fx fq fa fe fg := by
  obtain ⟨K, r, h1⟩ := h
  have hw : ∀ i v c k : Nat, i ≤ rd → (Way p i v c k ↔ Way q i v c k) := fun i v c k hi => Way_cong hc (fun j v l hj => hs j v l (by omega))
  refine ⟨K, r, fun i hi => ?_⟩
  obtain ⟨g1, g2⟩ := h1 i hi
  refine ⟨⟨fun v hv => ?_, fun v w c d hv hw2 h3 h4 => g1.2 v w c d hv hw2 ((hw i v c _ hi).mpr h3) ((hw i w d _ hi).mpr h4)⟩, fun h0 w c hw2 hcw => ?_⟩
  · obtain ⟨b, x, q1, q2, q3, q4⟩ := g1.1 v hv
    exact ⟨b, x, q1, q2, MF_congr q3 (fun s j => hw i v s j hi), q4⟩
  · obtain ⟨v, l, a1, a2, ⟨c3, a3⟩, a4, a5⟩ := g2 h0 w c hw2 ((hw i w c _ hi).mpr hcw)
    exact ⟨v, l, a1, a2, ⟨c3, (hw (i - 1) v c3 _ (by omega)).mp a3⟩, by rw [← hs (i - 1) v l (by omega)]; exact a4, a5⟩
set_option maxRecDepth 20000 in
theorem nd2 (t : Nat) : nI t * 2 + 0 = nI (2 * t) := by
  rw [show (2 : Int32) = nI 2 from rfl, pk_mul, Int32.add_zero, Nat.mul_comm]
set_option maxRecDepth 20000 in
theorem FP_two {p : PbW} {m t e en ln T : Nat} {K : Nat → Nat} {eF eM eC : Nat → Int32} {lc sc le : Int32} (h : FP p m K (2 * t) e lc sc ln le T) (htm : tmH p en eF eM eC) (hen : en ≤ 10) (he : en ≤ e) (he2 : e ≤ 16) (ht : t < 10) : FP p m K (2 * (t + 1)) 0 lc sc ln le T := by
  have h1 := FP_next (FP_skip h he2 (Or.inr (fun e2 h2 _ => htm.1 (2 * t) e2 (by omega) (Or.inr (by omega)))))
  have h2 := FP_next (FP_skip (b := 16) h1 (by omega) (Or.inr (fun e2 _ _ => htm.1 (2 * t + 1) e2 (by omega) (Or.inl (by omega)))))
  exact h2
def sOf (fk fr : Nat → Int32) (i : Nat) : Int32 := if isW (fr i) = 0 then 0 else fk (fr i).toNatClampNeg
/- what holds behind a solving: all levels, and the end -/
def SOL (p : PbW) (m : Nat) (fb fx fq fa fe fg : Nat → Int32) (lc sc ln le : Int32) : Prop := ∃ K r : Nat → Nat → Nat, (∀ i : Nat, i ≤ m → chK p K r i fb fx fq fa fe fg) ∧ ((m = 0 ∧ lc = 1000000000 ∧ sc = 1000000000) ∨ (0 < m ∧ ∃ lnq T : Nat, ln = nI lnq ∧ FP p m (K m) 20 0 lc sc lnq le T))
/- a problem's bounds -/
def pbB (p : PbW) : Prop := (∀ l : Nat, l < 440 → p.cs l ≤ 1998) ∧ ∀ i v l w : Nat, p.st i v l = some w → w < 20
set_option maxRecDepth 20000 in
theorem sOf_0 {fk fr : Nat → Int32} {i : Nat} (h : isW (fr i) = 0) : sOf fk fr i = 0 := by unfold sOf; rw [if_pos h]
set_option maxRecDepth 20000 in
theorem sOf_1 {fk fr : Nat → Int32} {i : Nat} (h : ¬ isW (fr i) = 0) : sOf fk fr i = fk (fr i).toNatClampNeg := by unfold sOf; rw [if_neg h]

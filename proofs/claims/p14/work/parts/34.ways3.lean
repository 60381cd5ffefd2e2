/-! SETTLED: how many first steps the first cheapest ways to a set of nodes share -/
def FW (S : Nat → Nat → Prop) (k : Nat) : Prop := ∃ b : Nat, S b k ∧ ∀ s j : Nat, S s j → b < s ∨ (b = s ∧ k ≤ j)
set_option maxRecDepth 20000 in
theorem FW_of {F : Nat} {S : Nat → Nat → Prop} {b x k : Nat} (h : MF F S b x k) (hb : b < F) : FW S k := by
  rcases h with ⟨z, _⟩ | ⟨_, h1, h2, _⟩
  · omega
  · exact ⟨b, h1, h2⟩
set_option maxRecDepth 20000 in
theorem FW_eq {S : Nat → Nat → Prop} {k j : Nat} (h : FW S k) (g : FW S j) : k = j := by
  obtain ⟨b, h1, h2⟩ := h
  obtain ⟨c, g1, g2⟩ := g
  rcases h2 _ _ g1 with q | q <;> rcases g2 _ _ h1 with r | r <;> omega
set_option maxRecDepth 20000 in
theorem FW_no {F x k : Nat} {S : Nat → Nat → Prop} (h : MF F S F x k) (j : Nat) : ¬ FW S j := by
  rintro ⟨b, h1, _⟩
  rcases h with ⟨_, _, q⟩ | ⟨q, _⟩
  · exact q _ _ h1
  · omega
set_option maxRecDepth 20000 in
theorem FW_congr {S T : Nat → Nat → Prop} (h : ∀ s j : Nat, S s j ↔ T s j) {k : Nat} (g : FW S k) : FW T k := by
  obtain ⟨b, g1, g2⟩ := g
  exact ⟨b, (h _ _).mp g1, fun s j hs => g2 s j ((h s j).mpr hs)⟩
def pre9 (m j k : Nat) : Nat := k / 440 ^ (m - j)
def stAns (m : Nat) (C : Nat → Prop) (r : Int32) : Prop := ((∀ k : Nat, ¬ C k) ∧ r = 0) ∨ ((∃ k : Nat, C k) ∧ ∃ v : Nat, r = nI v ∧ ∀ j : Nat, j ≤ v ↔ (j ≤ m ∧ ∀ k k2 : Nat, C k → C k2 → pre9 m j k = pre9 m j k2))
set_option maxRecDepth 20000 in
theorem stAns_eq {m : Nat} {C D : Nat → Prop} {r r2 : Int32} (hCD : ∀ k : Nat, C k ↔ D k) (h : stAns m C r) (g : stAns m D r2) : r = r2 := by
  rcases h with ⟨h1, h2⟩ | ⟨⟨k, h1⟩, v, h2, h3⟩
  · rcases g with ⟨g1, g2⟩ | ⟨⟨k, g1⟩, _⟩
    · rw [h2, g2]
    · exact absurd ((hCD k).mpr g1) (h1 k)
  · rcases g with ⟨g1, _⟩ | ⟨_, w, g2, g3⟩
    · exact absurd ((hCD k).mp h1) (g1 k)
    · have key : ∀ j : Nat, j ≤ v ↔ j ≤ w := fun j => by
        rw [h3 j, g3 j]
        constructor
        · rintro ⟨q1, q2⟩
          exact ⟨q1, fun a b ha hb => q2 a b ((hCD a).mpr ha) ((hCD b).mpr hb)⟩
        · rintro ⟨q1, q2⟩
          exact ⟨q1, fun a b ha hb => q2 a b ((hCD a).mp ha) ((hCD b).mp hb)⟩
      have e : v = w := by
        have a := (key v).mp (Nat.le_refl _)
        have b := (key w).mpr (Nat.le_refl _)
        omega
      rw [h2, g2, e]
/- where two codes part -/
def lcq : Nat → Nat → Nat → Nat
  | 0, _, _ => 0
  | m + 1, a, b => if a = b then m + 1 else lcq m (a / 440) (b / 440)
set_option maxRecDepth 20000 in
theorem lcq_le : ∀ m a b : Nat, lcq m a b ≤ m
  | 0, _, _ => Nat.le_refl _
  | m + 1, a, b => by
    unfold lcq
    have := lcq_le m (a / 440) (b / 440)
    split <;> omega
set_option maxRecDepth 20000 in
theorem pre_s {m j k : Nat} (h : j ≤ m) : pre9 (m + 1) j k = pre9 m j (k / 440) := by
  unfold pre9
  rw [show m + 1 - j = (m - j) + 1 by omega, Nat.pow_succ, Nat.mul_comm, Nat.div_div_eq_div_mul]
set_option maxRecDepth 20000 in
theorem pre_all {m k : Nat} : pre9 m m k = k := by
  unfold pre9
  rw [Nat.sub_self, Nat.pow_zero, Nat.div_one]
set_option maxRecDepth 20000 in
theorem lcq_iff : ∀ (m a b j : Nat), a < 440 ^ m → b < 440 ^ m → j ≤ m → (j ≤ lcq m a b ↔ pre9 m j a = pre9 m j b)
  | 0, a, b, j, ha, hb, h => by
    rw [Nat.pow_zero] at ha hb
    have e1 : a = 0 := by omega
    have e2 : b = 0 := by omega
    rw [e1, e2]
    exact ⟨fun _ => rfl, fun _ => h⟩
  | m + 1, a, b, j, ha, hb, h => by
    unfold lcq
    by_cases c : a = b
    · rw [if_pos c, c]; exact ⟨fun _ => rfl, fun _ => h⟩
    · rw [if_neg c]
      rcases Nat.lt_or_ge m j with q | q
      · have e : j = m + 1 := by omega
        subst e
        have := lcq_le m (a / 440) (b / 440)
        rw [pre_all, pre_all]
        exact ⟨fun z => by omega, fun z => absurd z c⟩
      · rw [Nat.pow_succ] at ha hb
        rw [pre_s q, pre_s q]
        exact lcq_iff m _ _ j (by omega) (by omega) q
set_option maxRecDepth 20000 in
theorem Way_lt9 {p : PbW} : ∀ {i v c k : Nat}, Way p i v c k → k < 440 ^ i
  | 0, _, _, _, h => by rw [h.2.2, Nat.pow_zero]; omega
  | i + 1, _, _, _, h => by
    obtain ⟨v, c0, k0, l, h1, h2, h3, h4, h5⟩ := h
    have := Way_lt9 h1
    rw [Nat.pow_succ]
    omega
/- the class's fold over the nodes -/
def shI (m : Nat) (In : Nat → Prop) (K : Nat → Nat) (n : Nat) (fi sh : Int32) : Prop := (fi = -1 ∧ sh = 0 ∧ ∀ v : Nat, v < n → ¬ In v) ∨ ∃ f0 s0 : Nat, f0 < n ∧ f0 < 20 ∧ In f0 ∧ fi = nI f0 ∧ sh = nI s0 ∧ ∀ j : Nat, j ≤ s0 ↔ (j ≤ m ∧ ∀ v : Nat, v < n → In v → pre9 m j (K v) = pre9 m j (K f0))
section
variable {m n : Nat} {In : Nat → Prop} {K : Nat → Nat} {fi sh : Int32}
set_option maxRecDepth 20000 in
theorem shI_0 : shI m In K 0 (-1) 0 := Or.inl ⟨rfl, rfl, fun v h => absurd h (Nat.not_lt_zero v)⟩
set_option maxRecDepth 20000 in
theorem shI_no (h : shI m In K n fi sh) (hn : ¬ In n) : shI m In K (n + 1) fi sh := by
  rcases h with ⟨h1, h2, h3⟩ | ⟨f0, s0, h1, h2, h3, h4, h5, h6⟩
  · exact Or.inl ⟨h1, h2, C_up h3 hn⟩
  · refine Or.inr ⟨f0, s0, by omega, h2, h3, h4, h5, fun j => (h6 j).trans ⟨fun q => ⟨q.1, fun v hv hi => ?_⟩, fun q => ⟨q.1, fun v hv hi => q.2 v (by omega) hi⟩⟩⟩
    rcases Nat.lt_or_ge v n with z | z
    · exact q.2 v z hi
    · have e : v = n := by omega
      exact absurd (e ▸ hi) hn
set_option maxRecDepth 20000 in
theorem shI_first (h : shI m In K n fi sh) (hf : fi = -1) (hi : In n) (h20 : n < 20) : shI m In K (n + 1) (nI n) (nI m) := by
  rcases h with ⟨_, _, h3⟩ | ⟨f0, s0, h1, h2, h3, h4, h5, h6⟩
  · refine Or.inr ⟨n, m, by omega, h20, hi, rfl, rfl, fun j => ⟨fun z => ⟨z, fun v hv hiv => ?_⟩, fun z => z.1⟩⟩
    rcases Nat.lt_or_ge v n with q | q
    · exact absurd hiv (h3 v q)
    · rw [show v = n by omega]
  · exact absurd (h4.symm.trans hf) (nI_m1 (by omega))
set_option maxRecDepth 20000 in
theorem shI_at (h : shI m In K n fi sh) (hf : ¬ fi = -1) : ∃ f0 s0 : Nat, f0 < 20 ∧ In f0 ∧ fi = nI f0 ∧ sh = nI s0 ∧ f0 < n ∧ ∀ j : Nat, j ≤ s0 ↔ (j ≤ m ∧ ∀ v : Nat, v < n → In v → pre9 m j (K v) = pre9 m j (K f0)) := by
  rcases h with ⟨h1, _⟩ | ⟨f0, s0, h1, h2, h3, h4, h5, h6⟩
  · exact absurd h1 hf
  · exact ⟨f0, s0, h2, h3, h4, h5, h1, h6⟩
set_option maxRecDepth 20000 in
theorem shI_more {f0 s0 : Nat} (hK : ∀ v : Nat, In v → K v < 440 ^ m) (h2 : f0 < 20) (h3 : In f0) (h1 : f0 < n) (h6 : ∀ j : Nat, j ≤ s0 ↔ (j ≤ m ∧ ∀ v : Nat, v < n → In v → pre9 m j (K v) = pre9 m j (K f0))) (hi : In n) : shI m In K (n + 1) (nI f0) (nI (min s0 (lcq m (K f0) (K n)))) := by
  have hl := lcq_le m (K f0) (K n)
  refine Or.inr ⟨f0, _, by omega, h2, h3, rfl, rfl, fun j => ?_⟩
  constructor
  · intro z
    have z1 : j ≤ s0 := by omega
    have z2 : j ≤ lcq m (K f0) (K n) := by omega
    obtain ⟨q1, q2⟩ := (h6 j).mp z1
    refine ⟨q1, fun v hv hiv => ?_⟩
    rcases Nat.lt_or_ge v n with q | q
    · exact q2 v q hiv
    · rw [show v = n by omega]
      exact ((lcq_iff m _ _ j (hK _ h3) (hK _ hi) q1).mp z2).symm
  · rintro ⟨q1, q2⟩
    have z1 := (h6 j).mpr ⟨q1, fun v hv hiv => q2 v (by omega) hiv⟩
    have z2 := (lcq_iff m _ _ j (hK _ h3) (hK _ hi) q1).mpr (q2 n (by omega) hi).symm
    omega
set_option maxRecDepth 20000 in
theorem shI_end (h : shI m In K 20 fi sh) : stAns m (fun k => ∃ v : Nat, v < 20 ∧ In v ∧ k = K v) sh := by
  rcases h with ⟨_, h2, h3⟩ | ⟨f0, s0, h1, h2, h3, h4, h5, h6⟩
  · refine Or.inl ⟨?_, h2⟩
    rintro k ⟨v, q1, q2, _⟩
    exact h3 v q1 q2
  · refine Or.inr ⟨⟨K f0, f0, h2, h3, rfl⟩, s0, h5, fun j => (h6 j).trans ⟨fun q => ⟨q.1, ?_⟩, fun q => ⟨q.1, fun v hv hiv => q.2 _ _ ⟨v, hv, hiv, rfl⟩ ⟨f0, h2, h3, rfl⟩⟩⟩⟩
    rintro k k2 ⟨v, a1, a2, rfl⟩ ⟨w, b1, b2, rfl⟩
    exact (q.2 v a1 a2).trans (q.2 w b1 b2).symm
end
/- the reference's rows of end and go lines spell a code -/
def labs (eA gA : Nat → Int32) (m k : Nat) : Prop := ∃ kf : Nat → Nat, kf 0 = 0 ∧ kf m = k ∧ ∀ j : Nat, j < m → ∃ l : Nat, l < 440 ∧ eA j = evl (l / 40) ∧ gA j = nI (l % 40) ∧ kf (j + 1) = kf j * 440 + l
set_option maxRecDepth 20000 in
theorem labs_cong {eA gA eB gB : Nat → Int32} {m k : Nat} (h : labs eA gA m k) (he : ∀ i : Nat, i < m → eB i = eA i ∧ gB i = gA i) : labs eB gB m k := by
  obtain ⟨kf, h1, h2, h3⟩ := h
  refine ⟨kf, h1, h2, fun j hj => ?_⟩
  obtain ⟨l, a1, a2, a3, a4⟩ := h3 j hj
  obtain ⟨e1, e2⟩ := he j hj
  exact ⟨l, a1, e1.trans a2, e2.trans a3, a4⟩
set_option maxRecDepth 20000 in
theorem evl_inj {a b : Nat} (ha : a ≤ 100) (hb : b ≤ 100) (h : evl a = evl b) : a = b := by
  cases a with
  | zero => exact ((evl_lt hb).mp (by rw [← h]; decide)).symm
  | succ a => cases b with
    | zero => exact (evl_lt ha).mp (by rw [h]; decide)
    | succ b => have := (nI_eq (a := a) (b := b) (by omega) (by omega)).mp h; omega
set_option maxRecDepth 20000 in
theorem labs_pre {kf l9 : Nat → Nat} {m : Nat} (h : ∀ j : Nat, j < m → kf (j + 1) = kf j * 440 + l9 j) (hl : ∀ j : Nat, j < m → l9 j < 440) : ∀ d : Nat, d ≤ m → pre9 m (m - d) (kf m) = kf (m - d)
  | 0, _ => pre_all
  | d + 1, hd => by
    have ih := labs_pre h hl d (by omega)
    unfold pre9 at ih ⊢
    rw [show m - (m - (d + 1)) = d + 1 by omega, Nat.pow_succ, ← Nat.div_div_eq_div_mul]
    rw [show m - (m - d) = d by omega] at ih
    rw [ih]
    have q := h (m - (d + 1)) (by omega)
    have q2 := hl (m - (d + 1)) (by omega)
    rw [show m - (d + 1) + 1 = m - d by omega] at q
    omega
set_option maxRecDepth 20000 in
theorem labs_iff {eA gA eB gB : Nat → Int32} {m k k2 j : Nat} (h : labs eA gA m k) (g : labs eB gB m k2) (hj : j ≤ m) : (∀ i : Nat, i < j → eA i = eB i ∧ gA i = gB i) ↔ pre9 m j k = pre9 m j k2 := by
  obtain ⟨kf, h1, h2, h3⟩ := h
  obtain ⟨kg, g1, g2, g3⟩ := g
  have h4 : ∀ i : Nat, ∃ l : Nat, i < m → l < 440 ∧ eA i = evl (l / 40) ∧ gA i = nI (l % 40) ∧ kf (i + 1) = kf i * 440 + l := fun i => by
    by_cases c : i < m
    · obtain ⟨l, q⟩ := h3 i c; exact ⟨l, fun _ => q⟩
    · exact ⟨0, fun z => absurd z c⟩
  have g4 : ∀ i : Nat, ∃ l : Nat, i < m → l < 440 ∧ eB i = evl (l / 40) ∧ gB i = nI (l % 40) ∧ kg (i + 1) = kg i * 440 + l := fun i => by
    by_cases c : i < m
    · obtain ⟨l, q⟩ := g3 i c; exact ⟨l, fun _ => q⟩
    · exact ⟨0, fun z => absurd z c⟩
  obtain ⟨la, ha⟩ := Classical.axiomOfChoice h4
  obtain ⟨lb, hb⟩ := Classical.axiomOfChoice g4
  have pa : ∀ i : Nat, i ≤ m → pre9 m i k = kf i := fun i hi => by
    have q := labs_pre (kf := kf) (l9 := la) (m := m) (fun a z => (ha a z).2.2.2) (fun a z => (ha a z).1) (m - i) (by omega)
    rw [show m - (m - i) = i by omega, h2] at q
    exact q
  have pb : ∀ i : Nat, i ≤ m → pre9 m i k2 = kg i := fun i hi => by
    have q := labs_pre (kf := kg) (l9 := lb) (m := m) (fun a z => (hb a z).2.2.2) (fun a z => (hb a z).1) (m - i) (by omega)
    rw [show m - (m - i) = i by omega, g2] at q
    exact q
  rw [pa j hj, pb j hj]
  have main : ∀ j : Nat, j ≤ m → ((∀ i : Nat, i < j → eA i = eB i ∧ gA i = gB i) ↔ kf j = kg j) := by
    intro j
    induction j with
    | zero => intro _; exact ⟨fun _ => by rw [h1, g1], fun _ i hi => absurd hi (Nat.not_lt_zero i)⟩
    | succ j ih =>
      intro hj
      have ih2 := ih (by omega)
      obtain ⟨a1, a2, a3, a4⟩ := ha j (by omega)
      obtain ⟨b1, b2, b3, b4⟩ := hb j (by omega)
      constructor
      · intro z
        have q1 := ih2.mp (fun i hi => z i (by omega))
        obtain ⟨q2, q3⟩ := z j (by omega)
        have q4 : la j / 40 = lb j / 40 := evl_inj (by omega) (by omega) (by rw [← a2, ← b2]; exact q2)
        have q5 : la j % 40 = lb j % 40 := (nI_eq (by omega) (by omega)).mp (by rw [← a3, ← b3]; exact q3)
        rw [a4, b4, q1]
        omega
      · intro z
        rw [a4, b4] at z
        have q1 : kf j = kg j := by omega
        have q2 : la j = lb j := by omega
        intro i hi
        rcases Nat.lt_or_ge i j with y | y
        · exact ih2.mpr q1 i y
        · rw [show i = j by omega, a2, a3, b2, b3, q2]
          exact ⟨rfl, rfl⟩
  exact main j hj
set_option maxRecDepth 20000 in
theorem gp_labs {p : PbW} {m T n : Nat} {L eA gA nB : Nat → Int32} (h : gp p m T m n L eA gA nB) : labs eA gA m (T / 16) := by
  obtain ⟨kf, vf, b, x, κ, h1, h2, h3, h4, h5, h6, h7, h8⟩ := h
  rw [Nat.sub_self] at h7 h8
  have hk : κ < 16 := by
    rcases h7 with ⟨z, _⟩ | ⟨_, q, _⟩
    · omega
    · exact q.1
  have : Qb 0 = 16 := rfl
  rw [this] at h8
  refine ⟨kf, h2, by omega, fun j hj => ?_⟩
  obtain ⟨l, a1, a2, a3, a4, a5, a6, a7⟩ := h4 j hj
  exact ⟨l, a1, a2, a3, a7⟩
set_option maxRecDepth 20000 in
theorem cmp_tg {q : PbW} {m u s T : Nat} : Cmp (wTm q (tgT u)) m 0 0 s T ↔ ∃ k : Nat, Way q m u s k ∧ T = k * 16 := by
  have hw : ∀ v c k : Nat, Way (wTm q (tgT u)) m v c k ↔ Way q m v c k := fun v c k => Way_cong (p := wTm q (tgT u)) (q := q) rfl (fun _ _ _ _ => rfl)
  rw [← Ful_start, Ful_all, Nat.zero_add]
  constructor
  · rintro ⟨v, s0, k0, s1, k1, h1, ⟨h2, h3⟩, h4, h5⟩
    have h6 : (if v = u ∧ k1 = 0 then some 0 else none) = some s1 := h3
    by_cases c : v = u ∧ k1 = 0
    · rw [if_pos c] at h6
      have h7 := Option.some.inj h6
      refine ⟨k0, ?_, ?_⟩
      · rw [← c.1, h4, ← h7]; exact (hw _ _ _).mp h1
      · rw [h5, c.2]; show k0 * (440 ^ 0 * 16) + 0 = _; rw [Nat.pow_zero, Nat.one_mul, Nat.add_zero]
    · rw [if_neg c] at h6; cases h6
  · rintro ⟨k, h1, h2⟩
    refine ⟨u, s, k, 0, 0, (hw _ _ _).mpr h1, ⟨by omega, ?_⟩, rfl, ?_⟩
    · show (if u = u ∧ 0 = 0 then some 0 else none) = some 0
      rw [if_pos ⟨rfl, rfl⟩]
    · rw [h2]; show _ = k * (440 ^ 0 * 16) + 0; rw [Nat.pow_zero, Nat.one_mul, Nat.add_zero]
set_option maxRecDepth 20000 in
theorem tg_yes {q : PbW} {m u b x T : Nat} (h : MF RF (Cmp (wTm q (tgT u)) m 0 0) b x T) (hb : b < RF) : FW (Way q m u) (T / 16) := by
  obtain ⟨c, h1, h2⟩ := FW_of h hb
  obtain ⟨k, h3, h4⟩ := cmp_tg.mp h1
  rw [show T / 16 = k by omega]
  refine ⟨c, h3, fun s j hs => ?_⟩
  have := h2 s (j * 16) (cmp_tg.mpr ⟨j, hs, rfl⟩)
  omega
set_option maxRecDepth 20000 in
theorem tg_no {q : PbW} {m u x T : Nat} (h : MF RF (Cmp (wTm q (tgT u)) m 0 0) RF x T) (k : Nat) : ¬ FW (Way q m u) k := by
  rintro ⟨b, h1, _⟩
  rcases h with ⟨_, _, z⟩ | ⟨z, _⟩
  · exact z _ _ (cmp_tg.mpr ⟨k, h1, rfl⟩)
  · omega
/- the reference's fold over the targets -/
def rfI (q : PbW) (m : Nat) (out : Nat → Prop) (n : Nat) (sm : Int32) (fE fG : Nat → Int32) : Prop := (sm = -1 ∧ ∀ u k : Nat, u < n → out u → ¬ FW (Way q m u) k) ∨ ∃ u0 k0 s0 : Nat, u0 < n ∧ out u0 ∧ FW (Way q m u0) k0 ∧ labs fE fG m k0 ∧ sm = nI s0 ∧ s0 ≤ m ∧ ∀ j : Nat, j ≤ s0 ↔ (j ≤ m ∧ ∀ u k : Nat, u < n → out u → FW (Way q m u) k → pre9 m j k = pre9 m j k0)
section
variable {q : PbW} {m n : Nat} {out : Nat → Prop} {sm : Int32} {fE fG eA gA : Nat → Int32}
set_option maxRecDepth 20000 in
theorem rfI_0 : rfI q m out 0 (-1) fE fG := Or.inl ⟨rfl, fun u k h => absurd h (Nat.not_lt_zero u)⟩
set_option maxRecDepth 20000 in
theorem rfI_no (h : rfI q m out n sm fE fG) (hn : ¬ out n ∨ ∀ k : Nat, ¬ FW (Way q m n) k) : rfI q m out (n + 1) sm fE fG := by
  have key : ∀ k : Nat, out n → ¬ FW (Way q m n) k := fun k ho hf => hn.elim (fun z => z ho) (fun z => z k hf)
  rcases h with ⟨h1, h2⟩ | ⟨u0, k0, s0, h1, h2, h3, h4, h5, h6, h7⟩
  · refine Or.inl ⟨h1, fun u k hu => ?_⟩
    rcases Nat.lt_or_ge u n with z | z
    · exact h2 u k z
    · rw [show u = n by omega]; exact key k
  · refine Or.inr ⟨u0, k0, s0, by omega, h2, h3, h4, h5, h6, fun j => (h7 j).trans ⟨fun y => ⟨y.1, fun u k hu ho hf => ?_⟩, fun y => ⟨y.1, fun u k hu => y.2 u k (by omega)⟩⟩⟩
    rcases Nat.lt_or_ge u n with z | z
    · exact y.2 u k z ho hf
    · have e : u = n := by omega
      subst e
      exact absurd hf (key k ho)
set_option maxRecDepth 20000 in
theorem rfI_first {k : Nat} (h : rfI q m out n sm fE fG) (hs : sm < 0) (hm : m ≤ 60) (ho : out n) (hf : FW (Way q m n) k) (hl : labs eA gA m k) : rfI q m out (n + 1) (nI m) eA gA := by
  rcases h with ⟨_, h2⟩ | ⟨u0, k0, s0, h1, h2, h3, h4, h5, h6, h7⟩
  · refine Or.inr ⟨n, k, m, by omega, ho, hf, hl, rfl, Nat.le_refl _, fun j => ⟨fun z => ⟨z, fun u k2 hu ho2 hf2 => ?_⟩, fun z => z.1⟩⟩
    rcases Nat.lt_or_ge u n with z | z
    · exact absurd hf2 (h2 u k2 z ho2)
    · have e : u = n := by omega
      subst e
      rw [FW_eq hf2 hf]
  · rw [h5] at hs; exact absurd hs (nI_pos (by omega))
set_option maxRecDepth 20000 in
theorem rfI_more {k s9 v : Nat} (h : rfI q m out n (nI s9) fE fG) (hs : s9 < 2 ^ 31) (hm : m ≤ 60) (ho : out n) (hf : FW (Way q m n) k) (hl : labs eA gA m k) (hv : v ≤ s9) (h1 : ∀ i : Nat, i < v → fE i = eA i ∧ fG i = gA i) (h2 : v = s9 ∨ ¬ (fE v = eA v ∧ fG v = gA v)) : rfI q m out (n + 1) (nI v) fE fG := by
  rcases h with ⟨z, _⟩ | ⟨u0, k0, s0, g1, g2, g3, g4, g5, g6, g7⟩
  · exact absurd z (nI_m1 hs)
  · have e : s9 = s0 := (nI_eq hs (by omega)).mp g5
    subst e
    refine Or.inr ⟨u0, k0, v, by omega, g2, g3, g4, rfl, by omega, fun j => ?_⟩
    constructor
    · intro z
      obtain ⟨y1, y2⟩ := (g7 j).mp (by omega)
      refine ⟨y1, fun u k2 hu ho2 hf2 => ?_⟩
      rcases Nat.lt_or_ge u n with x | x
      · exact y2 u k2 x ho2 hf2
      · have e : u = n := by omega
        subst e
        rw [FW_eq hf2 hf]
        exact ((labs_iff g4 hl y1).mp (fun i hi => h1 i (by omega))).symm
    · rintro ⟨y1, y2⟩
      have z1 := (g7 j).mpr ⟨y1, fun u k2 hu => y2 u k2 (by omega)⟩
      rcases h2 with x | x
      · omega
      · have z2 := (labs_iff g4 hl y1).mpr (y2 n k (by omega) ho hf).symm
        rcases Nat.lt_or_ge v j with w | w
        · exact absurd (z2 v w) x
        · exact w
set_option maxRecDepth 20000 in
theorem rfI_end {r : Int32} (h : rfI q m out 20 sm fE fG) (hm : m ≤ 60) (hr : (sm < 0 ∧ r = 0) ∨ (¬ sm < 0 ∧ r = sm)) : stAns m (fun k => ∃ u : Nat, u < 20 ∧ out u ∧ FW (Way q m u) k) r := by
  rcases h with ⟨h1, h2⟩ | ⟨u0, k0, s0, g1, g2, g3, g4, g5, g6, g7⟩
  · rcases hr with ⟨_, e⟩ | ⟨z, _⟩
    · refine Or.inl ⟨?_, e⟩
      rintro k ⟨u, a1, a2, a3⟩
      exact h2 u k a1 a2 a3
    · rw [h1] at z; exact absurd (by decide) z
  · rcases hr with ⟨z, _⟩ | ⟨_, e⟩
    · rw [g5] at z; exact absurd z (nI_pos (by omega))
    · refine Or.inr ⟨⟨k0, u0, g1, g2, g3⟩, s0, e.trans g5, fun j => (g7 j).trans ⟨fun y => ⟨y.1, ?_⟩, fun y => ⟨y.1, fun u k hu ho hf => y.2 _ _ ⟨u, hu, ho, hf⟩ ⟨u0, g1, g2, g3⟩⟩⟩⟩
      rintro k k2 ⟨u, a1, a2, a3⟩ ⟨w, b1, b2, b3⟩
      exact (y.2 u k a1 a2 a3).trans (y.2 w k2 b1 b2 b3).symm
end
/- both sides' sets of codes are one -/
set_option maxRecDepth 20000 in
theorem set_eq {p q : PbW} {m : Nat} {hop out : Nat → Prop} {K : Nat → Nat} (hs : simP p q) (hp : pbB p) (hH : ∀ v : Nat, v < 20 → (hop v ↔ out (phi v))) (hK : ∀ v : Nat, v < 20 → (∃ c k : Nat, Way p m v c k) → FW (Way p m v) (K v)) (k : Nat) : (∃ v : Nat, v < 20 ∧ (hop v ∧ ∃ c k : Nat, Way p m v c k) ∧ k = K v) ↔ ∃ u : Nat, u < 20 ∧ out u ∧ FW (Way q m u) k := by
  have key : ∀ v : Nat, v < 20 → ∀ c k : Nat, Way q m (phi v) c k ↔ Way p m v c k := fun v hv c k => by
    rw [sim_way hs hp.2]
    constructor
    · rintro ⟨w, hw, e, h⟩
      rw [← phi_inj hw hv e]; exact h
    · intro h
      exact ⟨v, hv, rfl, h⟩
  constructor
  · rintro ⟨v, hv, ⟨h1, h2⟩, rfl⟩
    exact ⟨phi v, phi_lt v hv, (hH v hv).mp h1, FW_congr (fun s j => (key v hv s j).symm) (hK v hv h2)⟩
  · rintro ⟨u, hu, h1, h2⟩
    have hv := psi_lt u hu
    have e := phi_psi u hu
    rw [← e] at h1 h2
    have h3 := FW_congr (key _ hv) h2
    obtain ⟨b, h4, h5⟩ := h3
    exact ⟨psi u, hv, ⟨(hH _ hv).mpr h1, b, k, h4⟩, FW_eq ⟨b, h4, h5⟩ (hK _ hv ⟨b, k, h4⟩)⟩
/-! the first states of the lines that a reading makes -/
def gsF (s : List L5 × List L3) : Prop := (∀ (i : Nat) (x : L5), s.1[i]? = some x → ∃ k : Nat, k ≤ 9 ∧ x.1 = nI k) ∧ ∀ (i : Nat) (x : L3), s.2[i]? = some x → ∃ k : Nat, k ≤ 9 ∧ x.1 = nI k
set_option maxRecDepth 20000 in
theorem stN_v {f : Nat → Int32} {n top : Nat} {q : Nat × Int32} (hn : n ≤ 1600) (ht : top < 2 ^ 31) (h : (stN (tkO f n) top q).2 = 0) : ∃ k : Nat, k ≤ top ∧ nV (tkO f n) q = nI k := by
  have h0 := stN_z h
  unfold stN at h
  rw [if_pos h0] at h
  by_cases c : (tkO f n).S q.1 = 3
  · rw [if_pos c] at h
    by_cases c2 : (tkO f n).V q.1 ≤ nI top
    · obtain ⟨e1, e2⟩ := aN_dN (f := f) (n := n) (j := q.1) c
      have e3 : (tkO f n).V q.1 = nI (dN f (aP f n q.1) (bs f n (q.1 + 1) - aP f n q.1)) := e1
      rw [e3] at c2
      refine ⟨_, (nI_leI (by omega) ht).mp c2, ?_⟩
      unfold nV
      rw [if_pos c, e3]
    · rw [if_neg c2] at h; exact absurd h (flt_ne hn (by decide) (by decide))
  · rw [if_neg c] at h; exact absurd h (flt_ne hn (by decide) (by decide))
set_option maxRecDepth 20000 in
theorem lgE_f {f : Nat → Int32} {n : Nat} {q : Nat × Int32} (hn : n ≤ 1600) (h : (lgE (tkO f n) q).2 = 0) : ∃ k : Nat, k ≤ 9 ∧ (lgL (tkO f n) q).1 = nI k := by
  unfold lgE stS at h
  have h1 := stO_z (stX_z h)
  unfold lgD at h1
  have h2 := stN_z h1
  unfold stW at h2
  have h3 := stX_z h2
  unfold lgC at h3
  have h4 := stN_z h3
  unfold stW at h4
  have h5 := stX_z h4
  unfold lgB at h5
  have h6 := stN_z h5
  unfold stW at h6
  have h7 := stX_z h6
  unfold lgA at h7
  exact stN_v hn (by decide) h7
set_option maxRecDepth 20000 in
theorem leC_f {f : Nat → Int32} {n : Nat} {q : Nat × Int32} (hn : n ≤ 1600) (h : (leC (tkO f n) q).2 = 0) : ∃ k : Nat, k ≤ 9 ∧ (leL (tkO f n) q).1 = nI k := by
  unfold leC stS at h
  have h1 := stX_z h
  unfold stM at h1
  have h2 := stX_z h1
  unfold stW at h2
  have h3 := stX_z h2
  unfold leB at h3
  have h4 := stN_z h3
  unfold stW at h4
  have h5 := stX_z h4
  unfold leA at h5
  exact stN_v hn (by decide) h5
set_option maxRecDepth 20000 in
theorem gsF_L {t : TkS} {s : RdS} (hg : ∀ q : Nat × Int32, (lgE t q).2 = 0 → ∃ k : Nat, k ≤ 9 ∧ (lgL t q).1 = nI k) (he : ∀ q : Nat × Int32, (leC t q).2 = 0 → ∃ k : Nat, k ≤ 9 ∧ (leL t q).1 = nI k) (h : gsF s.2) : gsF (rdL t s).2 := by
  obtain ⟨q, l, e⟩ := s
  have h0 : gsF (l, e) := h
  unfold rdL
  by_cases c1 : t.T q.1 0 = 0
  · rw [if_pos c1]
    by_cases c2 : t.T q.1 8 = 0
    · rw [if_pos c2]; exact h0
    · rw [if_neg c2]
      unfold rdE
      by_cases c3 : e.length = 10
      · rw [if_pos c3]; exact h0
      · rw [if_neg c3]
        show gsF (l, (if (leC t q).2 = 0 then e ++ [leL t q] else e))
        by_cases c4 : (leC t q).2 = 0
        · rw [if_pos c4]
          refine ⟨h0.1, fun i x hx => ?_⟩
          rcases app_at hx with ⟨_, z⟩ | ⟨_, z⟩
          · exact h0.2 i x z
          · rw [z]; exact he q c4
        · rw [if_neg c4]; exact h0
  · rw [if_neg c1]
    unfold rdG
    by_cases c3 : l.length = 40
    · rw [if_pos c3]; exact h0
    · rw [if_neg c3]
      show gsF ((if (lgE t q).2 = 0 then l ++ [lgL t q] else l), e)
      by_cases c4 : (lgE t q).2 = 0
      · rw [if_pos c4]
        refine ⟨fun i x hx => ?_, h0.2⟩
        rcases app_at hx with ⟨_, z⟩ | ⟨_, z⟩
        · exact h0.1 i x z
        · rw [z]; exact hg q c4
      · rw [if_neg c4]; exact h0
set_option maxRecDepth 20000 in
theorem gsF_R {t : TkS} (hg : ∀ q : Nat × Int32, (lgE t q).2 = 0 → ∃ k : Nat, k ≤ 9 ∧ (lgL t q).1 = nI k) (he : ∀ q : Nat × Int32, (leC t q).2 = 0 → ∃ k : Nat, k ≤ 9 ∧ (leL t q).1 = nI k) : ∀ (k : Nat) (s : RdS), gsF s.2 → gsF (rdR t k s).2
  | 0, s, h => h
  | k + 1, s, h => by
    unfold rdR
    by_cases c1 : s.1.2 = 0
    · rw [if_pos c1]
      by_cases c2 : t.S s.1.1 = 0
      · rw [if_pos c2]; exact h
      · rw [if_neg c2]; exact gsF_R hg he k _ (gsF_L hg he h)
    · rw [if_neg c1]; exact h
set_option maxRecDepth 20000 in
theorem gsF_all {f : Nat → Int32} {n : Nat} (hn : n ≤ 1600) : gsF (rdAll (tkO f n)).2 := gsF_R (fun q h => lgE_f hn h) (fun q h => leC_f hn h) 1600 _ ⟨fun i x h => by simp at h, fun i x h => by simp at h⟩
/-! the reference's hope -/
def rE (E : Nat → Int32) (hd n u : Nat) : Prop := u < 10 ∧ ∃ j : Nat, j < n ∧ E (3 * (10 * hd + j) + 0) = nI u
def ldT (G : Nat → Int32) (hd u g : Nat) : Int32 := if G (5 * (40 * hd + g) + 0) = nI (u % 10) then (if nI u < 10 then (if G (5 * (40 * hd + g) + 4) = 2 then G (5 * (40 * hd + g) + 2) + 10 else if G (5 * (40 * hd + g) + 4) = 3 then -1 else G (5 * (40 * hd + g) + 2) + 0) else (if G (5 * (40 * hd + g) + 4) = 2 then -1 else if G (5 * (40 * hd + g) + 4) = 3 then G (5 * (40 * hd + g) + 2) + 0 else G (5 * (40 * hd + g) + 2) + 10)) else -1
def ldO (O G : Nat → Int32) (hd u g : Nat) : Int32 := if G (5 * (40 * hd + g) + 0) = nI (u % 10) then (if nI u < 10 then (if G (5 * (40 * hd + g) + 4) = 2 then O (G (5 * (40 * hd + g) + 2) + 10).toNatClampNeg else if G (5 * (40 * hd + g) + 4) = 3 then 0 else O (G (5 * (40 * hd + g) + 2) + 0).toNatClampNeg) else (if G (5 * (40 * hd + g) + 4) = 2 then 0 else if G (5 * (40 * hd + g) + 4) = 3 then O (G (5 * (40 * hd + g) + 2) + 0).toNatClampNeg else O (G (5 * (40 * hd + g) + 2) + 10).toNatClampNeg)) else 0
def rR (G : Nat → Int32) (hd n u w : Nat) : Prop := ∃ g : Nat, g < n ∧ ldT G hd u g = nI w
set_option maxRecDepth 20000 in
theorem ldO_T (O G : Nat → Int32) (hd u g : Nat) : (ldT G hd u g = -1 ∧ ldO O G hd u g = 0) ∨ (ldO O G hd u g = O (ldT G hd u g).toNatClampNeg ∧ (ldT G hd u g = G (5 * (40 * hd + g) + 2) + 10 ∨ ldT G hd u g = G (5 * (40 * hd + g) + 2) + 0)) := by
  unfold ldT ldO
  by_cases c0 : G (5 * (40 * hd + g) + 0) = nI (u % 10)
  · rw [if_pos c0, if_pos c0]
    by_cases c1 : nI u < 10
    · rw [if_pos c1, if_pos c1]
      by_cases c2 : G (5 * (40 * hd + g) + 4) = 2
      · rw [if_pos c2, if_pos c2]; exact Or.inr ⟨rfl, Or.inl rfl⟩
      · rw [if_neg c2, if_neg c2]
        by_cases c3 : G (5 * (40 * hd + g) + 4) = 3
        · rw [if_pos c3, if_pos c3]; exact Or.inl ⟨rfl, rfl⟩
        · rw [if_neg c3, if_neg c3]; exact Or.inr ⟨rfl, Or.inr rfl⟩
    · rw [if_neg c1, if_neg c1]
      by_cases c2 : G (5 * (40 * hd + g) + 4) = 2
      · rw [if_pos c2, if_pos c2]; exact Or.inl ⟨rfl, rfl⟩
      · rw [if_neg c2, if_neg c2]
        by_cases c3 : G (5 * (40 * hd + g) + 4) = 3
        · rw [if_pos c3, if_pos c3]; exact Or.inr ⟨rfl, Or.inr rfl⟩
        · rw [if_neg c3, if_neg c3]; exact Or.inr ⟨rfl, Or.inl rfl⟩
  · rw [if_neg c0, if_neg c0]; exact Or.inl ⟨rfl, rfl⟩
set_option maxRecDepth 20000 in
theorem ldO_0 {O G : Nat → Int32} {hd u g w : Nat} (hw : w < 20) (h : ldO O G hd u g = 0) (e : ldT G hd u g = nI w) : O w = 0 := by
  rcases ldO_T O G hd u g with ⟨q, _⟩ | ⟨q, _⟩
  · exact absurd (e.symm.trans q) (nI_m1 (by omega))
  · rw [q, e, nI_clamp (by omega)] at h; exact h
set_option maxRecDepth 20000 in
theorem ldO_1 {O G : Nat → Int32} {hd u g : Nat} (hG : mGo G) (hh : hd ≤ 1) (hg : g < 40) (h : ¬ ldO O G hd u g = 0) : ∃ w : Nat, w < 20 ∧ ldT G hd u g = nI w ∧ ¬ O w = 0 := by
  obtain ⟨⟨t, ht, et⟩, -⟩ := hG (40 * hd + g) (by omega)
  rcases ldO_T O G hd u g with ⟨_, q⟩ | ⟨q, q2⟩
  · exact absurd q h
  · have key : ∃ w : Nat, w < 20 ∧ ldT G hd u g = nI w := by
      rcases q2 with y | y
      · exact ⟨t + 10, by omega, by rw [y, et]; exact nI_add t 10⟩
      · exact ⟨t, by omega, by rw [y, et]; exact Int32.add_zero _⟩
    obtain ⟨w, hw, e⟩ := key
    refine ⟨w, hw, e, fun z => h ?_⟩
    rw [q, e, nI_clamp (by omega)]; exact z
/- both hopes are one -/
set_option maxRecDepth 20000 in
theorem LF_eq {E E2 : Nat → Prop} {R R2 : Nat → Nat → Prop} {S S2 : Nat → Prop} (hE9 : ∀ v : Nat, v < 20 → (E v ↔ E2 (phi v))) (hR9 : ∀ v w : Nat, v < 20 → w < 20 → (R v w ↔ R2 (phi v) (phi w))) (h : LF E R S) (g : LF E2 R2 S2) (v : Nat) (hv : v < 20) : S v ↔ S2 (phi v) := by
  constructor
  · intro z
    exact h.2 (fun u => S2 (phi u)) ⟨fun u hu he => g.1.1 _ (phi_lt u hu) ((hE9 u hu).mp he), fun u w hu hw hr hs => g.1.2 _ _ (phi_lt u hu) (phi_lt w hw) ((hR9 u w hu hw).mp hr) hs⟩ v hv z
  · intro z
    have := g.2 (fun u => S (psi u)) ⟨fun u hu he => h.1.1 _ (psi_lt u hu) ((hE9 _ (psi_lt u hu)).mpr (by rw [phi_psi u hu]; exact he)), fun u w hu hw hr hs => h.1.2 _ _ (psi_lt u hu) (psi_lt w hw) ((hR9 _ _ (psi_lt u hu) (psi_lt w hw)).mpr (by rw [phi_psi u hu, phi_psi w hw]; exact hr)) hs⟩ (phi v) (phi_lt v hv) z
    rw [psi_phi v hv] at this
    exact this
set_option maxRecDepth 20000 in
theorem x2_0 {f v : Nat} (hf : f ≤ 9) (hv : v < 20) : nI f * 2 + 0 = nI v ↔ 2 * f = v := by
  rw [show (2 : Int32) = nI 2 from rfl, pk_mul, Int32.add_zero]
  rw [nI_eq (by omega) (by omega)]
  omega
set_option maxRecDepth 20000 in
theorem x2_1 {f v : Nat} (hf : f ≤ 9) (hv : v < 20) : nI f * 2 + 1 = nI v ↔ 2 * f + 1 = v := by
  rw [show (2 : Int32) = nI 2 from rfl, show (1 : Int32) = nI 1 from rfl, pk_mul, nI_add]
  rw [nI_eq (by omega) (by omega)]
  omega
section
variable {s : List L5 × List L3} {g n hd : Nat} {a b c d e ea eb ec go gl en el : Nat → Int32}
set_option maxRecDepth 20000 in
theorem hE_rE (h1 : lnK s g n a b c d e ea eb ec) (h2 : mnK s hd go gl en el) (h3 : gsF s) (v : Nat) (hv : v < 20) : hE n ea v ↔ rE el hd n (phi v) := by
  have e2 := h1.2.1
  have key : ∀ j : Nat, j < n → ea j = el (3 * (10 * hd + j) + 0) ∧ ∃ k : Nat, k ≤ 9 ∧ ea j = nI k := fun j hj => by
    have hx := List.getElem?_eq_getElem (show j < s.2.length by omega)
    obtain ⟨p1, _⟩ := h1.2.2.2 j _ hx
    obtain ⟨q1, _⟩ := h2.2.2.2 j _ hx
    obtain ⟨k, hk, ek⟩ := h3.2 j _ hx
    exact ⟨p1.trans q1.symm, k, hk, p1.trans ek⟩
  unfold hE rE
  constructor
  · rintro ⟨j, hj, e9⟩
    obtain ⟨q1, k, hk, ek⟩ := key j hj
    rw [ek] at e9
    have q := (x2_0 hk hv).mp e9
    refine ⟨by unfold phi; omega, j, hj, ?_⟩
    rw [← q1, ek]; exact congrArg nI (by unfold phi; omega)
  · rintro ⟨h9, j, hj, e9⟩
    obtain ⟨q1, k, hk, ek⟩ := key j hj
    rw [← q1, ek] at e9
    have q := (nI_eq (by omega) (by omega)).mp e9
    refine ⟨j, hj, ?_⟩
    rw [ek]
    exact (x2_0 hk hv).mpr (by unfold phi at q h9; omega)
set_option maxRecDepth 20000 in
theorem hR_rR (hG : mGo gl) (hh : hd ≤ 1) (h1 : lnK s g n a b c d e ea eb ec) (h2 : mnK s hd go gl en el) (h3 : gsF s) (h4 : gsB s) (v w : Nat) (hv : v < 20) (hw : w < 20) : hR g a c e v w ↔ rR gl hd g (phi v) (phi w) := by
  have e1 := h1.1.1
  have hg40 := h1.1.2.1
  have key : ∀ j : Nat, j < g → ∃ f t k : Nat, f ≤ 9 ∧ t ≤ 9 ∧ k ≤ 3 ∧ a j = nI f ∧ gl (5 * (40 * hd + j) + 0) = nI f ∧ c j = nI t ∧ gl (5 * (40 * hd + j) + 2) = nI t ∧ e j = nI k ∧ gl (5 * (40 * hd + j) + 4) = nI k := fun j hj => by
    have hx := List.getElem?_eq_getElem (show j < s.1.length by omega)
    obtain ⟨p1, p2, p3, p4, p5⟩ := h1.1.2.2 j _ hx
    obtain ⟨q1, q2, q3, q4, q5⟩ := h2.1.2.2 j _ hx
    obtain ⟨f, hf, ef⟩ := h3.1 j _ hx
    obtain ⟨k, hk, ek⟩ := h4.1 j _ hx
    obtain ⟨⟨t, ht, et⟩, -⟩ := hG (40 * hd + j) (by omega)
    exact ⟨f, t, k, hf, ht, hk, p1.trans ef, q1.trans ef, (p3.trans q3.symm).trans et, et, p5.trans ek, q5.trans ek⟩
  have one : ∀ j : Nat, j < g → (((a j * 2 + 0 = nI v ∧ nbC (nI g) c e (nI j) 0 = nI w) ∨ (a j * 2 + 1 = nI v ∧ nbC (nI g) c e (nI j) 1 = nI w)) ↔ ldT gl hd (phi v) j = nI (phi w)) := fun j hj => by
    obtain ⟨f, t, k, hf, ht, hk, a1, a2, a3, a4, a5, a6⟩ := key j hj
    have hb : ¬ bnd 40 (nI j) (nI g) = 0 := bnd_yM (k := 40) rfl (by decide) hj hg40
    have nb : ∀ q : Int32, nbC (nI g) c e (nI j) q = if nI k = 2 then (if q = 0 then nI t * 2 + 1 else -1) else if nI k = 3 then (if q = 1 then nI t * 2 + 0 else -1) else nI t * 2 + q := fun q => by
      unfold nbC
      rw [if_neg hb, nI_clamp (by omega), a3, a5]
    have m1 : ∀ x : Nat, x < 20 → ¬ (-1 : Int32) = nI x := fun x hx z => nI_m1 (by omega) z.symm
    have hw2 := phi_lt w hw
    have hv2 := phi_lt v hv
    rw [nb 0, nb 1, a1, x2_0 hf hv, x2_1 hf hv]
    unfold ldT
    rw [a2, a4, a6]
    have ef : nI f = nI (phi v % 10) ↔ f = v / 2 := by
      rw [nI_eq (by omega) (by omega)]
      unfold phi; omega
    have el9 : nI (phi v) < 10 ↔ v % 2 = 0 := by
      rw [show (10 : Int32) = nI 10 from rfl, nI_ltI (by omega) (by omega)]
      unfold phi; omega
    have t1 : nI t * 2 + 1 = nI w ↔ nI t + 10 = nI (phi w) := by
      rw [x2_1 ht hw, show (10 : Int32) = nI 10 from rfl, nI_add, nI_eq (by omega) (by omega)]
      unfold phi; omega
    have t0 : nI t * 2 + 0 = nI w ↔ nI t + 0 = nI (phi w) := by
      rw [x2_0 ht hw, Int32.add_zero, nI_eq (by omega) (by omega)]
      unfold phi; omega
    have d01 : ¬ (0 : Int32) = 1 := by decide
    have d10 : ¬ (1 : Int32) = 0 := by decide
    by_cases c0 : f = v / 2
    · rw [if_pos (ef.mpr c0)]
      by_cases c1 : v % 2 = 0
      · rw [if_pos (el9.mpr c1)]
        have y1 : 2 * f = v := by omega
        have y2 : ¬ 2 * f + 1 = v := by omega
        by_cases k2 : nI k = 2
        · rw [if_pos k2, if_pos k2, if_pos k2, if_pos rfl, ← t1]
          exact ⟨fun z => z.elim (fun x => x.2) (fun x => absurd x.1 y2), fun z => Or.inl ⟨y1, z⟩⟩
        · rw [if_neg k2, if_neg k2, if_neg k2]
          by_cases k3 : nI k = 3
          · rw [if_pos k3, if_pos k3, if_pos k3, if_neg d01]
            exact ⟨fun z => z.elim (fun x => absurd x.2 (m1 w hw)) (fun x => absurd x.1 y2), fun z => absurd z (m1 _ hw2)⟩
          · rw [if_neg k3, if_neg k3, if_neg k3, ← t0]
            exact ⟨fun z => z.elim (fun x => x.2) (fun x => absurd x.1 y2), fun z => Or.inl ⟨y1, z⟩⟩
      · rw [if_neg (fun z => c1 (el9.mp z))]
        have y1 : ¬ 2 * f = v := by omega
        have y2 : 2 * f + 1 = v := by omega
        by_cases k2 : nI k = 2
        · rw [if_pos k2, if_pos k2, if_pos k2, if_neg d10]
          exact ⟨fun z => z.elim (fun x => absurd x.1 y1) (fun x => absurd x.2 (m1 w hw)), fun z => absurd z (m1 _ hw2)⟩
        · rw [if_neg k2, if_neg k2, if_neg k2]
          by_cases k3 : nI k = 3
          · rw [if_pos k3, if_pos k3, if_pos k3, if_pos rfl, ← t0]
            exact ⟨fun z => z.elim (fun x => absurd x.1 y1) (fun x => x.2), fun z => Or.inr ⟨y2, z⟩⟩
          · rw [if_neg k3, if_neg k3, if_neg k3, ← t1]
            exact ⟨fun z => z.elim (fun x => absurd x.1 y1) (fun x => x.2), fun z => Or.inr ⟨y2, z⟩⟩
    · rw [if_neg (fun z => c0 (ef.mp z))]
      exact ⟨fun z => z.elim (fun x => absurd x.1 (by omega)) (fun x => absurd x.1 (by omega)), fun z => absurd z (m1 _ hw2)⟩
  unfold hR rR
  exact ⟨fun ⟨j, hj, z⟩ => ⟨j, hj, (one j hj).mp z⟩, fun ⟨j, hj, z⟩ => ⟨j, hj, (one j hj).mpr z⟩⟩
set_option maxRecDepth 20000 in
theorem hop_out {hop O : Nat → Int32} (hG : mGo gl) (hh : hd ≤ 1) (h1 : lnK s g n a b c d e ea eb ec) (h2 : mnK s hd go gl en el) (h3 : gsF s) (h4 : gsB s) (h5 : hpI (nI g) (nI n) a c e ea hop) (h6 : LF (rE el hd n) (rR gl hd g) (fun u => ¬ O u = 0)) (v : Nat) (hv : v < 20) : ¬ hop v = 0 ↔ ¬ O (phi v) = 0 := by
  obtain ⟨g9, n9, b1, b2, e1, e2, h7⟩ := h5
  have q1 := h1.1.2.1
  have q2 := h1.2.2.1
  have f1 : g = g9 := (nI_eq (by omega) (by omega)).mp e1
  have f2 : n = n9 := (nI_eq (by omega) (by omega)).mp e2
  subst f1 f2
  exact LF_eq (fun u hu => hE_rE h1 h2 h3 u hu) (fun u w hu hw => hR_rR hG hh h1 h2 h3 h4 u w hu hw) h7 h6 v hv
end
set_option maxRecDepth 20000 in
theorem eq_set {p q : PbW} {m : Nat} {hop O : Nat → Int32} {K : Nat → Nat → Nat} {r1 r2 : Int32} (hs : simP p q) (hp : pbB p) (hH : ∀ v : Nat, v < 20 → (¬ hop v = 0 ↔ ¬ O (phi v) = 0)) (hK : ∀ v : Nat, v < 20 → (∃ c k : Nat, Way p m v c k) → FW (Way p m v) (K m v)) (h1 : stAns m (fun k => ∃ v : Nat, v < 20 ∧ (¬ hop v = 0 ∧ ∃ c k : Nat, Way p m v c k) ∧ k = K m v) r1) (h2 : stAns m (fun k => ∃ u : Nat, u < 20 ∧ ¬ O u = 0 ∧ FW (Way q m u) k) r2) : r1 = r2 := stAns_eq (fun k => set_eq (hop := fun v => ¬ hop v = 0) (out := fun u => ¬ O u = 0) (K := K m) hs hp hH hK k) h1 h2
set_option maxRecDepth 20000 in
theorem LC_K {p : PbW} {i v : Nat} {K r : Nat → Nat} {fb fx fq : Nat → Int32} (hC : LC p i K r fb fx fq) (hv : v < 20) (h : ∃ c k : Nat, Way p i v c k) : FW (Way p i v) (K v) ∧ ∃ c : Nat, Way p i v c (K v) := by
  obtain ⟨c, k, h⟩ := h
  obtain ⟨b, x, _, _, m1, _⟩ := hC.1 v hv
  obtain ⟨q1, q2, _⟩ := MF_re m1 h
  exact ⟨FW_of m1 q1, b, q2⟩
set_option maxRecDepth 20000 in
theorem lcq_same {j k : Nat} : lcq j k k = j := by
  cases j with
  | zero => rfl
  | succ j => show (if k = k then j + 1 else _) = j + 1; rw [if_pos rfl]
set_option maxRecDepth 20000 in
theorem lcq_dn {j a b a0 b0 l k : Nat} (hj : 0 < j) (hn : ¬ a = b) (ea : a = a0 * 440 + l) (eb : b = b0 * 440 + k) (hl : l < 440) (hk : k < 440) : lcq j a b = lcq (j - 1) a0 b0 := by
  obtain ⟨i, rfl⟩ : ∃ i, j = i + 1 := ⟨j - 1, by omega⟩
  show (if a = b then i + 1 else lcq i (a / 440) (b / 440)) = lcq i a0 b0
  rw [if_neg hn, show a / 440 = a0 by omega, show b / 440 = b0 by omega]
set_option maxRecDepth 20000 in
theorem gr_hp {R : RdS} {gc nc gc2 nc2 : Int32} {a b c d e ea eb ec a2 b2 c2 d2 e2 ea2 eb2 ec2 hop hop2 : Nat → Int32} (h : hpI gc nc a c e ea hop) (h1 : grD R gc nc gc2 nc2 a b c d e ea eb ec a2 b2 c2 d2 e2 ea2 eb2 ec2) (h2 : (R.1.2 = 0 ∧ hpI gc2 nc2 a2 c2 e2 ea2 hop2) ∨ (¬ R.1.2 = 0 ∧ hop2 = hop)) : hpI gc2 nc2 a2 c2 e2 ea2 hop2 := by
  rcases h2 with ⟨_, q⟩ | ⟨z, q⟩
  · exact q
  · rcases h1 with ⟨z2, _⟩ | ⟨_, e1, e2, e3, e4, e5, e6, e7, e8, e9, e10⟩
    · exact absurd z2 z
    · subst e1 e2 e3 e4 e5 e6 e7 e8 e9 e10 q
      exact h
set_option maxRecDepth 20000 in
theorem hpI_0 {F T M eF hop : Nat → Int32} (h : ∀ v : Nat, hop v = 0) : hpI 0 0 F T M eF hop := ⟨0, 0, by omega, by omega, rfl, rfl, ⟨fun v hv h => by obtain ⟨j, hj, _⟩ := h; exact absurd hj (Nat.not_lt_zero j), fun v w hv hw h => by obtain ⟨j, hj, _⟩ := h; exact absurd hj (Nat.not_lt_zero j)⟩, fun P hP v hv hz => absurd (h v) hz⟩
set_option maxRecDepth 20000 in
theorem gr_ln5 {R R2 : RdS} {gc nc gc2 nc2 rd rd2 : Int32} {a b c d e ea eb ec a2 b2 c2 d2 e2 ea2 eb2 ec2 go gl en el go2 gl2 en2 el2 mk mr mb fb fx fq fa fe fg : Nat → Int32} {hd hd2 m : Nat} (h : ∃ s9 : List L5 × List L3, lnC s9 gc nc a b c d e ea eb ec ∧ mnK s9 hd go gl en el ∧ (gsB s9 ∧ gsF s9) ∧ chI mk mr mb gl el hd s9 rd m fb fx fq fa fe fg) (hm : m ≤ 60) (hR : R = R2) (hB : gsB R.2 ∧ gsF R.2) (h1 : grD R gc nc gc2 nc2 a b c d e ea eb ec a2 b2 c2 d2 e2 ea2 eb2 ec2) (h2 : mgD R2 hd hd2 go gl en el go2 gl2 en2 el2) (hr : rd2 = if R.1.2 = 0 then kpR 0 rd else rd) : ∃ s9 : List L5 × List L3, lnC s9 gc2 nc2 a2 b2 c2 d2 e2 ea2 eb2 ec2 ∧ mnK s9 hd2 go2 gl2 en2 el2 ∧ (gsB s9 ∧ gsF s9) ∧ chI mk mr mb gl2 el2 hd2 s9 rd2 m fb fx fq fa fe fg := by
  subst hR
  obtain ⟨s9, h5, h6, h7, h8⟩ := h
  rcases h1 with ⟨z, h3⟩ | ⟨z, e1, e2, e3, e4, e5, e6, e7, e8, e9, e10⟩
  · rcases h2 with ⟨_, h4⟩ | ⟨z2, _⟩
    · rw [if_pos z] at hr
      exact ⟨R.2, h3, h4, hB, chI_new h8 hm hr⟩
    · exact absurd z z2
  · rcases h2 with ⟨z2, _⟩ | ⟨_, h4⟩
    · exact absurd z2 z
    · rw [if_neg z] at hr
      subst e1 e2 e3 e4 e5 e6 e7 e8 e9 e10 hr
      exact ⟨s9, h5, h4 s9 h6, h7, chI_lines h8 h6 (h4 s9 h6)⟩
set_option maxRecDepth 20000 in
theorem eq_set5 {p q : PbW} {m : Nat} {hop O : Nat → Int32} {r1 r2 : Int32} (hs : simP p q) (hp : pbB p) (hH : ∀ v : Nat, v < 20 → (¬ hop v = 0 ↔ ¬ O (phi v) = 0)) (h1 : ∃ K : Nat → Nat → Nat, (∀ v : Nat, v < 20 → (∃ c k : Nat, Way p m v c k) → FW (Way p m v) (K m v)) ∧ stAns m (fun k => ∃ v : Nat, v < 20 ∧ (¬ hop v = 0 ∧ ∃ c k : Nat, Way p m v c k) ∧ k = K m v) r1) (h2 : stAns m (fun k => ∃ u : Nat, u < 20 ∧ ¬ O u = 0 ∧ FW (Way q m u) k) r2) : r1 = r2 := by
  obtain ⟨K, hK, h⟩ := h1
  exact eq_set hs hp hH hK h h2

/-! THE REFERENCE'S TABLE: least and second costs of what may follow a node, the first of the cheapest -/
abbrev RF : Nat := 1000000
def pbT (p : PbW) : Prop := ∀ v e c : Nat, p.tm v e = some c → c ≤ 999
set_option maxRecDepth 20000 in
theorem Cmp_cost {p : PbW} (hp : pbB p) (ht : pbT p) : ∀ {r i v s k : Nat}, Cmp p r i v s k → s ≤ 1998 * r + 999
  | 0, _, _, _, _, h => by have := ht _ _ _ h.2; omega
  | r + 1, _, _, _, _, h => by
    obtain ⟨l, w, s0, k0, h1, h2, h3, rfl, h5⟩ := h
    have := Cmp_cost hp ht h3
    have := hp.1 l h1
    rw [Nat.mul_succ]; omega
def okM (p : PbW) (r i nd : Nat) (L S : Nat → Int32) : Prop := ∃ b x k : Nat, L (20 * i + nd) = nI b ∧ S (20 * i + nd) = nI x ∧ MF RF (Cmp p r i nd) b x k
def LV2 (p : PbW) (L S : Nat → Int32) (m j : Nat) : Prop := ∀ i : Nat, j ≤ i → i ≤ m → ∀ nd : Nat, nd < 20 → okM p (m - i) i nd L S
def CW (p : PbW) (r i nd lc : Nat) (L S : Nat → Int32) : Prop := ∃ b x k : Nat, L (20 * i + nd) = nI b ∧ S (20 * i + nd) = nI x ∧ MF RF (CD p r i nd lc) b x k
def adP (a : Nat × Nat) (b1 x1 c : Nat) : Nat × Nat := if b1 < RF then (if x1 < RF then ofr (ofr a (b1 + c)) (x1 + c) else ofr a (b1 + c)) else a
set_option maxRecDepth 20000 in
theorem upd_id {f : Nat → Int32} {k : Nat} {x : Int32} (h : f k = x) : upd f k x = f := by
  funext j
  unfold upd
  by_cases c : j = k
  · rw [if_pos c, c]; exact h.symm
  · rw [if_neg c]
set_option maxRecDepth 20000 in
theorem CW_0 {p : PbW} {r i nd : Nat} {L S : Nat → Int32} : CW p r i nd 0 (upd L (20 * i + nd) 1000000) (upd S (20 * i + nd) 1000000) := ⟨RF, RF, 0, pk_us, pk_us, Or.inl ⟨rfl, rfl, fun _ _ => CD_0⟩⟩
set_option maxRecDepth 20000 in
theorem CW_skip {p : PbW} {r i nd a : Nat} {L S : Nat → Int32} (b : Nat) (h : CW p r i nd a L S) (hab : a ≤ b) (hn : ∀ l : Nat, a ≤ l → l < b → p.st i nd l = none) : CW p r i nd b L S := by
  obtain ⟨b1, x1, k1, h1, h2, h3⟩ := h
  exact ⟨b1, x1, k1, h1, h2, MF_congr h3 (fun s k => CD_skip hab hn)⟩
set_option maxRecDepth 20000 in
theorem CW_all {p : PbW} {r i nd : Nat} {L S : Nat → Int32} (h : CW p r i nd 440 L S) : okM p (r + 1) i nd L S := by
  obtain ⟨b1, x1, k1, h1, h2, h3⟩ := h
  exact ⟨b1, x1, k1, h1, h2, MF_congr h3 (fun s k => CD_all)⟩
set_option maxRecDepth 20000 in
theorem CW_add {p : PbW} {r i nd l w b x k b1 x1 k1 : Nat} {L S : Nat → Int32} (hp : pbB p) (ht : pbT p) (hr : r < 60) (hM : MF RF (CD p r i nd l) b x k) (h1 : MF RF (Cmp p r (i + 1) w) b1 x1 k1) (hl : l < 440) (hst : p.st i nd l = some w) : CW p r i nd (l + 1) (upd L (20 * i + nd) (nI (adP (b, x) b1 x1 (p.cs l)).1)) (upd S (20 * i + nd) (nI (adP (b, x) b1 x1 (p.cs l)).2)) := by
  have hRF : RF = 1000000 := rfl
  have hcs := hp.1 l hl
  by_cases c : b1 < RF
  · have hb : b1 ≤ 1998 * r + 999 := by
      rcases h1 with ⟨q, _⟩ | ⟨_, q, _⟩
      · omega
      · exact Cmp_cost hp ht q
    have hx : x1 < RF → x1 ≤ 1998 * r + 999 := fun z => by
      obtain ⟨j, hj⟩ := MF_x h1 z
      exact Cmp_cost hp ht hj
    obtain ⟨k2, hm⟩ := MF_ofr hM h1 c (show b1 + p.cs l < RF by omega) (fun z => by have := hx z; omega) (f := fun a => l * Qb r + a) (fun a d h => by omega) (fun a d h => by omega) (fun s j j0 hs => by have := CD_lt s j hs; omega)
    refine ⟨_, _, k2, pk_us, pk_us, ?_⟩
    unfold adP
    rw [if_pos c]
    exact MF_congr hm (fun s j => (CD_add hl hst).symm)
  · refine ⟨_, _, k, pk_us, pk_us, ?_⟩
    unfold adP
    rw [if_neg c]
    refine MF_congr hM (fun s j => CD_dead hst (fun c9 j9 hc => ?_))
    have := (MF_re h1 hc).1
    exact c this
set_option maxRecDepth 20000 in
theorem okM_off {p : PbW} {r i nd k : Nat} {L S : Nat → Int32} {y z : Int32} (h : okM p r i nd L S) (hk : 20 * i + nd ≠ k) : okM p r i nd (upd L k y) (upd S k z) := by
  obtain ⟨b, x, k1, h1, h2, h3⟩ := h
  exact ⟨b, x, k1, by rw [pk_un hk]; exact h1, by rw [pk_un hk]; exact h2, h3⟩
set_option maxRecDepth 20000 in
theorem LV2_off {p : PbW} {m j nd : Nat} {L S : Nat → Int32} {y z : Int32} (h : LV2 p L S m (j + 1)) (hn : nd < 20) : LV2 p (upd L (20 * j + nd) y) (upd S (20 * j + nd) z) m (j + 1) := fun i h1 h2 n hn2 => okM_off (h i h1 h2 n hn2) (by omega)
set_option maxRecDepth 20000 in
theorem C2_off {p : PbW} {r i nd : Nat} {L S : Nat → Int32} {y z : Int32} (h : ∀ n : Nat, n < nd → okM p r i n L S) : ∀ n : Nat, n < nd → okM p r i n (upd L (20 * i + nd) y) (upd S (20 * i + nd) z) := fun n hn => okM_off (h n hn) (by omega)
set_option maxRecDepth 20000 in
theorem LV2_dn {p : PbW} {m j : Nat} {L S : Nat → Int32} (h : LV2 p L S m (j + 1)) (hC : ∀ n : Nat, n < 20 → okM p (m - j) j n L S) : LV2 p L S m j := fun i h1 h2 => by
  rcases Nat.lt_or_ge j i with q | q
  · exact h i q h2
  · rw [show i = j by omega]; exact hC
/- the reference's steps, costs and last end lines as a problem -/
def prb (K R B G E : Nat → Int32) (hd Gn En : Nat) : PbW :=
  (fun i v l => if l % 40 < Gn ∧ l / 40 ≤ En then (if stp K R B G E hd i v (l / 40) (l % 40) < 0 then none else some (stp K R B G E hd i v (l / 40) (l % 40)).toNatClampNeg) else none,
  fun l => if l % 40 < Gn ∧ l / 40 ≤ En then (cst G E hd (l / 40) (l % 40)).toNatClampNeg else 0,
  fun v e => if v < 10 ∧ e < En ∧ E (3 * (10 * hd + e)) = nI v then some (E (3 * (10 * hd + e) + 1)).toNatClampNeg else none)
section
variable {K R B G E : Nat → Int32} {hd Gn En : Nat}
set_option maxRecDepth 20000 in
theorem prb_B (hG : mGo G) (hE : mEn E) (hh : hd ≤ 1) (hGn : Gn ≤ 40) (hEn : En ≤ 10) : pbB (prb K R B G E hd Gn En) ∧ pbT (prb K R B G E hd Gn En) := by
  refine ⟨⟨fun l hl => ?_, fun i v l w h => ?_⟩, fun v e c h => ?_⟩
  · show (if l % 40 < Gn ∧ l / 40 ≤ En then (cst G E hd (l / 40) (l % 40)).toNatClampNeg else 0) ≤ 1998
    by_cases c : l % 40 < Gn ∧ l / 40 ≤ En
    · rw [if_pos c]
      obtain ⟨c9, h9, e9⟩ := cst_ok (e := l / 40) (g := l % 40) hG hE hh (by omega) (by omega)
      rw [e9, nI_clamp (by omega)]; exact h9
    · rw [if_neg c]; omega
  · have h2 : (if l % 40 < Gn ∧ l / 40 ≤ En then (if stp K R B G E hd i v (l / 40) (l % 40) < 0 then none else some (stp K R B G E hd i v (l / 40) (l % 40)).toNatClampNeg) else none) = some w := h
    by_cases c : l % 40 < Gn ∧ l / 40 ≤ En
    · rw [if_pos c] at h2
      by_cases c2 : stp K R B G E hd i v (l / 40) (l % 40) < 0
      · rw [if_pos c2] at h2; cases h2
      · rw [if_neg c2] at h2
        obtain ⟨v9, h9, e9⟩ := stp_nn (stp_ok (K := K) (R := R) (B := B) (E := E) (i := i) (nd := v) (e := l / 40) hG hh (show l % 40 < 40 by omega)) c2
        rw [e9, nI_clamp (by omega)] at h2
        have := Option.some.inj h2
        omega
    · rw [if_neg c] at h2; cases h2
  · have h2 : (if v < 10 ∧ e < En ∧ E (3 * (10 * hd + e)) = nI v then some (E (3 * (10 * hd + e) + 1)).toNatClampNeg else none) = some c := h
    by_cases c2 : v < 10 ∧ e < En ∧ E (3 * (10 * hd + e)) = nI v
    · rw [if_pos c2] at h2
      obtain ⟨v9, h9, e9⟩ := hE (10 * hd + e) (by omega)
      rw [e9, nI_clamp (by omega)] at h2
      have := Option.some.inj h2
      omega
    · rw [if_neg c2] at h2; cases h2
set_option maxRecDepth 20000 in
theorem prb_lab {e g : Nat} (hg : g < 40) : (e * 40 + g) % 40 = g ∧ (e * 40 + g) / 40 = e := by omega
set_option maxRecDepth 20000 in
theorem prb_st {i v e g : Nat} (hGn : Gn ≤ 40) (hg : g < Gn) (he : e ≤ En) : ((stp K R B G E hd i v e g < 0) → (prb K R B G E hd Gn En).st i v (e * 40 + g) = none) ∧ ∀ t : Nat, t < 20 → stp K R B G E hd i v e g = nI t → (prb K R B G E hd Gn En).st i v (e * 40 + g) = some t := by
  obtain ⟨e1, e2⟩ := prb_lab (e := e) (g := g) (by omega)
  constructor
  · intro h
    show (if (e * 40 + g) % 40 < Gn ∧ (e * 40 + g) / 40 ≤ En then (if stp K R B G E hd i v ((e * 40 + g) / 40) ((e * 40 + g) % 40) < 0 then none else some (stp K R B G E hd i v ((e * 40 + g) / 40) ((e * 40 + g) % 40)).toNatClampNeg) else none) = none
    rw [e1, e2, if_pos ⟨hg, he⟩, if_pos h]
  · intro t ht h
    show (if (e * 40 + g) % 40 < Gn ∧ (e * 40 + g) / 40 ≤ En then (if stp K R B G E hd i v ((e * 40 + g) / 40) ((e * 40 + g) % 40) < 0 then none else some (stp K R B G E hd i v ((e * 40 + g) / 40) ((e * 40 + g) % 40)).toNatClampNeg) else none) = some t
    rw [e1, e2, if_pos ⟨hg, he⟩, h, if_neg (nI_pos (by omega)), nI_clamp (by omega)]
set_option maxRecDepth 20000 in
theorem prb_no {i v l : Nat} (h : Gn ≤ l % 40 ∨ En < l / 40) : (prb K R B G E hd Gn En).st i v l = none := by
  show (if l % 40 < Gn ∧ l / 40 ≤ En then _ else none) = none
  rw [if_neg (by omega)]
set_option maxRecDepth 20000 in
theorem prb_cs {e g : Nat} (hG : mGo G) (hE : mEn E) (hh : hd ≤ 1) (hGn : Gn ≤ 40) (hEn : En ≤ 10) (hg : g < Gn) (he : e ≤ En) : cst G E hd e g = nI ((prb K R B G E hd Gn En).cs (e * 40 + g)) := by
  obtain ⟨e1, e2⟩ := prb_lab (e := e) (g := g) (by omega)
  show cst G E hd e g = nI (if (e * 40 + g) % 40 < Gn ∧ (e * 40 + g) / 40 ≤ En then (cst G E hd ((e * 40 + g) / 40) ((e * 40 + g) % 40)).toNatClampNeg else 0)
  rw [e1, e2, if_pos ⟨hg, he⟩]
  obtain ⟨c9, h9, e9⟩ := cst_ok (e := e) (g := g) hG hE hh (by omega) (by omega)
  rw [e9, nI_clamp (by omega)]
end
def wTm (p : PbW) (t : Nat → Nat → Option Nat) : PbW := (p.st, p.cs, t)
/- the last end lines of a node, the first ec of them -/
def CEd (p : PbW) (nd ec : Nat) (s k : Nat) : Prop := k < 16 ∧ p.tm nd k = some s ∧ k < ec
def CE (p : PbW) (m nd ec : Nat) (L S : Nat → Int32) : Prop := ∃ b x k : Nat, b ≤ RF ∧ x ≤ RF ∧ L (20 * m + nd) = nI b ∧ S (20 * m + nd) = nI x ∧ MF RF (CEd p nd ec) b x k
set_option maxRecDepth 20000 in
theorem CE_0 {p : PbW} {m nd : Nat} {L S : Nat → Int32} : CE p m nd 0 (upd L (20 * m + nd) 1000000) (upd S (20 * m + nd) 1000000) := ⟨RF, RF, 0, by omega, by omega, pk_us, pk_us, Or.inl ⟨rfl, rfl, fun s k h => by have := h.2.2; omega⟩⟩
set_option maxRecDepth 20000 in
theorem CE_skip {p : PbW} {m nd a : Nat} {L S : Nat → Int32} (b : Nat) (h : CE p m nd a L S) (hab : a ≤ b) (hn : ∀ e : Nat, a ≤ e → e < b → p.tm nd e = none) : CE p m nd b L S := by
  obtain ⟨b1, x1, k1, q1, q2, h1, h2, h3⟩ := h
  refine ⟨b1, x1, k1, q1, q2, h1, h2, MF_congr h3 (fun s k => ⟨fun z => ⟨z.1, z.2.1, by have := z.2.2; omega⟩, fun z => ⟨z.1, z.2.1, ?_⟩⟩)⟩
  rcases Nat.lt_or_ge k a with y | y
  · exact y
  · have := hn k y z.2.2
    rw [z.2.1] at this; cases this
set_option maxRecDepth 20000 in
theorem CE_all {p : PbW} {m nd : Nat} {L S : Nat → Int32} (h : CE p m nd 16 L S) : okM p (m - m) m nd L S := by
  obtain ⟨b1, x1, k1, q1, q2, h1, h2, h3⟩ := h
  rw [Nat.sub_self]
  exact ⟨b1, x1, k1, h1, h2, MF_congr h3 (fun s k => ⟨fun z => ⟨z.1, z.2.1⟩, fun z => ⟨z.1, z.2, z.1⟩⟩)⟩
set_option maxRecDepth 20000 in
theorem ofr_le {b x c : Nat} (hb : b ≤ RF) (hx : x ≤ RF) : (ofr (b, x) c).1 ≤ RF ∧ (ofr (b, x) c).2 ≤ RF := by
  unfold ofr
  by_cases c1 : c < b
  · rw [if_pos c1]; exact ⟨by show c ≤ RF; omega, hb⟩
  · rw [if_neg c1]
    by_cases c2 : c < x
    · rw [if_pos c2]; exact ⟨hb, by show c ≤ RF; omega⟩
    · rw [if_neg c2]; exact ⟨hb, hx⟩
set_option maxRecDepth 20000 in
theorem CE_add {p : PbW} {m nd e c b x k : Nat} {L S : Nat → Int32} (hb : b ≤ RF) (hx : x ≤ RF) (hM : MF RF (CEd p nd e) b x k) (he : e < 16) (htm : p.tm nd e = some c) (hc : c ≤ 999) : CE p m nd (e + 1) (upd L (20 * m + nd) (nI (ofr (b, x) c).1)) (upd S (20 * m + nd) (nI (ofr (b, x) c).2)) := by
  have hRF : RF = 1000000 := rfl
  have hT : MF RF (fun s j : Nat => s = 0 ∧ j = 0) 0 RF 0 := Or.inr ⟨by omega, ⟨rfl, rfl⟩, fun s j h => Or.inr ⟨by omega, by omega⟩, Or.inl ⟨rfl, fun s j h => h.2⟩⟩
  obtain ⟨k2, hm⟩ := MF_ofr hM hT (by omega) (show 0 + c < RF by omega) (fun z => by omega) (f := fun a => e + a) (fun a d h => by omega) (fun a d h => by omega) (fun s j j0 hs => by have := hs.2.2; omega)
  rw [if_neg (by omega), Nat.zero_add] at hm
  obtain ⟨h1, h2⟩ := ofr_le (c := c) hb hx
  refine ⟨_, _, k2, h1, h2, pk_us, pk_us, MF_congr hm (fun s j => ⟨fun z => ?_, fun z => ?_⟩)⟩
  · rcases z with z | ⟨s0, j0, ⟨h8, h9⟩, h10, h11⟩
    · exact ⟨z.1, z.2.1, by have := z.2.2; omega⟩
    · have h12 : j = e + j0 := h11
      have h13 : j = e := by omega
      have h14 : s = c := by omega
      rw [h13, h14]
      exact ⟨he, htm, by omega⟩
  · rcases Nat.lt_or_ge j e with y | y
    · exact Or.inl ⟨z.1, z.2.1, y⟩
    · have ej : j = e := by have := z.2.2; omega
      subst ej
      have := Option.some.inj (z.2.1.symm.trans htm)
      subst this
      exact Or.inr ⟨0, 0, ⟨rfl, rfl⟩, by omega, rfl⟩
section
variable {K R B G E : Nat → Int32} {hd Gn En : Nat}
set_option maxRecDepth 20000 in
theorem prb_tm {v e c : Nat} (hv : v < 10) (he : e < En) (h0 : E (3 * (10 * hd + e)) = nI v) (h1 : E (3 * (10 * hd + e) + 1) = nI c) (hc : c ≤ 999) : (prb K R B G E hd Gn En).tm v e = some c := by
  show (if v < 10 ∧ e < En ∧ E (3 * (10 * hd + e)) = nI v then some (E (3 * (10 * hd + e) + 1)).toNatClampNeg else none) = some c
  rw [if_pos ⟨hv, he, h0⟩, h1, nI_clamp (by omega)]
set_option maxRecDepth 20000 in
theorem prb_tmn {v e : Nat} (h : 10 ≤ v ∨ En ≤ e ∨ ¬ E (3 * (10 * hd + e)) = nI v) : (prb K R B G E hd Gn En).tm v e = none := by
  show (if v < 10 ∧ e < En ∧ E (3 * (10 * hd + e)) = nI v then _ else none) = none
  rw [if_neg (fun z => by rcases h with h | h | h; omega; omega; exact h z.2.2)]
end
set_option maxRecDepth 20000 in
theorem LV2_base {p : PbW} {m : Nat} {L S : Nat → Int32} (h : ∀ n : Nat, n < 20 → okM p (m - m) m n L S) : LV2 p L S m m := fun i h1 h2 => by
  rw [show i = m by omega]; exact h
/-! the first of the cheapest, step by step -/
def fail2 (p : PbW) (i nd : Nat) (L : Nat → Int32) (l : Nat) : Prop := ∀ w : Nat, p.st i nd l = some w → ¬ nI (p.cs l) + L (20 * (i + 1) + w) = L (20 * i + nd)
def found2 (p : PbW) (i nd : Nat) (L eA gA nB : Nat → Int32) : Prop := ∃ l w : Nat, l < 440 ∧ w < 20 ∧ p.st i nd l = some w ∧ nI (p.cs l) + L (20 * (i + 1) + w) = L (20 * i + nd) ∧ (∀ l2 : Nat, l2 < l → fail2 p i nd L l2) ∧ eA i = evl (l / 40) ∧ gA i = nI (l % 40) ∧ nB i = nI w
def gpS (p : PbW) (kf vf : Nat → Nat) (eA gA nB : Nat → Int32) (j : Nat) : Prop := ∃ l : Nat, l < 440 ∧ eA j = evl (l / 40) ∧ gA j = nI (l % 40) ∧ nB j = nI (vf (j + 1)) ∧ vf (j + 1) < 20 ∧ p.st j (vf j) l = some (vf (j + 1)) ∧ kf (j + 1) = kf j * 440 + l
def gp (p : PbW) (m T i nd : Nat) (L eA gA nB : Nat → Int32) : Prop := ∃ (kf vf : Nat → Nat) (b x κ : Nat), vf 0 = 0 ∧ kf 0 = 0 ∧ vf i = nd ∧ (∀ j : Nat, j < i → gpS p kf vf eA gA nB j) ∧ b < RF ∧ L (20 * i + nd) = nI b ∧ MF RF (Cmp p (m - i) i nd) b x κ ∧ T = kf i * Qb (m - i) + κ
set_option maxRecDepth 20000 in
theorem okM_fun {p : PbW} {r i : Nat} {L S : Nat → Int32} (h : ∀ w : Nat, w < 20 → okM p r i w L S) : ∃ f : Nat → Nat × Nat × Nat, ∀ w : Nat, w < 20 → L (20 * i + w) = nI (f w).1 ∧ S (20 * i + w) = nI (f w).2.1 ∧ MF RF (Cmp p r i w) (f w).1 (f w).2.1 (f w).2.2 := by
  have h2 : ∀ w : Nat, ∃ t : Nat × Nat × Nat, w < 20 → L (20 * i + w) = nI t.1 ∧ S (20 * i + w) = nI t.2.1 ∧ MF RF (Cmp p r i w) t.1 t.2.1 t.2.2 := by
    intro w
    by_cases c : w < 20
    · obtain ⟨b, x, k, h1⟩ := h w c
      exact ⟨(b, x, k), fun _ => h1⟩
    · exact ⟨(0, 0, 0), fun z => absurd z c⟩
  exact Classical.axiomOfChoice h2
set_option maxRecDepth 20000 in
theorem nI_s3 {c a b : Nat} (hc : c ≤ 1998) (ha : a ≤ RF) (hb : b ≤ RF) : nI c + nI a = nI b ↔ c + a = b := by
  have hRF : RF = 1000000 := rfl
  rw [nI_add]
  exact nI_eq (by omega) (by omega)
set_option maxRecDepth 20000 in
theorem gp_step {p : PbW} {m T i nd : Nat} {L S eA gA nB : Nat → Int32} (hp : pbB p) (hLV : LV2 p L S m 0) (hi : i < m) (h : gp p m T i nd L eA gA nB) (hf : found2 p i nd L eA gA nB) : ∃ w : Nat, w < 20 ∧ nB i = nI w ∧ gp p m T (i + 1) w L eA gA nB := by
  obtain ⟨kf, vf, b, x, κ, h1, h2, h3, h4, h5, h6, h7, h8⟩ := h
  obtain ⟨l, w, g1, g2, g3, g4, g5, g6, g7, g8⟩ := hf
  obtain ⟨f, hfw⟩ := okM_fun (hLV (i + 1) (Nat.zero_le _) (by omega))
  have hcs := hp.1
  have hle : ∀ w : Nat, w < 20 → (f w).1 ≤ RF := fun w hw => by have := MF_le (hfw w hw).2.2; omega
  rw [show m - i = (m - (i + 1)) + 1 by omega] at h7 h8
  have hat : p.cs l + (f w).1 = b := by
    rw [(hfw w g2).1, h6] at g4
    exact (nI_s3 (hcs l g1) (hle w g2) (by omega)).mp g4
  obtain ⟨q1, q2⟩ := greedy (fun w => (f w).1) (fun w => (f w).2.1) (fun w => (f w).2.2) h7 h5 (fun w hw => (hfw w hw).2.2) hp.2 g1 g3 hat (fun l2 w2 hl2 hs2 z => by
    have h20 := hp.2 _ _ _ _ hs2
    refine g5 l2 hl2 w2 hs2 ?_
    rw [(hfw w2 h20).1, h6]
    exact (nI_s3 (hcs l2 (by omega)) (hle w2 h20) (by omega)).mpr z)
  refine ⟨w, g2, g8, updN kf (i + 1) (kf i * 440 + l), updN vf (i + 1) w, (f w).1, (f w).2.1, (f w).2.2, by rw [updN_n (by omega)]; exact h1, by rw [updN_n (by omega)]; exact h2, updN_s, fun j hj => ?_, q2, (hfw w g2).1, (hfw w g2).2.2, ?_⟩
  · rcases Nat.lt_or_ge j i with z | z
    · obtain ⟨l2, a1, a2, a3, a4, a5, a6, a7⟩ := h4 j z
      exact ⟨l2, a1, a2, a3, by rw [updN_n (by omega)]; exact a4, by rw [updN_n (by omega)]; exact a5, by rw [updN_n (by omega), updN_n (by omega)]; exact a6, by rw [updN_n (by omega), updN_n (by omega)]; exact a7⟩
    · have e : j = i := by omega
      subst e
      exact ⟨l, g1, g6, g7, by rw [updN_s]; exact g8, by rw [updN_s]; exact g2, by rw [updN_s, updN_n (by omega), h3]; exact g3, by rw [updN_s, updN_n (by omega)]⟩
  · rw [updN_s, h8, q1, Qb_s, Nat.add_mul, Nat.mul_assoc]; omega
set_option maxRecDepth 20000 in
theorem gp_frame {p : PbW} {m T i nd : Nat} {L eA gA nB eA2 gA2 nB2 : Nat → Int32} (h : gp p m T i nd L eA gA nB) (hf : ∀ j : Nat, j < i → eA2 j = eA j ∧ gA2 j = gA j ∧ nB2 j = nB j) : gp p m T i nd L eA2 gA2 nB2 := by
  obtain ⟨kf, vf, b, x, κ, h1, h2, h3, h4, h5⟩ := h
  refine ⟨kf, vf, b, x, κ, h1, h2, h3, fun j hj => ?_, h5⟩
  obtain ⟨l, a1, a2, a3, a4, a5⟩ := h4 j hj
  obtain ⟨e1, e2, e3⟩ := hf j hj
  exact ⟨l, a1, by rw [e1]; exact a2, by rw [e2]; exact a3, by rw [e3]; exact a4, a5⟩
set_option maxRecDepth 20000 in
theorem all_fail2 {p : PbW} {m T i nd : Nat} {L S eA gA nB : Nat → Int32} (hp : pbB p) (hLV : LV2 p L S m 0) (hi : i < m) (h : gp p m T i nd L eA gA nB) (hf : ∀ l : Nat, l < 440 → fail2 p i nd L l) : False := by
  obtain ⟨kf, vf, b, x, κ, h1, h2, h3, h4, h5, h6, h7, h8⟩ := h
  obtain ⟨f, hfw⟩ := okM_fun (hLV (i + 1) (Nat.zero_le _) (by omega))
  have hle : ∀ w : Nat, w < 20 → (f w).1 ≤ RF := fun w hw => by have := MF_le (hfw w hw).2.2; omega
  rw [show m - i = (m - (i + 1)) + 1 by omega] at h7
  rcases h7 with ⟨z, _⟩ | ⟨_, ⟨l0, w0, s0, k0, g1, g2, g3, g4, g5⟩, q3, _⟩
  · omega
  have h20 := hp.2 _ _ _ _ g2
  obtain ⟨r1, r2, r3⟩ := MF_re (hfw w0 h20).2.2 g3
  refine hf l0 g1 w0 g2 ?_
  rw [(hfw w0 h20).1, h6]
  refine (nI_s3 (hp.1 l0 g1) (hle w0 h20) (by omega)).mpr ?_
  have := q3 _ _ ⟨l0, w0, (f w0).1, (f w0).2.2, g1, g2, r2, rfl, rfl⟩
  omega
set_option maxRecDepth 20000 in
theorem gp_0 {p : PbW} {m b x T : Nat} {L S eA gA nB : Nat → Int32} (h : MF RF (Cmp p m 0 0) b x T) (hb : b < RF) (hL : L 0 = nI b) : gp p m T 0 0 L eA gA nB := ⟨fun _ => 0, fun _ => 0, b, x, T, rfl, rfl, rfl, fun j hj => absurd hj (Nat.not_lt_zero j), hb, hL, h, by show T = 0 * Qb (m - 0) + T; rw [Nat.zero_mul, Nat.zero_add]⟩
/-! the last end line of the first of the cheapest -/
def attE (E L : Nat → Int32) (hd m n e : Nat) : Prop := E (3 * (10 * hd + e)) = nI n ∧ E (3 * (10 * hd + e) + 1) = L (20 * m + n)
set_option maxRecDepth 20000 in
theorem gp_last {K R B G E L eA gA nB : Nat → Int32} {hd Gn En m T n : Nat} (hE : mEn E) (hh : hd ≤ 1) (hEn : En ≤ 10) (h : gp (wTm (prb K R B G E hd Gn En) (prb K R B G E hd Gn En).tm) m T m n L eA gA nB) : T % 16 < En ∧ attE E L hd m n (T % 16) ∧ ∀ e : Nat, e < En → attE E L hd m n e → T % 16 ≤ e := by
  have hRF : RF = 1000000 := rfl
  obtain ⟨kf, vf, b, x, κ, h1, h2, h3, h4, h5, h6, h7, h8⟩ := h
  rw [Nat.sub_self] at h7 h8
  rcases h7 with ⟨z, _⟩ | ⟨_, ⟨q1, q2⟩, q3, _⟩
  · omega
  have eT : T % 16 = κ := by
    have : Qb 0 = 16 := rfl
    rw [this] at h8
    omega
  rw [eT]
  have q4 : (if n < 10 ∧ κ < En ∧ E (3 * (10 * hd + κ)) = nI n then some (E (3 * (10 * hd + κ) + 1)).toNatClampNeg else none) = some b := q2
  by_cases c : n < 10 ∧ κ < En ∧ E (3 * (10 * hd + κ)) = nI n
  · rw [if_pos c] at q4
    obtain ⟨v9, h9, e9⟩ := hE (10 * hd + κ) (by omega)
    rw [e9, nI_clamp (by omega)] at q4
    have eb := Option.some.inj q4
    subst eb
    refine ⟨c.2.1, ⟨c.2.2, by rw [e9, h6]⟩, fun e he ha => ?_⟩
    have := q3 v9 e ⟨by omega, prb_tm c.1 he ha.1 (ha.2.trans h6) h9⟩
    omega
  · rw [if_neg c] at q4; cases q4
set_option maxRecDepth 20000 in
theorem gp_node {p : PbW} {m T n : Nat} {L eA gA nB : Nat → Int32} (h : gp p m T m n L eA gA nB) (hm : 0 < m) : nB (m - 1) = nI n := by
  obtain ⟨kf, vf, b, x, κ, h1, h2, h3, h4, h5⟩ := h
  obtain ⟨l, a1, a2, a3, a4, a5⟩ := h4 (m - 1) (by omega)
  rw [show m - 1 + 1 = m by omega] at a4
  rw [a4, h3]
set_option maxRecDepth 20000 in
theorem far_cmp {p : PbW} {m : Nat} {L S : Nat → Int32} (h : LV2 p L S m 0) (h0 : ¬ L 0 < 1000000) : ∃ x9 k9 : Nat, MF RF (Cmp p m 0 0) RF x9 k9 := by
  have hRF : RF = 1000000 := rfl
  obtain ⟨b, x, k, h1, h2, h3⟩ := h 0 (Nat.le_refl _) (Nat.zero_le _) 0 (by decide)
  have hl := MF_le h3
  have e : b = RF := by
    rcases Nat.lt_or_ge b RF with q | q
    · exact absurd (show L 0 < 1000000 by
        have h4 : L 0 = nI b := h1
        rw [h4]; exact nI_lt (a := b) (b := RF) q (by omega)) h0
    · omega
  subst e
  exact ⟨x, k, h3⟩
set_option maxRecDepth 20000 in
theorem bz_lt {p : PbW} {m T b x : Nat} {L : Nat → Int32} (h0 : L 0 < 1000000) (e : L 0 = nI b) (h : MF RF (Cmp p m 0 0) b x T) : b < RF := by
  have hRF : RF = 1000000 := rfl
  have hl := MF_le h
  rw [e] at h0
  exact (nI_ltI (a := b) (b := RF) (by omega) (by omega)).mp h0
/-! sentences: the labels with an end line -/
def dgq9 : Nat → Nat → Nat
  | 0, _ => 0
  | m + 1, k => dgq9 m (k / 440) + (if 40 ≤ k % 440 then 1 else 0)
set_option maxRecDepth 20000 in
theorem dgc_s {m k l : Nat} (hl : l < 440) : dgq9 (m + 1) (k * 440 + l) = dgq9 m k + (if 40 ≤ l then 1 else 0) := by
  show dgq9 m ((k * 440 + l) / 440) + (if 40 ≤ (k * 440 + l) % 440 then 1 else 0) = _
  rw [show (k * 440 + l) / 440 = k by omega, show (k * 440 + l) % 440 = l by omega]
/- how many of the first n are not negative -/
def cP0 (f : Nat → Int32) : Nat → Nat
  | 0 => 0
  | k + 1 => cP0 f k + (if f k < 0 then 0 else 1)
set_option maxRecDepth 20000 in
theorem cP0_s (f : Nat → Int32) (k : Nat) : cP0 f (k + 1) = cP0 f k + (if f k < 0 then 0 else 1) := rfl
set_option maxRecDepth 20000 in
theorem evl_lt {e : Nat} (he : e ≤ 100) : evl e < 0 ↔ e = 0 := by
  cases e with
  | zero => exact ⟨fun _ => rfl, fun _ => by decide⟩
  | succ e => exact ⟨fun z => absurd z (nI_pos (by omega)), fun z => by omega⟩
set_option maxRecDepth 20000 in
theorem gpS_cnt {p : PbW} {kf vf : Nat → Nat} {eA gA nB : Nat → Int32} (h0 : kf 0 = 0) : ∀ i : Nat, (∀ j : Nat, j < i → gpS p kf vf eA gA nB j) → cP0 eA i = dgq9 i (kf i)
  | 0, _ => rfl
  | i + 1, h => by
    obtain ⟨l, a1, a2, a3, a4, a5, a6, a7⟩ := h i (by omega)
    rw [cP0_s, a7, dgc_s a1, gpS_cnt h0 i (fun j hj => h j (by omega)), a2]
    by_cases c : 40 ≤ l
    · rw [if_pos c, if_neg (fun z => by have := (evl_lt (by omega)).mp z; omega)]
    · rw [if_neg c, if_pos ((evl_lt (by omega)).mpr (by omega))]
set_option maxRecDepth 20000 in
theorem gp_cnt {p : PbW} {m T n : Nat} {L eA gA nB : Nat → Int32} (h : gp p m T m n L eA gA nB) : cP0 eA m = dgq9 m (T / 16) := by
  obtain ⟨kf, vf, b, x, κ, h1, h2, h3, h4, h5, h6, h7, h8⟩ := h
  rw [Nat.sub_self] at h7 h8
  have hk : κ < 16 := by
    rcases h7 with ⟨z, _⟩ | ⟨_, q, _⟩
    · omega
    · exact q.1
  have : Qb 0 = 16 := rfl
  rw [this] at h8
  rw [gpS_cnt h2 m h4, show T / 16 = kf m by omega]
/- one set, two marks for none -/
set_option maxRecDepth 20000 in
theorem MF_two {F G : Nat} {S : Nat → Nat → Prop} {b x k b2 x2 k2 : Nat} (hFG : G ≤ F) (hc : ∀ s j : Nat, S s j → s < G) (h : MF F S b x k) (g : MF G S b2 x2 k2) : (b < F ↔ b2 < G) ∧ (b < F → b = b2 ∧ k = k2) ∧ (x < F ↔ x2 < G) ∧ (x < F → x = x2) := by
  rcases h with ⟨h1, h2, h3⟩ | ⟨h1, h2, h3, h4⟩
  · rcases g with ⟨g1, g2, g3⟩ | ⟨g1, g2, g3, g4⟩
    · exact ⟨by omega, by omega, by omega, by omega⟩
    · exact absurd g2 (h3 _ _)
  · rcases g with ⟨g1, g2, g3⟩ | ⟨g1, g2, g3, g4⟩
    · exact absurd h2 (g3 _ _)
    · have e : b = b2 ∧ k = k2 := by
        rcases h3 _ _ g2 with q | q <;> rcases g3 _ _ h2 with r | r <;> omega
      obtain ⟨e1, e2⟩ := e
      subst e1 e2
      refine ⟨by omega, fun _ => ⟨rfl, rfl⟩, ?_⟩
      rcases h4 with ⟨q1, q2⟩ | ⟨q1, ⟨j, q2, q3⟩, q4⟩
      · rcases g4 with ⟨r1, _⟩ | ⟨_, ⟨j2, r2, r3⟩, _⟩
        · omega
        · exact absurd (q2 _ _ r3) r2
      · rcases g4 with ⟨_, r1⟩ | ⟨r0, ⟨j2, r2, r3⟩, r4⟩
        · exact absurd (r1 _ _ q3) q2
        · have := q4 _ _ r3 r2
          have := r4 _ _ q3 q2
          omega
/-! two problems that differ in the names of their nodes -/
def phi (v : Nat) : Nat := v / 2 + 10 * (v % 2)
set_option maxRecDepth 20000 in
theorem phi_inj {a b : Nat} (ha : a < 20) (hb : b < 20) (h : phi a = phi b) : a = b := by unfold phi at h; omega
def simP (p q : PbW) : Prop := p.cs = q.cs ∧ (∀ i v l : Nat, v < 20 → q.st i (phi v) l = (p.st i v l).map phi) ∧ (∀ v e : Nat, v < 20 → q.tm (phi v) e = p.tm v e)
set_option maxRecDepth 20000 in
theorem sim_way {p q : PbW} (h : simP p q) (hp : ∀ i v l w : Nat, p.st i v l = some w → w < 20) : ∀ i u c k : Nat, Way q i u c k ↔ ∃ v : Nat, v < 20 ∧ phi v = u ∧ Way p i v c k
  | 0, u, c, k => by
    constructor
    · rintro ⟨rfl, rfl, rfl⟩
      exact ⟨0, by decide, rfl, rfl, rfl, rfl⟩
    · rintro ⟨v, hv, rfl, rfl, rfl, rfl⟩
      exact ⟨rfl, rfl, rfl⟩
  | i + 1, u, c, k => by
    have ih := sim_way h hp i
    constructor
    · rintro ⟨u0, c0, k0, l, h1, h2, h3, h4, h5⟩
      obtain ⟨v0, hv0, rfl, hw⟩ := (ih u0 c0 k0).mp h1
      rw [h.2.1 i v0 l hv0] at h3
      rcases hs : p.st i v0 l with _ | w
      · rw [hs] at h3; cases h3
      · rw [hs] at h3
        have e : phi w = u := Option.some.inj h3
        exact ⟨w, hp _ _ _ _ hs, e, v0, c0, k0, l, hw, h2, hs, by rw [h.1]; exact h4, h5⟩
    · rintro ⟨v, hv, rfl, v0, c0, k0, l, h1, h2, h3, h4, h5⟩
      have hv0 : v0 < 20 := Way_node hp h1
      exact ⟨phi v0, c0, k0, l, (ih _ c0 k0).mpr ⟨v0, hv0, rfl, h1⟩, h2, by rw [h.2.1 i v0 l hv0, h3]; rfl, by rw [← h.1]; exact h4, h5⟩
set_option maxRecDepth 20000 in
theorem sim_ful {p q : PbW} (h : simP p q) (hp : ∀ i v l w : Nat, p.st i v l = some w → w < 20) (m s T : Nat) : Ful q 0 m s T ↔ Ful p 0 m s T := by
  constructor
  · rintro ⟨u, s0, k0, s1, k1, h1, ⟨h2, h3⟩, h4, h5⟩
    obtain ⟨v, hv, rfl, hw⟩ := (sim_way h hp m u s0 k0).mp h1
    exact ⟨v, s0, k0, s1, k1, hw, ⟨h2, by rw [← h.2.2 v k1 hv]; exact h3⟩, h4, h5⟩
  · rintro ⟨v, s0, k0, s1, k1, h1, ⟨h2, h3⟩, h4, h5⟩
    have hv : v < 20 := Way_node hp h1
    exact ⟨phi v, s0, k0, s1, k1, (sim_way h hp m _ s0 k0).mpr ⟨v, hv, rfl, h1⟩, ⟨h2, by rw [h.2.2 v k1 hv]; exact h3⟩, h4, h5⟩
/-! the class's answers and the reference's are one set's -/
set_option maxRecDepth 20000 in
theorem FP_ful {p : PbW} {m ln T : Nat} {K : Nat → Nat} {lc sc le : Int32} (hp : pbB p) (h : FP p m K 20 0 lc sc ln le T) : ∃ b x : Nat, lc = nI b ∧ sc = nI x ∧ MF FN (Ful p 0 m) b x T ∧ (b = FN → le = -1) ∧ (b < FN → ln < 20 ∧ (∃ c : Nat, Way p m ln c (K ln)) ∧ T / 16 = K ln ∧ le = nI (T % 16)) := by
  obtain ⟨h0, b, x, h1, h2, h3, h4, h5⟩ := h
  refine ⟨b, x, h1, h2, MF_congr h3 (fun s j => FD_all (fun v c k hw => Way_node hp.2 hw)), h4, fun z => ?_⟩
  obtain ⟨e, c, s, g1, g2, g3, g4, g5, g6⟩ := h5 z
  exact ⟨h0, ⟨c, g2⟩, by omega, by rw [g5]; exact congrArg nI (by omega)⟩
set_option maxRecDepth 20000 in
theorem Ful_lt {p : PbW} {m : Nat} (hp : pbB p) (ht : pbT p) (hm : m ≤ 60) : ∀ s T : Nat, Ful p 0 m s T → s < RF := by
  rintro s T ⟨v, s0, k0, s1, k1, h1, ⟨_, h2⟩, h3, _⟩
  have hRF : RF = 1000000 := rfl
  have := Way_cost hp.1 h1
  have := ht _ _ _ h2
  have : 1998 * m ≤ 1998 * 60 := Nat.mul_le_mul_left _ hm
  omega
/- what both sides say of a parting -/
set_option maxRecDepth 20000 in
theorem both {p q : PbW} {m ln T b9 x9 T9 : Nat} {K : Nat → Nat} {lc sc le : Int32} (hs : simP p q) (hp : pbB p) (ht : pbT p) (hm : m ≤ 60) (h : FP p m K 20 0 lc sc ln le T) (g : MF RF (Cmp q m 0 0) b9 x9 T9) : (rcb lc = 0 ↔ ¬ b9 < RF) ∧ (b9 < RF → lc = nI b9 ∧ le = nI (T9 % 16) ∧ T9 / 16 = K ln ∧ ln < 20 ∧ ∃ c : Nat, Way p m ln c (K ln)) ∧ (rcb sc = 0 ↔ ¬ x9 < RF) ∧ (x9 < RF → sc = nI x9) := by
  have hFN : FN = 1000000000 := rfl
  have hRF : RF = 1000000 := rfl
  obtain ⟨b, x, h1, h2, h3, h4, h5⟩ := FP_ful hp h
  have g2 : MF RF (Ful p 0 m) b9 x9 T9 := MF_congr g (fun s j => by
    rw [← Ful_start, Ful_all, Nat.zero_add]; exact sim_ful hs hp.2 m s j)
  obtain ⟨q1, q2, q3, q4⟩ := MF_two (show RF ≤ FN by omega) (Ful_lt hp ht hm) h3 g2
  have hl := MF_le h3
  have hr : ∀ y : Nat, y ≤ FN → (rcb (nI y) = 0 ↔ ¬ y < FN) := fun y hy => by
    unfold rcb
    by_cases c : (1000000000 : Int32) ≤ nI y
    · have := (nI_leI (a := FN) (b := y) (by omega) (by omega)).mp c
      rw [if_pos c]; exact ⟨fun _ => by omega, fun _ => rfl⟩
    · rw [if_neg c]
      refine ⟨fun z => absurd z (by decide), fun z => absurd (nI_le (a := FN) (b := y) (by omega) (by omega)) c⟩
  refine ⟨?_, fun z => ?_, ?_, fun z => ?_⟩
  · rw [h1, hr b (by omega), q1]
  · have zb := q1.mpr z
    obtain ⟨e1, e2⟩ := q2 zb
    obtain ⟨a1, a2, a3, a4⟩ := h5 zb
    rw [← e2]
    exact ⟨by rw [h1, e1], a4, a3, a1, a2⟩
  · rw [h2, hr x (by omega), q3]
  · rw [h2, q4 (q3.mpr z)]
set_option maxRecDepth 20000 in
theorem dgc_dn {j k k0 l : Nat} (hj : 0 < j) (hl : l < 440) (e : k = k0 * 440 + l) : dgq9 j k = dgq9 (j - 1) k0 + (if 40 ≤ l then 1 else 0) := by
  obtain ⟨i, rfl⟩ : ∃ i, j = i + 1 := ⟨j - 1, by omega⟩
  rw [e, dgc_s hl]; rfl
/-! the class's step is the reference's, with the nodes' other names -/
def psi (u : Nat) : Nat := 2 * (u % 10) + u / 10
set_option maxRecDepth 20000 in
theorem psi_phi : ∀ v : Nat, v < 20 → psi (phi v) = v := by decide
set_option maxRecDepth 20000 in
theorem phi_psi : ∀ u : Nat, u < 20 → phi (psi u) = u := by decide
set_option maxRecDepth 20000 in
theorem psi_lt : ∀ u : Nat, u < 20 → psi u < 20 := by decide
set_option maxRecDepth 20000 in
theorem phi_lt : ∀ v : Nat, v < 20 → phi v < 20 := by decide
def pull (q : PbW) : PbW := (fun i v l => if v < 20 then (q.st i (phi v) l).map psi else none, q.cs, fun v e => q.tm (phi v) e)
set_option maxRecDepth 20000 in
theorem pull_sim {q : PbW} (hq : ∀ i v l w : Nat, q.st i v l = some w → w < 20) : simP (pull q) q := by
  refine ⟨rfl, fun i v l hv => ?_, fun v e _ => rfl⟩
  show q.st i (phi v) l = (if v < 20 then (q.st i (phi v) l).map psi else none).map phi
  rw [if_pos hv]
  rcases hs : q.st i (phi v) l with _ | w
  · rfl
  · show some w = some (phi (psi w))
    rw [phi_psi w (hq _ _ _ _ hs)]
set_option maxRecDepth 20000 in
theorem pull_B {q : PbW} (h : pbB q) (ht : pbT q) : pbB (pull q) ∧ pbT (pull q) := by
  refine ⟨⟨h.1, fun i v l w hs => ?_⟩, fun v e c hc => ht _ _ _ hc⟩
  have h2 : (if v < 20 then (q.st i (phi v) l).map psi else none) = some w := hs
  by_cases c : v < 20
  · rw [if_pos c] at h2
    rcases hq : q.st i (phi v) l with _ | u
    · rw [hq] at h2; cases h2
    · rw [hq] at h2
      have e : psi u = w := Option.some.inj h2
      rw [← e]; exact psi_lt u (h.2 _ _ _ _ hq)
  · rw [if_neg c] at h2; cases h2
set_option maxRecDepth 20000 in
theorem v_state : ∀ v : Nat, v < 20 → (nI v >>> ((1 : Int32) &&& 31)) = nI (phi v % 10) := by decide
set_option maxRecDepth 20000 in
theorem v_q0 : ∀ v : Nat, v < 20 → (nI v &&& 1 = 0 ↔ nI (phi v) < 10) := by decide
set_option maxRecDepth 20000 in
theorem v_q1 : ∀ v : Nat, v < 20 → (nI v &&& 1 = 1 ↔ ¬ nI (phi v) < 10) := by decide
set_option maxRecDepth 20000 in
theorem v_m : ∀ v : Nat, v < 20 → nI (phi v) < 10 → phi v % 10 = phi v := by decide
set_option maxRecDepth 20000 in
theorem bit1 (x : Int32) : x &&& 1 = 0 ∨ x &&& 1 = 1 := by
  obtain ⟨j, hj, e⟩ := pk_andE x (m := 1) 1 rfl
  rw [e]
  match j, hj with
  | 0, _ => exact Or.inl rfl
  | 1, _ => exact Or.inr rfl
def toO (x : Int32) : Option Nat := if x < 0 then none else some x.toNatClampNeg
set_option maxRecDepth 20000 in
theorem toO_n {t : Nat} (h : t < 2 ^ 31) : toO (nI t) = some t := by unfold toO; rw [if_neg (nI_pos h), nI_clamp h]
set_option maxRecDepth 20000 in
theorem toO_m : toO (-1) = none := by decide
/- the node that a go line leads to (the reference's names) -/
def targ (M : Int32) (t : Nat) (op : Bool) : Option Nat := if M = 2 then (if op then none else some (t + 10)) else if M = 3 then (if op then some t else none) else some (t + (if op then 10 else 0))
set_option maxRecDepth 20000 in
theorem nb_targ {gc : Int32} {T M : Nat → Int32} {v g t : Nat} (hv : v < 20) (hg : g < 40) (hb : ¬ bnd 40 (nI g) gc = 0) (ht : t ≤ 9) (e : T g = nI t) : toO (nbC gc T M (nI g) (nI v &&& 1)) = (targ (M g) t (!decide (nI (phi v) < 10))).map psi := by
  have e0 : nI t * 2 + 0 = nI (2 * t) := nd2 t
  have e1 : nI t * 2 + 1 = nI (2 * t + 1) := by rw [← nI_1, ← nd2 t, Int32.add_zero]
  have s0 : psi t = 2 * t := by unfold psi; omega
  have s1 : psi (t + 10) = 2 * t + 1 := by unfold psi; omega
  unfold nbC targ
  rw [if_neg hb, nI_clamp (by omega), e]
  by_cases o : nI (phi v) < 10
  · rw [(v_q0 v hv).mpr o]
    simp only [o, decide_true, Bool.not_true]
    by_cases c1 : M g = 2
    · rw [if_pos c1, if_pos c1, if_pos trivial, e1, toO_n (by omega)]
      show some (2 * t + 1) = some (psi (t + 10))
      rw [s1]
    · rw [if_neg c1, if_neg c1]
      by_cases c2 : M g = 3
      · rw [if_pos c2, if_pos c2, if_neg (by decide), toO_m]; rfl
      · rw [if_neg c2, if_neg c2, e0, toO_n (by omega)]
        show some (2 * t) = some (psi (t + 0))
        rw [Nat.add_zero, s0]
  · rw [(v_q1 v hv).mpr o]
    simp only [o, decide_false, Bool.not_false]
    by_cases c1 : M g = 2
    · rw [if_pos c1, if_pos c1, if_neg (by decide), toO_m]; rfl
    · rw [if_neg c1, if_neg c1]
      by_cases c2 : M g = 3
      · rw [if_pos c2, if_pos c2, if_pos trivial, e0, toO_n (by omega)]
        show some (2 * t) = some (psi t)
        rw [s0]
      · rw [if_neg c2, if_neg c2, e1, toO_n (by omega)]
        show some (2 * t + 1) = some (psi (t + 10))
        rw [s1]
/- one step, of the numbers that decide it -/
def stR9 (F9 K9 M9 : Int32) (t : Nat) (set mk eF eM : Int32) (i u e : Nat) : Option Nat :=
  if e = 0 then (if (mk = -1 ∨ mk = M9) ∧ F9 = nI (u % 10) ∧ ¬ (set >>> (K9 &&& 31)) &&& 1 = 0 then targ M9 t (!decide (nI u < 10)) else none)
  else (if ¬ i = 0 ∧ nI u < 10 ∧ eF = nI u ∧ (mk = -1 ∨ mk = eM) ∧ F9 = 0 ∧ ¬ (set >>> (K9 &&& 31)) &&& 1 = 0 then targ M9 t false else none)
set_option maxRecDepth 20000 in
theorem q_op0 {W x : Int32} {t : Nat} (ht : t ≤ 9) (e : x = nI t) : toO (if W = 2 then (if W = 3 then -1 else (if W = 2 then x + 10 else if W = 3 then x + 0 else x + 0)) else if W = 3 then -1 else (if W = 2 then x + 10 else if W = 3 then x + 0 else x + 0)) = targ W t false := by
  have e1 : x + 10 = nI (t + 10) := by rw [e]; exact nI_add t 10
  have e0 : x + 0 = nI t := by rw [e]; exact Int32.add_zero _
  unfold targ
  by_cases c1 : W = 2
  · have c2 : ¬ W = 3 := by rw [c1]; decide
    rw [if_pos c1, if_neg c2, if_pos c1, if_pos c1, e1, toO_n (by omega)]; rfl
  · rw [if_neg c1, if_neg c1, if_neg c1]
    by_cases c2 : W = 3
    · rw [if_pos c2, if_pos c2, toO_m]; rfl
    · rw [if_neg c2, if_neg c2, if_neg c2, e0, toO_n (by omega)]; rfl
set_option maxRecDepth 20000 in
theorem q_op1 {W x : Int32} {t : Nat} (ht : t ≤ 9) (e : x = nI t) : toO (if W = 2 then -1 else if W = 3 then (if W = 2 then x + 10 else if W = 3 then x + 0 else x + 10) else (if W = 2 then x + 10 else if W = 3 then x + 0 else x + 10)) = targ W t true := by
  have e1 : x + 10 = nI (t + 10) := by rw [e]; exact nI_add t 10
  have e0 : x + 0 = nI t := by rw [e]; exact Int32.add_zero _
  unfold targ
  by_cases c1 : W = 2
  · rw [if_pos c1, if_pos c1, toO_m]; rfl
  · rw [if_neg c1, if_neg c1, if_neg c1]
    by_cases c2 : W = 3
    · rw [if_pos c2, if_pos c2, if_pos c2, e0, toO_n (by omega)]; rfl
    · rw [if_neg c2, if_neg c2, if_neg c2, e1, toO_n (by omega)]; rfl
set_option maxRecDepth 20000 in
theorem toO_ite {c : Prop} [Decidable c] {a b : Int32} : toO (if c then a else b) = if c then toO a else toO b := by
  by_cases h : c
  · rw [if_pos h, if_pos h]
  · rw [if_neg h, if_neg h]
set_option maxRecDepth 20000 in
theorem stp_R9 {K R B G E : Nat → Int32} {hd i u e g t : Nat} (ht : t ≤ 9) (et : G (5 * (40 * hd + g) + 2) = nI t) (hmk : B i = -1 ∨ 0 ≤ B i) (hi : i < 2 ^ 31) : toO (stp K R B G E hd i u e g) = stR9 (G (5 * (40 * hd + g) + 0)) (G (5 * (40 * hd + g) + 1)) (G (5 * (40 * hd + g) + 4)) t (K (R i).toNatClampNeg) (B i) (E (3 * (10 * hd + (e - 1)) + 0)) (E (3 * (10 * hd + (e - 1)) + 2)) i u e := by
  have hneg : B i < 0 ↔ B i = -1 := ⟨fun z => hmk.resolve_right (fun y => absurd z (Int32.not_lt.mpr y)), fun z => by rw [z]; decide⟩
  unfold stR9
  cases e with
  | zero =>
    rw [if_pos rfl]
    show toO (stp0 K R B G hd i u g) = _
    unfold stp0
    by_cases o : nI u < 10
    · rw [if_pos o]
      simp only [o, decide_true, Bool.not_true]
      by_cases m1 : B i < 0
      · rw [if_pos m1]
        by_cases f : G (5 * (40 * hd + g) + 0) = nI (u % 10)
        · rw [if_pos f]
          by_cases b : K (R i).toNatClampNeg >>> (G (5 * (40 * hd + g) + 1) &&& 31) &&& 1 = 0
          · rw [if_pos b]; exact toO_m.trans (if_neg (fun z => z.2.2 b)).symm
          · rw [if_neg b]; exact (q_op0 ht et).trans (if_pos ⟨Or.inl (hneg.mp m1), f, b⟩).symm
        · rw [if_neg f]; exact toO_m.trans (if_neg (fun z => f z.2.1)).symm
      · rw [if_neg m1]
        by_cases m2 : B i = G (5 * (40 * hd + g) + 4)
        · rw [if_pos m2]
          by_cases f : G (5 * (40 * hd + g) + 0) = nI (u % 10)
          · rw [if_pos f]
            by_cases b : K (R i).toNatClampNeg >>> (G (5 * (40 * hd + g) + 1) &&& 31) &&& 1 = 0
            · rw [if_pos b]; exact toO_m.trans (if_neg (fun z => z.2.2 b)).symm
            · rw [if_neg b]; exact (q_op0 ht et).trans (if_pos ⟨Or.inr m2, f, b⟩).symm
          · rw [if_neg f]; exact toO_m.trans (if_neg (fun z => f z.2.1)).symm
        · rw [if_neg m2]; exact toO_m.trans (if_neg (fun z => z.1.elim (fun y => m1 (hneg.mpr y)) m2)).symm
    · rw [if_neg o]
      simp only [o, decide_false, Bool.not_false]
      by_cases m1 : B i < 0
      · rw [if_pos m1]
        by_cases f : G (5 * (40 * hd + g) + 0) = nI (u % 10)
        · rw [if_pos f]
          by_cases b : K (R i).toNatClampNeg >>> (G (5 * (40 * hd + g) + 1) &&& 31) &&& 1 = 0
          · rw [if_pos b]; exact toO_m.trans (if_neg (fun z => z.2.2 b)).symm
          · rw [if_neg b]; exact (q_op1 ht et).trans (if_pos ⟨Or.inl (hneg.mp m1), f, b⟩).symm
        · rw [if_neg f]; exact toO_m.trans (if_neg (fun z => f z.2.1)).symm
      · rw [if_neg m1]
        by_cases m2 : B i = G (5 * (40 * hd + g) + 4)
        · rw [if_pos m2]
          by_cases f : G (5 * (40 * hd + g) + 0) = nI (u % 10)
          · rw [if_pos f]
            by_cases b : K (R i).toNatClampNeg >>> (G (5 * (40 * hd + g) + 1) &&& 31) &&& 1 = 0
            · rw [if_pos b]; exact toO_m.trans (if_neg (fun z => z.2.2 b)).symm
            · rw [if_neg b]; exact (q_op1 ht et).trans (if_pos ⟨Or.inr m2, f, b⟩).symm
          · rw [if_neg f]; exact toO_m.trans (if_neg (fun z => f z.2.1)).symm
        · rw [if_neg m2]; exact toO_m.trans (if_neg (fun z => z.1.elim (fun y => m1 (hneg.mpr y)) m2)).symm
  | succ e =>
    rw [if_neg (by omega)]
    show toO (stpE K R B G E hd i u e g) = _
    unfold stpE
    simp only [Nat.add_sub_cancel]
    have hi0 : nI i = 0 ↔ i = 0 := nI_eq (a := i) (b := 0) hi (by decide)
    by_cases o : nI u < 10
    · rw [if_pos o]
      by_cases z0 : nI i = 0
      · rw [if_pos z0]; exact toO_m.trans (if_neg (fun z => z.1 (hi0.mp z0))).symm
      · rw [if_neg z0]
        by_cases ef : E (3 * (10 * hd + e) + 0) = nI u
        · rw [if_pos ef]
          by_cases m1 : B i < 0
          · rw [if_pos m1]
            by_cases f : G (5 * (40 * hd + g) + 0) = 0
            · rw [if_pos f]
              by_cases b : K (R i).toNatClampNeg >>> (G (5 * (40 * hd + g) + 1) &&& 31) &&& 1 = 0
              · rw [if_pos b]; exact toO_m.trans (if_neg (fun z => z.2.2.2.2.2 b)).symm
              · rw [if_neg b]; exact (q_op0 ht et).trans (if_pos ⟨fun y => z0 (hi0.mpr y), o, ef, Or.inl (hneg.mp m1), f, b⟩).symm
            · rw [if_neg f]; exact toO_m.trans (if_neg (fun z => f z.2.2.2.2.1)).symm
          · rw [if_neg m1]
            by_cases m2 : B i = E (3 * (10 * hd + e) + 2)
            · rw [if_pos m2]
              by_cases f : G (5 * (40 * hd + g) + 0) = 0
              · rw [if_pos f]
                by_cases b : K (R i).toNatClampNeg >>> (G (5 * (40 * hd + g) + 1) &&& 31) &&& 1 = 0
                · rw [if_pos b]; exact toO_m.trans (if_neg (fun z => z.2.2.2.2.2 b)).symm
                · rw [if_neg b]; exact (q_op0 ht et).trans (if_pos ⟨fun y => z0 (hi0.mpr y), o, ef, Or.inr m2, f, b⟩).symm
              · rw [if_neg f]; exact toO_m.trans (if_neg (fun z => f z.2.2.2.2.1)).symm
            · rw [if_neg m2]; exact toO_m.trans (if_neg (fun z => z.2.2.2.1.elim (fun y => m1 (hneg.mpr y)) m2)).symm
        · rw [if_neg ef]; exact toO_m.trans (if_neg (fun z => ef z.2.2.1)).symm
    · rw [if_neg o]; exact toO_m.trans (if_neg (fun z => o z.2.1)).symm
set_option maxRecDepth 20000 in
theorem bnd_40 {j m : Nat} (h : j < m) (hm : m ≤ 40) : ¬ bnd 40 (nI j) (nI m) = 0 := by
  unfold bnd
  rw [if_neg (nI_pos (by omega)), if_neg (nI_ge (a := j) (b := m) h (by omega)), if_neg (show ¬ (40 : Int32) ≤ nI j from nI_ge (a := j) (b := 40) (by omega) (by omega))]
  decide
set_option maxRecDepth 20000 in
theorem bnd_10 {j m : Nat} (h : j < m) (hm : m ≤ 10) : ¬ bnd 10 (nI j) (nI m) = 0 := by
  unfold bnd
  rw [if_neg (nI_pos (by omega)), if_neg (nI_ge (a := j) (b := m) h (by omega)), if_neg (show ¬ (10 : Int32) ≤ nI j from nI_ge (a := j) (b := 10) (by omega) (by omega))]
  decide
set_option maxRecDepth 20000 in
theorem canG_iff {F K M : Nat → Int32} {g gn : Nat} {st set mk : Int32} (hg : g < gn) (hgn : gn ≤ 40) : ¬ canG (nI gn) F K M (nI g) st set mk = 0 ↔ (F g = st ∧ ¬ (set >>> (K g &&& 31)) &&& 1 = 0 ∧ (mk = -1 ∨ mk = M g)) := by
  unfold canG
  rw [if_neg (bnd_40 hg hgn), nI_clamp (by omega)]
  by_cases c1 : F g = st
  · rw [if_pos c1]
    rcases bit1 (set >>> (K g &&& 31)) with b | b
    · rw [if_neg (by rw [b]; decide)]
      exact ⟨fun z => absurd rfl z, fun z => absurd b z.2.1⟩
    · rw [if_pos b]
      by_cases c3 : mk = -1
      · rw [if_pos c3]
        exact ⟨fun _ => ⟨c1, by rw [b]; decide, Or.inl c3⟩, fun _ => by decide⟩
      · rw [if_neg c3]
        by_cases c4 : M g = mk
        · rw [if_pos c4]
          exact ⟨fun _ => ⟨c1, by rw [b]; decide, Or.inr c4.symm⟩, fun _ => by decide⟩
        · rw [if_neg c4]
          exact ⟨fun z => absurd rfl z, fun z => (z.2.2.elim c3 (fun y => c4 y.symm)).elim⟩
  · rw [if_neg c1]
    exact ⟨fun z => absurd rfl z, fun z => absurd z.1 c1⟩
set_option maxRecDepth 20000 in
theorem canE_iff {eF eM : Nat → Int32} {e en : Nat} {st mk : Int32} (he : e < en) (hen : en ≤ 10) : ¬ canE (nI en) eF eM (nI e) st mk = 0 ↔ (eF e = st ∧ (mk = -1 ∨ mk = eM e)) := by
  unfold canE
  rw [if_neg (bnd_10 he hen), nI_clamp (by omega)]
  by_cases c1 : eF e = st
  · rw [if_pos c1]
    by_cases c3 : mk = -1
    · rw [if_pos c3]
      exact ⟨fun _ => ⟨c1, Or.inl c3⟩, fun _ => by decide⟩
    · rw [if_neg c3]
      by_cases c4 : eM e = mk
      · rw [if_pos c4]
        exact ⟨fun _ => ⟨c1, Or.inr c4.symm⟩, fun _ => by decide⟩
      · rw [if_neg c4]
        exact ⟨fun z => absurd rfl z, fun z => (z.2.elim c3 (fun y => c4 y.symm)).elim⟩
  · rw [if_neg c1]
    exact ⟨fun z => absurd rfl z, fun z => absurd z.1 c1⟩
set_option maxRecDepth 20000 in
theorem goA_R {F K T M : Nat → Int32} {g gn v t : Nat} {st set mk : Int32} (hv : v < 20) (hg : g < gn) (hgn : gn ≤ 40) (ht : t ≤ 9) (e : T g = nI t) : goA (nI gn) F K T M st set mk v g = if F g = st ∧ ¬ (set >>> (K g &&& 31)) &&& 1 = 0 ∧ (mk = -1 ∨ mk = M g) then (targ (M g) t (!decide (nI (phi v) < 10))).map psi else none := by
  unfold goA
  by_cases c : canG (nI gn) F K M (nI g) st set mk = 0
  · rw [if_pos c]
    exact (if_neg (fun z => ((canG_iff hg hgn).mpr z) c)).symm
  · rw [if_neg c]
    refine Eq.trans ?_ (if_pos ((canG_iff hg hgn).mp c)).symm
    exact nb_targ (gc := nI gn) (M := M) hv (by omega) (bnd_40 hg hgn) ht e
set_option maxRecDepth 20000 in
theorem stA_R9 {F K T M eF eM : Nat → Int32} {gn en i v l t : Nat} {set mk : Int32} (hv : v < 20) (hl : l < 440) (hg : l % 40 < gn) (hgn : gn ≤ 40) (he : l / 40 ≤ en) (hen : en ≤ 10) (ht : t ≤ 9) (et : T (l % 40) = nI t) (hM : ∃ k : Nat, k ≤ 3 ∧ M (l % 40) = nI k) (hE : ∀ e : Nat, e < en → ∃ k : Nat, 4 ≤ k ∧ k ≤ 6 ∧ eM e = nI k) : stpA gn en F K T M eF eM set mk i v l = (stR9 (F (l % 40)) (K (l % 40)) (M (l % 40)) t set mk (eF (l / 40 - 1)) (eM (l / 40 - 1)) i (phi v) (l / 40)).map psi := by
  unfold stpA stR9
  rw [if_pos hg, v_state v hv]
  by_cases c0 : l < 40
  · rw [if_pos c0, if_pos (show l / 40 = 0 by omega)]
    by_cases c4 : mk < 4
    · rw [if_pos c4, goA_R hv hg hgn ht et]
      by_cases cc : (mk = -1 ∨ mk = M (l % 40)) ∧ F (l % 40) = nI (phi v % 10) ∧ ¬ (set >>> (K (l % 40) &&& 31)) &&& 1 = 0
      · rw [if_pos cc]; exact if_pos ⟨cc.2.1, cc.2.2, cc.1⟩
      · rw [if_neg cc]; exact if_neg (fun z => cc ⟨z.2.2, z.1, z.2.1⟩)
    · rw [if_neg c4]
      obtain ⟨k, hk, ek⟩ := hM
      refine Eq.symm (congrArg (Option.map psi) (if_neg (fun z => ?_)))
      rcases z.1 with y | y
      · rw [y] at c4; exact c4 (by decide)
      · rw [y, ek] at c4; exact c4 (nI_lt (a := k) (b := 4) (by omega) (by omega))
  · rw [if_neg c0, if_neg (show ¬ l / 40 = 0 by omega)]
    have hek : l / 40 - 1 < en := by omega
    by_cases ci : i = 0
    · rw [if_pos ci]
      exact Eq.symm (congrArg (Option.map psi) (if_neg (fun z => z.1 ci)))
    · rw [if_neg ci]
      by_cases cq : nI v &&& 1 = 1
      · rw [if_pos cq]
        exact Eq.symm (congrArg (Option.map psi) (if_neg (fun z => (v_q1 v hv).mp cq z.2.1)))
      · rw [if_neg cq]
        have o : nI (phi v) < 10 := Decidable.of_not_not (fun z => cq ((v_q1 v hv).mpr z))
        by_cases cm : mk = -1 ∨ ¬ mk < 4
        · rw [if_pos cm, if_pos hek]
          by_cases ce : canE (nI en) eF eM (nI (l / 40 - 1)) (nI (phi v % 10)) mk = 0
          · rw [if_pos ce]
            refine Eq.symm (congrArg (Option.map psi) (if_neg (fun z => (canE_iff hek hen).mpr ⟨?_, z.2.2.2.1⟩ ce)))
            rw [v_m v hv o]; exact z.2.2.1
          · rw [if_neg ce, goA_R hv hg hgn ht et]
            obtain ⟨d1, d2⟩ := (canE_iff hek hen).mp ce
            rw [v_m v hv o] at d1
            simp only [o, decide_true, Bool.not_true]
            by_cases cc : F (l % 40) = 0 ∧ ¬ (set >>> (K (l % 40) &&& 31)) &&& 1 = 0
            · refine Eq.trans (if_pos ⟨cc.1, cc.2, Or.inl trivial⟩) (Eq.symm (congrArg (Option.map psi) (if_pos ⟨ci, trivial, d1, d2, cc.1, cc.2⟩)))
            · refine Eq.trans (if_neg (fun z => cc ⟨z.1, z.2.1⟩)) (Eq.symm (congrArg (Option.map psi) (if_neg (fun z => cc ⟨z.2.2.2.2.1, z.2.2.2.2.2⟩))))
        · rw [if_neg cm]
          refine Eq.symm (congrArg (Option.map psi) (if_neg (fun z => cm ?_)))
          rcases z.2.2.2.1 with y | y
          · exact Or.inl y
          · obtain ⟨k, h1, h2, ek⟩ := hE _ hek
            refine Or.inr (fun q => ?_)
            rw [y, ek] at q
            have := (nI_ltI (a := k) (b := 4) (by omega) (by omega)).mp q
            omega
/- lines alike, kinds, words and marks alike: one step -/
set_option maxRecDepth 20000 in
theorem stA_pull {Kd R B G E F K T M eF eM : Nat → Int32} {hd Gn En i v l : Nat} {set mk : Int32} (hGo : mGo G) (hh : hd ≤ 1) (hGn : Gn ≤ 40) (hEn : En ≤ 10) (hv : v < 20) (hl : l < 440) (hi : i < 60)
    (hg : ∀ g : Nat, g < Gn → F g = G (5 * (40 * hd + g)) ∧ K g = G (5 * (40 * hd + g) + 1) ∧ T g = G (5 * (40 * hd + g) + 2) ∧ M g = G (5 * (40 * hd + g) + 4) ∧ ∃ k : Nat, k ≤ 3 ∧ M g = nI k) (he : ∀ e : Nat, e < En → eF e = E (3 * (10 * hd + e)) ∧ eM e = E (3 * (10 * hd + e) + 2) ∧ ∃ k : Nat, 4 ≤ k ∧ k ≤ 6 ∧ eM e = nI k)
    (hset : set = Kd (R i).toNatClampNeg) (hmk : mk = B i) (hB : B i = -1 ∨ 0 ≤ B i) : (pull (prb Kd R B G E hd Gn En)).st i v l = stpA Gn En F K T M eF eM set mk i v l := by
  show (if v < 20 then ((prb Kd R B G E hd Gn En).st i (phi v) l).map psi else none) = _
  rw [if_pos hv]
  by_cases c : l % 40 < Gn ∧ l / 40 ≤ En
  · have e1 : (prb Kd R B G E hd Gn En).st i (phi v) l = toO (stp Kd R B G E hd i (phi v) (l / 40) (l % 40)) := by
      show (if l % 40 < Gn ∧ l / 40 ≤ En then _ else none) = _
      rw [if_pos c]; rfl
    obtain ⟨⟨t, ht, et⟩, -⟩ := hGo (40 * hd + l % 40) (by omega)
    obtain ⟨g1, g2, g3, g4, g5⟩ := hg (l % 40) c.1
    rw [e1, stp_R9 ht et hB (by omega), stA_R9 hv hl c.1 hGn c.2 hEn ht (g3.trans et) g5 (fun e h => (he e h).2.2), g1, g2, g4, hset, hmk]
    by_cases c0 : l / 40 = 0
    · unfold stR9
      rw [if_pos c0, if_pos c0]; rfl
    · obtain ⟨a1, a2, _⟩ := he (l / 40 - 1) (by omega)
      rw [a1, a2]; rfl
  · rw [prb_no (by omega)]
    show none = stpA Gn En F K T M eF eM set mk i v l
    unfold stpA
    by_cases c1 : l % 40 < Gn
    · rw [if_pos c1, if_neg (show ¬ l < 40 by omega), if_neg (show ¬ l / 40 - 1 < En by omega)]
      repeat' split
      all_goals rfl
    · rw [if_neg c1]
set_option maxRecDepth 20000 in
theorem ceA_m {en : Nat} {eC : Nat → Int32} : ceA (nI en) eC (-1) = 0 := by
  unfold ceA bnd
  rw [if_pos (show (if (-1 : Int32) < 0 then (0 : Int32) else if nI en ≤ -1 then 0 else if (10 : Int32) ≤ -1 then 0 else 1) = 0 from if_pos (by decide))]
set_option maxRecDepth 20000 in
theorem ceA_n {en e : Nat} {eC : Nat → Int32} (he : e < en) (hen : en ≤ 10) : ceA (nI en) eC (nI e) = eC e := by
  unfold ceA
  rw [if_neg (bnd_10 he hen), nI_clamp (by omega)]
set_option maxRecDepth 20000 in
theorem csH_pull {Kd R B G E C eC : Nat → Int32} {hd Gn En : Nat} (hGo : mGo G) (hEo : mEn E) (hh : hd ≤ 1) (hGn : Gn ≤ 40) (hEn : En ≤ 10) (hg : ∀ g : Nat, g < Gn → C g = G (5 * (40 * hd + g) + 3)) (he : ∀ e : Nat, e < En → eC e = E (3 * (10 * hd + e) + 1)) : csH (pull (prb Kd R B G E hd Gn En)) Gn En eC C := by
  intro e g hle hlt
  have h1 := prb_cs (K := Kd) (R := R) (B := B) hGo hEo hh hGn hEn hlt hle
  refine ⟨?_, (prb_B (K := Kd) (R := R) (B := B) hGo hEo hh hGn hEn).1.1 _ (by omega)⟩
  show ceA (nI En) eC (evl e) + C g = nI ((prb Kd R B G E hd Gn En).cs (e * 40 + g))
  rw [← h1, hg g hlt]
  cases e with
  | zero =>
    show ceA (nI En) eC (-1) + G (5 * (40 * hd + g) + 3) = G (5 * (40 * hd + g) + 3) + 0
    rw [ceA_m]; exact Int32.add_comm _ _
  | succ e =>
    show ceA (nI En) eC (nI e) + G (5 * (40 * hd + g) + 3) = G (5 * (40 * hd + g) + 3) + E (3 * (10 * hd + e) + 1)
    rw [ceA_n (by omega) hEn, he e (by omega)]; exact Int32.add_comm _ _
set_option maxRecDepth 20000 in
theorem toH_pull {G T : Nat → Int32} {hd Gn : Nat} (hGo : mGo G) (hh : hd ≤ 1) (hGn : Gn ≤ 40) (hg : ∀ g : Nat, g < Gn → T g = G (5 * (40 * hd + g) + 2)) : toH Gn T := fun g hlt => by
  obtain ⟨⟨t, ht, et⟩, -⟩ := hGo (40 * hd + g) (by omega)
  exact ⟨t, ht, (hg g hlt).trans et⟩
set_option maxRecDepth 20000 in
theorem phi_odd : ∀ v : Nat, v < 20 → v % 2 = 1 → 10 ≤ phi v := by decide
set_option maxRecDepth 20000 in
theorem phi_two : ∀ t : Nat, t < 10 → phi (2 * t) = t := by decide
set_option maxRecDepth 20000 in
theorem tmH_pull {Kd R B G E eF eM eC : Nat → Int32} {hd Gn En : Nat} (hEo : mEn E) (hh : hd ≤ 1) (hEn : En ≤ 10) (he : ∀ e : Nat, e < En → eF e = E (3 * (10 * hd + e)) ∧ eC e = E (3 * (10 * hd + e) + 1)) : tmH (pull (prb Kd R B G E hd Gn En)) En eF eM eC := by
  refine ⟨fun v e hv h => ?_, fun t e ht hlt => ?_⟩
  · show (prb Kd R B G E hd Gn En).tm (phi v) e = none
    rcases h with h | h
    · exact prb_tmn (Or.inl (phi_odd v hv h))
    · exact prb_tmn (Or.inr (Or.inl h))
  · obtain ⟨h1, h2⟩ := he e hlt
    have e9 : ∀ x : Option Nat, (prb Kd R B G E hd Gn En).tm t e = x → (pull (prb Kd R B G E hd Gn En)).tm (2 * t) e = x := fun x hx => by
      show (prb Kd R B G E hd Gn En).tm (phi (2 * t)) e = x
      rw [phi_two t ht]; exact hx
    refine ⟨fun z => e9 _ (prb_tmn (Or.inr (Or.inr (fun y => (canE_iff hlt hEn).mpr ⟨h1.trans y, Or.inl rfl⟩ z)))), fun z => ?_⟩
    obtain ⟨c, hc, ec⟩ := hEo (10 * hd + e) (by omega)
    refine ⟨c, hc, by rw [ceA_n hlt hEn, h2]; exact ec, e9 _ (prb_tm ht hlt (h1.symm.trans ((canE_iff hlt hEn).mp z).1) ec hc)⟩
/-! the marks of the lines that a reading makes -/
def gsB (s : List L5 × List L3) : Prop := (∀ (i : Nat) (x : L5), s.1[i]? = some x → ∃ k : Nat, k ≤ 3 ∧ x.2.2.2.2 = nI k) ∧ ∀ (i : Nat) (x : L3), s.2[i]? = some x → ∃ k : Nat, 4 ≤ k ∧ k ≤ 6 ∧ x.2.2 = nI k
set_option maxRecDepth 20000 in
theorem mkV_3le (t : TkS) (i j : Nat) : mkV t i j ≤ 3 := by unfold mkV; (repeat' split) <;> omega
set_option maxRecDepth 20000 in
theorem moV_3 (t : TkS) (q : Nat × Int32) : moV t q ≤ 3 := by
  unfold moV
  split
  · omega
  · exact mkV_3le _ _ _
set_option maxRecDepth 20000 in
theorem leC_mk {f : Nat → Int32} {n : Nat} {q : Nat × Int32} (hn : n ≤ 1600) (h : (leC (tkO f n) q).2 = 0) : ¬ mkV (tkO f n) 9 (stW (tkO f n) 4 (leB (tkO f n) q)).1 = 0 := by
  intro z
  unfold leC stS at h
  have h1 := stX_z h
  unfold stM at h1
  rw [stX_iff (mkV_0.trans ⟨fun _ => rfl, fun _ => z⟩ : nI (mkV (tkO f n) 9 (stW (tkO f n) 4 (leB (tkO f n) q)).1) = 0 ↔ (0 : Int32) = 0)] at h1
  exact stX0_ne hn h1
set_option maxRecDepth 20000 in
theorem leL_mk (t : TkS) (q : Nat × Int32) : (leL t q).2.2 = nI (mkV t 9 (stW t 4 (leB t q)).1 + 3) := rfl
set_option maxRecDepth 20000 in
theorem lgL_mk (t : TkS) (q : Nat × Int32) : (lgL t q).2.2.2.2 = nI (moV t (lgD t q)) := rfl
set_option maxRecDepth 20000 in
theorem gsB_g {l : List L5} {e : List L3} {y : L5} (h : gsB (l, e)) (hy : ∃ k : Nat, k ≤ 3 ∧ y.2.2.2.2 = nI k) : gsB (l ++ [y], e) := by
  refine ⟨fun i x hx => ?_, h.2⟩
  rcases app_at hx with ⟨_, q⟩ | ⟨_, q⟩
  · exact h.1 i x q
  · rw [q]; exact hy
set_option maxRecDepth 20000 in
theorem gsB_e {l : List L5} {e : List L3} {y : L3} (h : gsB (l, e)) (hy : ∃ k : Nat, 4 ≤ k ∧ k ≤ 6 ∧ y.2.2 = nI k) : gsB (l, e ++ [y]) := by
  refine ⟨h.1, fun i x hx => ?_⟩
  rcases app_at hx with ⟨_, q⟩ | ⟨_, q⟩
  · exact h.2 i x q
  · rw [q]; exact hy
set_option maxRecDepth 20000 in
theorem gsB_L {t : TkS} {s : RdS} (hne : ∀ q : Nat × Int32, (leC t q).2 = 0 → ¬ mkV t 9 (stW t 4 (leB t q)).1 = 0) (h : gsB s.2) : gsB (rdL t s).2 := by
  obtain ⟨q, l, e⟩ := s
  have h0 : gsB (l, e) := h
  unfold rdL
  by_cases c1 : t.T q.1 0 = 0
  · rw [if_pos c1]
    by_cases c2 : t.T q.1 8 = 0
    · rw [if_pos c2]; exact h0
    · rw [if_neg c2]
      unfold rdE
      by_cases c3 : e.length = 10
      · rw [if_pos c3]; exact h0
      · rw [if_neg c3]
        show gsB (l, (if (leC t q).2 = 0 then e ++ [leL t q] else e))
        by_cases c4 : (leC t q).2 = 0
        · rw [if_pos c4]
          have h1 := hne q c4
          have h2 := mkV_3le t 9 (stW t 4 (leB t q)).1
          have h3 := leL_mk t q
          generalize mkV t 9 (stW t 4 (leB t q)).1 = k at h1 h2 h3
          exact gsB_e h0 ⟨k + 3, by omega, by omega, h3⟩
        · rw [if_neg c4]; exact h0
  · rw [if_neg c1]
    unfold rdG
    by_cases c3 : l.length = 40
    · rw [if_pos c3]; exact h0
    · rw [if_neg c3]
      show gsB ((if (lgE t q).2 = 0 then l ++ [lgL t q] else l), e)
      by_cases c4 : (lgE t q).2 = 0
      · rw [if_pos c4]; exact gsB_g h0 ⟨_, moV_3 _ _, lgL_mk t q⟩
      · rw [if_neg c4]; exact h0
set_option maxRecDepth 20000 in
theorem gsB_R {t : TkS} (hne : ∀ q : Nat × Int32, (leC t q).2 = 0 → ¬ mkV t 9 (stW t 4 (leB t q)).1 = 0) : ∀ (k : Nat) (s : RdS), gsB s.2 → gsB (rdR t k s).2
  | 0, s, h => h
  | k + 1, s, h => by
    unfold rdR
    by_cases c1 : s.1.2 = 0
    · rw [if_pos c1]
      by_cases c2 : t.S s.1.1 = 0
      · rw [if_pos c2]; exact h
      · rw [if_neg c2]; exact gsB_R hne k _ (gsB_L hne h)
    · rw [if_neg c1]; exact h
set_option maxRecDepth 20000 in
theorem gsB_all {f : Nat → Int32} {n : Nat} (hn : n ≤ 1600) : gsB (rdAll (tkO f n)).2 := gsB_R (fun q h => leC_mk hn h) 1600 _ ⟨fun i x h => by simp at h, fun i x h => by simp at h⟩
/-! what both sides hold alike between calls, and the class's problem -/
def pbl (Kd R B G E : Nat → Int32) (hd : Nat) (s : List L5 × List L3) : PbW := pull (prb Kd R B G E hd s.1.length s.2.length)
section
variable {s : List L5 × List L3} {g n hd : Nat} {a b c d e ea eb ec go gl en el : Nat → Int32}
set_option maxRecDepth 20000 in
theorem ln_go (h1 : lnK s g n a b c d e ea eb ec) (h2 : mnK s hd go gl en el) (h3 : gsB s) : ∀ j : Nat, j < s.1.length → a j = gl (5 * (40 * hd + j)) ∧ b j = gl (5 * (40 * hd + j) + 1) ∧ c j = gl (5 * (40 * hd + j) + 2) ∧ d j = gl (5 * (40 * hd + j) + 3) ∧ e j = gl (5 * (40 * hd + j) + 4) ∧ ∃ k : Nat, k ≤ 3 ∧ e j = nI k := by
  intro j hj
  have hx := List.getElem?_eq_getElem hj
  obtain ⟨p1, p2, p3, p4, p5⟩ := h1.1.2.2 j _ hx
  obtain ⟨q1, q2, q3, q4, q5⟩ := h2.1.2.2 j _ hx
  obtain ⟨k, hk, ek⟩ := h3.1 j _ hx
  exact ⟨p1.trans q1.symm, p2.trans q2.symm, p3.trans q3.symm, p4.trans q4.symm, p5.trans q5.symm, k, hk, p5.trans ek⟩
set_option maxRecDepth 20000 in
theorem ln_en (h1 : lnK s g n a b c d e ea eb ec) (h2 : mnK s hd go gl en el) (h3 : gsB s) : ∀ j : Nat, j < s.2.length → ea j = el (3 * (10 * hd + j)) ∧ eb j = el (3 * (10 * hd + j) + 1) ∧ ec j = el (3 * (10 * hd + j) + 2) ∧ ∃ k : Nat, 4 ≤ k ∧ k ≤ 6 ∧ ec j = nI k := by
  intro j hj
  have hx := List.getElem?_eq_getElem hj
  obtain ⟨p1, p2, p3⟩ := h1.2.2.2 j _ hx
  obtain ⟨q1, q2, q3⟩ := h2.2.2.2 j _ hx
  obtain ⟨k, hk, hk2, ek⟩ := h3.2 j _ hx
  exact ⟨p1.trans q1.symm, p2.trans q2.symm, p3.trans q3.symm, k, hk, hk2, p3.trans ek⟩
end
def kdq (f g : Nat → Int32) : Prop := ∀ w : Nat, 1 ≤ w → w ≤ 99 → f w = g w
def rwq (f g : Nat → Int32) (n : Nat) : Prop := ∀ i : Nat, i < n → f i = g i ∧ ∃ w : Nat, 1 ≤ w ∧ w ≤ 99 ∧ f i = nI w
set_option maxRecDepth 20000 in
theorem isW_nI {w : Nat} (h1 : 1 ≤ w) (h2 : w ≤ 99) : ¬ isW (nI w) = 0 := by
  unfold isW
  rw [if_neg (show ¬ nI w < (1 : Int32) from nI_nlt (a := w) (b := 1) h1 (by omega)), if_neg (show ¬ (99 : Int32) < nI w from nI_nlt (a := 99) (b := w) h2 (by omega))]
  decide
set_option maxRecDepth 20000 in
theorem sOf_eq {fk mk fr mr : Nat → Int32} {n i : Nat} (hk : kdq fk mk) (hr : rwq fr mr n) (hi : i < n) : sOf fk fr i = mk (mr i).toNatClampNeg := by
  obtain ⟨e1, w, h1, h2, e2⟩ := hr i hi
  rw [sOf_1 (by rw [e2]; exact isW_nI h1 h2), ← e1, e2, nI_clamp (by omega)]
  exact hk w h1 h2
section
variable {s : List L5 × List L3} {m hd : Nat} {a b c d e ea eb ec go gl en el fk mk fr mr fm mb : Nat → Int32}
set_option maxRecDepth 20000 in
theorem pbl_st (hG : mGo gl) (hh : hd ≤ 1) (hm : m ≤ 60) (h1 : lnK s s.1.length s.2.length a b c d e ea eb ec) (h2 : mnK s hd go gl en el) (h3 : gsB s) (hk : kdq fk mk) (hr : rwq fr mr m) (hq : mkq fm mb m) : ∀ i v l : Nat, i < m → v < 20 → l < 440 → (pbl mk mr mb gl el hd s).st i v l = stpA s.1.length s.2.length a b c e ea ec (sOf fk fr i) (fm i) i v l := by
  intro i v l hi hv hl
  obtain ⟨q1, q2⟩ := hq i hi
  exact stA_pull hG hh h1.1.2.1 h1.2.2.1 hv hl (by omega) (fun g hg => by
    obtain ⟨p1, p2, p3, p4, p5, p6⟩ := ln_go h1 h2 h3 g hg
    exact ⟨p1, p2, p3, p5, p6⟩) (fun j hj => by
    obtain ⟨p1, p2, p3, p4⟩ := ln_en h1 h2 h3 j hj
    exact ⟨p1, p3, p4⟩) (sOf_eq hk hr hi) q1 q2
set_option maxRecDepth 20000 in
theorem pbl_cs (hG : mGo gl) (hE : mEn el) (hh : hd ≤ 1) (h1 : lnK s s.1.length s.2.length a b c d e ea eb ec) (h2 : mnK s hd go gl en el) (h3 : gsB s) : csH (pbl mk mr mb gl el hd s) s.1.length s.2.length eb d ∧ toH s.1.length c ∧ tmH (pbl mk mr mb gl el hd s) s.2.length ea ec eb ∧ pbB (pbl mk mr mb gl el hd s) ∧ pbT (pbl mk mr mb gl el hd s) ∧ simP (pbl mk mr mb gl el hd s) (prb mk mr mb gl el hd s.1.length s.2.length) := by
  have hb := prb_B (K := mk) (R := mr) (B := mb) hG hE hh h1.1.2.1 h1.2.2.1
  refine ⟨csH_pull hG hE hh h1.1.2.1 h1.2.2.1 (fun g hg => (ln_go h1 h2 h3 g hg).2.2.2.1) (fun j hj => (ln_en h1 h2 h3 j hj).2.1), toH_pull hG hh h1.1.2.1 (fun g hg => (ln_go h1 h2 h3 g hg).2.2.1), tmH_pull hE hh h1.2.2.1 (fun j hj => ⟨(ln_en h1 h2 h3 j hj).1, (ln_en h1 h2 h3 j hj).2.1⟩), (pull_B hb.1 hb.2).1, (pull_B hb.1 hb.2).2, pull_sim hb.1.2⟩
/- steps ahead of place j do not see what stands from j on -/
set_option maxRecDepth 20000 in
theorem pbl_cong {mk2 mr2 mb2 : Nat → Int32} {j : Nat} (hk : ∀ i : Nat, i < j → mk2 (mr2 i).toNatClampNeg = mk (mr i).toNatClampNeg) (hb : ∀ i : Nat, i < j → mb2 i = mb i) : ∀ i v l : Nat, i < j → (pbl mk mr mb gl el hd s).st i v l = (pbl mk2 mr2 mb2 gl el hd s).st i v l := by
  intro i v l hi
  have key : ∀ u e g : Nat, stp mk mr mb gl el hd i u e g = stp mk2 mr2 mb2 gl el hd i u e g := by
    intro u e g
    cases e with
    | zero =>
      show stp0 mk mr mb gl hd i u g = stp0 mk2 mr2 mb2 gl hd i u g
      unfold stp0
      rw [hk i hi, hb i hi]
    | succ e =>
      show stpE mk mr mb gl el hd i u e g = stpE mk2 mr2 mb2 gl el hd i u e g
      unfold stpE
      rw [hk i hi, hb i hi]
  show (if v < 20 then (if l % 40 < s.1.length ∧ l / 40 ≤ s.2.length then (if stp mk mr mb gl el hd i (phi v) (l / 40) (l % 40) < 0 then none else some (stp mk mr mb gl el hd i (phi v) (l / 40) (l % 40)).toNatClampNeg) else none).map psi else none) = (if v < 20 then (if l % 40 < s.1.length ∧ l / 40 ≤ s.2.length then (if stp mk2 mr2 mb2 gl el hd i (phi v) (l / 40) (l % 40) < 0 then none else some (stp mk2 mr2 mb2 gl el hd i (phi v) (l / 40) (l % 40)).toNatClampNeg) else none).map psi else none)
  rw [key]
end
/-! the chart between calls -/
def chI (Kd R B G E : Nat → Int32) (hd : Nat) (s : List L5 × List L3) (rd : Int32) (m : Nat) (fb fx fq fa fe fg : Nat → Int32) : Prop := ∃ iq : Nat, rd = nI iq ∧ iq ≤ m ∧ chQ (pbl Kd R B G E hd s) iq fb fx fq fa fe fg
set_option maxRecDepth 20000 in
theorem pbl_csE {mk mr mb mk2 mr2 mb2 gl el : Nat → Int32} {hd : Nat} {s : List L5 × List L3} : (pbl mk mr mb gl el hd s).cs = (pbl mk2 mr2 mb2 gl el hd s).cs := by
  show (fun l : Nat => if l % 40 < s.1.length ∧ l / 40 ≤ s.2.length then (cst gl el hd (l / 40) (l % 40)).toNatClampNeg else 0) = (fun l : Nat => if l % 40 < s.1.length ∧ l / 40 ≤ s.2.length then (cst gl el hd (l / 40) (l % 40)).toNatClampNeg else 0)
  rfl
section
variable {mk mr mb mk2 mr2 mb2 gl el gl2 el2 : Nat → Int32} {hd hd2 : Nat} {s s2 : List L5 × List L3} {rd rd2 : Int32} {m m2 j : Nat} {fb fx fq fa fe fg : Nat → Int32}
set_option maxRecDepth 20000 in
theorem chI_keep (h : chI mk mr mb gl el hd s rd m fb fx fq fa fe fg) (hm : m ≤ 60) (hk : ∀ i : Nat, i < j → i < m → mk2 (mr2 i).toNatClampNeg = mk (mr i).toNatClampNeg) (hb : ∀ i : Nat, i < j → i < m → mb2 i = mb i) (hj : j ≤ m2) (hj2 : j < 2 ^ 31) (hr : rd2 = kpR (nI j) rd) : chI mk2 mr2 mb2 gl el hd s rd2 m2 fb fx fq fa fe fg := by
  obtain ⟨iq, e1, h1, h2⟩ := h
  refine ⟨min j iq, by rw [hr, e1]; exact kpR_n hj2 (by omega), by omega, ?_⟩
  exact chQ_cong (chQ_le h2 (Nat.min_le_right _ _)) pbl_csE (pbl_cong (j := min j iq) (fun i hi => hk i (by omega) (by omega)) (fun i hi => hb i (by omega) (by omega)))
set_option maxRecDepth 20000 in
theorem chI_more (h : chI mk mr mb gl el hd s rd m fb fx fq fa fe fg) (hk : ∀ i : Nat, i < m → mk2 (mr2 i).toNatClampNeg = mk (mr i).toNatClampNeg) (hb : ∀ i : Nat, i < m → mb2 i = mb i) (hm : m ≤ m2) : chI mk2 mr2 mb2 gl el hd s rd m2 fb fx fq fa fe fg := by
  obtain ⟨iq, e1, h1, h2⟩ := h
  exact ⟨iq, e1, by omega, chQ_cong h2 pbl_csE (pbl_cong (j := iq) (fun i hi => hk i (by omega)) (fun i hi => hb i (by omega)))⟩
set_option maxRecDepth 20000 in
theorem chQ_z {p q : PbW} (h : chQ p 0 fb fx fq fa fe fg) : chQ q 0 fb fx fq fa fe fg := by
  obtain ⟨K, r, h1⟩ := h
  refine ⟨K, r, fun i hi => ?_⟩
  have e : i = 0 := by omega
  subst e
  exact ⟨(h1 0 (Nat.le_refl _)).1, fun z => absurd z (Nat.not_lt_zero _)⟩
/- new lines: nothing of the chart is kept but its start -/
set_option maxRecDepth 20000 in
theorem chI_new (h : chI mk mr mb gl el hd s rd m fb fx fq fa fe fg) (hm : m ≤ 60) (hr : rd2 = kpR 0 rd) : chI mk mr mb gl2 el2 hd2 s2 rd2 m fb fx fq fa fe fg := by
  obtain ⟨iq, e1, h1, h2⟩ := h
  refine ⟨0, ?_, Nat.zero_le _, chQ_z (chQ_le h2 (Nat.zero_le _))⟩
  rw [hr, e1]
  have := kpR_n (a := 0) (b := iq) (by decide) (by omega)
  rw [Nat.zero_min] at this
  exact this
set_option maxRecDepth 20000 in
theorem chQ_init {p : PbW} (h0 : fb 0 = 0) (h1 : ∀ v : Nat, 0 < v → v < 20 → fb v = 1000000000) (h2 : ∀ v : Nat, v < 20 → fx v = 1000000000) (h3 : fq 0 = 0) : chQ p 0 fb fx fq fa fe fg := by
  have hFN : FN = 1000000000 := rfl
  refine ⟨fun _ _ => 0, fun _ _ => 0, fun i hi => ?_⟩
  have e : i = 0 := by omega
  subst e
  refine ⟨⟨fun v hv => ?_, fun v w c d hv hw hc hd => by omega⟩, fun z => absurd z (Nat.not_lt_zero _)⟩
  rw [show 20 * 0 + v = v by omega]
  by_cases c : v = 0
  · subst c
    refine ⟨0, FN, h0, h2 0 (by omega), Or.inr ⟨by omega, ⟨rfl, rfl, rfl⟩, fun s j h => Or.inr ⟨h.2.1.symm, Nat.zero_le _⟩, Or.inl ⟨rfl, fun s j h => h.2.2⟩⟩, fun _ => ⟨h3, by omega⟩⟩
  · exact ⟨FN, FN, h1 v (by omega) hv, h2 v hv, Or.inl ⟨rfl, rfl, fun s j h => c h.1⟩, fun z => by omega⟩
set_option maxRecDepth 20000 in
theorem chI_sol {lc sc ln le : Int32} (h : SOL (pbl mk mr mb gl el hd s) m fb fx fq fa fe fg lc sc ln le) : chI mk mr mb gl el hd s (nI m) m fb fx fq fa fe fg := by
  obtain ⟨K, r, h1, _⟩ := h
  exact ⟨m, rfl, Nat.le_refl _, K, r, h1⟩
end
/-! kinds and words of both sides -/
set_option maxRecDepth 20000 in
theorem kd_up {f g : Nat → Int32} {w st : Int32} (h : kdq f g) : kdq (if rKinds w st = 0 then f else upd f w.toNatClampNeg st) (if rKinds w st = 0 then g else upd g w.toNatClampNeg st) := by
  by_cases c : rKinds w st = 0
  · rw [if_pos c, if_pos c]; exact h
  · rw [if_neg c, if_neg c]
    intro j h1 h2
    by_cases e : j = w.toNatClampNeg
    · rw [e, pk_us, pk_us]
    · rw [pk_un e, pk_un e]; exact h j h1 h2
set_option maxRecDepth 20000 in
theorem rK_w {w st : Int32} (h : ¬ rKinds w st = 0) : ∃ k : Nat, 1 ≤ k ∧ k ≤ 99 ∧ w = nI k := by
  have h1 : ¬ isW w = 0 := fun z => h (by unfold rKinds; rw [if_pos z])
  unfold isW at h1
  by_cases c1 : w < 1
  · rw [if_pos c1] at h1; exact absurd rfl h1
  · rw [if_neg c1] at h1
    by_cases c2 : 99 < w
    · rw [if_pos c2] at h1; exact absurd rfl h1
    · have h0 : ¬ w < 0 := fun z => c1 (Int32.lt_trans z (by decide))
      obtain ⟨k, hk, rfl⟩ := nI_of h0
      refine ⟨k, ?_, ?_, rfl⟩
      · rcases Nat.eq_zero_or_pos k with q | q
        · rw [q] at c1; exact absurd (by decide) c1
        · exact q
      · rcases Nat.lt_or_ge 99 k with q | q
        · exact absurd (nI_lt (a := 99) (b := k) q hk) c2
        · exact q
/- a word's new kinds are not seen ahead of its first place -/
set_option maxRecDepth 20000 in
theorem kd_keep {f g fr mr : Nat → Int32} {w st : Int32} {n : Nat} (hr : rwq fr mr n) : ∀ i : Nat, i < fpl fr w n 0 → i < n → (if rKinds w st = 0 then g else upd g w.toNatClampNeg st) (mr i).toNatClampNeg = g (mr i).toNatClampNeg := by
  intro i hi hin
  by_cases c : rKinds w st = 0
  · rw [if_pos c]
  · rw [if_neg c]
    refine pk_un (fun z => ?_)
    obtain ⟨k, h1, h2, rfl⟩ := rK_w c
    obtain ⟨e1, k2, h3, h4, e2⟩ := hr i hin
    rw [← e1, e2, nI_clamp (by omega), nI_clamp (by omega)] at z
    exact fpl_ne (f := fr) (w := nI k) n 0 i (Nat.zero_le _) hi (by rw [e2, z])
/-! the law's cases: what each call keeps, and why both answers are one -/
section
variable {s : List L5 × List L3} {m hd g n : Nat} {a b c d e ea eb ec go gl en el fk mk fr mr fm mb : Nat → Int32}
set_option maxRecDepth 20000 in
theorem pbl_all (hG : mGo gl) (hE : mEn el) (hh : hd ≤ 1) (hm : m ≤ 60) (h1 : lnK s g n a b c d e ea eb ec) (h2 : mnK s hd go gl en el) (h3 : gsB s) (hk : kdq fk mk) (hr : rwq fr mr m) (hq : mkq fm mb m) : (g ≤ 40 ∧ n ≤ 10) ∧ (∀ i v l : Nat, i < m → v < 20 → l < 440 → (pbl mk mr mb gl el hd s).st i v l = stpA g n a b c e ea ec (sOf fk fr i) (fm i) i v l) ∧ (csH (pbl mk mr mb gl el hd s) g n eb d ∧ toH g c ∧ tmH (pbl mk mr mb gl el hd s) n ea ec eb ∧ pbB (pbl mk mr mb gl el hd s) ∧ pbT (pbl mk mr mb gl el hd s) ∧ simP (pbl mk mr mb gl el hd s) (prb mk mr mb gl el hd g n)) ∧ go hd = nI g ∧ en hd = nI n := by
  have e1 := h1.1.1
  have e2 := h1.2.1
  subst e1 e2
  exact ⟨⟨h1.1.2.1, h1.2.2.1⟩, pbl_st hG hh hm h1 h2 h3 hk hr hq, pbl_cs hG hE hh h1 h2 h3, h2.1.1, h2.2.1⟩
end
set_option maxRecDepth 20000 in
theorem gp_gOK {p : PbW} {m T i n : Nat} {L eA gA nB : Nat → Int32} (h : gp p m T i n L eA gA nB) : ∀ j : Nat, j < i → gOK gA eA j := by
  obtain ⟨kf, vf, b, x, κ, h1, h2, h3, h4, h5⟩ := h
  intro j hj
  obtain ⟨l, a1, a2, a3, a4⟩ := h4 j hj
  exact ⟨⟨l % 40, by omega, a3⟩, ⟨l / 40, by omega, a2⟩⟩
/- only one node is an end, at no cost -/
def tgT (t v e : Nat) : Option Nat := if v = t ∧ e = 0 then some 0 else none
set_option maxRecDepth 20000 in
theorem tg_T {p : PbW} {t : Nat} : pbT (wTm p (tgT t)) := by
  intro v e c h
  have h2 : (if v = t ∧ e = 0 then some 0 else none) = some c := h
  by_cases q : v = t ∧ e = 0
  · rw [if_pos q] at h2
    have := Option.some.inj h2
    omega
  · rw [if_neg q] at h2; cases h2
set_option maxRecDepth 20000 in
theorem tg_0 {p : PbW} {t m : Nat} {L S : Nat → Int32} : okM (wTm p (tgT t)) (m - m) m t (upd L (20 * m + t) 0) (upd S (20 * m + t) 1000000) := by
  have hRF : RF = 1000000 := rfl
  have key : ∀ s j : Nat, Cmp (wTm p (tgT t)) 0 m t s j → s = 0 ∧ j = 0 := by
    intro s j h
    have h2 : (if t = t ∧ j = 0 then some 0 else none) = some s := h.2
    by_cases q : j = 0
    · rw [if_pos ⟨rfl, q⟩] at h2
      exact ⟨(Option.some.inj h2).symm, q⟩
    · rw [if_neg (fun z => q z.2)] at h2; cases h2
  refine ⟨0, RF, 0, pk_us, pk_us, ?_⟩
  rw [Nat.sub_self]
  refine Or.inr ⟨by omega, ⟨by omega, ?_⟩, fun s j h => ?_, Or.inl ⟨rfl, fun s j h => (key s j h).2⟩⟩
  · show (if t = t ∧ 0 = 0 then some 0 else none) = some 0
    rw [if_pos ⟨rfl, rfl⟩]
  · obtain ⟨q1, q2⟩ := key s j h
    omega
set_option maxRecDepth 20000 in
theorem tg_1 {p : PbW} {t m v : Nat} {L S : Nat → Int32} (hv : v ≠ t) : okM (wTm p (tgT t)) (m - m) m v (upd L (20 * m + v) 1000000) (upd S (20 * m + v) 1000000) := by
  refine ⟨RF, RF, 0, pk_us, pk_us, ?_⟩
  rw [Nat.sub_self]
  refine Or.inl ⟨rfl, rfl, fun s j h => ?_⟩
  have h2 : (if v = t ∧ j = 0 then some 0 else none) = some s := h.2
  rw [if_neg (fun z => hv z.1)] at h2; cases h2
section
variable {mk mr mb gl el gl2 el2 go en go2 en2 : Nat → Int32} {hd hd2 : Nat} {s : List L5 × List L3} {rd : Int32} {m : Nat} {fb fx fq fa fe fg : Nat → Int32}
set_option maxRecDepth 20000 in
theorem chI_kinds {fr : Nat → Int32} {w st : Int32} (h : chI mk mr mb gl el hd s rd m fb fx fq fa fe fg) (hm : m ≤ 60) (hr : rwq fr mr m) : chI (if rKinds w st = 0 then mk else upd mk w.toNatClampNeg st) mr mb gl el hd s (if rKinds w st = 0 then rd else kpR (nI (fpl fr w m 0)) rd) m fb fx fq fa fe fg := by
  by_cases c : rKinds w st = 0
  · rw [if_pos c, if_pos c]; exact h
  · have q := kd_keep (f := mk) (g := mk) (st := st) (w := w) hr
    rw [if_neg c] at q
    have hl := fpl_le (f := fr) (w := w) m 0
    rw [if_neg c, if_neg c]
    exact chI_keep (j := fpl fr w m 0) h hm q (fun _ _ _ => rfl) (by omega) (by omega) rfl
set_option maxRecDepth 20000 in
theorem mw_ge (w : Int32) (n : Nat) : n ≤ mwN w n := by unfold mwN; (repeat' split) <;> omega
set_option maxRecDepth 20000 in
theorem mw_eq {w : Int32} {n : Nat} (hn : n ≤ 60) (c : mwR w n = -1) : mwN w n = n := by
  unfold mwN
  unfold mwR at c
  by_cases c1 : isW w = 0
  · rw [if_pos c1]
  · rw [if_neg c1] at c ⊢
    by_cases c2 : nI n = 60
    · rw [if_pos c2]
    · rw [if_neg c2] at c; exact (ne_m1 hn c).elim
set_option maxRecDepth 20000 in
theorem chI_word {w : Int32} (h : chI mk mr mb gl el hd s rd m fb fx fq fa fe fg) (hm : m ≤ 60) : chI mk (if mwR w m = -1 then mr else upd mr (nI m).toNatClampNeg w) (if mwR w m = -1 then mb else upd mb (nI m).toNatClampNeg (-1)) gl el hd s rd (mwN w m) fb fx fq fa fe fg := by
  by_cases c : mwR w m = -1
  · rw [if_pos c, if_pos c, mw_eq hm c]; exact h
  · rw [if_neg c, if_neg c, nI_clamp (by omega)]
    exact chI_more h (fun i hi => by rw [pk_un (by omega)]) (fun i hi => pk_un (by omega)) (mw_ge w m)
set_option maxRecDepth 20000 in
theorem isW_k {w : Int32} (h : ¬ isW w = 0) : ∃ k : Nat, 1 ≤ k ∧ k ≤ 99 ∧ w = nI k := by
  have q : ¬ rKinds w 1 = 0 := by
    unfold rKinds
    rw [if_neg h]
    decide
  exact rK_w q
set_option maxRecDepth 20000 in
theorem wd_rw {f g : Nat → Int32} {n : Nat} {w : Int32} (h : rwq f g n) (hn : n ≤ 60) : rwq (if wdR w (nI n) = -1 then f else upd f (nI n).toNatClampNeg w) (if mwR w n = -1 then g else upd g (nI n).toNatClampNeg w) (mwN w n) := by
  rw [(wd_eq hn).1]
  by_cases c : mwR w n = -1
  · rw [if_pos c, if_pos c, mw_eq hn c]; exact h
  · rw [if_neg c, if_neg c, nI_clamp (by omega)]
    have c1 : ¬ isW w = 0 := fun z => c (by unfold mwR; rw [if_pos z])
    have e : mwN w n ≤ n + 1 := by
      unfold mwN
      (repeat' split) <;> omega
    intro i hi
    rcases Nat.lt_or_ge i n with q | q
    · rw [pk_un (by omega), pk_un (by omega)]; exact h i q
    · rw [show i = n by omega, pk_us, pk_us]
      obtain ⟨k, h1, h2, h3⟩ := isW_k c1
      exact ⟨rfl, k, h1, h2, h3⟩
set_option maxRecDepth 20000 in
theorem rwq_le {f g : Nat → Int32} {n k : Nat} (h : rwq f g n) (hk : k ≤ n) : rwq f g k := fun i hi => h i (by omega)
set_option maxRecDepth 20000 in
theorem chI_drop (h : chI mk mr mb gl el hd s rd m fb fx fq fa fe fg) (hm : m ≤ 60) : chI mk mr mb gl el hd s (if 0 < nI m then kpR (nI m - 1) rd else rd) (mdN m) fb fx fq fa fe fg := by
  rcases Nat.eq_zero_or_pos m with q | q
  · subst q; exact h
  · have c1 : 0 < nI m := nI_lt (a := 0) (b := m) q (by omega)
    have c2 : ¬ nI m = 0 := nI_ne0 q (by omega)
    rw [if_pos c1, subn q]
    unfold mdN
    rw [if_neg c2]
    exact chI_keep (j := m - 1) h hm (fun _ _ _ => rfl) (fun _ _ _ => rfl) (by omega) (by omega) rfl
set_option maxRecDepth 20000 in
theorem chI_hand {i k : Int32} (h : chI mk mr mb gl el hd s rd m fb fx fq fa fe fg) (hm : m ≤ 60) : chI mk mr (if mhR i k m = 0 then mb else upd mb i.toNatClampNeg k) gl el hd s (if haR i k (nI m) = 0 then rd else kpR i rd) m fb fx fq fa fe fg := by
  rw [ha_eq hm]
  by_cases c : mhR i k m = 0
  · rw [if_pos c, if_pos c]; exact h
  · rw [if_neg c, if_neg c]
    have h0 : ¬ i < 0 := fun z => c (by unfold mhR; rw [if_pos z])
    have h1 : ¬ nI m ≤ i := fun z => c (by unfold mhR; rw [if_neg h0, if_pos z])
    obtain ⟨j, hj, rfl⟩ := arg_in h0 h1
    rw [nI_clamp (by omega)]
    exact chI_keep (j := j) h hm (fun _ _ _ => rfl) (fun a h2 _ => pk_un (by omega)) (by omega) (by omega) rfl
set_option maxRecDepth 20000 in
theorem ln_same (h1 : mnK s hd go gl en el) (h2 : mnK s hd2 go2 gl2 en2 el2) : (∀ j : Nat, j < s.1.length → gl (5 * (40 * hd + j) + 0) = gl2 (5 * (40 * hd2 + j) + 0) ∧ gl (5 * (40 * hd + j) + 1) = gl2 (5 * (40 * hd2 + j) + 1) ∧ gl (5 * (40 * hd + j) + 2) = gl2 (5 * (40 * hd2 + j) + 2) ∧ gl (5 * (40 * hd + j) + 3) = gl2 (5 * (40 * hd2 + j) + 3) ∧ gl (5 * (40 * hd + j) + 4) = gl2 (5 * (40 * hd2 + j) + 4)) ∧ ∀ j : Nat, j < s.2.length → el (3 * (10 * hd + j) + 0) = el2 (3 * (10 * hd2 + j) + 0) ∧ el (3 * (10 * hd + j) + 1) = el2 (3 * (10 * hd2 + j) + 1) ∧ el (3 * (10 * hd + j) + 2) = el2 (3 * (10 * hd2 + j) + 2) := by
  constructor
  · intro j hj
    have hx := List.getElem?_eq_getElem hj
    obtain ⟨p1, p2, p3, p4, p5⟩ := h1.1.2.2 j _ hx
    obtain ⟨q1, q2, q3, q4, q5⟩ := h2.1.2.2 j _ hx
    exact ⟨p1.trans q1.symm, p2.trans q2.symm, p3.trans q3.symm, p4.trans q4.symm, p5.trans q5.symm⟩
  · intro j hj
    have hx := List.getElem?_eq_getElem hj
    obtain ⟨p1, p2, p3⟩ := h1.2.2.2 j _ hx
    obtain ⟨q1, q2, q3⟩ := h2.2.2.2 j _ hx
    exact ⟨p1.trans q1.symm, p2.trans q2.symm, p3.trans q3.symm⟩
/- the lines moved to the other half, or new lines were thrown away: the same problem -/
set_option maxRecDepth 20000 in
theorem chI_lines (h : chI mk mr mb gl el hd s rd m fb fx fq fa fe fg) (h1 : mnK s hd go gl en el) (h2 : mnK s hd2 go2 gl2 en2 el2) : chI mk mr mb gl2 el2 hd2 s rd m fb fx fq fa fe fg := by
  obtain ⟨iq, e1, h3, h4⟩ := h
  obtain ⟨hg, he⟩ := ln_same h1 h2
  refine ⟨iq, e1, h3, chQ_cong h4 ?_ ?_⟩
  · show (fun l : Nat => if l % 40 < s.1.length ∧ l / 40 ≤ s.2.length then (cst gl el hd (l / 40) (l % 40)).toNatClampNeg else 0) = (fun l : Nat => if l % 40 < s.1.length ∧ l / 40 ≤ s.2.length then (cst gl2 el2 hd2 (l / 40) (l % 40)).toNatClampNeg else 0)
    funext l
    by_cases c : l % 40 < s.1.length ∧ l / 40 ≤ s.2.length
    · rw [if_pos c, if_pos c]
      obtain ⟨_, _, _, q3, _⟩ := hg (l % 40) c.1
      have key : cst gl el hd (l / 40) (l % 40) = cst gl2 el2 hd2 (l / 40) (l % 40) := by
        rcases hl : l / 40 with _ | f
        · show gl (5 * (40 * hd + l % 40) + 3) + 0 = gl2 (5 * (40 * hd2 + l % 40) + 3) + 0
          rw [q3]
        · show gl (5 * (40 * hd + l % 40) + 3) + el (3 * (10 * hd + f) + 1) = gl2 (5 * (40 * hd2 + l % 40) + 3) + el2 (3 * (10 * hd2 + f) + 1)
          rw [q3, (he f (by omega)).2.1]
      rw [key]
    · rw [if_neg c, if_neg c]
  · intro i v l hi
    show (if v < 20 then (if l % 40 < s.1.length ∧ l / 40 ≤ s.2.length then (if stp mk mr mb gl el hd i (phi v) (l / 40) (l % 40) < 0 then none else some (stp mk mr mb gl el hd i (phi v) (l / 40) (l % 40)).toNatClampNeg) else none).map psi else none) = (if v < 20 then (if l % 40 < s.1.length ∧ l / 40 ≤ s.2.length then (if stp mk mr mb gl2 el2 hd2 i (phi v) (l / 40) (l % 40) < 0 then none else some (stp mk mr mb gl2 el2 hd2 i (phi v) (l / 40) (l % 40)).toNatClampNeg) else none).map psi else none)
    by_cases c : l % 40 < s.1.length ∧ l / 40 ≤ s.2.length
    · obtain ⟨q0, q1, q2, _, q4⟩ := hg (l % 40) c.1
      have key : stp mk mr mb gl el hd i (phi v) (l / 40) (l % 40) = stp mk mr mb gl2 el2 hd2 i (phi v) (l / 40) (l % 40) := by
        rcases hl : l / 40 with _ | f
        · show stp0 mk mr mb gl hd i (phi v) (l % 40) = stp0 mk mr mb gl2 hd2 i (phi v) (l % 40)
          unfold stp0
          rw [q0, q1, q2, q4]
        · obtain ⟨r0, _, r2⟩ := he f (by omega)
          show stpE mk mr mb gl el hd i (phi v) f (l % 40) = stpE mk mr mb gl2 el2 hd2 i (phi v) f (l % 40)
          unfold stpE
          rw [q0, q1, q2, q4, r0, r2]
      rw [key]
    · rw [if_neg c, if_neg c]
end
set_option maxRecDepth 20000 in
theorem gr_ln4 {R R2 : RdS} {gc nc gc2 nc2 rd rd2 : Int32} {a b c d e ea eb ec a2 b2 c2 d2 e2 ea2 eb2 ec2 go gl en el go2 gl2 en2 el2 mk mr mb fb fx fq fa fe fg : Nat → Int32} {hd hd2 m : Nat} (h : ∃ s9 : List L5 × List L3, lnC s9 gc nc a b c d e ea eb ec ∧ mnK s9 hd go gl en el ∧ gsB s9 ∧ chI mk mr mb gl el hd s9 rd m fb fx fq fa fe fg) (hm : m ≤ 60) (hR : R = R2) (hB : gsB R.2) (h1 : grD R gc nc gc2 nc2 a b c d e ea eb ec a2 b2 c2 d2 e2 ea2 eb2 ec2) (h2 : mgD R2 hd hd2 go gl en el go2 gl2 en2 el2) (hr : rd2 = if R.1.2 = 0 then kpR 0 rd else rd) : ∃ s9 : List L5 × List L3, lnC s9 gc2 nc2 a2 b2 c2 d2 e2 ea2 eb2 ec2 ∧ mnK s9 hd2 go2 gl2 en2 el2 ∧ gsB s9 ∧ chI mk mr mb gl2 el2 hd2 s9 rd2 m fb fx fq fa fe fg := by
  subst hR
  obtain ⟨s9, h5, h6, h7, h8⟩ := h
  rcases h1 with ⟨z, h3⟩ | ⟨z, e1, e2, e3, e4, e5, e6, e7, e8, e9, e10⟩
  · rcases h2 with ⟨_, h4⟩ | ⟨z2, _⟩
    · rw [if_pos z] at hr
      exact ⟨R.2, h3, h4, hB, chI_new h8 hm hr⟩
    · exact absurd z z2
  · rcases h2 with ⟨z2, _⟩ | ⟨_, h4⟩
    · exact absurd z2 z
    · rw [if_neg z] at hr
      subst e1 e2 e3 e4 e5 e6 e7 e8 e9 e10 hr
      exact ⟨s9, h5, h4 s9 h6, h7, chI_lines h8 h6 (h4 s9 h6)⟩
section
variable {p q : PbW} {m b9 x9 T9 : Nat} {fb fx fq fa fe fg : Nat → Int32} {lc sc ln le r1 r2 : Int32}
set_option maxRecDepth 20000 in
theorem sol_no (hs : simP p q) (hp : pbB p) (ht : pbT p) (hm : m ≤ 60) (hS : SOL p m fb fx fq fa fe fg lc sc ln le) (h : m = 0 ∨ ∃ x9 k9 : Nat, MF RF (Cmp q m 0 0) RF x9 k9) : rcb lc = 0 ∧ rcb sc = 0 := by
  obtain ⟨K, r, _, hF⟩ := hS
  rcases hF with ⟨h0, e1, e2⟩ | ⟨h0, lnq, T, e3, hFP⟩
  · rw [e1, e2]; exact ⟨by decide, by decide⟩
  · rcases h with z | ⟨x8, k8, z⟩
    · omega
    · have b := both hs hp ht hm hFP z
      have hx : x8 = RF := by
        rcases z with ⟨_, y, _⟩ | ⟨y, _⟩
        · exact y
        · omega
      exact ⟨b.1.mpr (by omega), b.2.2.1.mpr (by omega)⟩
set_option maxRecDepth 20000 in
theorem sol_yes (hs : simP p q) (hp : pbB p) (ht : pbT p) (hm : m ≤ 60) (hS : SOL p m fb fx fq fa fe fg lc sc ln le) (h0 : 0 < m) (g : MF RF (Cmp q m 0 0) b9 x9 T9) (hb : b9 < RF) : ¬ rcb lc = 0 ∧ lc = nI b9 ∧ le = nI (T9 % 16) ∧ (rcb sc = 0 ↔ ¬ x9 < RF) ∧ (x9 < RF → sc = nI x9) := by
  obtain ⟨K, r, _, hF⟩ := hS
  rcases hF with ⟨h1, _⟩ | ⟨_, lnq, T, e3, hFP⟩
  · omega
  · have b := both hs hp ht hm hFP g
    obtain ⟨a1, a2, _⟩ := b.2.1 hb
    exact ⟨fun z => (b.1.mp z) hb, a1, a2, b.2.2.1, b.2.2.2⟩
set_option maxRecDepth 20000 in
theorem eq_cost (hs : simP p q) (hp : pbB p) (ht : pbT p) (hm : m ≤ 60) (hS : SOL p m fb fx fq fa fe fg lc sc ln le) (h1 : r1 = if rcb lc = 0 then -1 else lc) (h2 : (r2 = -1 ∧ (m = 0 ∨ ∃ x9 k9 : Nat, MF RF (Cmp q m 0 0) RF x9 k9)) ∨ (0 < m ∧ ∃ T9 b9 x9 : Nat, MF RF (Cmp q m 0 0) b9 x9 T9 ∧ b9 < RF ∧ r2 = nI b9)) : r1 = r2 := by
  rcases h2 with ⟨e, h⟩ | ⟨h0, T8, b8, x8, g, hb, e⟩
  · rw [h1, e, if_pos (sol_no hs hp ht hm hS h).1]
  · obtain ⟨a1, a2, _⟩ := sol_yes hs hp ht hm hS h0 g hb
    rw [h1, e, if_neg a1, a2]
set_option maxRecDepth 20000 in
theorem eq_last (hs : simP p q) (hp : pbB p) (ht : pbT p) (hm : m ≤ 60) (hS : SOL p m fb fx fq fa fe fg lc sc ln le) (h1 : r1 = if rcb lc = 0 then -1 else le) (h2 : (r2 = -1 ∧ (m = 0 ∨ ∃ x9 k9 : Nat, MF RF (Cmp q m 0 0) RF x9 k9)) ∨ (0 < m ∧ ∃ T9 b9 x9 : Nat, MF RF (Cmp q m 0 0) b9 x9 T9 ∧ b9 < RF ∧ r2 = nI (T9 % 16))) : r1 = r2 := by
  rcases h2 with ⟨e, h⟩ | ⟨h0, T8, b8, x8, g, hb, e⟩
  · rw [h1, e, if_pos (sol_no hs hp ht hm hS h).1]
  · obtain ⟨a1, a2, a3, _⟩ := sol_yes hs hp ht hm hS h0 g hb
    rw [h1, e, if_neg a1, a3]
set_option maxRecDepth 20000 in
theorem eq_second (hs : simP p q) (hp : pbB p) (ht : pbT p) (hm : m ≤ 60) (hS : SOL p m fb fx fq fa fe fg lc sc ln le) (h1 : r1 = if rcb sc = 0 then -1 else sc) (h2 : (r2 = -1 ∧ (m = 0 ∨ ∃ x9 k9 : Nat, MF RF (Cmp q m 0 0) RF x9 k9)) ∨ (0 < m ∧ ∃ T9 b9 x9 : Nat, MF RF (Cmp q m 0 0) b9 x9 T9 ∧ b9 < RF ∧ (x9 < RF → r2 = nI x9) ∧ (¬ x9 < RF → r2 = -1))) : r1 = r2 := by
  rcases h2 with ⟨e, h⟩ | ⟨h0, T8, b8, x8, g, hb, e1, e2⟩
  · rw [h1, e, if_pos (sol_no hs hp ht hm hS h).2]
  · obtain ⟨a1, a2, a3, a4, a5⟩ := sol_yes hs hp ht hm hS h0 g hb
    by_cases c : x8 < RF
    · rw [h1, e1 c, if_neg (fun z => a4.mp z c), a5 c]
    · rw [h1, e2 c, if_pos (a4.mpr c)]
set_option maxRecDepth 20000 in
theorem eq_sent (hs : simP p q) (hp : pbB p) (ht : pbT p) (hm : m ≤ 60) (hS : SOL p m fb fx fq fa fe fg lc sc ln le) (h1 : (rcb lc = 0 ∧ r1 = -1) ∨ (¬ rcb lc = 0 ∧ ∃ (K8 : Nat → Nat → Nat) (ln8 T8 : Nat), FP p m (K8 m) 20 0 lc sc ln8 le T8 ∧ r1 = nI (1 + dgq9 m (K8 m ln8)))) (h2 : (r2 = -1 ∧ (m = 0 ∨ ∃ x9 k9 : Nat, MF RF (Cmp q m 0 0) RF x9 k9)) ∨ (0 < m ∧ ∃ T9 b9 x9 : Nat, MF RF (Cmp q m 0 0) b9 x9 T9 ∧ b9 < RF ∧ r2 = nI (1 + dgq9 m (T9 / 16)))) : r1 = r2 := by
  rcases h2 with ⟨e, h⟩ | ⟨h0, T8, b8, x8, g, hb, e⟩
  · rcases h1 with ⟨_, e1⟩ | ⟨z, _⟩
    · rw [e, e1]
    · exact absurd (sol_no hs hp ht hm hS h).1 z
  · rcases h1 with ⟨z, _⟩ | ⟨_, K8, ln8, T7, hFP, e1⟩
    · exact absurd z (sol_yes hs hp ht hm hS h0 g hb).1
    · have b := both hs hp ht hm hFP g
      obtain ⟨_, _, a3, _⟩ := b.2.1 hb
      rw [e, e1, a3]
end

/-! THE REFERENCE: what holds of its rows between calls, and while it reads. -/
theorem nI_mul (a b : Nat) : nI a * nI b = nI (a * b) := (Int32.ofNat_mul a b).symm
theorem sub1 (a : Nat) : nI (a + 1) - 1 = nI a := by
  rw [nI_succ]
  apply Int32.toBitVec_inj.1
  simp
theorem one_sub {a : Nat} (h : a ≤ 1) : (1 : Int32) - nI a = nI (1 - a) := by
  rcases Nat.le_one_iff_eq_zero_or_eq_one.mp h with rfl | rfl <;> decide
theorem subn {a : Nat} (h : 0 < a) : nI a - 1 = nI (a - 1) := by
  obtain ⟨b, rfl⟩ : ∃ b, a = b + 1 := ⟨a - 1, by omega⟩
  exact sub1 b
def cnt (f : Nat → Int32) (M : Nat) : Prop := ∀ i : Nat, i < 2 → ∃ v : Nat, v ≤ M ∧ f i = nI v
theorem cnt_at {f : Nat → Int32} {M hdq : Nat} (h : cnt f M) (hh : hdq ≤ 1) : ∃ v : Nat, v ≤ M ∧ f (nI hdq).toNatClampNeg = nI v := by
  rw [nI_clamp (by omega)]; exact h hdq (by omega)
theorem cnt_upd {f : Nat → Int32} {M k v : Nat} (h : cnt f M) (hv : v ≤ M) : cnt (upd f k (nI v)) M := by
  intro i hi
  by_cases e : i = k
  · exact ⟨v, hv, by unfold upd; rw [if_pos e]⟩
  · obtain ⟨w, h1, h2⟩ := h i hi
    exact ⟨w, h1, by unfold upd; rw [if_neg e]; exact h2⟩
def mGo (g : Nat → Int32) : Prop := ∀ j : Nat, j < 80 → (∃ v : Nat, v ≤ 9 ∧ g (5 * j + 2) = nI v) ∧ (∃ v : Nat, v ≤ 999 ∧ g (5 * j + 3) = nI v)
def mEn (g : Nat → Int32) : Prop := ∀ j : Nat, j < 20 → ∃ v : Nat, v ≤ 999 ∧ g (3 * j + 1) = nI v
theorem mGo_upd {g : Nat → Int32} {J c : Nat} {x : Int32} (h : mGo g) (hJ : J < 80) (hc : c < 5) (h2 : c = 2 → ∃ v : Nat, v ≤ 9 ∧ x = nI v) (h3 : c = 3 → ∃ v : Nat, v ≤ 999 ∧ x = nI v) : mGo (upd g (nI (5 * J + c)).toNatClampNeg x) := by
  rw [nI_clamp (by omega)]
  intro j hj
  obtain ⟨ha, hb⟩ := h j hj
  unfold upd
  constructor
  · by_cases e : 5 * j + 2 = 5 * J + c
    · rw [if_pos e]; exact h2 (by omega)
    · rw [if_neg e]; exact ha
  · by_cases e : 5 * j + 3 = 5 * J + c
    · rw [if_pos e]; exact h3 (by omega)
    · rw [if_neg e]; exact hb
theorem mEn_upd {g : Nat → Int32} {J c : Nat} {x : Int32} (h : mEn g) (hJ : J < 20) (hc : c < 3) (h2 : c = 1 → ∃ v : Nat, v ≤ 999 ∧ x = nI v) : mEn (upd g (nI (3 * J + c)).toNatClampNeg x) := by
  rw [nI_clamp (by omega)]
  intro j hj
  unfold upd
  by_cases e : 3 * j + 1 = 3 * J + c
  · rw [if_pos e]; exact h2 (by omega)
  · rw [if_neg e]; exact h j hj
/-- the tokens: n of them, the end's row behind, places within the TAPE -/
def pOK (so pl : Nat → Int32) (n : Nat) : Prop := n ≤ 1600 ∧ so n = 0 ∧ ∀ j : Nat, j ≤ n → ∃ v : Nat, v ≤ 1600 ∧ pl j = nI v
/-- while there is no fault the place is within the tokens; a fault is a number above 0 -/
def pI (n anq : Nat) (ft : Int32) : Prop := (ft = 0 ∧ anq ≤ n) ∨ 0 < ft
theorem pI_at {n anq : Nat} {ft : Int32} (h : pI n anq ft) (h0 : ft = 0) : anq ≤ n := by
  rcases h with h | h
  · exact h.2
  · rw [h0] at h; exact absurd h (by decide)
theorem pI_pos {n anq : Nat} {ft : Int32} (h : pI n anq ft) (h0 : ¬ ft = 0) : 0 < ft := by
  rcases h with h | h
  · exact absurd h.1 h0
  · exact h
theorem pI_np {n anq : Nat} {ft : Int32} (h : pI n anq ft) (h0 : ¬ ft = 0) : ¬ ft ≤ 0 := Int32.not_le.mpr (pI_pos h h0)
theorem pl_at {so pl : Nat → Int32} {n anq : Nat} (h : pOK so pl n) (ha : anq ≤ n) : ∃ v : Nat, v ≤ 1600 ∧ pl (nI anq).toNatClampNeg = nI v := by
  have := h.1
  rw [nI_clamp (by omega)]; exact h.2.2 anq ha
theorem tok_lt {so pl : Nat → Int32} {n anq : Nat} {x c : Int32} (h : pOK so pl n) (ha : anq ≤ n) (ex : x = so (nI anq).toNatClampNeg) (hc : x = c) (c0 : ¬ c = 0) : anq < n := by
  rcases Nat.lt_or_ge anq n with q | q
  · exact q
  · have e : anq = n := by omega
    have := h.1
    rw [nI_clamp (by omega), e, h.2.1] at ex
    rw [← hc, ex] at c0
    exact absurd rfl c0
theorem wr_pos {w v : Nat} (h1 : 0 < w) (h2 : w ≤ 5) (h3 : v ≤ 1600) : 0 < nI (w + 16 * v) := nI_lt (a := 0) (b := w + 16 * v) (by omega) (by omega)
theorem num_ok {x : Int64} {b : Nat} (h1 : ¬ lg_cmp x (Int32.toInt64 0) < 0) (h2 : lg_cmp x (nI b).toInt64 ≤ 0) (hb : b < 2 ^ 31) : ∃ v : Nat, v ≤ b ∧ x.toInt32 = nI v := by
  rw [lg_cmp_lt] at h1
  rw [lg_cmp_le, nI_l hb] at h2
  have a1 : (0 : Int) ≤ x.toInt := by
    have := Int64.not_lt.mp h1
    rw [Int64.le_iff_toInt_le] at this
    exact this
  have a2 : x.toInt ≤ b := by
    rw [Int64.le_iff_toInt_le, lN_toInt hb] at h2
    exact h2
  obtain ⟨v, hv⟩ : ∃ v : Nat, x.toInt = v := ⟨x.toInt.toNat, by omega⟩
  have e : x = lN v := Int64.toInt_inj.mp (by rw [hv, lN_toInt (by omega)])
  exact ⟨v, by omega, by rw [e]; exact lN_i v⟩
def ms (n anq : Nat) (ft : Int32) : Nat := if ft = 0 then n + 1 - anq else 0
theorem ms_pos {n anq : Nat} {ft : Int32} (h : pI n anq ft) (h0 : ft = 0) : 0 < ms n anq ft := by
  have := pI_at h h0
  unfold ms
  rw [if_pos h0]
  omega
theorem ms_f {n anq anq2 k : Nat} {ft ft2 : Int32} (h : pI n anq ft) (h0 : ft = 0) (h2 : pI n anq2 ft2) (hm : anq < anq2 ∨ 0 < ft2) (f : ms n anq ft < k + 1) : ms n anq2 ft2 < k := by
  have := ms_pos h h0
  have ha := pI_at h h0
  unfold ms at f this ⊢
  rw [if_pos h0] at f this
  by_cases e : ft2 = 0
  · rw [if_pos e]
    have := pI_at h2 e
    rcases hm with q | q
    · omega
    · rw [e] at q; exact absurd q (by decide)
  · rw [if_neg e]; omega
def isL (c : Int32) : Int32 := if c < 97 then 0 else if 122 < c then 0 else 1
def isD (c : Int32) : Int32 := if c < 48 then 0 else if 57 < c then 0 else 1
theorem pl_upd {pl : Nat → Int32} {n k : Nat} (h : ∀ j : Nat, j < n → ∃ v : Nat, v ≤ 1600 ∧ pl j = nI v) (hk : k ≤ 1600) : ∀ j : Nat, j < n + 1 → ∃ v : Nat, v ≤ 1600 ∧ upd pl n (nI k) j = nI v := by
  intro j hj
  unfold upd
  by_cases e : j = n
  · exact ⟨k, hk, by rw [if_pos e]⟩
  · rw [if_neg e]; exact h j (by omega)
theorem upd_self {f : Nat → Int32} {k : Nat} {x : Int32} : upd f k x k = x := by unfold upd; rw [if_pos rfl]
theorem dn8 {k : Int32} {n : Nat} (h : ¬ k < 0) (f : -8 ≤ k.toInt ∧ k.toInt + 8 < ((8 * (n + 1) : Nat) : Int)) : -8 ≤ (k + (-8)).toInt ∧ (k + (-8)).toInt + 8 < ((8 * n : Nat) : Int) := by
  have h0 : (0 : Int) ≤ k.toInt := by
    have := Int32.not_lt.mp h
    rw [Int32.le_iff_toInt_le] at this
    exact this
  have h2 : k.toInt < 2 ^ 31 := Int32.toInt_lt k
  have h3 : (k + (-8)).toInt = k.toInt - 8 := by
    rw [Int32.toInt_add]
    show (k.toInt + (-8)).bmod (2 ^ 32) = k.toInt - 8
    rw [Int.bmod_eq_of_le] <;> omega
  omega
/-- the TAPE's length behind one sign, behind signs -/
def sgn (n : Nat) (c : Int32) : Nat := if c = 10 then (if (1600 : Int32) ≤ nI n then n else n + 1) else if c < 32 then n else if 126 < c then n else if (1600 : Int32) ≤ nI n then n else n + 1
theorem sgn_le {n : Nat} {c : Int32} (h : n ≤ 1600) : sgn n c ≤ 1600 := by
  have key : (if (1600 : Int32) ≤ nI n then n else n + 1) ≤ 1600 := by
    by_cases q : (1600 : Int32) ≤ nI n
    · rw [if_pos q]; exact h
    · rw [if_neg q]; exact nk_lt (N := 1600) rfl q (by omega)
  unfold sgn
  split
  · exact key
  · split
    · exact h
    · split
      · exact h
      · exact key
def sgM (f : Nat → Int32) (n : Nat) (c : Int32) : Nat → Int32 := if c = 10 then (if (1600 : Int32) ≤ nI n then f else upd f n c) else if c < 32 then f else if 126 < c then f else if (1600 : Int32) ≤ nI n then f else upd f n c
def byM (v : Int64) (k : Int32) : Int32 := (v >>> (k.toInt64 &&& 63)).toInt32 &&& 255
def sgF (b : Int32 → Int32) : List Int32 → Nat → Nat
  | [], n => n
  | k :: ks, n => sgF b ks (sgn n (b k))
def sgMF (b : Int32 → Int32) : List Int32 → (Nat → Int32) → Nat → Nat → Int32
  | [], f, _ => f
  | k :: ks, f, n => sgMF b ks (sgM f n (b k)) (sgn n (b k))
def mfF (a b c : Int64) (f : Nat → Int32) (n : Nat) : Nat → Int32 := sgMF (byM c) ks8 (sgMF (byM b) ks8 (sgMF (byM a) ks8 f n) (sgF (byM a) ks8 n)) (sgF (byM b) ks8 (sgF (byM a) ks8 n))
theorem ne_m1 {k : Nat} (h : k ≤ 60) (e : nI (k + 1) = -1) : False := by
  have h4 : nI (k + 1) < 0 := by rw [e]; decide
  exact nI_pos (by omega) h4
theorem sgF_le (b : Int32 → Int32) : ∀ (ks : List Int32) (n : Nat), n ≤ 1600 → sgF b ks n ≤ 1600
  | [], _, h => h
  | _ :: ks, _, h => sgF_le b ks _ (sgn_le h)
theorem sgI_sgn {n : Nat} {c : Int32} (h : n ≤ 1600) : sgI (nI n) c = nI (sgn n c) := by
  have key : (if nI n < 0 then nI n else if (1600 : Int32) ≤ nI n then nI n else nI n + 1) = nI (if (1600 : Int32) ≤ nI n then n else n + 1) := by
    rw [if_neg (nI_pos (by omega))]
    by_cases q : (1600 : Int32) ≤ nI n
    · rw [if_pos q, if_pos q]
    · rw [if_neg q, if_neg q]; exact nI_1 n
  unfold sgI sgn
  rw [key]
  by_cases c1 : c = 10
  · rw [if_pos c1, if_pos c1]
  · rw [if_neg c1, if_neg c1]
    by_cases c2 : c < 32
    · rw [if_pos c2, if_pos c2]
    · rw [if_neg c2, if_neg c2]
      by_cases c3 : 126 < c
      · rw [if_pos c3, if_pos c3]
      · rw [if_neg c3, if_neg c3]
theorem sgFI_sgF {b b9 : Int32 → Int32} : ∀ (ks : List Int32) (n : Nat), n ≤ 1600 → (∀ k ∈ ks, b k = b9 k) → sgFI b ks (nI n) = nI (sgF b9 ks n)
  | [], _, _, _ => rfl
  | k :: ks, n, h, hb => by
    show sgFI b ks (sgI (nI n) (b k)) = nI (sgF b9 ks (sgn n (b9 k)))
    rw [sgI_sgn h, hb k List.mem_cons_self]
    exact sgFI_sgF ks _ (sgn_le h) (fun j hj => hb j (List.mem_cons_of_mem _ hj))
theorem by_key (n : Nat) (hn : n ≤ 56) (x : BitVec 64) : ((x >>> n).signExtend 32 &&& 255#32) = ((x.sshiftRight n).signExtend 32 &&& 255#32) := by
  apply BitVec.eq_of_getLsbD_eq
  intro i hi
  simp only [BitVec.getLsbD_and, BitVec.getLsbD_signExtend, BitVec.getLsbD_ushiftRight, BitVec.getLsbD_sshiftRight]
  by_cases h8 : i < 8
  · have h1 : n + i < 64 := by omega
    have h2 : i < 64 := by omega
    have h3 : ¬ 64 ≤ i := by omega
    simp [h1, h2, h3]
  · have h4 : (255#32).getLsbD i = false := by
      rw [BitVec.getLsbD_ofNat, Nat.testBit_lt_two_pow (Nat.lt_of_lt_of_le (show 255 < 2 ^ 8 by decide) (Nat.pow_le_pow_right (by decide) (by omega)))]
      simp
    rw [h4, Bool.and_false, Bool.and_false]
theorem by_eq (v : Int64) : ∀ k ∈ ks8, byU v k = byM v k := by
  intro k hk
  simp only [ks8, List.mem_cons, List.not_mem_nil, or_false] at hk
  rcases hk with rfl | rfl | rfl | rfl | rfl | rfl | rfl | rfl
  · exact Int32.toBitVec_inj.1 (by_key 56 (by decide) v.toBitVec)
  · exact Int32.toBitVec_inj.1 (by_key 48 (by decide) v.toBitVec)
  · exact Int32.toBitVec_inj.1 (by_key 40 (by decide) v.toBitVec)
  · exact Int32.toBitVec_inj.1 (by_key 32 (by decide) v.toBitVec)
  · exact Int32.toBitVec_inj.1 (by_key 24 (by decide) v.toBitVec)
  · exact Int32.toBitVec_inj.1 (by_key 16 (by decide) v.toBitVec)
  · exact Int32.toBitVec_inj.1 (by_key 8 (by decide) v.toBitVec)
  · exact Int32.toBitVec_inj.1 (by_key 0 (by decide) v.toBitVec)
theorem le3 {x : Int32} (h : x < 4) : x ≤ 3 := by
  rw [Int32.lt_iff_toInt_lt] at h
  rw [Int32.le_iff_toInt_le]
  have e4 : (4 : Int32).toInt = 4 := rfl
  have e3 : (3 : Int32).toInt = 3 := rfl
  omega
theorem lt4 {x : Int32} (h : x ≤ 3) : x < 4 := by
  rw [Int32.le_iff_toInt_le] at h
  rw [Int32.lt_iff_toInt_lt]
  have e4 : (4 : Int32).toInt = 4 := rfl
  have e3 : (3 : Int32).toInt = 3 := rfl
  omega
theorem feed_eq {q0 q1 q2 : Int64} {n : Nat} (h : n ≤ 1600) : sgFI (byU q2) ks8 (sgFI (byU q1) ks8 (sgFI (byU q0) ks8 (nI n))) = nI (sgF (byM q2) ks8 (sgF (byM q1) ks8 (sgF (byM q0) ks8 n))) := by
  rw [sgFI_sgF ks8 n h (by_eq q0), sgFI_sgF ks8 _ (sgF_le _ _ _ h) (by_eq q1), sgFI_sgF ks8 _ (sgF_le _ _ _ (sgF_le _ _ _ h)) (by_eq q2)]
def mwR (w : Int32) (n : Nat) : Int32 := if isW w = 0 then -1 else if nI n = 60 then -1 else nI (n + 1)
def mwN (w : Int32) (n : Nat) : Nat := if isW w = 0 then n else if nI n = 60 then n else n + 1
def mdR (n : Nat) : Int32 := if nI n = 0 then -1 else nI (n - 1)
def mdN (n : Nat) : Nat := if nI n = 0 then n else n - 1
def mhR (i mk : Int32) (n : Nat) : Int32 := if i < 0 then 0 else if nI n ≤ i then 0 else if mk < -1 then 0 else if 6 < mk then 0 else if i = 0 then (if mk ≤ 3 then 1 else 0) else 1
theorem wd_eq {w : Int32} {n : Nat} (h : n ≤ 60) : wdR w (nI n) = mwR w n ∧ wdZ w (nI n) = nI (mwN w n) := by
  unfold wdR wdZ mwR mwN
  by_cases c1 : isW w = 0
  · simp only [if_pos c1]; exact ⟨trivial, trivial⟩
  · simp only [if_neg c1, if_neg (nI_pos (show n < 2 ^ 31 by omega))]
    rcases Nat.lt_or_ge n 60 with q | q
    · have c2 : nI n < 60 := nI_lt (a := n) (b := 60) q (by omega)
      have c3 : ¬ nI n = 60 := fun z => by rw [z] at c2; exact absurd c2 (by decide)
      simp only [if_pos c2, if_neg c3]
      exact ⟨nI_1 n, nI_1 n⟩
    · have e : n = 60 := by omega
      subst e
      exact ⟨by decide, by decide⟩
theorem dr_eq {n : Nat} (h : n ≤ 60) : drR (nI n) = mdR n ∧ drZ (nI n) = nI (mdN n) := by
  unfold drR drZ mdR mdN
  rcases Nat.eq_zero_or_pos n with q | q
  · subst q; exact ⟨by decide, by decide⟩
  · have c1 : 0 < nI n := nI_lt (a := 0) (b := n) q (by omega)
    have c2 : ¬ nI n = 0 := nI_ne0 q (by omega)
    simp only [if_pos c1, if_neg c2]
    exact ⟨subn q, subn q⟩
theorem ha_eq {i mk : Int32} {n : Nat} (h : n ≤ 60) : haR i mk (nI n) = mhR i mk n := by
  unfold haR mhR
  by_cases c1 : i < 0
  · rw [if_pos (show bnd 60 i (nI n) = 0 by simp only [bnd, if_pos c1]), if_pos c1]
  · rw [if_neg c1]
    by_cases c2 : nI n ≤ i
    · rw [if_pos (show bnd 60 i (nI n) = 0 by simp only [bnd, if_neg c1, if_pos c2]), if_pos c2]
    · rw [if_neg c2]
      have c3 : ¬ 60 ≤ i := fun z => c2 (Int32.le_trans (nI_le (a := n) (b := 60) h (by omega)) z)
      rw [if_neg (show ¬ bnd 60 i (nI n) = 0 by simp only [bnd, if_neg c1, if_neg c2, if_neg c3]; decide)]
      by_cases c4 : mk < -1
      · rw [if_pos c4, if_pos c4]
      · rw [if_neg c4, if_neg c4]
        by_cases c5 : 6 < mk
        · rw [if_pos c5, if_pos c5]
        · rw [if_neg c5, if_neg c5]
          by_cases c6 : i = 0
          · rw [if_pos c6, if_pos c6]
            by_cases c7 : mk < 4
            · rw [if_pos c7, if_pos (le3 c7)]
            · rw [if_neg c7, if_neg (fun z => c7 (lt4 z))]
          · rw [if_neg c6, if_neg c6]
/-- both TAPEs alike, and no sign is -1 -/
def teq (f g : Nat → Int32) (n : Nat) : Prop := ∀ i : Nat, i < n → f i = g i ∧ ¬ g i = -1
theorem char_id : ∀ k : Nat, k < 127 → vp_nar .char (((nI k).toUInt32 % 65536).toInt32) = nI k := by decide
theorem sg_ok {c : Int32} (h : c = 10 ∨ (¬ c < 32 ∧ ¬ 126 < c)) : vp_nar .char ((c.toUInt32 % 65536).toInt32) = c ∧ ¬ c = -1 := by
  rcases h with rfl | ⟨h1, h2⟩
  · exact ⟨char_id 10 (by decide), by decide⟩
  · have h3 : ¬ c < 0 := fun z => h1 (Int32.lt_trans z (by decide))
    obtain ⟨k, hk, rfl⟩ := nI_of h3
    have h4 : ¬ 126 < k := fun z => h2 (nI_lt (a := 126) (b := k) z hk)
    exact ⟨char_id k (by omega), fun z => h3 (by rw [z]; decide)⟩
theorem teq_upd {f g : Nat → Int32} {n : Nat} {x y : Int32} (h : teq f g n) (e : x = y) (hy : ¬ y = -1) : teq (upd f n x) (upd g n y) (n + 1) := by
  intro i hi
  rcases Nat.lt_or_ge i n with q | q
  · rw [pk_un (by omega), pk_un (by omega)]; exact h i q
  · rw [show i = n by omega, pk_us, pk_us]; exact ⟨e, hy⟩
theorem teq_sg {f g : Nat → Int32} {n : Nat} {c : Int32} (h : teq f g n) (hn : n ≤ 1600) : teq (sgC f (nI n) c) (sgM g n c) (sgn n c) := by
  have key : (c = 10 ∨ (¬ c < 32 ∧ ¬ 126 < c)) → teq (if nI n < 0 then f else if (1600 : Int32) ≤ nI n then f else upd f (nI n).toNatClampNeg (vp_nar .char ((c.toUInt32 % 65536).toInt32))) (if (1600 : Int32) ≤ nI n then g else upd g n c) (if (1600 : Int32) ≤ nI n then n else n + 1) := fun hc => by
    rw [if_neg (nI_pos (by omega))]
    by_cases q : (1600 : Int32) ≤ nI n
    · rw [if_pos q, if_pos q, if_pos q]; exact h
    · rw [if_neg q, if_neg q, if_neg q, nI_clamp (by omega)]
      exact teq_upd h (sg_ok hc).1 (sg_ok hc).2
  unfold sgC sgM sgn
  by_cases c1 : c = 10
  · rw [if_pos c1, if_pos c1, if_pos c1]; exact key (Or.inl c1)
  · rw [if_neg c1, if_neg c1, if_neg c1]
    by_cases c2 : c < 32
    · rw [if_pos c2, if_pos c2, if_pos c2]; exact h
    · rw [if_neg c2, if_neg c2, if_neg c2]
      by_cases c3 : 126 < c
      · rw [if_pos c3, if_pos c3, if_pos c3]; exact h
      · rw [if_neg c3, if_neg c3, if_neg c3]; exact key (Or.inr ⟨c2, c3⟩)
theorem teq_F {b b9 : Int32 → Int32} : ∀ (ks : List Int32) (f g : Nat → Int32) (n : Nat), teq f g n → n ≤ 1600 → (∀ k ∈ ks, b k = b9 k) → teq (sgCF b ks f (nI n)) (sgMF b9 ks g n) (sgF b9 ks n)
  | [], _, _, _, h, _, _ => h
  | k :: ks, f, g, n, h, hn, hb => by
    show teq (sgCF b ks (sgC f (nI n) (b k)) (sgI (nI n) (b k))) (sgMF b9 ks (sgM g n (b9 k)) (sgn n (b9 k))) (sgF b9 ks (sgn n (b9 k)))
    rw [sgI_sgn hn, hb k List.mem_cons_self]
    exact teq_F ks _ _ _ (teq_sg h hn) (sgn_le hn) (fun j hj => hb j (List.mem_cons_of_mem _ hj))
theorem feed_teq {q0 q1 q2 : Int64} {f g : Nat → Int32} {n : Nat} (h : teq f g n) (hn : n ≤ 1600) : teq (fdF q0 q1 q2 f (nI n)) (mfF q0 q1 q2 g n) (sgF (byM q2) ks8 (sgF (byM q1) ks8 (sgF (byM q0) ks8 n))) := by
  unfold fdF mfF
  have h1 := teq_F ks8 f g n h hn (by_eq q0)
  rw [sgFI_sgF ks8 n hn (by_eq q0)]
  have n1 := sgF_le (byM q0) ks8 n hn
  have h2 := teq_F ks8 _ _ _ h1 n1 (by_eq q1)
  rw [sgFI_sgF ks8 _ n1 (by_eq q1)]
  exact teq_F ks8 _ _ _ h2 (sgF_le (byM q1) ks8 _ n1) (by_eq q2)
/-- both rows' marks alike, free or not negative -/
def mkq (f g : Nat → Int32) (n : Nat) : Prop := ∀ i : Nat, i < n → f i = g i ∧ (g i = -1 ∨ 0 ≤ g i)
theorem wd_mk {f g : Nat → Int32} {n : Nat} {w : Int32} (h : mkq f g n) (hn : n ≤ 60) : mkq (if wdR w (nI n) = -1 then f else upd f (nI n).toNatClampNeg (-1)) (if mwR w n = -1 then g else upd g (nI n).toNatClampNeg (-1)) (mwN w n) := by
  rw [(wd_eq hn).1]
  by_cases c : mwR w n = -1
  · rw [if_pos c, if_pos c]
    have e : mwN w n = n := by
      unfold mwN
      unfold mwR at c
      by_cases c1 : isW w = 0
      · rw [if_pos c1]
      · rw [if_neg c1] at c ⊢
        by_cases c2 : nI n = 60
        · rw [if_pos c2]
        · rw [if_neg c2] at c; exact (ne_m1 hn c).elim
    rw [e]; exact h
  · rw [if_neg c, if_neg c, nI_clamp (by omega)]
    have e : mwN w n ≤ n + 1 := by
      unfold mwN
      repeat' split
      all_goals omega
    intro i hi
    rcases Nat.lt_or_ge i n with q | q
    · rw [pk_un (by omega), pk_un (by omega)]; exact h i q
    · rw [show i = n by omega, pk_us, pk_us]; exact ⟨rfl, Or.inl rfl⟩
theorem mkq_le {f g : Nat → Int32} {n m : Nat} (h : mkq f g n) (hm : m ≤ n) : mkq f g m := fun i hi => h i (by omega)
theorem mdN_le (n : Nat) : mdN n ≤ n := by unfold mdN; split <;> omega
theorem ha_mk {f g : Nat → Int32} {n : Nat} {i mk : Int32} (h : mkq f g n) (hn : n ≤ 60) : mkq (if haR i mk (nI n) = 0 then f else upd f i.toNatClampNeg mk) (if mhR i mk n = 0 then g else upd g i.toNatClampNeg mk) n := by
  rw [ha_eq hn]
  by_cases c : mhR i mk n = 0
  · rw [if_pos c, if_pos c]; exact h
  · rw [if_neg c, if_neg c]
    have hmk : ¬ mk < -1 := fun z => c (by
      unfold mhR
      repeat' split
      all_goals first | rfl | contradiction)
    intro j hj
    by_cases e : j = i.toNatClampNeg
    · rw [e, pk_us, pk_us]
      refine ⟨rfl, ?_⟩
      by_cases e1 : mk = -1
      · exact Or.inl e1
      · refine Or.inr ?_
        rw [Int32.lt_iff_toInt_lt] at hmk
        rw [Int32.le_iff_toInt_le]
        have e2 : ¬ mk.toInt = (-1 : Int32).toInt := fun z => e1 (Int32.toInt_inj.mp z)
        have e3 : (-1 : Int32).toInt = -1 := by decide
        have e4 : (0 : Int32).toInt = 0 := rfl
        omega
    · rw [pk_un e, pk_un e]; exact h j hj
def cP (f : Nat → Int32) : Nat → Nat
  | 0 => 0
  | k + 1 => cP f k + (if f k < 0 then 0 else 1)
theorem cP_s (f : Nat → Int32) (k : Nat) : cP f (k + 1) = cP f k + (if f k < 0 then 0 else 1) := rfl
theorem cM_cP {f g : Nat → Int32} : ∀ n : Nat, mkq f g n → cM f n = cP g n
  | 0, _ => rfl
  | n + 1, h => by
    rw [cM_s, cP_s, cM_cP n (mkq_le h (by omega)), (h n (by omega)).1]
    rcases (h n (by omega)).2 with q | q
    · rw [q, if_pos rfl, if_pos (by decide)]
    · rw [if_neg (Int32.not_lt.mpr q), if_neg (fun z => by rw [z] at q; exact absurd q (by decide))]
def cnM (w : Int32) (n G E t : Nat) (f : Nat → Int32) : Int32 := if w = 0 then nI n else if w = 1 then nI G else if w = 2 then nI E else if w = 3 then nI t else if w = 4 then nI (cP f n) else -1
theorem cn_eq {f g : Nat → Int32} {w : Int32} {n G E t : Nat} (h : mkq f g n) : cnC w n (nI G) (nI E) (nI t) f = cnM w n G E t g := by
  unfold cnC cnM
  rw [cM_cP n h]
def mgR (G hd : Nat) (g : Nat → Int32) (x w : Int32) : Int32 := if x < 0 then -1 else if nI G ≤ x then -1 else if w < 0 then -1 else if w ≤ 4 then g (5 * (40 * hd + x.toNatClampNeg) + w.toNatClampNeg) else -1
def rowOK (f : Nat → Int32) : Prop := ∀ i : Nat, i < 60 → ∃ v : Nat, v < 100 ∧ f i = nI v
theorem rowOK_upd {f : Nat → Int32} {k : Nat} {x : Int32} (h : rowOK f) (hx : vp_in x 100) : rowOK (upd f k x) := by
  intro i hi
  unfold upd
  by_cases e : i = k
  · rw [if_pos e]
    obtain ⟨j, hj, ej⟩ := vp_in_of hx (by decide)
    exact ⟨j, hj, ej⟩
  · rw [if_neg e]; exact h i hi
theorem ne60 {a : Nat} (h : a ≤ 60) (c : ¬ nI a = 60) : a < 60 := by
  rcases Nat.lt_or_ge a 60 with q | q
  · exact q
  · exact absurd (by rw [show a = 60 by omega]; rfl) c
theorem ne0 {a : Nat} (c : ¬ nI a = 0) : 0 < a := by
  rcases Nat.eq_zero_or_pos a with q | q
  · exact absurd (by rw [q]; rfl) c
  · exact q
theorem in_mn {x : Int32} {a : Nat} (h : a ≤ 60) (h0 : ¬ x < 0) (h1 : ¬ nI a ≤ x) : vp_in x 60 := by
  obtain ⟨j, hj, rfl⟩ := nI_of h0
  exact vp_in_nI (by have := nk_lt rfl h1 (by omega); omega) (by decide)
set_option maxHeartbeats 4000000 in
set_option maxRecDepth 100000 in
theorem k_mlay (l : Launch) (dC : Nat → ClassId) (dI : Nat → Nat → Nat) (cI cZ cC cJ : ClassId) (sz : Nat) (h0 : Nat) (th : Int32) (Mtape : Nat) (tnq : Nat) (znq : Nat) (Msort : Nat) (Mplace : Nat) (Mvalue : Nat) (anq : Nat) (ft : Int32) (Mwords : Nat) (hdq : Nat) (nxq : Nat) (Mgoes : Nat) (MgoLine : Nat) (Mends : Nat) (MendLine : Nat) (Mkinds : Nat) (MisName : Nat) (mnq : Nat) (Mrow : Nat) (MbyHand : Nat) (Mleast : Nat) (Msecond : Nat) (MendAt : Nat) (MgoAt : Nat) (MnodeBehind : Nat) (lE : Int32) (MisOut : Nat) (MfirstEnd : Nat) (MfirstGo : Nat) (mtape : Nat → Int32) (q0 : Int64) (htn : tnq ≤ 1600) : Met l yX5_lay wsX5_lay ({ frames := 0, cells := 0, slots := 0, locals := 0 }) (va_Pc [.ref h0, .long q0] (sPre dC dI cI cZ cC cJ [(h0, .inr (5, [.int th, .ref Mtape, .int (nI tnq), .int (nI znq), .ref Msort, .ref Mplace, .ref Mvalue, .int (nI anq), .int ft, .ref Mwords, .int (nI hdq), .int (nI nxq), .ref Mgoes, .ref MgoLine, .ref Mends, .ref MendLine, .ref Mkinds, .ref MisName, .int (nI mnq), .ref Mrow, .ref MbyHand, .ref Mleast, .ref Msecond, .ref MendAt, .ref MgoAt, .ref MnodeBehind, .int lE, .ref MisOut, .ref MfirstEnd, .ref MfirstGo])), (Mtape, .inl (cI, 1600, .inl mtape))] sz)) (va_Qv (fun (u : (Nat) × (Nat → Int32)) => match u with | (tnq2, mtape2) => (tnq2 ≤ 1600) ∧ (tnq2 = sgF (byM q0) ks8 tnq) ∧ (mtape2 = sgMF (byM q0) ks8 mtape tnq)) (fun (u : (Nat) × (Nat → Int32)) t => match u with | (tnq2, mtape2) => sB dC dI (va_A [(h0, .inr (5, [.int th, .ref Mtape, .int (nI tnq), .int (nI znq), .ref Msort, .ref Mplace, .ref Mvalue, .int (nI anq), .int ft, .ref Mwords, .int (nI hdq), .int (nI nxq), .ref Mgoes, .ref MgoLine, .ref Mends, .ref MendLine, .ref Mkinds, .ref MisName, .int (nI mnq), .ref Mrow, .ref MbyHand, .ref Mleast, .ref Msecond, .ref MendAt, .ref MgoAt, .ref MnodeBehind, .int lE, .ref MisOut, .ref MfirstEnd, .ref MfirstGo])), (Mtape, .inl (cI, 1600, .inl mtape))] sz) [(h0, .inr (5, [.int th, .ref Mtape, .int (nI tnq2), .int (nI znq), .ref Msort, .ref Mplace, .ref Mvalue, .int (nI anq), .int ft, .ref Mwords, .int (nI hdq), .int (nI nxq), .ref Mgoes, .ref MgoLine, .ref Mends, .ref MendLine, .ref Mkinds, .ref MisName, .int (nI mnq), .ref Mrow, .ref MbyHand, .ref Mleast, .ref Msecond, .ref MendAt, .ref MgoAt, .ref MnodeBehind, .int lE, .ref MisOut, .ref MfirstEnd, .ref MfirstGo])), (Mtape, .inl (cI, 1600, .inl mtape2))] t) (va_A [(h0, .inr (5, [.int th, .ref Mtape, .int (nI tnq), .int (nI znq), .ref Msort, .ref Mplace, .ref Mvalue, .int (nI anq), .int ft, .ref Mwords, .int (nI hdq), .int (nI nxq), .ref Mgoes, .ref MgoLine, .ref Mends, .ref MendLine, .ref Mkinds, .ref MisName, .int (nI mnq), .ref Mrow, .ref MbyHand, .ref Mleast, .ref Msecond, .ref MendAt, .ref MgoAt, .ref MnodeBehind, .int lE, .ref MisOut, .ref MfirstEnd, .ref MfirstGo])), (Mtape, .inl (cI, 1600, .inl mtape))] sz)) 0 0 (va_A [(h0, .inr (5, [.int th, .ref Mtape, .int (nI tnq), .int (nI znq), .ref Msort, .ref Mplace, .ref Mvalue, .int (nI anq), .int ft, .ref Mwords, .int (nI hdq), .int (nI nxq), .ref Mgoes, .ref MgoLine, .ref Mends, .ref MendLine, .ref Mkinds, .ref MisName, .int (nI mnq), .ref Mrow, .ref MbyHand, .ref Mleast, .ref Msecond, .ref MendAt, .ref MgoAt, .ref MnodeBehind, .int lE, .ref MisOut, .ref MfirstEnd, .ref MfirstGo])), (Mtape, .inl (cI, 1600, .inl mtape))] sz) := by
  refine Met.ofW (cc := cX5_lay) (maxL := 5) (ret := none) (by decide) rfl ?_
  intro p e s m args below meth c s₁ B hml hv
  obtain ⟨rfl, hsz, hP, hsk, hD0⟩ := hv
  have hx := B.exec
  have hb := B.bytes
  have hr := B.returns
  have hts := atoms_spec (ws := wsX5_lay) B.pre
  have hown : s.vm.findClass RX5 = some m.cls := findClass_of_methodNamed B.named
  have hlocks := B.notSynchronized
  have hK := hsk.1
  have i5 : ∀ w ∈ wsX50, w ∈ wsX5_lay := by decide +kernel
  subst hsz
  have hD := hD0.self (sz := s.heap.size)
  generalize hAe : va_A [(h0, .inr (5, [.int th, .ref Mtape, .int (nI tnq), .int (nI znq), .ref Msort, .ref Mplace, .ref Mvalue, .int (nI anq), .int ft, .ref Mwords, .int (nI hdq), .int (nI nxq), .ref Mgoes, .ref MgoLine, .ref Mends, .ref MendLine, .ref Mkinds, .ref MisName, .int (nI mnq), .ref Mrow, .ref MbyHand, .ref Mleast, .ref Msecond, .ref MendAt, .ref MgoAt, .ref MnodeBehind, .int lE, .ref MisOut, .ref MfirstEnd, .ref MfirstGo])), (Mtape, .inl (cI, 1600, .inl mtape))] s.heap.size = A at hD ⊢
  have hA : ∀ q : Nat, s.heap.size ≤ q → A q := fun q h => by rw [← hAe]; exact Or.inr h
  have hS : va_S A s.heap s.heap [] := va_S.rf
  have hl := lv_entry ([.ref h0, .long q0]) (n := 5) (Nat.le_of_ble_eq_true rfl)
  rw [lg_entry_eq]
  generalize (lg_sl ([.ref h0, .long q0]) ++ List.replicate (5 - (lg_sl ([.ref h0, .long q0])).length) Slot.unset).toArray = ls at hl ⊢
  have hl : lv_has ls 5 [(0, .ref h0), (1, .long q0)] := hl
  obtain ⟨Tq, eTq⟩ : ∃ T9, T9 = sgF (byM q0) ks8 tnq := ⟨_, rfl⟩
  obtain ⟨Fq, eFq⟩ : ∃ T9, T9 = sgMF (byM q0) ks8 mtape tnq := ⟨_, rfl⟩
  refine lv_bipush (v := 56) hx hb dX5_lay_0 (by decide) ?_
  refine lv_istore_n (lv' := [(3, .int 56), (0, .ref h0), (1, .long q0)]) hx hb dX5_lay_2 rfl hl (by decide) rfl (fun ls hl => ?_)
  have lp_3_m8 : ∀ (aq : Nat) (faq : Nat → Int32), aq ≤ 1600 → sgF (byM q0) [] aq = Tq → sgMF (byM q0) [] faq aq = Fq → ∀ (H : Heap) (locs : List Loc) (ls : Array Slot), va_P (dC, dI) vwCl [(h0, .inr (5, [.int th, .ref Mtape, .int (nI aq), .int (nI znq), .ref Msort, .ref Mplace, .ref Mvalue, .int (nI anq), .int ft, .ref Mwords, .int (nI hdq), .int (nI nxq), .ref Mgoes, .ref MgoLine, .ref Mends, .ref MendLine, .ref Mkinds, .ref MisName, .int (nI mnq), .ref Mrow, .ref MbyHand, .ref Mleast, .ref Msecond, .ref MendAt, .ref MgoAt, .ref MnodeBehind, .int lE, .ref MisOut, .ref MfirstEnd, .ref MfirstGo])), (Mtape, .inl (cI, 1600, .inl faq))] H → va_D A [(h0, .inr (5, [.int th, .ref Mtape, .int (nI aq), .int (nI znq), .ref Msort, .ref Mplace, .ref Mvalue, .int (nI anq), .int ft, .ref Mwords, .int (nI hdq), .int (nI nxq), .ref Mgoes, .ref MgoLine, .ref Mends, .ref MendLine, .ref Mkinds, .ref MisName, .int (nI mnq), .ref Mrow, .ref MbyHand, .ref Mleast, .ref Msecond, .ref MendAt, .ref MgoAt, .ref MnodeBehind, .int lE, .ref MisOut, .ref MfirstEnd, .ref MfirstGo])), (Mtape, .inl (cI, 1600, .inl faq))] → va_S A s.heap H locs → lv_has ls 5 [(3, .int (-8)), (0, .ref h0), (1, .long q0)] → W p l e (headSpec wsX5_lay ({ frames := 0, cells := 0, slots := 0, locals := 0 })).room s m ([.ref h0, .long q0]).toArray below meth c H locs 0 0 (MQ below (va_Qv (fun (u : (Nat) × (Nat → Int32)) => match u with | (tnq2, mtape2) => (tnq2 ≤ 1600) ∧ (tnq2 = sgF (byM q0) ks8 tnq) ∧ (mtape2 = sgMF (byM q0) ks8 mtape tnq)) (fun (u : (Nat) × (Nat → Int32)) t => match u with | (tnq2, mtape2) => sB dC dI A [(h0, .inr (5, [.int th, .ref Mtape, .int (nI tnq2), .int (nI znq), .ref Msort, .ref Mplace, .ref Mvalue, .int (nI anq), .int ft, .ref Mwords, .int (nI hdq), .int (nI nxq), .ref Mgoes, .ref MgoLine, .ref Mends, .ref MendLine, .ref Mkinds, .ref MisName, .int (nI mnq), .ref Mrow, .ref MbyHand, .ref Mleast, .ref Msecond, .ref MendAt, .ref MgoAt, .ref MnodeBehind, .int lE, .ref MisOut, .ref MfirstEnd, .ref MfirstGo])), (Mtape, .inl (cI, 1600, .inl mtape2))] t) A) ([.ref h0, .long q0]).toArray s 0 0 A) (F0 m 3 ls []) := by
    intro aq faq haq hTq hFq H locs ls hP hD hS hl
    refine lv_iload_n hx hb dX5_lay_3 rfl (lv_at hl 0 rfl) ?_
    refine lv_if_lt (tgt := 75) hx hb dX5_lay_4 (by decide) (fun _ => ?_) (fun h9 => absurd (by decide) h9)
    have hP9 := hP.sub (ws' := [(h0, .inr (5, [.int th, .ref Mtape, .int (nI aq), .int (nI znq), .ref Msort, .ref Mplace, .ref Mvalue, .int (nI anq), .int ft, .ref Mwords, .int (nI hdq), .int (nI nxq), .ref Mgoes, .ref MgoLine, .ref Mends, .ref MendLine, .ref Mkinds, .ref MisName, .int (nI mnq), .ref Mrow, .ref MbyHand, .ref Mleast, .ref Msecond, .ref MendAt, .ref MgoAt, .ref MnodeBehind, .int lE, .ref MisOut, .ref MfirstEnd, .ref MfirstGo])), (Mtape, .inl (cI, 1600, .inl faq))]) [0, 1] rfl
    have hD9 := hD.sub (ws' := [(h0, .inr (5, [.int th, .ref Mtape, .int (nI aq), .int (nI znq), .ref Msort, .ref Mplace, .ref Mvalue, .int (nI anq), .int ft, .ref Mwords, .int (nI hdq), .int (nI nxq), .ref Mgoes, .ref MgoLine, .ref Mends, .ref MendLine, .ref Mkinds, .ref MisName, .int (nI mnq), .ref Mrow, .ref MbyHand, .ref Mleast, .ref Msecond, .ref MendAt, .ref MgoAt, .ref MnodeBehind, .int lE, .ref MisOut, .ref MfirstEnd, .ref MfirstGo])), (Mtape, .inl (cI, 1600, .inl faq))]) [0, 1] (by decide) rfl
    have hens0 : aq ≤ 1600 := haq
    have hens1 : aq = sgF (byM q0) ks8 tnq := hTq.trans eTq
    have hens2 : faq = sgMF (byM q0) ks8 mtape tnq := hFq.trans eFq
    exact W.vret hx hb hr (fun t ht hW => ⟨⟨(aq, faq), rfl, ⟨hens0, hens1, hens2⟩, by rw [ht]; exact hP9, hD9⟩, hS.F ht⟩) hS.2.2 dX5_lay_75
  have lp_3_0 : ∀ (aq : Nat) (faq : Nat → Int32), aq ≤ 1600 → sgF (byM q0) [0] aq = Tq → sgMF (byM q0) [0] faq aq = Fq → ∀ (H : Heap) (locs : List Loc) (ls : Array Slot), va_P (dC, dI) vwCl [(h0, .inr (5, [.int th, .ref Mtape, .int (nI aq), .int (nI znq), .ref Msort, .ref Mplace, .ref Mvalue, .int (nI anq), .int ft, .ref Mwords, .int (nI hdq), .int (nI nxq), .ref Mgoes, .ref MgoLine, .ref Mends, .ref MendLine, .ref Mkinds, .ref MisName, .int (nI mnq), .ref Mrow, .ref MbyHand, .ref Mleast, .ref Msecond, .ref MendAt, .ref MgoAt, .ref MnodeBehind, .int lE, .ref MisOut, .ref MfirstEnd, .ref MfirstGo])), (Mtape, .inl (cI, 1600, .inl faq))] H → va_D A [(h0, .inr (5, [.int th, .ref Mtape, .int (nI aq), .int (nI znq), .ref Msort, .ref Mplace, .ref Mvalue, .int (nI anq), .int ft, .ref Mwords, .int (nI hdq), .int (nI nxq), .ref Mgoes, .ref MgoLine, .ref Mends, .ref MendLine, .ref Mkinds, .ref MisName, .int (nI mnq), .ref Mrow, .ref MbyHand, .ref Mleast, .ref Msecond, .ref MendAt, .ref MgoAt, .ref MnodeBehind, .int lE, .ref MisOut, .ref MfirstEnd, .ref MfirstGo])), (Mtape, .inl (cI, 1600, .inl faq))] → va_S A s.heap H locs → lv_has ls 5 [(3, .int 0), (0, .ref h0), (1, .long q0)] → W p l e (headSpec wsX5_lay ({ frames := 0, cells := 0, slots := 0, locals := 0 })).room s m ([.ref h0, .long q0]).toArray below meth c H locs 0 0 (MQ below (va_Qv (fun (u : (Nat) × (Nat → Int32)) => match u with | (tnq2, mtape2) => (tnq2 ≤ 1600) ∧ (tnq2 = sgF (byM q0) ks8 tnq) ∧ (mtape2 = sgMF (byM q0) ks8 mtape tnq)) (fun (u : (Nat) × (Nat → Int32)) t => match u with | (tnq2, mtape2) => sB dC dI A [(h0, .inr (5, [.int th, .ref Mtape, .int (nI tnq2), .int (nI znq), .ref Msort, .ref Mplace, .ref Mvalue, .int (nI anq), .int ft, .ref Mwords, .int (nI hdq), .int (nI nxq), .ref Mgoes, .ref MgoLine, .ref Mends, .ref MendLine, .ref Mkinds, .ref MisName, .int (nI mnq), .ref Mrow, .ref MbyHand, .ref Mleast, .ref Msecond, .ref MendAt, .ref MgoAt, .ref MnodeBehind, .int lE, .ref MisOut, .ref MfirstEnd, .ref MfirstGo])), (Mtape, .inl (cI, 1600, .inl mtape2))] t) A) ([.ref h0, .long q0]).toArray s 0 0 A) (F0 m 3 ls []) := by
    intro aq faq haq hTq hFq H locs ls hP hD hS hl
    refine lv_iload_n hx hb dX5_lay_3 rfl (lv_at hl 0 rfl) ?_
    refine lv_if_lt (tgt := 75) hx hb dX5_lay_4 (by decide) (fun h9 => absurd h9 (by decide)) (fun _ => ?_)
    refine lv_lload_n hx hb dX5_lay_7 rfl (lv_at hl 2 rfl) ?_
    refine lv_iload_n hx hb dX5_lay_8 rfl (lv_at hl 0 rfl) ?_
    refine lv_lshr (v := (q0 >>> ((0 : Int32).toInt64 &&& 63))) hx hb dX5_lay_9 rfl ?_
    refine lv_l2i (v := (q0 >>> ((0 : Int32).toInt64 &&& 63)).toInt32) hx hb dX5_lay_10 rfl ?_
    refine lv_sipush (v := 255) hx hb dX5_lay_11 (by decide) ?_
    refine lv_iand hx hb dX5_lay_14 ?_
    refine lv_topi (fun v_ ev_ => ?_)
    obtain rfl : v_ = (byM q0 0) := ev_.trans (rfl)
    refine lv_istore (lv' := [(4, .int (byM q0 0)), (3, .int 0), (0, .ref h0), (1, .long q0)]) hx hb dX5_lay_15 hl (by decide) rfl (fun ls hl => ?_)
    refine lv_iload hx hb dX5_lay_17 (lv_at hl 0 rfl) ?_
    refine lv_bipush (v := 10) hx hb dX5_lay_19 (by decide) ?_
    refine lv_icmp_eq (tgt := 38) hx hb dX5_lay_21 (by decide) (fun c_21 => ?_) (fun c_21 => ?_)
    · skip
      refine lv_aload_n hx hb dX5_lay_38 rfl (lv_at hl 2 rfl) ?_
      refine va_get (D := (dC, dI)) (ci := 5) (v := .int (nI aq)) (C := RX5) (T := TX5) (N := 30) hx hb hts i5 hown hK hP 0 rfl rfl 2 (by decide) (hts (.fieldLink RX5 11 "StopSetterModel" "taped" "I") (by decide +kernel)) (fun _ h9 => h9) rfl dX5_lay_39 ?_
      refine lv_sipush (v := 1600) hx hb dX5_lay_42 (by decide) ?_
      refine lv_icmp_ge (tgt := 69) hx hb dX5_lay_45 (by decide) (fun c_45 => ?_) (fun c_45 => ?_)
      · skip
        refine lv_iinc (v := (-8)) (lv' := [(3, .int (-8)), (4, .int (byM q0 0)), (0, .ref h0), (1, .long q0)]) hx hb dX5_lay_69 hl (k := 1) rfl (by decide) (by decide) rfl (fun ls hl => ?_)
        refine lv_goto (tgt := 3) hx hb dX5_lay_72 (by decide) ?_
        exact lp_3_m8 aq faq (by have h7 : sgn aq (byM q0 0) = aq := (by simp only [sgn, if_pos c_21, if_pos c_45]); have h8 := sgn_le (c := byM q0 0) haq; rw [h7] at h8; exact h8) (by have h7 : sgn aq (byM q0 0) = aq := (by simp only [sgn, if_pos c_21, if_pos c_45]); have h8 : sgF (byM q0) [] (sgn aq (byM q0 0)) = Tq := hTq; rw [h7] at h8; exact h8) (by have h7 : sgn aq (byM q0 0) = aq := (by simp only [sgn, if_pos c_21, if_pos c_45]); have h6 : sgM faq aq (byM q0 0) = faq := (by simp only [sgM, if_pos c_21, if_pos c_45]); have h8 : sgMF (byM q0) [] (sgM faq aq (byM q0 0)) (sgn aq (byM q0 0)) = Fq := hFq; rw [h7, h6] at h8; exact h8) _ _ _ hP hD hS (lv_sub hl [0, 2, 3] rfl)
      · skip
        have hn3 : aq < 1600 := nk_lt (N := 1600) rfl c_45 (by omega)
        refine lv_aload_n hx hb dX5_lay_48 rfl (lv_at hl 2 rfl) ?_
        refine va_get (D := (dC, dI)) (ci := 5) (v := .ref Mtape) (C := RX5) (T := TX5) (N := 30) hx hb hts i5 hown hK hP 0 rfl rfl 1 (by decide) (hts (.fieldLink RX5 14 "StopSetterModel" "tape" "[I") (by decide +kernel)) (fun _ h9 => h9) rfl dX5_lay_49 ?_
        refine lv_aload_n hx hb dX5_lay_52 rfl (lv_at hl 2 rfl) ?_
        refine va_get (D := (dC, dI)) (ci := 5) (v := .int (nI aq)) (C := RX5) (T := TX5) (N := 30) hx hb hts i5 hown hK hP 0 rfl rfl 2 (by decide) (hts (.fieldLink RX5 11 "StopSetterModel" "taped" "I") (by decide +kernel)) (fun _ h9 => h9) rfl dX5_lay_53 ?_
        refine lv_iload hx hb dX5_lay_56 (lv_at hl 0 rfl) ?_
        refine va_iast hx hb hK hP hD hS 1 0 rfl rfl (vp_in_nI hn3 (by decide)) dX5_lay_58 (fun H locs hP hD hS => ?_)
        have hP : va_P (dC, dI) vwCl [(h0, .inr (5, [.int th, .ref Mtape, .int (nI aq), .int (nI znq), .ref Msort, .ref Mplace, .ref Mvalue, .int (nI anq), .int ft, .ref Mwords, .int (nI hdq), .int (nI nxq), .ref Mgoes, .ref MgoLine, .ref Mends, .ref MendLine, .ref Mkinds, .ref MisName, .int (nI mnq), .ref Mrow, .ref MbyHand, .ref Mleast, .ref Msecond, .ref MendAt, .ref MgoAt, .ref MnodeBehind, .int lE, .ref MisOut, .ref MfirstEnd, .ref MfirstGo])), (Mtape, .inl (cI, 1600, .inl (upd faq ((nI aq).toNatClampNeg) (byM q0 0))))] H := hP
        have hD : va_D A [(h0, .inr (5, [.int th, .ref Mtape, .int (nI aq), .int (nI znq), .ref Msort, .ref Mplace, .ref Mvalue, .int (nI anq), .int ft, .ref Mwords, .int (nI hdq), .int (nI nxq), .ref Mgoes, .ref MgoLine, .ref Mends, .ref MendLine, .ref Mkinds, .ref MisName, .int (nI mnq), .ref Mrow, .ref MbyHand, .ref Mleast, .ref Msecond, .ref MendAt, .ref MgoAt, .ref MnodeBehind, .int lE, .ref MisOut, .ref MfirstEnd, .ref MfirstGo])), (Mtape, .inl (cI, 1600, .inl (upd faq ((nI aq).toNatClampNeg) (byM q0 0))))] := hD
        rw [show (upd faq ((nI aq).toNatClampNeg) (byM q0 0)) = (upd faq aq (byM q0 0)) from by rw [nI_clamp (by omega)]] at hP hD
        have hP : va_P (dC, dI) vwCl [(h0, .inr (5, [.int th, .ref Mtape, .int (nI aq), .int (nI znq), .ref Msort, .ref Mplace, .ref Mvalue, .int (nI anq), .int ft, .ref Mwords, .int (nI hdq), .int (nI nxq), .ref Mgoes, .ref MgoLine, .ref Mends, .ref MendLine, .ref Mkinds, .ref MisName, .int (nI mnq), .ref Mrow, .ref MbyHand, .ref Mleast, .ref Msecond, .ref MendAt, .ref MgoAt, .ref MnodeBehind, .int lE, .ref MisOut, .ref MfirstEnd, .ref MfirstGo])), (Mtape, .inl (cI, 1600, .inl (upd faq aq (byM q0 0))))] H := hP
        have hD : va_D A [(h0, .inr (5, [.int th, .ref Mtape, .int (nI aq), .int (nI znq), .ref Msort, .ref Mplace, .ref Mvalue, .int (nI anq), .int ft, .ref Mwords, .int (nI hdq), .int (nI nxq), .ref Mgoes, .ref MgoLine, .ref Mends, .ref MendLine, .ref Mkinds, .ref MisName, .int (nI mnq), .ref Mrow, .ref MbyHand, .ref Mleast, .ref Msecond, .ref MendAt, .ref MgoAt, .ref MnodeBehind, .int lE, .ref MisOut, .ref MfirstEnd, .ref MfirstGo])), (Mtape, .inl (cI, 1600, .inl (upd faq aq (byM q0 0))))] := hD
        refine lv_aload_n hx hb dX5_lay_59 rfl (lv_at hl 2 rfl) ?_
        refine lv_dup hx hb dX5_lay_60 rfl ?_
        refine va_get (D := (dC, dI)) (ci := 5) (v := .int (nI aq)) (C := RX5) (T := TX5) (N := 30) hx hb hts i5 hown hK hP 0 rfl rfl 2 (by decide) (hts (.fieldLink RX5 11 "StopSetterModel" "taped" "I") (by decide +kernel)) (fun _ h9 => h9) rfl dX5_lay_61 ?_
        refine lv_iconst (v := 1) hx hb dX5_lay_64 (by decide) ?_
        refine lv_iadd hx hb dX5_lay_65 ?_
        refine lv_topi (fun v_ ev_ => ?_)
        obtain rfl : v_ = (nI (aq + 1)) := ev_.trans (nI_1 aq)
        refine va_put (D := (dC, dI)) (ci := 5) (v := .int (nI (aq + 1))) (ty := tyX5 2) (C := RX5) (T := TX5) (N := 30) hx hb hts i5 tyX5 tyX5_ok nmX5 hown hK hP hD hS 0 rfl rfl 2 (by decide) (hts (.fieldLink RX5 11 "StopSetterModel" "taped" "I") (by decide +kernel)) (fun _ h9 => h9) rfl (by decide +kernel) rfl rfl (Nat.le_of_ble_eq_true rfl) dX5_lay_66 (fun H locs hP hD hS => ?_)
        have hP : va_P (dC, dI) vwCl [(h0, .inr (5, [.int th, .ref Mtape, .int (nI (aq + 1)), .int (nI znq), .ref Msort, .ref Mplace, .ref Mvalue, .int (nI anq), .int ft, .ref Mwords, .int (nI hdq), .int (nI nxq), .ref Mgoes, .ref MgoLine, .ref Mends, .ref MendLine, .ref Mkinds, .ref MisName, .int (nI mnq), .ref Mrow, .ref MbyHand, .ref Mleast, .ref Msecond, .ref MendAt, .ref MgoAt, .ref MnodeBehind, .int lE, .ref MisOut, .ref MfirstEnd, .ref MfirstGo])), (Mtape, .inl (cI, 1600, .inl (upd faq aq (byM q0 0))))] H := hP
        have hD : va_D A [(h0, .inr (5, [.int th, .ref Mtape, .int (nI (aq + 1)), .int (nI znq), .ref Msort, .ref Mplace, .ref Mvalue, .int (nI anq), .int ft, .ref Mwords, .int (nI hdq), .int (nI nxq), .ref Mgoes, .ref MgoLine, .ref Mends, .ref MendLine, .ref Mkinds, .ref MisName, .int (nI mnq), .ref Mrow, .ref MbyHand, .ref Mleast, .ref Msecond, .ref MendAt, .ref MgoAt, .ref MnodeBehind, .int lE, .ref MisOut, .ref MfirstEnd, .ref MfirstGo])), (Mtape, .inl (cI, 1600, .inl (upd faq aq (byM q0 0))))] := hD
        refine lv_iinc (v := (-8)) (lv' := [(3, .int (-8)), (4, .int (byM q0 0)), (0, .ref h0), (1, .long q0)]) hx hb dX5_lay_69 hl (k := 1) rfl (by decide) (by decide) rfl (fun ls hl => ?_)
        refine lv_goto (tgt := 3) hx hb dX5_lay_72 (by decide) ?_
        exact lp_3_m8 (aq + 1) (upd faq aq (byM q0 0)) (by have h7 : sgn aq (byM q0 0) = aq + 1 := (by simp only [sgn, if_pos c_21, if_neg c_45]); have h8 := sgn_le (c := byM q0 0) haq; rw [h7] at h8; exact h8) (by have h7 : sgn aq (byM q0 0) = aq + 1 := (by simp only [sgn, if_pos c_21, if_neg c_45]); have h8 : sgF (byM q0) [] (sgn aq (byM q0 0)) = Tq := hTq; rw [h7] at h8; exact h8) (by have h7 : sgn aq (byM q0 0) = aq + 1 := (by simp only [sgn, if_pos c_21, if_neg c_45]); have h6 : sgM faq aq (byM q0 0) = (upd faq aq (byM q0 0)) := (by simp only [sgM, if_pos c_21, if_neg c_45]); have h8 : sgMF (byM q0) [] (sgM faq aq (byM q0 0)) (sgn aq (byM q0 0)) = Fq := hFq; rw [h7, h6] at h8; exact h8) _ _ _ hP hD hS (lv_sub hl [0, 2, 3] rfl)
    · skip
      refine lv_iload hx hb dX5_lay_24 (lv_at hl 0 rfl) ?_
      refine lv_bipush (v := 32) hx hb dX5_lay_26 (by decide) ?_
      refine lv_icmp_lt (tgt := 69) hx hb dX5_lay_28 (by decide) (fun c_28 => ?_) (fun c_28 => ?_)
      · skip
        refine lv_iinc (v := (-8)) (lv' := [(3, .int (-8)), (4, .int (byM q0 0)), (0, .ref h0), (1, .long q0)]) hx hb dX5_lay_69 hl (k := 1) rfl (by decide) (by decide) rfl (fun ls hl => ?_)
        refine lv_goto (tgt := 3) hx hb dX5_lay_72 (by decide) ?_
        exact lp_3_m8 aq faq (by have h7 : sgn aq (byM q0 0) = aq := (by simp only [sgn, if_neg c_21, if_pos c_28]); have h8 := sgn_le (c := byM q0 0) haq; rw [h7] at h8; exact h8) (by have h7 : sgn aq (byM q0 0) = aq := (by simp only [sgn, if_neg c_21, if_pos c_28]); have h8 : sgF (byM q0) [] (sgn aq (byM q0 0)) = Tq := hTq; rw [h7] at h8; exact h8) (by have h7 : sgn aq (byM q0 0) = aq := (by simp only [sgn, if_neg c_21, if_pos c_28]); have h6 : sgM faq aq (byM q0 0) = faq := (by simp only [sgM, if_neg c_21, if_pos c_28]); have h8 : sgMF (byM q0) [] (sgM faq aq (byM q0 0)) (sgn aq (byM q0 0)) = Fq := hFq; rw [h7, h6] at h8; exact h8) _ _ _ hP hD hS (lv_sub hl [0, 2, 3] rfl)
      · skip
        refine lv_iload hx hb dX5_lay_31 (lv_at hl 0 rfl) ?_
        refine lv_bipush (v := 126) hx hb dX5_lay_33 (by decide) ?_
        refine lv_icmp_gt (tgt := 69) hx hb dX5_lay_35 (by decide) (fun c_35 => ?_) (fun c_35 => ?_)
        · skip
          refine lv_iinc (v := (-8)) (lv' := [(3, .int (-8)), (4, .int (byM q0 0)), (0, .ref h0), (1, .long q0)]) hx hb dX5_lay_69 hl (k := 1) rfl (by decide) (by decide) rfl (fun ls hl => ?_)
          refine lv_goto (tgt := 3) hx hb dX5_lay_72 (by decide) ?_
          exact lp_3_m8 aq faq (by have h7 : sgn aq (byM q0 0) = aq := (by simp only [sgn, if_neg c_21, if_neg c_28, if_pos c_35]); have h8 := sgn_le (c := byM q0 0) haq; rw [h7] at h8; exact h8) (by have h7 : sgn aq (byM q0 0) = aq := (by simp only [sgn, if_neg c_21, if_neg c_28, if_pos c_35]); have h8 : sgF (byM q0) [] (sgn aq (byM q0 0)) = Tq := hTq; rw [h7] at h8; exact h8) (by have h7 : sgn aq (byM q0 0) = aq := (by simp only [sgn, if_neg c_21, if_neg c_28, if_pos c_35]); have h6 : sgM faq aq (byM q0 0) = faq := (by simp only [sgM, if_neg c_21, if_neg c_28, if_pos c_35]); have h8 : sgMF (byM q0) [] (sgM faq aq (byM q0 0)) (sgn aq (byM q0 0)) = Fq := hFq; rw [h7, h6] at h8; exact h8) _ _ _ hP hD hS (lv_sub hl [0, 2, 3] rfl)
        · skip
          refine lv_aload_n hx hb dX5_lay_38 rfl (lv_at hl 2 rfl) ?_
          refine va_get (D := (dC, dI)) (ci := 5) (v := .int (nI aq)) (C := RX5) (T := TX5) (N := 30) hx hb hts i5 hown hK hP 0 rfl rfl 2 (by decide) (hts (.fieldLink RX5 11 "StopSetterModel" "taped" "I") (by decide +kernel)) (fun _ h9 => h9) rfl dX5_lay_39 ?_
          refine lv_sipush (v := 1600) hx hb dX5_lay_42 (by decide) ?_
          refine lv_icmp_ge (tgt := 69) hx hb dX5_lay_45 (by decide) (fun c_45 => ?_) (fun c_45 => ?_)
          · skip
            refine lv_iinc (v := (-8)) (lv' := [(3, .int (-8)), (4, .int (byM q0 0)), (0, .ref h0), (1, .long q0)]) hx hb dX5_lay_69 hl (k := 1) rfl (by decide) (by decide) rfl (fun ls hl => ?_)
            refine lv_goto (tgt := 3) hx hb dX5_lay_72 (by decide) ?_
            exact lp_3_m8 aq faq (by have h7 : sgn aq (byM q0 0) = aq := (by simp only [sgn, if_neg c_21, if_neg c_28, if_neg c_35, if_pos c_45]); have h8 := sgn_le (c := byM q0 0) haq; rw [h7] at h8; exact h8) (by have h7 : sgn aq (byM q0 0) = aq := (by simp only [sgn, if_neg c_21, if_neg c_28, if_neg c_35, if_pos c_45]); have h8 : sgF (byM q0) [] (sgn aq (byM q0 0)) = Tq := hTq; rw [h7] at h8; exact h8) (by have h7 : sgn aq (byM q0 0) = aq := (by simp only [sgn, if_neg c_21, if_neg c_28, if_neg c_35, if_pos c_45]); have h6 : sgM faq aq (byM q0 0) = faq := (by simp only [sgM, if_neg c_21, if_neg c_28, if_neg c_35, if_pos c_45]); have h8 : sgMF (byM q0) [] (sgM faq aq (byM q0 0)) (sgn aq (byM q0 0)) = Fq := hFq; rw [h7, h6] at h8; exact h8) _ _ _ hP hD hS (lv_sub hl [0, 2, 3] rfl)
          · skip
            have hn3 : aq < 1600 := nk_lt (N := 1600) rfl c_45 (by omega)
            refine lv_aload_n hx hb dX5_lay_48 rfl (lv_at hl 2 rfl) ?_
            refine va_get (D := (dC, dI)) (ci := 5) (v := .ref Mtape) (C := RX5) (T := TX5) (N := 30) hx hb hts i5 hown hK hP 0 rfl rfl 1 (by decide) (hts (.fieldLink RX5 14 "StopSetterModel" "tape" "[I") (by decide +kernel)) (fun _ h9 => h9) rfl dX5_lay_49 ?_
            refine lv_aload_n hx hb dX5_lay_52 rfl (lv_at hl 2 rfl) ?_
            refine va_get (D := (dC, dI)) (ci := 5) (v := .int (nI aq)) (C := RX5) (T := TX5) (N := 30) hx hb hts i5 hown hK hP 0 rfl rfl 2 (by decide) (hts (.fieldLink RX5 11 "StopSetterModel" "taped" "I") (by decide +kernel)) (fun _ h9 => h9) rfl dX5_lay_53 ?_
            refine lv_iload hx hb dX5_lay_56 (lv_at hl 0 rfl) ?_
            refine va_iast hx hb hK hP hD hS 1 0 rfl rfl (vp_in_nI hn3 (by decide)) dX5_lay_58 (fun H locs hP hD hS => ?_)
            have hP : va_P (dC, dI) vwCl [(h0, .inr (5, [.int th, .ref Mtape, .int (nI aq), .int (nI znq), .ref Msort, .ref Mplace, .ref Mvalue, .int (nI anq), .int ft, .ref Mwords, .int (nI hdq), .int (nI nxq), .ref Mgoes, .ref MgoLine, .ref Mends, .ref MendLine, .ref Mkinds, .ref MisName, .int (nI mnq), .ref Mrow, .ref MbyHand, .ref Mleast, .ref Msecond, .ref MendAt, .ref MgoAt, .ref MnodeBehind, .int lE, .ref MisOut, .ref MfirstEnd, .ref MfirstGo])), (Mtape, .inl (cI, 1600, .inl (upd faq ((nI aq).toNatClampNeg) (byM q0 0))))] H := hP
            have hD : va_D A [(h0, .inr (5, [.int th, .ref Mtape, .int (nI aq), .int (nI znq), .ref Msort, .ref Mplace, .ref Mvalue, .int (nI anq), .int ft, .ref Mwords, .int (nI hdq), .int (nI nxq), .ref Mgoes, .ref MgoLine, .ref Mends, .ref MendLine, .ref Mkinds, .ref MisName, .int (nI mnq), .ref Mrow, .ref MbyHand, .ref Mleast, .ref Msecond, .ref MendAt, .ref MgoAt, .ref MnodeBehind, .int lE, .ref MisOut, .ref MfirstEnd, .ref MfirstGo])), (Mtape, .inl (cI, 1600, .inl (upd faq ((nI aq).toNatClampNeg) (byM q0 0))))] := hD
            rw [show (upd faq ((nI aq).toNatClampNeg) (byM q0 0)) = (upd faq aq (byM q0 0)) from by rw [nI_clamp (by omega)]] at hP hD
            have hP : va_P (dC, dI) vwCl [(h0, .inr (5, [.int th, .ref Mtape, .int (nI aq), .int (nI znq), .ref Msort, .ref Mplace, .ref Mvalue, .int (nI anq), .int ft, .ref Mwords, .int (nI hdq), .int (nI nxq), .ref Mgoes, .ref MgoLine, .ref Mends, .ref MendLine, .ref Mkinds, .ref MisName, .int (nI mnq), .ref Mrow, .ref MbyHand, .ref Mleast, .ref Msecond, .ref MendAt, .ref MgoAt, .ref MnodeBehind, .int lE, .ref MisOut, .ref MfirstEnd, .ref MfirstGo])), (Mtape, .inl (cI, 1600, .inl (upd faq aq (byM q0 0))))] H := hP
            have hD : va_D A [(h0, .inr (5, [.int th, .ref Mtape, .int (nI aq), .int (nI znq), .ref Msort, .ref Mplace, .ref Mvalue, .int (nI anq), .int ft, .ref Mwords, .int (nI hdq), .int (nI nxq), .ref Mgoes, .ref MgoLine, .ref Mends, .ref MendLine, .ref Mkinds, .ref MisName, .int (nI mnq), .ref Mrow, .ref MbyHand, .ref Mleast, .ref Msecond, .ref MendAt, .ref MgoAt, .ref MnodeBehind, .int lE, .ref MisOut, .ref MfirstEnd, .ref MfirstGo])), (Mtape, .inl (cI, 1600, .inl (upd faq aq (byM q0 0))))] := hD
            refine lv_aload_n hx hb dX5_lay_59 rfl (lv_at hl 2 rfl) ?_
            refine lv_dup hx hb dX5_lay_60 rfl ?_
            refine va_get (D := (dC, dI)) (ci := 5) (v := .int (nI aq)) (C := RX5) (T := TX5) (N := 30) hx hb hts i5 hown hK hP 0 rfl rfl 2 (by decide) (hts (.fieldLink RX5 11 "StopSetterModel" "taped" "I") (by decide +kernel)) (fun _ h9 => h9) rfl dX5_lay_61 ?_
            refine lv_iconst (v := 1) hx hb dX5_lay_64 (by decide) ?_
            refine lv_iadd hx hb dX5_lay_65 ?_
            refine lv_topi (fun v_ ev_ => ?_)
            obtain rfl : v_ = (nI (aq + 1)) := ev_.trans (nI_1 aq)
            refine va_put (D := (dC, dI)) (ci := 5) (v := .int (nI (aq + 1))) (ty := tyX5 2) (C := RX5) (T := TX5) (N := 30) hx hb hts i5 tyX5 tyX5_ok nmX5 hown hK hP hD hS 0 rfl rfl 2 (by decide) (hts (.fieldLink RX5 11 "StopSetterModel" "taped" "I") (by decide +kernel)) (fun _ h9 => h9) rfl (by decide +kernel) rfl rfl (Nat.le_of_ble_eq_true rfl) dX5_lay_66 (fun H locs hP hD hS => ?_)
            have hP : va_P (dC, dI) vwCl [(h0, .inr (5, [.int th, .ref Mtape, .int (nI (aq + 1)), .int (nI znq), .ref Msort, .ref Mplace, .ref Mvalue, .int (nI anq), .int ft, .ref Mwords, .int (nI hdq), .int (nI nxq), .ref Mgoes, .ref MgoLine, .ref Mends, .ref MendLine, .ref Mkinds, .ref MisName, .int (nI mnq), .ref Mrow, .ref MbyHand, .ref Mleast, .ref Msecond, .ref MendAt, .ref MgoAt, .ref MnodeBehind, .int lE, .ref MisOut, .ref MfirstEnd, .ref MfirstGo])), (Mtape, .inl (cI, 1600, .inl (upd faq aq (byM q0 0))))] H := hP
            have hD : va_D A [(h0, .inr (5, [.int th, .ref Mtape, .int (nI (aq + 1)), .int (nI znq), .ref Msort, .ref Mplace, .ref Mvalue, .int (nI anq), .int ft, .ref Mwords, .int (nI hdq), .int (nI nxq), .ref Mgoes, .ref MgoLine, .ref Mends, .ref MendLine, .ref Mkinds, .ref MisName, .int (nI mnq), .ref Mrow, .ref MbyHand, .ref Mleast, .ref Msecond, .ref MendAt, .ref MgoAt, .ref MnodeBehind, .int lE, .ref MisOut, .ref MfirstEnd, .ref MfirstGo])), (Mtape, .inl (cI, 1600, .inl (upd faq aq (byM q0 0))))] := hD
            refine lv_iinc (v := (-8)) (lv' := [(3, .int (-8)), (4, .int (byM q0 0)), (0, .ref h0), (1, .long q0)]) hx hb dX5_lay_69 hl (k := 1) rfl (by decide) (by decide) rfl (fun ls hl => ?_)
            refine lv_goto (tgt := 3) hx hb dX5_lay_72 (by decide) ?_
            exact lp_3_m8 (aq + 1) (upd faq aq (byM q0 0)) (by have h7 : sgn aq (byM q0 0) = aq + 1 := (by simp only [sgn, if_neg c_21, if_neg c_28, if_neg c_35, if_neg c_45]); have h8 := sgn_le (c := byM q0 0) haq; rw [h7] at h8; exact h8) (by have h7 : sgn aq (byM q0 0) = aq + 1 := (by simp only [sgn, if_neg c_21, if_neg c_28, if_neg c_35, if_neg c_45]); have h8 : sgF (byM q0) [] (sgn aq (byM q0 0)) = Tq := hTq; rw [h7] at h8; exact h8) (by have h7 : sgn aq (byM q0 0) = aq + 1 := (by simp only [sgn, if_neg c_21, if_neg c_28, if_neg c_35, if_neg c_45]); have h6 : sgM faq aq (byM q0 0) = (upd faq aq (byM q0 0)) := (by simp only [sgM, if_neg c_21, if_neg c_28, if_neg c_35, if_neg c_45]); have h8 : sgMF (byM q0) [] (sgM faq aq (byM q0 0)) (sgn aq (byM q0 0)) = Fq := hFq; rw [h7, h6] at h8; exact h8) _ _ _ hP hD hS (lv_sub hl [0, 2, 3] rfl)
  have lp_3_8 : ∀ (aq : Nat) (faq : Nat → Int32), aq ≤ 1600 → sgF (byM q0) [8, 0] aq = Tq → sgMF (byM q0) [8, 0] faq aq = Fq → ∀ (H : Heap) (locs : List Loc) (ls : Array Slot), va_P (dC, dI) vwCl [(h0, .inr (5, [.int th, .ref Mtape, .int (nI aq), .int (nI znq), .ref Msort, .ref Mplace, .ref Mvalue, .int (nI anq), .int ft, .ref Mwords, .int (nI hdq), .int (nI nxq), .ref Mgoes, .ref MgoLine, .ref Mends, .ref MendLine, .ref Mkinds, .ref MisName, .int (nI mnq), .ref Mrow, .ref MbyHand, .ref Mleast, .ref Msecond, .ref MendAt, .ref MgoAt, .ref MnodeBehind, .int lE, .ref MisOut, .ref MfirstEnd, .ref MfirstGo])), (Mtape, .inl (cI, 1600, .inl faq))] H → va_D A [(h0, .inr (5, [.int th, .ref Mtape, .int (nI aq), .int (nI znq), .ref Msort, .ref Mplace, .ref Mvalue, .int (nI anq), .int ft, .ref Mwords, .int (nI hdq), .int (nI nxq), .ref Mgoes, .ref MgoLine, .ref Mends, .ref MendLine, .ref Mkinds, .ref MisName, .int (nI mnq), .ref Mrow, .ref MbyHand, .ref Mleast, .ref Msecond, .ref MendAt, .ref MgoAt, .ref MnodeBehind, .int lE, .ref MisOut, .ref MfirstEnd, .ref MfirstGo])), (Mtape, .inl (cI, 1600, .inl faq))] → va_S A s.heap H locs → lv_has ls 5 [(3, .int 8), (0, .ref h0), (1, .long q0)] → W p l e (headSpec wsX5_lay ({ frames := 0, cells := 0, slots := 0, locals := 0 })).room s m ([.ref h0, .long q0]).toArray below meth c H locs 0 0 (MQ below (va_Qv (fun (u : (Nat) × (Nat → Int32)) => match u with | (tnq2, mtape2) => (tnq2 ≤ 1600) ∧ (tnq2 = sgF (byM q0) ks8 tnq) ∧ (mtape2 = sgMF (byM q0) ks8 mtape tnq)) (fun (u : (Nat) × (Nat → Int32)) t => match u with | (tnq2, mtape2) => sB dC dI A [(h0, .inr (5, [.int th, .ref Mtape, .int (nI tnq2), .int (nI znq), .ref Msort, .ref Mplace, .ref Mvalue, .int (nI anq), .int ft, .ref Mwords, .int (nI hdq), .int (nI nxq), .ref Mgoes, .ref MgoLine, .ref Mends, .ref MendLine, .ref Mkinds, .ref MisName, .int (nI mnq), .ref Mrow, .ref MbyHand, .ref Mleast, .ref Msecond, .ref MendAt, .ref MgoAt, .ref MnodeBehind, .int lE, .ref MisOut, .ref MfirstEnd, .ref MfirstGo])), (Mtape, .inl (cI, 1600, .inl mtape2))] t) A) ([.ref h0, .long q0]).toArray s 0 0 A) (F0 m 3 ls []) := by
    intro aq faq haq hTq hFq H locs ls hP hD hS hl
    refine lv_iload_n hx hb dX5_lay_3 rfl (lv_at hl 0 rfl) ?_
    refine lv_if_lt (tgt := 75) hx hb dX5_lay_4 (by decide) (fun h9 => absurd h9 (by decide)) (fun _ => ?_)
    refine lv_lload_n hx hb dX5_lay_7 rfl (lv_at hl 2 rfl) ?_
    refine lv_iload_n hx hb dX5_lay_8 rfl (lv_at hl 0 rfl) ?_
    refine lv_lshr (v := (q0 >>> ((8 : Int32).toInt64 &&& 63))) hx hb dX5_lay_9 rfl ?_
    refine lv_l2i (v := (q0 >>> ((8 : Int32).toInt64 &&& 63)).toInt32) hx hb dX5_lay_10 rfl ?_
    refine lv_sipush (v := 255) hx hb dX5_lay_11 (by decide) ?_
    refine lv_iand hx hb dX5_lay_14 ?_
    refine lv_topi (fun v_ ev_ => ?_)
    obtain rfl : v_ = (byM q0 8) := ev_.trans (rfl)
    refine lv_istore (lv' := [(4, .int (byM q0 8)), (3, .int 8), (0, .ref h0), (1, .long q0)]) hx hb dX5_lay_15 hl (by decide) rfl (fun ls hl => ?_)
    refine lv_iload hx hb dX5_lay_17 (lv_at hl 0 rfl) ?_
    refine lv_bipush (v := 10) hx hb dX5_lay_19 (by decide) ?_
    refine lv_icmp_eq (tgt := 38) hx hb dX5_lay_21 (by decide) (fun c_21 => ?_) (fun c_21 => ?_)
    · skip
      refine lv_aload_n hx hb dX5_lay_38 rfl (lv_at hl 2 rfl) ?_
      refine va_get (D := (dC, dI)) (ci := 5) (v := .int (nI aq)) (C := RX5) (T := TX5) (N := 30) hx hb hts i5 hown hK hP 0 rfl rfl 2 (by decide) (hts (.fieldLink RX5 11 "StopSetterModel" "taped" "I") (by decide +kernel)) (fun _ h9 => h9) rfl dX5_lay_39 ?_
      refine lv_sipush (v := 1600) hx hb dX5_lay_42 (by decide) ?_
      refine lv_icmp_ge (tgt := 69) hx hb dX5_lay_45 (by decide) (fun c_45 => ?_) (fun c_45 => ?_)
      · skip
        refine lv_iinc (v := 0) (lv' := [(3, .int 0), (4, .int (byM q0 8)), (0, .ref h0), (1, .long q0)]) hx hb dX5_lay_69 hl (k := 1) rfl (by decide) (by decide) rfl (fun ls hl => ?_)
        refine lv_goto (tgt := 3) hx hb dX5_lay_72 (by decide) ?_
        exact lp_3_0 aq faq (by have h7 : sgn aq (byM q0 8) = aq := (by simp only [sgn, if_pos c_21, if_pos c_45]); have h8 := sgn_le (c := byM q0 8) haq; rw [h7] at h8; exact h8) (by have h7 : sgn aq (byM q0 8) = aq := (by simp only [sgn, if_pos c_21, if_pos c_45]); have h8 : sgF (byM q0) [0] (sgn aq (byM q0 8)) = Tq := hTq; rw [h7] at h8; exact h8) (by have h7 : sgn aq (byM q0 8) = aq := (by simp only [sgn, if_pos c_21, if_pos c_45]); have h6 : sgM faq aq (byM q0 8) = faq := (by simp only [sgM, if_pos c_21, if_pos c_45]); have h8 : sgMF (byM q0) [0] (sgM faq aq (byM q0 8)) (sgn aq (byM q0 8)) = Fq := hFq; rw [h7, h6] at h8; exact h8) _ _ _ hP hD hS (lv_sub hl [0, 2, 3] rfl)
      · skip
        have hn3 : aq < 1600 := nk_lt (N := 1600) rfl c_45 (by omega)
        refine lv_aload_n hx hb dX5_lay_48 rfl (lv_at hl 2 rfl) ?_
        refine va_get (D := (dC, dI)) (ci := 5) (v := .ref Mtape) (C := RX5) (T := TX5) (N := 30) hx hb hts i5 hown hK hP 0 rfl rfl 1 (by decide) (hts (.fieldLink RX5 14 "StopSetterModel" "tape" "[I") (by decide +kernel)) (fun _ h9 => h9) rfl dX5_lay_49 ?_
        refine lv_aload_n hx hb dX5_lay_52 rfl (lv_at hl 2 rfl) ?_
        refine va_get (D := (dC, dI)) (ci := 5) (v := .int (nI aq)) (C := RX5) (T := TX5) (N := 30) hx hb hts i5 hown hK hP 0 rfl rfl 2 (by decide) (hts (.fieldLink RX5 11 "StopSetterModel" "taped" "I") (by decide +kernel)) (fun _ h9 => h9) rfl dX5_lay_53 ?_
        refine lv_iload hx hb dX5_lay_56 (lv_at hl 0 rfl) ?_
        refine va_iast hx hb hK hP hD hS 1 0 rfl rfl (vp_in_nI hn3 (by decide)) dX5_lay_58 (fun H locs hP hD hS => ?_)
        have hP : va_P (dC, dI) vwCl [(h0, .inr (5, [.int th, .ref Mtape, .int (nI aq), .int (nI znq), .ref Msort, .ref Mplace, .ref Mvalue, .int (nI anq), .int ft, .ref Mwords, .int (nI hdq), .int (nI nxq), .ref Mgoes, .ref MgoLine, .ref Mends, .ref MendLine, .ref Mkinds, .ref MisName, .int (nI mnq), .ref Mrow, .ref MbyHand, .ref Mleast, .ref Msecond, .ref MendAt, .ref MgoAt, .ref MnodeBehind, .int lE, .ref MisOut, .ref MfirstEnd, .ref MfirstGo])), (Mtape, .inl (cI, 1600, .inl (upd faq ((nI aq).toNatClampNeg) (byM q0 8))))] H := hP
        have hD : va_D A [(h0, .inr (5, [.int th, .ref Mtape, .int (nI aq), .int (nI znq), .ref Msort, .ref Mplace, .ref Mvalue, .int (nI anq), .int ft, .ref Mwords, .int (nI hdq), .int (nI nxq), .ref Mgoes, .ref MgoLine, .ref Mends, .ref MendLine, .ref Mkinds, .ref MisName, .int (nI mnq), .ref Mrow, .ref MbyHand, .ref Mleast, .ref Msecond, .ref MendAt, .ref MgoAt, .ref MnodeBehind, .int lE, .ref MisOut, .ref MfirstEnd, .ref MfirstGo])), (Mtape, .inl (cI, 1600, .inl (upd faq ((nI aq).toNatClampNeg) (byM q0 8))))] := hD
        rw [show (upd faq ((nI aq).toNatClampNeg) (byM q0 8)) = (upd faq aq (byM q0 8)) from by rw [nI_clamp (by omega)]] at hP hD
        have hP : va_P (dC, dI) vwCl [(h0, .inr (5, [.int th, .ref Mtape, .int (nI aq), .int (nI znq), .ref Msort, .ref Mplace, .ref Mvalue, .int (nI anq), .int ft, .ref Mwords, .int (nI hdq), .int (nI nxq), .ref Mgoes, .ref MgoLine, .ref Mends, .ref MendLine, .ref Mkinds, .ref MisName, .int (nI mnq), .ref Mrow, .ref MbyHand, .ref Mleast, .ref Msecond, .ref MendAt, .ref MgoAt, .ref MnodeBehind, .int lE, .ref MisOut, .ref MfirstEnd, .ref MfirstGo])), (Mtape, .inl (cI, 1600, .inl (upd faq aq (byM q0 8))))] H := hP
        have hD : va_D A [(h0, .inr (5, [.int th, .ref Mtape, .int (nI aq), .int (nI znq), .ref Msort, .ref Mplace, .ref Mvalue, .int (nI anq), .int ft, .ref Mwords, .int (nI hdq), .int (nI nxq), .ref Mgoes, .ref MgoLine, .ref Mends, .ref MendLine, .ref Mkinds, .ref MisName, .int (nI mnq), .ref Mrow, .ref MbyHand, .ref Mleast, .ref Msecond, .ref MendAt, .ref MgoAt, .ref MnodeBehind, .int lE, .ref MisOut, .ref MfirstEnd, .ref MfirstGo])), (Mtape, .inl (cI, 1600, .inl (upd faq aq (byM q0 8))))] := hD
        refine lv_aload_n hx hb dX5_lay_59 rfl (lv_at hl 2 rfl) ?_
        refine lv_dup hx hb dX5_lay_60 rfl ?_
        refine va_get (D := (dC, dI)) (ci := 5) (v := .int (nI aq)) (C := RX5) (T := TX5) (N := 30) hx hb hts i5 hown hK hP 0 rfl rfl 2 (by decide) (hts (.fieldLink RX5 11 "StopSetterModel" "taped" "I") (by decide +kernel)) (fun _ h9 => h9) rfl dX5_lay_61 ?_
        refine lv_iconst (v := 1) hx hb dX5_lay_64 (by decide) ?_
        refine lv_iadd hx hb dX5_lay_65 ?_
        refine lv_topi (fun v_ ev_ => ?_)
        obtain rfl : v_ = (nI (aq + 1)) := ev_.trans (nI_1 aq)
        refine va_put (D := (dC, dI)) (ci := 5) (v := .int (nI (aq + 1))) (ty := tyX5 2) (C := RX5) (T := TX5) (N := 30) hx hb hts i5 tyX5 tyX5_ok nmX5 hown hK hP hD hS 0 rfl rfl 2 (by decide) (hts (.fieldLink RX5 11 "StopSetterModel" "taped" "I") (by decide +kernel)) (fun _ h9 => h9) rfl (by decide +kernel) rfl rfl (Nat.le_of_ble_eq_true rfl) dX5_lay_66 (fun H locs hP hD hS => ?_)
        have hP : va_P (dC, dI) vwCl [(h0, .inr (5, [.int th, .ref Mtape, .int (nI (aq + 1)), .int (nI znq), .ref Msort, .ref Mplace, .ref Mvalue, .int (nI anq), .int ft, .ref Mwords, .int (nI hdq), .int (nI nxq), .ref Mgoes, .ref MgoLine, .ref Mends, .ref MendLine, .ref Mkinds, .ref MisName, .int (nI mnq), .ref Mrow, .ref MbyHand, .ref Mleast, .ref Msecond, .ref MendAt, .ref MgoAt, .ref MnodeBehind, .int lE, .ref MisOut, .ref MfirstEnd, .ref MfirstGo])), (Mtape, .inl (cI, 1600, .inl (upd faq aq (byM q0 8))))] H := hP
        have hD : va_D A [(h0, .inr (5, [.int th, .ref Mtape, .int (nI (aq + 1)), .int (nI znq), .ref Msort, .ref Mplace, .ref Mvalue, .int (nI anq), .int ft, .ref Mwords, .int (nI hdq), .int (nI nxq), .ref Mgoes, .ref MgoLine, .ref Mends, .ref MendLine, .ref Mkinds, .ref MisName, .int (nI mnq), .ref Mrow, .ref MbyHand, .ref Mleast, .ref Msecond, .ref MendAt, .ref MgoAt, .ref MnodeBehind, .int lE, .ref MisOut, .ref MfirstEnd, .ref MfirstGo])), (Mtape, .inl (cI, 1600, .inl (upd faq aq (byM q0 8))))] := hD
        refine lv_iinc (v := 0) (lv' := [(3, .int 0), (4, .int (byM q0 8)), (0, .ref h0), (1, .long q0)]) hx hb dX5_lay_69 hl (k := 1) rfl (by decide) (by decide) rfl (fun ls hl => ?_)
        refine lv_goto (tgt := 3) hx hb dX5_lay_72 (by decide) ?_
        exact lp_3_0 (aq + 1) (upd faq aq (byM q0 8)) (by have h7 : sgn aq (byM q0 8) = aq + 1 := (by simp only [sgn, if_pos c_21, if_neg c_45]); have h8 := sgn_le (c := byM q0 8) haq; rw [h7] at h8; exact h8) (by have h7 : sgn aq (byM q0 8) = aq + 1 := (by simp only [sgn, if_pos c_21, if_neg c_45]); have h8 : sgF (byM q0) [0] (sgn aq (byM q0 8)) = Tq := hTq; rw [h7] at h8; exact h8) (by have h7 : sgn aq (byM q0 8) = aq + 1 := (by simp only [sgn, if_pos c_21, if_neg c_45]); have h6 : sgM faq aq (byM q0 8) = (upd faq aq (byM q0 8)) := (by simp only [sgM, if_pos c_21, if_neg c_45]); have h8 : sgMF (byM q0) [0] (sgM faq aq (byM q0 8)) (sgn aq (byM q0 8)) = Fq := hFq; rw [h7, h6] at h8; exact h8) _ _ _ hP hD hS (lv_sub hl [0, 2, 3] rfl)
    · skip
      refine lv_iload hx hb dX5_lay_24 (lv_at hl 0 rfl) ?_
      refine lv_bipush (v := 32) hx hb dX5_lay_26 (by decide) ?_
      refine lv_icmp_lt (tgt := 69) hx hb dX5_lay_28 (by decide) (fun c_28 => ?_) (fun c_28 => ?_)
      · skip
        refine lv_iinc (v := 0) (lv' := [(3, .int 0), (4, .int (byM q0 8)), (0, .ref h0), (1, .long q0)]) hx hb dX5_lay_69 hl (k := 1) rfl (by decide) (by decide) rfl (fun ls hl => ?_)
        refine lv_goto (tgt := 3) hx hb dX5_lay_72 (by decide) ?_
        exact lp_3_0 aq faq (by have h7 : sgn aq (byM q0 8) = aq := (by simp only [sgn, if_neg c_21, if_pos c_28]); have h8 := sgn_le (c := byM q0 8) haq; rw [h7] at h8; exact h8) (by have h7 : sgn aq (byM q0 8) = aq := (by simp only [sgn, if_neg c_21, if_pos c_28]); have h8 : sgF (byM q0) [0] (sgn aq (byM q0 8)) = Tq := hTq; rw [h7] at h8; exact h8) (by have h7 : sgn aq (byM q0 8) = aq := (by simp only [sgn, if_neg c_21, if_pos c_28]); have h6 : sgM faq aq (byM q0 8) = faq := (by simp only [sgM, if_neg c_21, if_pos c_28]); have h8 : sgMF (byM q0) [0] (sgM faq aq (byM q0 8)) (sgn aq (byM q0 8)) = Fq := hFq; rw [h7, h6] at h8; exact h8) _ _ _ hP hD hS (lv_sub hl [0, 2, 3] rfl)
      · skip
        refine lv_iload hx hb dX5_lay_31 (lv_at hl 0 rfl) ?_
        refine lv_bipush (v := 126) hx hb dX5_lay_33 (by decide) ?_
        refine lv_icmp_gt (tgt := 69) hx hb dX5_lay_35 (by decide) (fun c_35 => ?_) (fun c_35 => ?_)
        · skip
          refine lv_iinc (v := 0) (lv' := [(3, .int 0), (4, .int (byM q0 8)), (0, .ref h0), (1, .long q0)]) hx hb dX5_lay_69 hl (k := 1) rfl (by decide) (by decide) rfl (fun ls hl => ?_)
          refine lv_goto (tgt := 3) hx hb dX5_lay_72 (by decide) ?_
          exact lp_3_0 aq faq (by have h7 : sgn aq (byM q0 8) = aq := (by simp only [sgn, if_neg c_21, if_neg c_28, if_pos c_35]); have h8 := sgn_le (c := byM q0 8) haq; rw [h7] at h8; exact h8) (by have h7 : sgn aq (byM q0 8) = aq := (by simp only [sgn, if_neg c_21, if_neg c_28, if_pos c_35]); have h8 : sgF (byM q0) [0] (sgn aq (byM q0 8)) = Tq := hTq; rw [h7] at h8; exact h8) (by have h7 : sgn aq (byM q0 8) = aq := (by simp only [sgn, if_neg c_21, if_neg c_28, if_pos c_35]); have h6 : sgM faq aq (byM q0 8) = faq := (by simp only [sgM, if_neg c_21, if_neg c_28, if_pos c_35]); have h8 : sgMF (byM q0) [0] (sgM faq aq (byM q0 8)) (sgn aq (byM q0 8)) = Fq := hFq; rw [h7, h6] at h8; exact h8) _ _ _ hP hD hS (lv_sub hl [0, 2, 3] rfl)
        · skip
          refine lv_aload_n hx hb dX5_lay_38 rfl (lv_at hl 2 rfl) ?_
          refine va_get (D := (dC, dI)) (ci := 5) (v := .int (nI aq)) (C := RX5) (T := TX5) (N := 30) hx hb hts i5 hown hK hP 0 rfl rfl 2 (by decide) (hts (.fieldLink RX5 11 "StopSetterModel" "taped" "I") (by decide +kernel)) (fun _ h9 => h9) rfl dX5_lay_39 ?_
          refine lv_sipush (v := 1600) hx hb dX5_lay_42 (by decide) ?_
          refine lv_icmp_ge (tgt := 69) hx hb dX5_lay_45 (by decide) (fun c_45 => ?_) (fun c_45 => ?_)
          · skip
            refine lv_iinc (v := 0) (lv' := [(3, .int 0), (4, .int (byM q0 8)), (0, .ref h0), (1, .long q0)]) hx hb dX5_lay_69 hl (k := 1) rfl (by decide) (by decide) rfl (fun ls hl => ?_)
            refine lv_goto (tgt := 3) hx hb dX5_lay_72 (by decide) ?_
            exact lp_3_0 aq faq (by have h7 : sgn aq (byM q0 8) = aq := (by simp only [sgn, if_neg c_21, if_neg c_28, if_neg c_35, if_pos c_45]); have h8 := sgn_le (c := byM q0 8) haq; rw [h7] at h8; exact h8) (by have h7 : sgn aq (byM q0 8) = aq := (by simp only [sgn, if_neg c_21, if_neg c_28, if_neg c_35, if_pos c_45]); have h8 : sgF (byM q0) [0] (sgn aq (byM q0 8)) = Tq := hTq; rw [h7] at h8; exact h8) (by have h7 : sgn aq (byM q0 8) = aq := (by simp only [sgn, if_neg c_21, if_neg c_28, if_neg c_35, if_pos c_45]); have h6 : sgM faq aq (byM q0 8) = faq := (by simp only [sgM, if_neg c_21, if_neg c_28, if_neg c_35, if_pos c_45]); have h8 : sgMF (byM q0) [0] (sgM faq aq (byM q0 8)) (sgn aq (byM q0 8)) = Fq := hFq; rw [h7, h6] at h8; exact h8) _ _ _ hP hD hS (lv_sub hl [0, 2, 3] rfl)
          · skip
            have hn3 : aq < 1600 := nk_lt (N := 1600) rfl c_45 (by omega)
            refine lv_aload_n hx hb dX5_lay_48 rfl (lv_at hl 2 rfl) ?_
            refine va_get (D := (dC, dI)) (ci := 5) (v := .ref Mtape) (C := RX5) (T := TX5) (N := 30) hx hb hts i5 hown hK hP 0 rfl rfl 1 (by decide) (hts (.fieldLink RX5 14 "StopSetterModel" "tape" "[I") (by decide +kernel)) (fun _ h9 => h9) rfl dX5_lay_49 ?_
            refine lv_aload_n hx hb dX5_lay_52 rfl (lv_at hl 2 rfl) ?_
            refine va_get (D := (dC, dI)) (ci := 5) (v := .int (nI aq)) (C := RX5) (T := TX5) (N := 30) hx hb hts i5 hown hK hP 0 rfl rfl 2 (by decide) (hts (.fieldLink RX5 11 "StopSetterModel" "taped" "I") (by decide +kernel)) (fun _ h9 => h9) rfl dX5_lay_53 ?_
            refine lv_iload hx hb dX5_lay_56 (lv_at hl 0 rfl) ?_
            refine va_iast hx hb hK hP hD hS 1 0 rfl rfl (vp_in_nI hn3 (by decide)) dX5_lay_58 (fun H locs hP hD hS => ?_)
            have hP : va_P (dC, dI) vwCl [(h0, .inr (5, [.int th, .ref Mtape, .int (nI aq), .int (nI znq), .ref Msort, .ref Mplace, .ref Mvalue, .int (nI anq), .int ft, .ref Mwords, .int (nI hdq), .int (nI nxq), .ref Mgoes, .ref MgoLine, .ref Mends, .ref MendLine, .ref Mkinds, .ref MisName, .int (nI mnq), .ref Mrow, .ref MbyHand, .ref Mleast, .ref Msecond, .ref MendAt, .ref MgoAt, .ref MnodeBehind, .int lE, .ref MisOut, .ref MfirstEnd, .ref MfirstGo])), (Mtape, .inl (cI, 1600, .inl (upd faq ((nI aq).toNatClampNeg) (byM q0 8))))] H := hP
            have hD : va_D A [(h0, .inr (5, [.int th, .ref Mtape, .int (nI aq), .int (nI znq), .ref Msort, .ref Mplace, .ref Mvalue, .int (nI anq), .int ft, .ref Mwords, .int (nI hdq), .int (nI nxq), .ref Mgoes, .ref MgoLine, .ref Mends, .ref MendLine, .ref Mkinds, .ref MisName, .int (nI mnq), .ref Mrow, .ref MbyHand, .ref Mleast, .ref Msecond, .ref MendAt, .ref MgoAt, .ref MnodeBehind, .int lE, .ref MisOut, .ref MfirstEnd, .ref MfirstGo])), (Mtape, .inl (cI, 1600, .inl (upd faq ((nI aq).toNatClampNeg) (byM q0 8))))] := hD
            rw [show (upd faq ((nI aq).toNatClampNeg) (byM q0 8)) = (upd faq aq (byM q0 8)) from by rw [nI_clamp (by omega)]] at hP hD
            have hP : va_P (dC, dI) vwCl [(h0, .inr (5, [.int th, .ref Mtape, .int (nI aq), .int (nI znq), .ref Msort, .ref Mplace, .ref Mvalue, .int (nI anq), .int ft, .ref Mwords, .int (nI hdq), .int (nI nxq), .ref Mgoes, .ref MgoLine, .ref Mends, .ref MendLine, .ref Mkinds, .ref MisName, .int (nI mnq), .ref Mrow, .ref MbyHand, .ref Mleast, .ref Msecond, .ref MendAt, .ref MgoAt, .ref MnodeBehind, .int lE, .ref MisOut, .ref MfirstEnd, .ref MfirstGo])), (Mtape, .inl (cI, 1600, .inl (upd faq aq (byM q0 8))))] H := hP
            have hD : va_D A [(h0, .inr (5, [.int th, .ref Mtape, .int (nI aq), .int (nI znq), .ref Msort, .ref Mplace, .ref Mvalue, .int (nI anq), .int ft, .ref Mwords, .int (nI hdq), .int (nI nxq), .ref Mgoes, .ref MgoLine, .ref Mends, .ref MendLine, .ref Mkinds, .ref MisName, .int (nI mnq), .ref Mrow, .ref MbyHand, .ref Mleast, .ref Msecond, .ref MendAt, .ref MgoAt, .ref MnodeBehind, .int lE, .ref MisOut, .ref MfirstEnd, .ref MfirstGo])), (Mtape, .inl (cI, 1600, .inl (upd faq aq (byM q0 8))))] := hD
            refine lv_aload_n hx hb dX5_lay_59 rfl (lv_at hl 2 rfl) ?_
            refine lv_dup hx hb dX5_lay_60 rfl ?_
            refine va_get (D := (dC, dI)) (ci := 5) (v := .int (nI aq)) (C := RX5) (T := TX5) (N := 30) hx hb hts i5 hown hK hP 0 rfl rfl 2 (by decide) (hts (.fieldLink RX5 11 "StopSetterModel" "taped" "I") (by decide +kernel)) (fun _ h9 => h9) rfl dX5_lay_61 ?_
            refine lv_iconst (v := 1) hx hb dX5_lay_64 (by decide) ?_
            refine lv_iadd hx hb dX5_lay_65 ?_
            refine lv_topi (fun v_ ev_ => ?_)
            obtain rfl : v_ = (nI (aq + 1)) := ev_.trans (nI_1 aq)
            refine va_put (D := (dC, dI)) (ci := 5) (v := .int (nI (aq + 1))) (ty := tyX5 2) (C := RX5) (T := TX5) (N := 30) hx hb hts i5 tyX5 tyX5_ok nmX5 hown hK hP hD hS 0 rfl rfl 2 (by decide) (hts (.fieldLink RX5 11 "StopSetterModel" "taped" "I") (by decide +kernel)) (fun _ h9 => h9) rfl (by decide +kernel) rfl rfl (Nat.le_of_ble_eq_true rfl) dX5_lay_66 (fun H locs hP hD hS => ?_)
            have hP : va_P (dC, dI) vwCl [(h0, .inr (5, [.int th, .ref Mtape, .int (nI (aq + 1)), .int (nI znq), .ref Msort, .ref Mplace, .ref Mvalue, .int (nI anq), .int ft, .ref Mwords, .int (nI hdq), .int (nI nxq), .ref Mgoes, .ref MgoLine, .ref Mends, .ref MendLine, .ref Mkinds, .ref MisName, .int (nI mnq), .ref Mrow, .ref MbyHand, .ref Mleast, .ref Msecond, .ref MendAt, .ref MgoAt, .ref MnodeBehind, .int lE, .ref MisOut, .ref MfirstEnd, .ref MfirstGo])), (Mtape, .inl (cI, 1600, .inl (upd faq aq (byM q0 8))))] H := hP
            have hD : va_D A [(h0, .inr (5, [.int th, .ref Mtape, .int (nI (aq + 1)), .int (nI znq), .ref Msort, .ref Mplace, .ref Mvalue, .int (nI anq), .int ft, .ref Mwords, .int (nI hdq), .int (nI nxq), .ref Mgoes, .ref MgoLine, .ref Mends, .ref MendLine, .ref Mkinds, .ref MisName, .int (nI mnq), .ref Mrow, .ref MbyHand, .ref Mleast, .ref Msecond, .ref MendAt, .ref MgoAt, .ref MnodeBehind, .int lE, .ref MisOut, .ref MfirstEnd, .ref MfirstGo])), (Mtape, .inl (cI, 1600, .inl (upd faq aq (byM q0 8))))] := hD
            refine lv_iinc (v := 0) (lv' := [(3, .int 0), (4, .int (byM q0 8)), (0, .ref h0), (1, .long q0)]) hx hb dX5_lay_69 hl (k := 1) rfl (by decide) (by decide) rfl (fun ls hl => ?_)
            refine lv_goto (tgt := 3) hx hb dX5_lay_72 (by decide) ?_
            exact lp_3_0 (aq + 1) (upd faq aq (byM q0 8)) (by have h7 : sgn aq (byM q0 8) = aq + 1 := (by simp only [sgn, if_neg c_21, if_neg c_28, if_neg c_35, if_neg c_45]); have h8 := sgn_le (c := byM q0 8) haq; rw [h7] at h8; exact h8) (by have h7 : sgn aq (byM q0 8) = aq + 1 := (by simp only [sgn, if_neg c_21, if_neg c_28, if_neg c_35, if_neg c_45]); have h8 : sgF (byM q0) [0] (sgn aq (byM q0 8)) = Tq := hTq; rw [h7] at h8; exact h8) (by have h7 : sgn aq (byM q0 8) = aq + 1 := (by simp only [sgn, if_neg c_21, if_neg c_28, if_neg c_35, if_neg c_45]); have h6 : sgM faq aq (byM q0 8) = (upd faq aq (byM q0 8)) := (by simp only [sgM, if_neg c_21, if_neg c_28, if_neg c_35, if_neg c_45]); have h8 : sgMF (byM q0) [0] (sgM faq aq (byM q0 8)) (sgn aq (byM q0 8)) = Fq := hFq; rw [h7, h6] at h8; exact h8) _ _ _ hP hD hS (lv_sub hl [0, 2, 3] rfl)
  have lp_3_16 : ∀ (aq : Nat) (faq : Nat → Int32), aq ≤ 1600 → sgF (byM q0) [16, 8, 0] aq = Tq → sgMF (byM q0) [16, 8, 0] faq aq = Fq → ∀ (H : Heap) (locs : List Loc) (ls : Array Slot), va_P (dC, dI) vwCl [(h0, .inr (5, [.int th, .ref Mtape, .int (nI aq), .int (nI znq), .ref Msort, .ref Mplace, .ref Mvalue, .int (nI anq), .int ft, .ref Mwords, .int (nI hdq), .int (nI nxq), .ref Mgoes, .ref MgoLine, .ref Mends, .ref MendLine, .ref Mkinds, .ref MisName, .int (nI mnq), .ref Mrow, .ref MbyHand, .ref Mleast, .ref Msecond, .ref MendAt, .ref MgoAt, .ref MnodeBehind, .int lE, .ref MisOut, .ref MfirstEnd, .ref MfirstGo])), (Mtape, .inl (cI, 1600, .inl faq))] H → va_D A [(h0, .inr (5, [.int th, .ref Mtape, .int (nI aq), .int (nI znq), .ref Msort, .ref Mplace, .ref Mvalue, .int (nI anq), .int ft, .ref Mwords, .int (nI hdq), .int (nI nxq), .ref Mgoes, .ref MgoLine, .ref Mends, .ref MendLine, .ref Mkinds, .ref MisName, .int (nI mnq), .ref Mrow, .ref MbyHand, .ref Mleast, .ref Msecond, .ref MendAt, .ref MgoAt, .ref MnodeBehind, .int lE, .ref MisOut, .ref MfirstEnd, .ref MfirstGo])), (Mtape, .inl (cI, 1600, .inl faq))] → va_S A s.heap H locs → lv_has ls 5 [(3, .int 16), (0, .ref h0), (1, .long q0)] → W p l e (headSpec wsX5_lay ({ frames := 0, cells := 0, slots := 0, locals := 0 })).room s m ([.ref h0, .long q0]).toArray below meth c H locs 0 0 (MQ below (va_Qv (fun (u : (Nat) × (Nat → Int32)) => match u with | (tnq2, mtape2) => (tnq2 ≤ 1600) ∧ (tnq2 = sgF (byM q0) ks8 tnq) ∧ (mtape2 = sgMF (byM q0) ks8 mtape tnq)) (fun (u : (Nat) × (Nat → Int32)) t => match u with | (tnq2, mtape2) => sB dC dI A [(h0, .inr (5, [.int th, .ref Mtape, .int (nI tnq2), .int (nI znq), .ref Msort, .ref Mplace, .ref Mvalue, .int (nI anq), .int ft, .ref Mwords, .int (nI hdq), .int (nI nxq), .ref Mgoes, .ref MgoLine, .ref Mends, .ref MendLine, .ref Mkinds, .ref MisName, .int (nI mnq), .ref Mrow, .ref MbyHand, .ref Mleast, .ref Msecond, .ref MendAt, .ref MgoAt, .ref MnodeBehind, .int lE, .ref MisOut, .ref MfirstEnd, .ref MfirstGo])), (Mtape, .inl (cI, 1600, .inl mtape2))] t) A) ([.ref h0, .long q0]).toArray s 0 0 A) (F0 m 3 ls []) := by
    intro aq faq haq hTq hFq H locs ls hP hD hS hl
    refine lv_iload_n hx hb dX5_lay_3 rfl (lv_at hl 0 rfl) ?_
    refine lv_if_lt (tgt := 75) hx hb dX5_lay_4 (by decide) (fun h9 => absurd h9 (by decide)) (fun _ => ?_)
    refine lv_lload_n hx hb dX5_lay_7 rfl (lv_at hl 2 rfl) ?_
    refine lv_iload_n hx hb dX5_lay_8 rfl (lv_at hl 0 rfl) ?_
    refine lv_lshr (v := (q0 >>> ((16 : Int32).toInt64 &&& 63))) hx hb dX5_lay_9 rfl ?_
    refine lv_l2i (v := (q0 >>> ((16 : Int32).toInt64 &&& 63)).toInt32) hx hb dX5_lay_10 rfl ?_
    refine lv_sipush (v := 255) hx hb dX5_lay_11 (by decide) ?_
    refine lv_iand hx hb dX5_lay_14 ?_
    refine lv_topi (fun v_ ev_ => ?_)
    obtain rfl : v_ = (byM q0 16) := ev_.trans (rfl)
    refine lv_istore (lv' := [(4, .int (byM q0 16)), (3, .int 16), (0, .ref h0), (1, .long q0)]) hx hb dX5_lay_15 hl (by decide) rfl (fun ls hl => ?_)
    refine lv_iload hx hb dX5_lay_17 (lv_at hl 0 rfl) ?_
    refine lv_bipush (v := 10) hx hb dX5_lay_19 (by decide) ?_
    refine lv_icmp_eq (tgt := 38) hx hb dX5_lay_21 (by decide) (fun c_21 => ?_) (fun c_21 => ?_)
    · skip
      refine lv_aload_n hx hb dX5_lay_38 rfl (lv_at hl 2 rfl) ?_
      refine va_get (D := (dC, dI)) (ci := 5) (v := .int (nI aq)) (C := RX5) (T := TX5) (N := 30) hx hb hts i5 hown hK hP 0 rfl rfl 2 (by decide) (hts (.fieldLink RX5 11 "StopSetterModel" "taped" "I") (by decide +kernel)) (fun _ h9 => h9) rfl dX5_lay_39 ?_
      refine lv_sipush (v := 1600) hx hb dX5_lay_42 (by decide) ?_
      refine lv_icmp_ge (tgt := 69) hx hb dX5_lay_45 (by decide) (fun c_45 => ?_) (fun c_45 => ?_)
      · skip
        refine lv_iinc (v := 8) (lv' := [(3, .int 8), (4, .int (byM q0 16)), (0, .ref h0), (1, .long q0)]) hx hb dX5_lay_69 hl (k := 1) rfl (by decide) (by decide) rfl (fun ls hl => ?_)
        refine lv_goto (tgt := 3) hx hb dX5_lay_72 (by decide) ?_
        exact lp_3_8 aq faq (by have h7 : sgn aq (byM q0 16) = aq := (by simp only [sgn, if_pos c_21, if_pos c_45]); have h8 := sgn_le (c := byM q0 16) haq; rw [h7] at h8; exact h8) (by have h7 : sgn aq (byM q0 16) = aq := (by simp only [sgn, if_pos c_21, if_pos c_45]); have h8 : sgF (byM q0) [8, 0] (sgn aq (byM q0 16)) = Tq := hTq; rw [h7] at h8; exact h8) (by have h7 : sgn aq (byM q0 16) = aq := (by simp only [sgn, if_pos c_21, if_pos c_45]); have h6 : sgM faq aq (byM q0 16) = faq := (by simp only [sgM, if_pos c_21, if_pos c_45]); have h8 : sgMF (byM q0) [8, 0] (sgM faq aq (byM q0 16)) (sgn aq (byM q0 16)) = Fq := hFq; rw [h7, h6] at h8; exact h8) _ _ _ hP hD hS (lv_sub hl [0, 2, 3] rfl)
      · skip
        have hn3 : aq < 1600 := nk_lt (N := 1600) rfl c_45 (by omega)
        refine lv_aload_n hx hb dX5_lay_48 rfl (lv_at hl 2 rfl) ?_
        refine va_get (D := (dC, dI)) (ci := 5) (v := .ref Mtape) (C := RX5) (T := TX5) (N := 30) hx hb hts i5 hown hK hP 0 rfl rfl 1 (by decide) (hts (.fieldLink RX5 14 "StopSetterModel" "tape" "[I") (by decide +kernel)) (fun _ h9 => h9) rfl dX5_lay_49 ?_
        refine lv_aload_n hx hb dX5_lay_52 rfl (lv_at hl 2 rfl) ?_
        refine va_get (D := (dC, dI)) (ci := 5) (v := .int (nI aq)) (C := RX5) (T := TX5) (N := 30) hx hb hts i5 hown hK hP 0 rfl rfl 2 (by decide) (hts (.fieldLink RX5 11 "StopSetterModel" "taped" "I") (by decide +kernel)) (fun _ h9 => h9) rfl dX5_lay_53 ?_
        refine lv_iload hx hb dX5_lay_56 (lv_at hl 0 rfl) ?_
        refine va_iast hx hb hK hP hD hS 1 0 rfl rfl (vp_in_nI hn3 (by decide)) dX5_lay_58 (fun H locs hP hD hS => ?_)
        have hP : va_P (dC, dI) vwCl [(h0, .inr (5, [.int th, .ref Mtape, .int (nI aq), .int (nI znq), .ref Msort, .ref Mplace, .ref Mvalue, .int (nI anq), .int ft, .ref Mwords, .int (nI hdq), .int (nI nxq), .ref Mgoes, .ref MgoLine, .ref Mends, .ref MendLine, .ref Mkinds, .ref MisName, .int (nI mnq), .ref Mrow, .ref MbyHand, .ref Mleast, .ref Msecond, .ref MendAt, .ref MgoAt, .ref MnodeBehind, .int lE, .ref MisOut, .ref MfirstEnd, .ref MfirstGo])), (Mtape, .inl (cI, 1600, .inl (upd faq ((nI aq).toNatClampNeg) (byM q0 16))))] H := hP
        have hD : va_D A [(h0, .inr (5, [.int th, .ref Mtape, .int (nI aq), .int (nI znq), .ref Msort, .ref Mplace, .ref Mvalue, .int (nI anq), .int ft, .ref Mwords, .int (nI hdq), .int (nI nxq), .ref Mgoes, .ref MgoLine, .ref Mends, .ref MendLine, .ref Mkinds, .ref MisName, .int (nI mnq), .ref Mrow, .ref MbyHand, .ref Mleast, .ref Msecond, .ref MendAt, .ref MgoAt, .ref MnodeBehind, .int lE, .ref MisOut, .ref MfirstEnd, .ref MfirstGo])), (Mtape, .inl (cI, 1600, .inl (upd faq ((nI aq).toNatClampNeg) (byM q0 16))))] := hD
        rw [show (upd faq ((nI aq).toNatClampNeg) (byM q0 16)) = (upd faq aq (byM q0 16)) from by rw [nI_clamp (by omega)]] at hP hD
        have hP : va_P (dC, dI) vwCl [(h0, .inr (5, [.int th, .ref Mtape, .int (nI aq), .int (nI znq), .ref Msort, .ref Mplace, .ref Mvalue, .int (nI anq), .int ft, .ref Mwords, .int (nI hdq), .int (nI nxq), .ref Mgoes, .ref MgoLine, .ref Mends, .ref MendLine, .ref Mkinds, .ref MisName, .int (nI mnq), .ref Mrow, .ref MbyHand, .ref Mleast, .ref Msecond, .ref MendAt, .ref MgoAt, .ref MnodeBehind, .int lE, .ref MisOut, .ref MfirstEnd, .ref MfirstGo])), (Mtape, .inl (cI, 1600, .inl (upd faq aq (byM q0 16))))] H := hP
        have hD : va_D A [(h0, .inr (5, [.int th, .ref Mtape, .int (nI aq), .int (nI znq), .ref Msort, .ref Mplace, .ref Mvalue, .int (nI anq), .int ft, .ref Mwords, .int (nI hdq), .int (nI nxq), .ref Mgoes, .ref MgoLine, .ref Mends, .ref MendLine, .ref Mkinds, .ref MisName, .int (nI mnq), .ref Mrow, .ref MbyHand, .ref Mleast, .ref Msecond, .ref MendAt, .ref MgoAt, .ref MnodeBehind, .int lE, .ref MisOut, .ref MfirstEnd, .ref MfirstGo])), (Mtape, .inl (cI, 1600, .inl (upd faq aq (byM q0 16))))] := hD
        refine lv_aload_n hx hb dX5_lay_59 rfl (lv_at hl 2 rfl) ?_
        refine lv_dup hx hb dX5_lay_60 rfl ?_
        refine va_get (D := (dC, dI)) (ci := 5) (v := .int (nI aq)) (C := RX5) (T := TX5) (N := 30) hx hb hts i5 hown hK hP 0 rfl rfl 2 (by decide) (hts (.fieldLink RX5 11 "StopSetterModel" "taped" "I") (by decide +kernel)) (fun _ h9 => h9) rfl dX5_lay_61 ?_
        refine lv_iconst (v := 1) hx hb dX5_lay_64 (by decide) ?_
        refine lv_iadd hx hb dX5_lay_65 ?_
        refine lv_topi (fun v_ ev_ => ?_)
        obtain rfl : v_ = (nI (aq + 1)) := ev_.trans (nI_1 aq)
        refine va_put (D := (dC, dI)) (ci := 5) (v := .int (nI (aq + 1))) (ty := tyX5 2) (C := RX5) (T := TX5) (N := 30) hx hb hts i5 tyX5 tyX5_ok nmX5 hown hK hP hD hS 0 rfl rfl 2 (by decide) (hts (.fieldLink RX5 11 "StopSetterModel" "taped" "I") (by decide +kernel)) (fun _ h9 => h9) rfl (by decide +kernel) rfl rfl (Nat.le_of_ble_eq_true rfl) dX5_lay_66 (fun H locs hP hD hS => ?_)
        have hP : va_P (dC, dI) vwCl [(h0, .inr (5, [.int th, .ref Mtape, .int (nI (aq + 1)), .int (nI znq), .ref Msort, .ref Mplace, .ref Mvalue, .int (nI anq), .int ft, .ref Mwords, .int (nI hdq), .int (nI nxq), .ref Mgoes, .ref MgoLine, .ref Mends, .ref MendLine, .ref Mkinds, .ref MisName, .int (nI mnq), .ref Mrow, .ref MbyHand, .ref Mleast, .ref Msecond, .ref MendAt, .ref MgoAt, .ref MnodeBehind, .int lE, .ref MisOut, .ref MfirstEnd, .ref MfirstGo])), (Mtape, .inl (cI, 1600, .inl (upd faq aq (byM q0 16))))] H := hP
        have hD : va_D A [(h0, .inr (5, [.int th, .ref Mtape, .int (nI (aq + 1)), .int (nI znq), .ref Msort, .ref Mplace, .ref Mvalue, .int (nI anq), .int ft, .ref Mwords, .int (nI hdq), .int (nI nxq), .ref Mgoes, .ref MgoLine, .ref Mends, .ref MendLine, .ref Mkinds, .ref MisName, .int (nI mnq), .ref Mrow, .ref MbyHand, .ref Mleast, .ref Msecond, .ref MendAt, .ref MgoAt, .ref MnodeBehind, .int lE, .ref MisOut, .ref MfirstEnd, .ref MfirstGo])), (Mtape, .inl (cI, 1600, .inl (upd faq aq (byM q0 16))))] := hD
        refine lv_iinc (v := 8) (lv' := [(3, .int 8), (4, .int (byM q0 16)), (0, .ref h0), (1, .long q0)]) hx hb dX5_lay_69 hl (k := 1) rfl (by decide) (by decide) rfl (fun ls hl => ?_)
        refine lv_goto (tgt := 3) hx hb dX5_lay_72 (by decide) ?_
        exact lp_3_8 (aq + 1) (upd faq aq (byM q0 16)) (by have h7 : sgn aq (byM q0 16) = aq + 1 := (by simp only [sgn, if_pos c_21, if_neg c_45]); have h8 := sgn_le (c := byM q0 16) haq; rw [h7] at h8; exact h8) (by have h7 : sgn aq (byM q0 16) = aq + 1 := (by simp only [sgn, if_pos c_21, if_neg c_45]); have h8 : sgF (byM q0) [8, 0] (sgn aq (byM q0 16)) = Tq := hTq; rw [h7] at h8; exact h8) (by have h7 : sgn aq (byM q0 16) = aq + 1 := (by simp only [sgn, if_pos c_21, if_neg c_45]); have h6 : sgM faq aq (byM q0 16) = (upd faq aq (byM q0 16)) := (by simp only [sgM, if_pos c_21, if_neg c_45]); have h8 : sgMF (byM q0) [8, 0] (sgM faq aq (byM q0 16)) (sgn aq (byM q0 16)) = Fq := hFq; rw [h7, h6] at h8; exact h8) _ _ _ hP hD hS (lv_sub hl [0, 2, 3] rfl)
    · skip
      refine lv_iload hx hb dX5_lay_24 (lv_at hl 0 rfl) ?_
      refine lv_bipush (v := 32) hx hb dX5_lay_26 (by decide) ?_
      refine lv_icmp_lt (tgt := 69) hx hb dX5_lay_28 (by decide) (fun c_28 => ?_) (fun c_28 => ?_)
      · skip
        refine lv_iinc (v := 8) (lv' := [(3, .int 8), (4, .int (byM q0 16)), (0, .ref h0), (1, .long q0)]) hx hb dX5_lay_69 hl (k := 1) rfl (by decide) (by decide) rfl (fun ls hl => ?_)
        refine lv_goto (tgt := 3) hx hb dX5_lay_72 (by decide) ?_
        exact lp_3_8 aq faq (by have h7 : sgn aq (byM q0 16) = aq := (by simp only [sgn, if_neg c_21, if_pos c_28]); have h8 := sgn_le (c := byM q0 16) haq; rw [h7] at h8; exact h8) (by have h7 : sgn aq (byM q0 16) = aq := (by simp only [sgn, if_neg c_21, if_pos c_28]); have h8 : sgF (byM q0) [8, 0] (sgn aq (byM q0 16)) = Tq := hTq; rw [h7] at h8; exact h8) (by have h7 : sgn aq (byM q0 16) = aq := (by simp only [sgn, if_neg c_21, if_pos c_28]); have h6 : sgM faq aq (byM q0 16) = faq := (by simp only [sgM, if_neg c_21, if_pos c_28]); have h8 : sgMF (byM q0) [8, 0] (sgM faq aq (byM q0 16)) (sgn aq (byM q0 16)) = Fq := hFq; rw [h7, h6] at h8; exact h8) _ _ _ hP hD hS (lv_sub hl [0, 2, 3] rfl)
      · skip
        refine lv_iload hx hb dX5_lay_31 (lv_at hl 0 rfl) ?_
        refine lv_bipush (v := 126) hx hb dX5_lay_33 (by decide) ?_
        refine lv_icmp_gt (tgt := 69) hx hb dX5_lay_35 (by decide) (fun c_35 => ?_) (fun c_35 => ?_)
        · skip
          refine lv_iinc (v := 8) (lv' := [(3, .int 8), (4, .int (byM q0 16)), (0, .ref h0), (1, .long q0)]) hx hb dX5_lay_69 hl (k := 1) rfl (by decide) (by decide) rfl (fun ls hl => ?_)
          refine lv_goto (tgt := 3) hx hb dX5_lay_72 (by decide) ?_
          exact lp_3_8 aq faq (by have h7 : sgn aq (byM q0 16) = aq := (by simp only [sgn, if_neg c_21, if_neg c_28, if_pos c_35]); have h8 := sgn_le (c := byM q0 16) haq; rw [h7] at h8; exact h8) (by have h7 : sgn aq (byM q0 16) = aq := (by simp only [sgn, if_neg c_21, if_neg c_28, if_pos c_35]); have h8 : sgF (byM q0) [8, 0] (sgn aq (byM q0 16)) = Tq := hTq; rw [h7] at h8; exact h8) (by have h7 : sgn aq (byM q0 16) = aq := (by simp only [sgn, if_neg c_21, if_neg c_28, if_pos c_35]); have h6 : sgM faq aq (byM q0 16) = faq := (by simp only [sgM, if_neg c_21, if_neg c_28, if_pos c_35]); have h8 : sgMF (byM q0) [8, 0] (sgM faq aq (byM q0 16)) (sgn aq (byM q0 16)) = Fq := hFq; rw [h7, h6] at h8; exact h8) _ _ _ hP hD hS (lv_sub hl [0, 2, 3] rfl)
        · skip
          refine lv_aload_n hx hb dX5_lay_38 rfl (lv_at hl 2 rfl) ?_
          refine va_get (D := (dC, dI)) (ci := 5) (v := .int (nI aq)) (C := RX5) (T := TX5) (N := 30) hx hb hts i5 hown hK hP 0 rfl rfl 2 (by decide) (hts (.fieldLink RX5 11 "StopSetterModel" "taped" "I") (by decide +kernel)) (fun _ h9 => h9) rfl dX5_lay_39 ?_
          refine lv_sipush (v := 1600) hx hb dX5_lay_42 (by decide) ?_
          refine lv_icmp_ge (tgt := 69) hx hb dX5_lay_45 (by decide) (fun c_45 => ?_) (fun c_45 => ?_)
          · skip
            refine lv_iinc (v := 8) (lv' := [(3, .int 8), (4, .int (byM q0 16)), (0, .ref h0), (1, .long q0)]) hx hb dX5_lay_69 hl (k := 1) rfl (by decide) (by decide) rfl (fun ls hl => ?_)
            refine lv_goto (tgt := 3) hx hb dX5_lay_72 (by decide) ?_
            exact lp_3_8 aq faq (by have h7 : sgn aq (byM q0 16) = aq := (by simp only [sgn, if_neg c_21, if_neg c_28, if_neg c_35, if_pos c_45]); have h8 := sgn_le (c := byM q0 16) haq; rw [h7] at h8; exact h8) (by have h7 : sgn aq (byM q0 16) = aq := (by simp only [sgn, if_neg c_21, if_neg c_28, if_neg c_35, if_pos c_45]); have h8 : sgF (byM q0) [8, 0] (sgn aq (byM q0 16)) = Tq := hTq; rw [h7] at h8; exact h8) (by have h7 : sgn aq (byM q0 16) = aq := (by simp only [sgn, if_neg c_21, if_neg c_28, if_neg c_35, if_pos c_45]); have h6 : sgM faq aq (byM q0 16) = faq := (by simp only [sgM, if_neg c_21, if_neg c_28, if_neg c_35, if_pos c_45]); have h8 : sgMF (byM q0) [8, 0] (sgM faq aq (byM q0 16)) (sgn aq (byM q0 16)) = Fq := hFq; rw [h7, h6] at h8; exact h8) _ _ _ hP hD hS (lv_sub hl [0, 2, 3] rfl)
          · skip
            have hn3 : aq < 1600 := nk_lt (N := 1600) rfl c_45 (by omega)
            refine lv_aload_n hx hb dX5_lay_48 rfl (lv_at hl 2 rfl) ?_
            refine va_get (D := (dC, dI)) (ci := 5) (v := .ref Mtape) (C := RX5) (T := TX5) (N := 30) hx hb hts i5 hown hK hP 0 rfl rfl 1 (by decide) (hts (.fieldLink RX5 14 "StopSetterModel" "tape" "[I") (by decide +kernel)) (fun _ h9 => h9) rfl dX5_lay_49 ?_
            refine lv_aload_n hx hb dX5_lay_52 rfl (lv_at hl 2 rfl) ?_
            refine va_get (D := (dC, dI)) (ci := 5) (v := .int (nI aq)) (C := RX5) (T := TX5) (N := 30) hx hb hts i5 hown hK hP 0 rfl rfl 2 (by decide) (hts (.fieldLink RX5 11 "StopSetterModel" "taped" "I") (by decide +kernel)) (fun _ h9 => h9) rfl dX5_lay_53 ?_
            refine lv_iload hx hb dX5_lay_56 (lv_at hl 0 rfl) ?_
            refine va_iast hx hb hK hP hD hS 1 0 rfl rfl (vp_in_nI hn3 (by decide)) dX5_lay_58 (fun H locs hP hD hS => ?_)
            have hP : va_P (dC, dI) vwCl [(h0, .inr (5, [.int th, .ref Mtape, .int (nI aq), .int (nI znq), .ref Msort, .ref Mplace, .ref Mvalue, .int (nI anq), .int ft, .ref Mwords, .int (nI hdq), .int (nI nxq), .ref Mgoes, .ref MgoLine, .ref Mends, .ref MendLine, .ref Mkinds, .ref MisName, .int (nI mnq), .ref Mrow, .ref MbyHand, .ref Mleast, .ref Msecond, .ref MendAt, .ref MgoAt, .ref MnodeBehind, .int lE, .ref MisOut, .ref MfirstEnd, .ref MfirstGo])), (Mtape, .inl (cI, 1600, .inl (upd faq ((nI aq).toNatClampNeg) (byM q0 16))))] H := hP
            have hD : va_D A [(h0, .inr (5, [.int th, .ref Mtape, .int (nI aq), .int (nI znq), .ref Msort, .ref Mplace, .ref Mvalue, .int (nI anq), .int ft, .ref Mwords, .int (nI hdq), .int (nI nxq), .ref Mgoes, .ref MgoLine, .ref Mends, .ref MendLine, .ref Mkinds, .ref MisName, .int (nI mnq), .ref Mrow, .ref MbyHand, .ref Mleast, .ref Msecond, .ref MendAt, .ref MgoAt, .ref MnodeBehind, .int lE, .ref MisOut, .ref MfirstEnd, .ref MfirstGo])), (Mtape, .inl (cI, 1600, .inl (upd faq ((nI aq).toNatClampNeg) (byM q0 16))))] := hD
            rw [show (upd faq ((nI aq).toNatClampNeg) (byM q0 16)) = (upd faq aq (byM q0 16)) from by rw [nI_clamp (by omega)]] at hP hD
            have hP : va_P (dC, dI) vwCl [(h0, .inr (5, [.int th, .ref Mtape, .int (nI aq), .int (nI znq), .ref Msort, .ref Mplace, .ref Mvalue, .int (nI anq), .int ft, .ref Mwords, .int (nI hdq), .int (nI nxq), .ref Mgoes, .ref MgoLine, .ref Mends, .ref MendLine, .ref Mkinds, .ref MisName, .int (nI mnq), .ref Mrow, .ref MbyHand, .ref Mleast, .ref Msecond, .ref MendAt, .ref MgoAt, .ref MnodeBehind, .int lE, .ref MisOut, .ref MfirstEnd, .ref MfirstGo])), (Mtape, .inl (cI, 1600, .inl (upd faq aq (byM q0 16))))] H := hP
            have hD : va_D A [(h0, .inr (5, [.int th, .ref Mtape, .int (nI aq), .int (nI znq), .ref Msort, .ref Mplace, .ref Mvalue, .int (nI anq), .int ft, .ref Mwords, .int (nI hdq), .int (nI nxq), .ref Mgoes, .ref MgoLine, .ref Mends, .ref MendLine, .ref Mkinds, .ref MisName, .int (nI mnq), .ref Mrow, .ref MbyHand, .ref Mleast, .ref Msecond, .ref MendAt, .ref MgoAt, .ref MnodeBehind, .int lE, .ref MisOut, .ref MfirstEnd, .ref MfirstGo])), (Mtape, .inl (cI, 1600, .inl (upd faq aq (byM q0 16))))] := hD
            refine lv_aload_n hx hb dX5_lay_59 rfl (lv_at hl 2 rfl) ?_
            refine lv_dup hx hb dX5_lay_60 rfl ?_
            refine va_get (D := (dC, dI)) (ci := 5) (v := .int (nI aq)) (C := RX5) (T := TX5) (N := 30) hx hb hts i5 hown hK hP 0 rfl rfl 2 (by decide) (hts (.fieldLink RX5 11 "StopSetterModel" "taped" "I") (by decide +kernel)) (fun _ h9 => h9) rfl dX5_lay_61 ?_
            refine lv_iconst (v := 1) hx hb dX5_lay_64 (by decide) ?_
            refine lv_iadd hx hb dX5_lay_65 ?_
            refine lv_topi (fun v_ ev_ => ?_)
            obtain rfl : v_ = (nI (aq + 1)) := ev_.trans (nI_1 aq)
            refine va_put (D := (dC, dI)) (ci := 5) (v := .int (nI (aq + 1))) (ty := tyX5 2) (C := RX5) (T := TX5) (N := 30) hx hb hts i5 tyX5 tyX5_ok nmX5 hown hK hP hD hS 0 rfl rfl 2 (by decide) (hts (.fieldLink RX5 11 "StopSetterModel" "taped" "I") (by decide +kernel)) (fun _ h9 => h9) rfl (by decide +kernel) rfl rfl (Nat.le_of_ble_eq_true rfl) dX5_lay_66 (fun H locs hP hD hS => ?_)
            have hP : va_P (dC, dI) vwCl [(h0, .inr (5, [.int th, .ref Mtape, .int (nI (aq + 1)), .int (nI znq), .ref Msort, .ref Mplace, .ref Mvalue, .int (nI anq), .int ft, .ref Mwords, .int (nI hdq), .int (nI nxq), .ref Mgoes, .ref MgoLine, .ref Mends, .ref MendLine, .ref Mkinds, .ref MisName, .int (nI mnq), .ref Mrow, .ref MbyHand, .ref Mleast, .ref Msecond, .ref MendAt, .ref MgoAt, .ref MnodeBehind, .int lE, .ref MisOut, .ref MfirstEnd, .ref MfirstGo])), (Mtape, .inl (cI, 1600, .inl (upd faq aq (byM q0 16))))] H := hP
            have hD : va_D A [(h0, .inr (5, [.int th, .ref Mtape, .int (nI (aq + 1)), .int (nI znq), .ref Msort, .ref Mplace, .ref Mvalue, .int (nI anq), .int ft, .ref Mwords, .int (nI hdq), .int (nI nxq), .ref Mgoes, .ref MgoLine, .ref Mends, .ref MendLine, .ref Mkinds, .ref MisName, .int (nI mnq), .ref Mrow, .ref MbyHand, .ref Mleast, .ref Msecond, .ref MendAt, .ref MgoAt, .ref MnodeBehind, .int lE, .ref MisOut, .ref MfirstEnd, .ref MfirstGo])), (Mtape, .inl (cI, 1600, .inl (upd faq aq (byM q0 16))))] := hD
            refine lv_iinc (v := 8) (lv' := [(3, .int 8), (4, .int (byM q0 16)), (0, .ref h0), (1, .long q0)]) hx hb dX5_lay_69 hl (k := 1) rfl (by decide) (by decide) rfl (fun ls hl => ?_)
            refine lv_goto (tgt := 3) hx hb dX5_lay_72 (by decide) ?_
            exact lp_3_8 (aq + 1) (upd faq aq (byM q0 16)) (by have h7 : sgn aq (byM q0 16) = aq + 1 := (by simp only [sgn, if_neg c_21, if_neg c_28, if_neg c_35, if_neg c_45]); have h8 := sgn_le (c := byM q0 16) haq; rw [h7] at h8; exact h8) (by have h7 : sgn aq (byM q0 16) = aq + 1 := (by simp only [sgn, if_neg c_21, if_neg c_28, if_neg c_35, if_neg c_45]); have h8 : sgF (byM q0) [8, 0] (sgn aq (byM q0 16)) = Tq := hTq; rw [h7] at h8; exact h8) (by have h7 : sgn aq (byM q0 16) = aq + 1 := (by simp only [sgn, if_neg c_21, if_neg c_28, if_neg c_35, if_neg c_45]); have h6 : sgM faq aq (byM q0 16) = (upd faq aq (byM q0 16)) := (by simp only [sgM, if_neg c_21, if_neg c_28, if_neg c_35, if_neg c_45]); have h8 : sgMF (byM q0) [8, 0] (sgM faq aq (byM q0 16)) (sgn aq (byM q0 16)) = Fq := hFq; rw [h7, h6] at h8; exact h8) _ _ _ hP hD hS (lv_sub hl [0, 2, 3] rfl)
  have lp_3_24 : ∀ (aq : Nat) (faq : Nat → Int32), aq ≤ 1600 → sgF (byM q0) [24, 16, 8, 0] aq = Tq → sgMF (byM q0) [24, 16, 8, 0] faq aq = Fq → ∀ (H : Heap) (locs : List Loc) (ls : Array Slot), va_P (dC, dI) vwCl [(h0, .inr (5, [.int th, .ref Mtape, .int (nI aq), .int (nI znq), .ref Msort, .ref Mplace, .ref Mvalue, .int (nI anq), .int ft, .ref Mwords, .int (nI hdq), .int (nI nxq), .ref Mgoes, .ref MgoLine, .ref Mends, .ref MendLine, .ref Mkinds, .ref MisName, .int (nI mnq), .ref Mrow, .ref MbyHand, .ref Mleast, .ref Msecond, .ref MendAt, .ref MgoAt, .ref MnodeBehind, .int lE, .ref MisOut, .ref MfirstEnd, .ref MfirstGo])), (Mtape, .inl (cI, 1600, .inl faq))] H → va_D A [(h0, .inr (5, [.int th, .ref Mtape, .int (nI aq), .int (nI znq), .ref Msort, .ref Mplace, .ref Mvalue, .int (nI anq), .int ft, .ref Mwords, .int (nI hdq), .int (nI nxq), .ref Mgoes, .ref MgoLine, .ref Mends, .ref MendLine, .ref Mkinds, .ref MisName, .int (nI mnq), .ref Mrow, .ref MbyHand, .ref Mleast, .ref Msecond, .ref MendAt, .ref MgoAt, .ref MnodeBehind, .int lE, .ref MisOut, .ref MfirstEnd, .ref MfirstGo])), (Mtape, .inl (cI, 1600, .inl faq))] → va_S A s.heap H locs → lv_has ls 5 [(3, .int 24), (0, .ref h0), (1, .long q0)] → W p l e (headSpec wsX5_lay ({ frames := 0, cells := 0, slots := 0, locals := 0 })).room s m ([.ref h0, .long q0]).toArray below meth c H locs 0 0 (MQ below (va_Qv (fun (u : (Nat) × (Nat → Int32)) => match u with | (tnq2, mtape2) => (tnq2 ≤ 1600) ∧ (tnq2 = sgF (byM q0) ks8 tnq) ∧ (mtape2 = sgMF (byM q0) ks8 mtape tnq)) (fun (u : (Nat) × (Nat → Int32)) t => match u with | (tnq2, mtape2) => sB dC dI A [(h0, .inr (5, [.int th, .ref Mtape, .int (nI tnq2), .int (nI znq), .ref Msort, .ref Mplace, .ref Mvalue, .int (nI anq), .int ft, .ref Mwords, .int (nI hdq), .int (nI nxq), .ref Mgoes, .ref MgoLine, .ref Mends, .ref MendLine, .ref Mkinds, .ref MisName, .int (nI mnq), .ref Mrow, .ref MbyHand, .ref Mleast, .ref Msecond, .ref MendAt, .ref MgoAt, .ref MnodeBehind, .int lE, .ref MisOut, .ref MfirstEnd, .ref MfirstGo])), (Mtape, .inl (cI, 1600, .inl mtape2))] t) A) ([.ref h0, .long q0]).toArray s 0 0 A) (F0 m 3 ls []) := by
    intro aq faq haq hTq hFq H locs ls hP hD hS hl
    refine lv_iload_n hx hb dX5_lay_3 rfl (lv_at hl 0 rfl) ?_
    refine lv_if_lt (tgt := 75) hx hb dX5_lay_4 (by decide) (fun h9 => absurd h9 (by decide)) (fun _ => ?_)
    refine lv_lload_n hx hb dX5_lay_7 rfl (lv_at hl 2 rfl) ?_
    refine lv_iload_n hx hb dX5_lay_8 rfl (lv_at hl 0 rfl) ?_
    refine lv_lshr (v := (q0 >>> ((24 : Int32).toInt64 &&& 63))) hx hb dX5_lay_9 rfl ?_
    refine lv_l2i (v := (q0 >>> ((24 : Int32).toInt64 &&& 63)).toInt32) hx hb dX5_lay_10 rfl ?_
    refine lv_sipush (v := 255) hx hb dX5_lay_11 (by decide) ?_
    refine lv_iand hx hb dX5_lay_14 ?_
    refine lv_topi (fun v_ ev_ => ?_)
    obtain rfl : v_ = (byM q0 24) := ev_.trans (rfl)
    refine lv_istore (lv' := [(4, .int (byM q0 24)), (3, .int 24), (0, .ref h0), (1, .long q0)]) hx hb dX5_lay_15 hl (by decide) rfl (fun ls hl => ?_)
    refine lv_iload hx hb dX5_lay_17 (lv_at hl 0 rfl) ?_
    refine lv_bipush (v := 10) hx hb dX5_lay_19 (by decide) ?_
    refine lv_icmp_eq (tgt := 38) hx hb dX5_lay_21 (by decide) (fun c_21 => ?_) (fun c_21 => ?_)
    · skip
      refine lv_aload_n hx hb dX5_lay_38 rfl (lv_at hl 2 rfl) ?_
      refine va_get (D := (dC, dI)) (ci := 5) (v := .int (nI aq)) (C := RX5) (T := TX5) (N := 30) hx hb hts i5 hown hK hP 0 rfl rfl 2 (by decide) (hts (.fieldLink RX5 11 "StopSetterModel" "taped" "I") (by decide +kernel)) (fun _ h9 => h9) rfl dX5_lay_39 ?_
      refine lv_sipush (v := 1600) hx hb dX5_lay_42 (by decide) ?_
      refine lv_icmp_ge (tgt := 69) hx hb dX5_lay_45 (by decide) (fun c_45 => ?_) (fun c_45 => ?_)
      · skip
        refine lv_iinc (v := 16) (lv' := [(3, .int 16), (4, .int (byM q0 24)), (0, .ref h0), (1, .long q0)]) hx hb dX5_lay_69 hl (k := 1) rfl (by decide) (by decide) rfl (fun ls hl => ?_)
        refine lv_goto (tgt := 3) hx hb dX5_lay_72 (by decide) ?_
        exact lp_3_16 aq faq (by have h7 : sgn aq (byM q0 24) = aq := (by simp only [sgn, if_pos c_21, if_pos c_45]); have h8 := sgn_le (c := byM q0 24) haq; rw [h7] at h8; exact h8) (by have h7 : sgn aq (byM q0 24) = aq := (by simp only [sgn, if_pos c_21, if_pos c_45]); have h8 : sgF (byM q0) [16, 8, 0] (sgn aq (byM q0 24)) = Tq := hTq; rw [h7] at h8; exact h8) (by have h7 : sgn aq (byM q0 24) = aq := (by simp only [sgn, if_pos c_21, if_pos c_45]); have h6 : sgM faq aq (byM q0 24) = faq := (by simp only [sgM, if_pos c_21, if_pos c_45]); have h8 : sgMF (byM q0) [16, 8, 0] (sgM faq aq (byM q0 24)) (sgn aq (byM q0 24)) = Fq := hFq; rw [h7, h6] at h8; exact h8) _ _ _ hP hD hS (lv_sub hl [0, 2, 3] rfl)
      · skip
        have hn3 : aq < 1600 := nk_lt (N := 1600) rfl c_45 (by omega)
        refine lv_aload_n hx hb dX5_lay_48 rfl (lv_at hl 2 rfl) ?_
        refine va_get (D := (dC, dI)) (ci := 5) (v := .ref Mtape) (C := RX5) (T := TX5) (N := 30) hx hb hts i5 hown hK hP 0 rfl rfl 1 (by decide) (hts (.fieldLink RX5 14 "StopSetterModel" "tape" "[I") (by decide +kernel)) (fun _ h9 => h9) rfl dX5_lay_49 ?_
        refine lv_aload_n hx hb dX5_lay_52 rfl (lv_at hl 2 rfl) ?_
        refine va_get (D := (dC, dI)) (ci := 5) (v := .int (nI aq)) (C := RX5) (T := TX5) (N := 30) hx hb hts i5 hown hK hP 0 rfl rfl 2 (by decide) (hts (.fieldLink RX5 11 "StopSetterModel" "taped" "I") (by decide +kernel)) (fun _ h9 => h9) rfl dX5_lay_53 ?_
        refine lv_iload hx hb dX5_lay_56 (lv_at hl 0 rfl) ?_
        refine va_iast hx hb hK hP hD hS 1 0 rfl rfl (vp_in_nI hn3 (by decide)) dX5_lay_58 (fun H locs hP hD hS => ?_)
        have hP : va_P (dC, dI) vwCl [(h0, .inr (5, [.int th, .ref Mtape, .int (nI aq), .int (nI znq), .ref Msort, .ref Mplace, .ref Mvalue, .int (nI anq), .int ft, .ref Mwords, .int (nI hdq), .int (nI nxq), .ref Mgoes, .ref MgoLine, .ref Mends, .ref MendLine, .ref Mkinds, .ref MisName, .int (nI mnq), .ref Mrow, .ref MbyHand, .ref Mleast, .ref Msecond, .ref MendAt, .ref MgoAt, .ref MnodeBehind, .int lE, .ref MisOut, .ref MfirstEnd, .ref MfirstGo])), (Mtape, .inl (cI, 1600, .inl (upd faq ((nI aq).toNatClampNeg) (byM q0 24))))] H := hP
        have hD : va_D A [(h0, .inr (5, [.int th, .ref Mtape, .int (nI aq), .int (nI znq), .ref Msort, .ref Mplace, .ref Mvalue, .int (nI anq), .int ft, .ref Mwords, .int (nI hdq), .int (nI nxq), .ref Mgoes, .ref MgoLine, .ref Mends, .ref MendLine, .ref Mkinds, .ref MisName, .int (nI mnq), .ref Mrow, .ref MbyHand, .ref Mleast, .ref Msecond, .ref MendAt, .ref MgoAt, .ref MnodeBehind, .int lE, .ref MisOut, .ref MfirstEnd, .ref MfirstGo])), (Mtape, .inl (cI, 1600, .inl (upd faq ((nI aq).toNatClampNeg) (byM q0 24))))] := hD
        rw [show (upd faq ((nI aq).toNatClampNeg) (byM q0 24)) = (upd faq aq (byM q0 24)) from by rw [nI_clamp (by omega)]] at hP hD
        have hP : va_P (dC, dI) vwCl [(h0, .inr (5, [.int th, .ref Mtape, .int (nI aq), .int (nI znq), .ref Msort, .ref Mplace, .ref Mvalue, .int (nI anq), .int ft, .ref Mwords, .int (nI hdq), .int (nI nxq), .ref Mgoes, .ref MgoLine, .ref Mends, .ref MendLine, .ref Mkinds, .ref MisName, .int (nI mnq), .ref Mrow, .ref MbyHand, .ref Mleast, .ref Msecond, .ref MendAt, .ref MgoAt, .ref MnodeBehind, .int lE, .ref MisOut, .ref MfirstEnd, .ref MfirstGo])), (Mtape, .inl (cI, 1600, .inl (upd faq aq (byM q0 24))))] H := hP
        have hD : va_D A [(h0, .inr (5, [.int th, .ref Mtape, .int (nI aq), .int (nI znq), .ref Msort, .ref Mplace, .ref Mvalue, .int (nI anq), .int ft, .ref Mwords, .int (nI hdq), .int (nI nxq), .ref Mgoes, .ref MgoLine, .ref Mends, .ref MendLine, .ref Mkinds, .ref MisName, .int (nI mnq), .ref Mrow, .ref MbyHand, .ref Mleast, .ref Msecond, .ref MendAt, .ref MgoAt, .ref MnodeBehind, .int lE, .ref MisOut, .ref MfirstEnd, .ref MfirstGo])), (Mtape, .inl (cI, 1600, .inl (upd faq aq (byM q0 24))))] := hD
        refine lv_aload_n hx hb dX5_lay_59 rfl (lv_at hl 2 rfl) ?_
        refine lv_dup hx hb dX5_lay_60 rfl ?_
        refine va_get (D := (dC, dI)) (ci := 5) (v := .int (nI aq)) (C := RX5) (T := TX5) (N := 30) hx hb hts i5 hown hK hP 0 rfl rfl 2 (by decide) (hts (.fieldLink RX5 11 "StopSetterModel" "taped" "I") (by decide +kernel)) (fun _ h9 => h9) rfl dX5_lay_61 ?_
        refine lv_iconst (v := 1) hx hb dX5_lay_64 (by decide) ?_
        refine lv_iadd hx hb dX5_lay_65 ?_
        refine lv_topi (fun v_ ev_ => ?_)
        obtain rfl : v_ = (nI (aq + 1)) := ev_.trans (nI_1 aq)
        refine va_put (D := (dC, dI)) (ci := 5) (v := .int (nI (aq + 1))) (ty := tyX5 2) (C := RX5) (T := TX5) (N := 30) hx hb hts i5 tyX5 tyX5_ok nmX5 hown hK hP hD hS 0 rfl rfl 2 (by decide) (hts (.fieldLink RX5 11 "StopSetterModel" "taped" "I") (by decide +kernel)) (fun _ h9 => h9) rfl (by decide +kernel) rfl rfl (Nat.le_of_ble_eq_true rfl) dX5_lay_66 (fun H locs hP hD hS => ?_)
        have hP : va_P (dC, dI) vwCl [(h0, .inr (5, [.int th, .ref Mtape, .int (nI (aq + 1)), .int (nI znq), .ref Msort, .ref Mplace, .ref Mvalue, .int (nI anq), .int ft, .ref Mwords, .int (nI hdq), .int (nI nxq), .ref Mgoes, .ref MgoLine, .ref Mends, .ref MendLine, .ref Mkinds, .ref MisName, .int (nI mnq), .ref Mrow, .ref MbyHand, .ref Mleast, .ref Msecond, .ref MendAt, .ref MgoAt, .ref MnodeBehind, .int lE, .ref MisOut, .ref MfirstEnd, .ref MfirstGo])), (Mtape, .inl (cI, 1600, .inl (upd faq aq (byM q0 24))))] H := hP
        have hD : va_D A [(h0, .inr (5, [.int th, .ref Mtape, .int (nI (aq + 1)), .int (nI znq), .ref Msort, .ref Mplace, .ref Mvalue, .int (nI anq), .int ft, .ref Mwords, .int (nI hdq), .int (nI nxq), .ref Mgoes, .ref MgoLine, .ref Mends, .ref MendLine, .ref Mkinds, .ref MisName, .int (nI mnq), .ref Mrow, .ref MbyHand, .ref Mleast, .ref Msecond, .ref MendAt, .ref MgoAt, .ref MnodeBehind, .int lE, .ref MisOut, .ref MfirstEnd, .ref MfirstGo])), (Mtape, .inl (cI, 1600, .inl (upd faq aq (byM q0 24))))] := hD
        refine lv_iinc (v := 16) (lv' := [(3, .int 16), (4, .int (byM q0 24)), (0, .ref h0), (1, .long q0)]) hx hb dX5_lay_69 hl (k := 1) rfl (by decide) (by decide) rfl (fun ls hl => ?_)
        refine lv_goto (tgt := 3) hx hb dX5_lay_72 (by decide) ?_
        exact lp_3_16 (aq + 1) (upd faq aq (byM q0 24)) (by have h7 : sgn aq (byM q0 24) = aq + 1 := (by simp only [sgn, if_pos c_21, if_neg c_45]); have h8 := sgn_le (c := byM q0 24) haq; rw [h7] at h8; exact h8) (by have h7 : sgn aq (byM q0 24) = aq + 1 := (by simp only [sgn, if_pos c_21, if_neg c_45]); have h8 : sgF (byM q0) [16, 8, 0] (sgn aq (byM q0 24)) = Tq := hTq; rw [h7] at h8; exact h8) (by have h7 : sgn aq (byM q0 24) = aq + 1 := (by simp only [sgn, if_pos c_21, if_neg c_45]); have h6 : sgM faq aq (byM q0 24) = (upd faq aq (byM q0 24)) := (by simp only [sgM, if_pos c_21, if_neg c_45]); have h8 : sgMF (byM q0) [16, 8, 0] (sgM faq aq (byM q0 24)) (sgn aq (byM q0 24)) = Fq := hFq; rw [h7, h6] at h8; exact h8) _ _ _ hP hD hS (lv_sub hl [0, 2, 3] rfl)
    · skip
      refine lv_iload hx hb dX5_lay_24 (lv_at hl 0 rfl) ?_
      refine lv_bipush (v := 32) hx hb dX5_lay_26 (by decide) ?_
      refine lv_icmp_lt (tgt := 69) hx hb dX5_lay_28 (by decide) (fun c_28 => ?_) (fun c_28 => ?_)
      · skip
        refine lv_iinc (v := 16) (lv' := [(3, .int 16), (4, .int (byM q0 24)), (0, .ref h0), (1, .long q0)]) hx hb dX5_lay_69 hl (k := 1) rfl (by decide) (by decide) rfl (fun ls hl => ?_)
        refine lv_goto (tgt := 3) hx hb dX5_lay_72 (by decide) ?_
        exact lp_3_16 aq faq (by have h7 : sgn aq (byM q0 24) = aq := (by simp only [sgn, if_neg c_21, if_pos c_28]); have h8 := sgn_le (c := byM q0 24) haq; rw [h7] at h8; exact h8) (by have h7 : sgn aq (byM q0 24) = aq := (by simp only [sgn, if_neg c_21, if_pos c_28]); have h8 : sgF (byM q0) [16, 8, 0] (sgn aq (byM q0 24)) = Tq := hTq; rw [h7] at h8; exact h8) (by have h7 : sgn aq (byM q0 24) = aq := (by simp only [sgn, if_neg c_21, if_pos c_28]); have h6 : sgM faq aq (byM q0 24) = faq := (by simp only [sgM, if_neg c_21, if_pos c_28]); have h8 : sgMF (byM q0) [16, 8, 0] (sgM faq aq (byM q0 24)) (sgn aq (byM q0 24)) = Fq := hFq; rw [h7, h6] at h8; exact h8) _ _ _ hP hD hS (lv_sub hl [0, 2, 3] rfl)
      · skip
        refine lv_iload hx hb dX5_lay_31 (lv_at hl 0 rfl) ?_
        refine lv_bipush (v := 126) hx hb dX5_lay_33 (by decide) ?_
        refine lv_icmp_gt (tgt := 69) hx hb dX5_lay_35 (by decide) (fun c_35 => ?_) (fun c_35 => ?_)
        · skip
          refine lv_iinc (v := 16) (lv' := [(3, .int 16), (4, .int (byM q0 24)), (0, .ref h0), (1, .long q0)]) hx hb dX5_lay_69 hl (k := 1) rfl (by decide) (by decide) rfl (fun ls hl => ?_)
          refine lv_goto (tgt := 3) hx hb dX5_lay_72 (by decide) ?_
          exact lp_3_16 aq faq (by have h7 : sgn aq (byM q0 24) = aq := (by simp only [sgn, if_neg c_21, if_neg c_28, if_pos c_35]); have h8 := sgn_le (c := byM q0 24) haq; rw [h7] at h8; exact h8) (by have h7 : sgn aq (byM q0 24) = aq := (by simp only [sgn, if_neg c_21, if_neg c_28, if_pos c_35]); have h8 : sgF (byM q0) [16, 8, 0] (sgn aq (byM q0 24)) = Tq := hTq; rw [h7] at h8; exact h8) (by have h7 : sgn aq (byM q0 24) = aq := (by simp only [sgn, if_neg c_21, if_neg c_28, if_pos c_35]); have h6 : sgM faq aq (byM q0 24) = faq := (by simp only [sgM, if_neg c_21, if_neg c_28, if_pos c_35]); have h8 : sgMF (byM q0) [16, 8, 0] (sgM faq aq (byM q0 24)) (sgn aq (byM q0 24)) = Fq := hFq; rw [h7, h6] at h8; exact h8) _ _ _ hP hD hS (lv_sub hl [0, 2, 3] rfl)
        · skip
          refine lv_aload_n hx hb dX5_lay_38 rfl (lv_at hl 2 rfl) ?_
          refine va_get (D := (dC, dI)) (ci := 5) (v := .int (nI aq)) (C := RX5) (T := TX5) (N := 30) hx hb hts i5 hown hK hP 0 rfl rfl 2 (by decide) (hts (.fieldLink RX5 11 "StopSetterModel" "taped" "I") (by decide +kernel)) (fun _ h9 => h9) rfl dX5_lay_39 ?_
          refine lv_sipush (v := 1600) hx hb dX5_lay_42 (by decide) ?_
          refine lv_icmp_ge (tgt := 69) hx hb dX5_lay_45 (by decide) (fun c_45 => ?_) (fun c_45 => ?_)
          · skip
            refine lv_iinc (v := 16) (lv' := [(3, .int 16), (4, .int (byM q0 24)), (0, .ref h0), (1, .long q0)]) hx hb dX5_lay_69 hl (k := 1) rfl (by decide) (by decide) rfl (fun ls hl => ?_)
            refine lv_goto (tgt := 3) hx hb dX5_lay_72 (by decide) ?_
            exact lp_3_16 aq faq (by have h7 : sgn aq (byM q0 24) = aq := (by simp only [sgn, if_neg c_21, if_neg c_28, if_neg c_35, if_pos c_45]); have h8 := sgn_le (c := byM q0 24) haq; rw [h7] at h8; exact h8) (by have h7 : sgn aq (byM q0 24) = aq := (by simp only [sgn, if_neg c_21, if_neg c_28, if_neg c_35, if_pos c_45]); have h8 : sgF (byM q0) [16, 8, 0] (sgn aq (byM q0 24)) = Tq := hTq; rw [h7] at h8; exact h8) (by have h7 : sgn aq (byM q0 24) = aq := (by simp only [sgn, if_neg c_21, if_neg c_28, if_neg c_35, if_pos c_45]); have h6 : sgM faq aq (byM q0 24) = faq := (by simp only [sgM, if_neg c_21, if_neg c_28, if_neg c_35, if_pos c_45]); have h8 : sgMF (byM q0) [16, 8, 0] (sgM faq aq (byM q0 24)) (sgn aq (byM q0 24)) = Fq := hFq; rw [h7, h6] at h8; exact h8) _ _ _ hP hD hS (lv_sub hl [0, 2, 3] rfl)
          · skip
            have hn3 : aq < 1600 := nk_lt (N := 1600) rfl c_45 (by omega)
            refine lv_aload_n hx hb dX5_lay_48 rfl (lv_at hl 2 rfl) ?_
            refine va_get (D := (dC, dI)) (ci := 5) (v := .ref Mtape) (C := RX5) (T := TX5) (N := 30) hx hb hts i5 hown hK hP 0 rfl rfl 1 (by decide) (hts (.fieldLink RX5 14 "StopSetterModel" "tape" "[I") (by decide +kernel)) (fun _ h9 => h9) rfl dX5_lay_49 ?_
            refine lv_aload_n hx hb dX5_lay_52 rfl (lv_at hl 2 rfl) ?_
            refine va_get (D := (dC, dI)) (ci := 5) (v := .int (nI aq)) (C := RX5) (T := TX5) (N := 30) hx hb hts i5 hown hK hP 0 rfl rfl 2 (by decide) (hts (.fieldLink RX5 11 "StopSetterModel" "taped" "I") (by decide +kernel)) (fun _ h9 => h9) rfl dX5_lay_53 ?_
            refine lv_iload hx hb dX5_lay_56 (lv_at hl 0 rfl) ?_
            refine va_iast hx hb hK hP hD hS 1 0 rfl rfl (vp_in_nI hn3 (by decide)) dX5_lay_58 (fun H locs hP hD hS => ?_)
            have hP : va_P (dC, dI) vwCl [(h0, .inr (5, [.int th, .ref Mtape, .int (nI aq), .int (nI znq), .ref Msort, .ref Mplace, .ref Mvalue, .int (nI anq), .int ft, .ref Mwords, .int (nI hdq), .int (nI nxq), .ref Mgoes, .ref MgoLine, .ref Mends, .ref MendLine, .ref Mkinds, .ref MisName, .int (nI mnq), .ref Mrow, .ref MbyHand, .ref Mleast, .ref Msecond, .ref MendAt, .ref MgoAt, .ref MnodeBehind, .int lE, .ref MisOut, .ref MfirstEnd, .ref MfirstGo])), (Mtape, .inl (cI, 1600, .inl (upd faq ((nI aq).toNatClampNeg) (byM q0 24))))] H := hP
            have hD : va_D A [(h0, .inr (5, [.int th, .ref Mtape, .int (nI aq), .int (nI znq), .ref Msort, .ref Mplace, .ref Mvalue, .int (nI anq), .int ft, .ref Mwords, .int (nI hdq), .int (nI nxq), .ref Mgoes, .ref MgoLine, .ref Mends, .ref MendLine, .ref Mkinds, .ref MisName, .int (nI mnq), .ref Mrow, .ref MbyHand, .ref Mleast, .ref Msecond, .ref MendAt, .ref MgoAt, .ref MnodeBehind, .int lE, .ref MisOut, .ref MfirstEnd, .ref MfirstGo])), (Mtape, .inl (cI, 1600, .inl (upd faq ((nI aq).toNatClampNeg) (byM q0 24))))] := hD
            rw [show (upd faq ((nI aq).toNatClampNeg) (byM q0 24)) = (upd faq aq (byM q0 24)) from by rw [nI_clamp (by omega)]] at hP hD
            have hP : va_P (dC, dI) vwCl [(h0, .inr (5, [.int th, .ref Mtape, .int (nI aq), .int (nI znq), .ref Msort, .ref Mplace, .ref Mvalue, .int (nI anq), .int ft, .ref Mwords, .int (nI hdq), .int (nI nxq), .ref Mgoes, .ref MgoLine, .ref Mends, .ref MendLine, .ref Mkinds, .ref MisName, .int (nI mnq), .ref Mrow, .ref MbyHand, .ref Mleast, .ref Msecond, .ref MendAt, .ref MgoAt, .ref MnodeBehind, .int lE, .ref MisOut, .ref MfirstEnd, .ref MfirstGo])), (Mtape, .inl (cI, 1600, .inl (upd faq aq (byM q0 24))))] H := hP
            have hD : va_D A [(h0, .inr (5, [.int th, .ref Mtape, .int (nI aq), .int (nI znq), .ref Msort, .ref Mplace, .ref Mvalue, .int (nI anq), .int ft, .ref Mwords, .int (nI hdq), .int (nI nxq), .ref Mgoes, .ref MgoLine, .ref Mends, .ref MendLine, .ref Mkinds, .ref MisName, .int (nI mnq), .ref Mrow, .ref MbyHand, .ref Mleast, .ref Msecond, .ref MendAt, .ref MgoAt, .ref MnodeBehind, .int lE, .ref MisOut, .ref MfirstEnd, .ref MfirstGo])), (Mtape, .inl (cI, 1600, .inl (upd faq aq (byM q0 24))))] := hD
            refine lv_aload_n hx hb dX5_lay_59 rfl (lv_at hl 2 rfl) ?_
            refine lv_dup hx hb dX5_lay_60 rfl ?_
            refine va_get (D := (dC, dI)) (ci := 5) (v := .int (nI aq)) (C := RX5) (T := TX5) (N := 30) hx hb hts i5 hown hK hP 0 rfl rfl 2 (by decide) (hts (.fieldLink RX5 11 "StopSetterModel" "taped" "I") (by decide +kernel)) (fun _ h9 => h9) rfl dX5_lay_61 ?_
            refine lv_iconst (v := 1) hx hb dX5_lay_64 (by decide) ?_
            refine lv_iadd hx hb dX5_lay_65 ?_
            refine lv_topi (fun v_ ev_ => ?_)
            obtain rfl : v_ = (nI (aq + 1)) := ev_.trans (nI_1 aq)
            refine va_put (D := (dC, dI)) (ci := 5) (v := .int (nI (aq + 1))) (ty := tyX5 2) (C := RX5) (T := TX5) (N := 30) hx hb hts i5 tyX5 tyX5_ok nmX5 hown hK hP hD hS 0 rfl rfl 2 (by decide) (hts (.fieldLink RX5 11 "StopSetterModel" "taped" "I") (by decide +kernel)) (fun _ h9 => h9) rfl (by decide +kernel) rfl rfl (Nat.le_of_ble_eq_true rfl) dX5_lay_66 (fun H locs hP hD hS => ?_)
            have hP : va_P (dC, dI) vwCl [(h0, .inr (5, [.int th, .ref Mtape, .int (nI (aq + 1)), .int (nI znq), .ref Msort, .ref Mplace, .ref Mvalue, .int (nI anq), .int ft, .ref Mwords, .int (nI hdq), .int (nI nxq), .ref Mgoes, .ref MgoLine, .ref Mends, .ref MendLine, .ref Mkinds, .ref MisName, .int (nI mnq), .ref Mrow, .ref MbyHand, .ref Mleast, .ref Msecond, .ref MendAt, .ref MgoAt, .ref MnodeBehind, .int lE, .ref MisOut, .ref MfirstEnd, .ref MfirstGo])), (Mtape, .inl (cI, 1600, .inl (upd faq aq (byM q0 24))))] H := hP
            have hD : va_D A [(h0, .inr (5, [.int th, .ref Mtape, .int (nI (aq + 1)), .int (nI znq), .ref Msort, .ref Mplace, .ref Mvalue, .int (nI anq), .int ft, .ref Mwords, .int (nI hdq), .int (nI nxq), .ref Mgoes, .ref MgoLine, .ref Mends, .ref MendLine, .ref Mkinds, .ref MisName, .int (nI mnq), .ref Mrow, .ref MbyHand, .ref Mleast, .ref Msecond, .ref MendAt, .ref MgoAt, .ref MnodeBehind, .int lE, .ref MisOut, .ref MfirstEnd, .ref MfirstGo])), (Mtape, .inl (cI, 1600, .inl (upd faq aq (byM q0 24))))] := hD
            refine lv_iinc (v := 16) (lv' := [(3, .int 16), (4, .int (byM q0 24)), (0, .ref h0), (1, .long q0)]) hx hb dX5_lay_69 hl (k := 1) rfl (by decide) (by decide) rfl (fun ls hl => ?_)
            refine lv_goto (tgt := 3) hx hb dX5_lay_72 (by decide) ?_
            exact lp_3_16 (aq + 1) (upd faq aq (byM q0 24)) (by have h7 : sgn aq (byM q0 24) = aq + 1 := (by simp only [sgn, if_neg c_21, if_neg c_28, if_neg c_35, if_neg c_45]); have h8 := sgn_le (c := byM q0 24) haq; rw [h7] at h8; exact h8) (by have h7 : sgn aq (byM q0 24) = aq + 1 := (by simp only [sgn, if_neg c_21, if_neg c_28, if_neg c_35, if_neg c_45]); have h8 : sgF (byM q0) [16, 8, 0] (sgn aq (byM q0 24)) = Tq := hTq; rw [h7] at h8; exact h8) (by have h7 : sgn aq (byM q0 24) = aq + 1 := (by simp only [sgn, if_neg c_21, if_neg c_28, if_neg c_35, if_neg c_45]); have h6 : sgM faq aq (byM q0 24) = (upd faq aq (byM q0 24)) := (by simp only [sgM, if_neg c_21, if_neg c_28, if_neg c_35, if_neg c_45]); have h8 : sgMF (byM q0) [16, 8, 0] (sgM faq aq (byM q0 24)) (sgn aq (byM q0 24)) = Fq := hFq; rw [h7, h6] at h8; exact h8) _ _ _ hP hD hS (lv_sub hl [0, 2, 3] rfl)
  have lp_3_32 : ∀ (aq : Nat) (faq : Nat → Int32), aq ≤ 1600 → sgF (byM q0) [32, 24, 16, 8, 0] aq = Tq → sgMF (byM q0) [32, 24, 16, 8, 0] faq aq = Fq → ∀ (H : Heap) (locs : List Loc) (ls : Array Slot), va_P (dC, dI) vwCl [(h0, .inr (5, [.int th, .ref Mtape, .int (nI aq), .int (nI znq), .ref Msort, .ref Mplace, .ref Mvalue, .int (nI anq), .int ft, .ref Mwords, .int (nI hdq), .int (nI nxq), .ref Mgoes, .ref MgoLine, .ref Mends, .ref MendLine, .ref Mkinds, .ref MisName, .int (nI mnq), .ref Mrow, .ref MbyHand, .ref Mleast, .ref Msecond, .ref MendAt, .ref MgoAt, .ref MnodeBehind, .int lE, .ref MisOut, .ref MfirstEnd, .ref MfirstGo])), (Mtape, .inl (cI, 1600, .inl faq))] H → va_D A [(h0, .inr (5, [.int th, .ref Mtape, .int (nI aq), .int (nI znq), .ref Msort, .ref Mplace, .ref Mvalue, .int (nI anq), .int ft, .ref Mwords, .int (nI hdq), .int (nI nxq), .ref Mgoes, .ref MgoLine, .ref Mends, .ref MendLine, .ref Mkinds, .ref MisName, .int (nI mnq), .ref Mrow, .ref MbyHand, .ref Mleast, .ref Msecond, .ref MendAt, .ref MgoAt, .ref MnodeBehind, .int lE, .ref MisOut, .ref MfirstEnd, .ref MfirstGo])), (Mtape, .inl (cI, 1600, .inl faq))] → va_S A s.heap H locs → lv_has ls 5 [(3, .int 32), (0, .ref h0), (1, .long q0)] → W p l e (headSpec wsX5_lay ({ frames := 0, cells := 0, slots := 0, locals := 0 })).room s m ([.ref h0, .long q0]).toArray below meth c H locs 0 0 (MQ below (va_Qv (fun (u : (Nat) × (Nat → Int32)) => match u with | (tnq2, mtape2) => (tnq2 ≤ 1600) ∧ (tnq2 = sgF (byM q0) ks8 tnq) ∧ (mtape2 = sgMF (byM q0) ks8 mtape tnq)) (fun (u : (Nat) × (Nat → Int32)) t => match u with | (tnq2, mtape2) => sB dC dI A [(h0, .inr (5, [.int th, .ref Mtape, .int (nI tnq2), .int (nI znq), .ref Msort, .ref Mplace, .ref Mvalue, .int (nI anq), .int ft, .ref Mwords, .int (nI hdq), .int (nI nxq), .ref Mgoes, .ref MgoLine, .ref Mends, .ref MendLine, .ref Mkinds, .ref MisName, .int (nI mnq), .ref Mrow, .ref MbyHand, .ref Mleast, .ref Msecond, .ref MendAt, .ref MgoAt, .ref MnodeBehind, .int lE, .ref MisOut, .ref MfirstEnd, .ref MfirstGo])), (Mtape, .inl (cI, 1600, .inl mtape2))] t) A) ([.ref h0, .long q0]).toArray s 0 0 A) (F0 m 3 ls []) := by
    intro aq faq haq hTq hFq H locs ls hP hD hS hl
    refine lv_iload_n hx hb dX5_lay_3 rfl (lv_at hl 0 rfl) ?_
    refine lv_if_lt (tgt := 75) hx hb dX5_lay_4 (by decide) (fun h9 => absurd h9 (by decide)) (fun _ => ?_)
    refine lv_lload_n hx hb dX5_lay_7 rfl (lv_at hl 2 rfl) ?_
    refine lv_iload_n hx hb dX5_lay_8 rfl (lv_at hl 0 rfl) ?_
    refine lv_lshr (v := (q0 >>> ((32 : Int32).toInt64 &&& 63))) hx hb dX5_lay_9 rfl ?_
    refine lv_l2i (v := (q0 >>> ((32 : Int32).toInt64 &&& 63)).toInt32) hx hb dX5_lay_10 rfl ?_
    refine lv_sipush (v := 255) hx hb dX5_lay_11 (by decide) ?_
    refine lv_iand hx hb dX5_lay_14 ?_
    refine lv_topi (fun v_ ev_ => ?_)
    obtain rfl : v_ = (byM q0 32) := ev_.trans (rfl)
    refine lv_istore (lv' := [(4, .int (byM q0 32)), (3, .int 32), (0, .ref h0), (1, .long q0)]) hx hb dX5_lay_15 hl (by decide) rfl (fun ls hl => ?_)
    refine lv_iload hx hb dX5_lay_17 (lv_at hl 0 rfl) ?_
    refine lv_bipush (v := 10) hx hb dX5_lay_19 (by decide) ?_
    refine lv_icmp_eq (tgt := 38) hx hb dX5_lay_21 (by decide) (fun c_21 => ?_) (fun c_21 => ?_)
    · skip
      refine lv_aload_n hx hb dX5_lay_38 rfl (lv_at hl 2 rfl) ?_
      refine va_get (D := (dC, dI)) (ci := 5) (v := .int (nI aq)) (C := RX5) (T := TX5) (N := 30) hx hb hts i5 hown hK hP 0 rfl rfl 2 (by decide) (hts (.fieldLink RX5 11 "StopSetterModel" "taped" "I") (by decide +kernel)) (fun _ h9 => h9) rfl dX5_lay_39 ?_
      refine lv_sipush (v := 1600) hx hb dX5_lay_42 (by decide) ?_
      refine lv_icmp_ge (tgt := 69) hx hb dX5_lay_45 (by decide) (fun c_45 => ?_) (fun c_45 => ?_)
      · skip
        refine lv_iinc (v := 24) (lv' := [(3, .int 24), (4, .int (byM q0 32)), (0, .ref h0), (1, .long q0)]) hx hb dX5_lay_69 hl (k := 1) rfl (by decide) (by decide) rfl (fun ls hl => ?_)
        refine lv_goto (tgt := 3) hx hb dX5_lay_72 (by decide) ?_
        exact lp_3_24 aq faq (by have h7 : sgn aq (byM q0 32) = aq := (by simp only [sgn, if_pos c_21, if_pos c_45]); have h8 := sgn_le (c := byM q0 32) haq; rw [h7] at h8; exact h8) (by have h7 : sgn aq (byM q0 32) = aq := (by simp only [sgn, if_pos c_21, if_pos c_45]); have h8 : sgF (byM q0) [24, 16, 8, 0] (sgn aq (byM q0 32)) = Tq := hTq; rw [h7] at h8; exact h8) (by have h7 : sgn aq (byM q0 32) = aq := (by simp only [sgn, if_pos c_21, if_pos c_45]); have h6 : sgM faq aq (byM q0 32) = faq := (by simp only [sgM, if_pos c_21, if_pos c_45]); have h8 : sgMF (byM q0) [24, 16, 8, 0] (sgM faq aq (byM q0 32)) (sgn aq (byM q0 32)) = Fq := hFq; rw [h7, h6] at h8; exact h8) _ _ _ hP hD hS (lv_sub hl [0, 2, 3] rfl)
      · skip
        have hn3 : aq < 1600 := nk_lt (N := 1600) rfl c_45 (by omega)
        refine lv_aload_n hx hb dX5_lay_48 rfl (lv_at hl 2 rfl) ?_
        refine va_get (D := (dC, dI)) (ci := 5) (v := .ref Mtape) (C := RX5) (T := TX5) (N := 30) hx hb hts i5 hown hK hP 0 rfl rfl 1 (by decide) (hts (.fieldLink RX5 14 "StopSetterModel" "tape" "[I") (by decide +kernel)) (fun _ h9 => h9) rfl dX5_lay_49 ?_
        refine lv_aload_n hx hb dX5_lay_52 rfl (lv_at hl 2 rfl) ?_
        refine va_get (D := (dC, dI)) (ci := 5) (v := .int (nI aq)) (C := RX5) (T := TX5) (N := 30) hx hb hts i5 hown hK hP 0 rfl rfl 2 (by decide) (hts (.fieldLink RX5 11 "StopSetterModel" "taped" "I") (by decide +kernel)) (fun _ h9 => h9) rfl dX5_lay_53 ?_
        refine lv_iload hx hb dX5_lay_56 (lv_at hl 0 rfl) ?_
        refine va_iast hx hb hK hP hD hS 1 0 rfl rfl (vp_in_nI hn3 (by decide)) dX5_lay_58 (fun H locs hP hD hS => ?_)
        have hP : va_P (dC, dI) vwCl [(h0, .inr (5, [.int th, .ref Mtape, .int (nI aq), .int (nI znq), .ref Msort, .ref Mplace, .ref Mvalue, .int (nI anq), .int ft, .ref Mwords, .int (nI hdq), .int (nI nxq), .ref Mgoes, .ref MgoLine, .ref Mends, .ref MendLine, .ref Mkinds, .ref MisName, .int (nI mnq), .ref Mrow, .ref MbyHand, .ref Mleast, .ref Msecond, .ref MendAt, .ref MgoAt, .ref MnodeBehind, .int lE, .ref MisOut, .ref MfirstEnd, .ref MfirstGo])), (Mtape, .inl (cI, 1600, .inl (upd faq ((nI aq).toNatClampNeg) (byM q0 32))))] H := hP
        have hD : va_D A [(h0, .inr (5, [.int th, .ref Mtape, .int (nI aq), .int (nI znq), .ref Msort, .ref Mplace, .ref Mvalue, .int (nI anq), .int ft, .ref Mwords, .int (nI hdq), .int (nI nxq), .ref Mgoes, .ref MgoLine, .ref Mends, .ref MendLine, .ref Mkinds, .ref MisName, .int (nI mnq), .ref Mrow, .ref MbyHand, .ref Mleast, .ref Msecond, .ref MendAt, .ref MgoAt, .ref MnodeBehind, .int lE, .ref MisOut, .ref MfirstEnd, .ref MfirstGo])), (Mtape, .inl (cI, 1600, .inl (upd faq ((nI aq).toNatClampNeg) (byM q0 32))))] := hD
        rw [show (upd faq ((nI aq).toNatClampNeg) (byM q0 32)) = (upd faq aq (byM q0 32)) from by rw [nI_clamp (by omega)]] at hP hD
        have hP : va_P (dC, dI) vwCl [(h0, .inr (5, [.int th, .ref Mtape, .int (nI aq), .int (nI znq), .ref Msort, .ref Mplace, .ref Mvalue, .int (nI anq), .int ft, .ref Mwords, .int (nI hdq), .int (nI nxq), .ref Mgoes, .ref MgoLine, .ref Mends, .ref MendLine, .ref Mkinds, .ref MisName, .int (nI mnq), .ref Mrow, .ref MbyHand, .ref Mleast, .ref Msecond, .ref MendAt, .ref MgoAt, .ref MnodeBehind, .int lE, .ref MisOut, .ref MfirstEnd, .ref MfirstGo])), (Mtape, .inl (cI, 1600, .inl (upd faq aq (byM q0 32))))] H := hP
        have hD : va_D A [(h0, .inr (5, [.int th, .ref Mtape, .int (nI aq), .int (nI znq), .ref Msort, .ref Mplace, .ref Mvalue, .int (nI anq), .int ft, .ref Mwords, .int (nI hdq), .int (nI nxq), .ref Mgoes, .ref MgoLine, .ref Mends, .ref MendLine, .ref Mkinds, .ref MisName, .int (nI mnq), .ref Mrow, .ref MbyHand, .ref Mleast, .ref Msecond, .ref MendAt, .ref MgoAt, .ref MnodeBehind, .int lE, .ref MisOut, .ref MfirstEnd, .ref MfirstGo])), (Mtape, .inl (cI, 1600, .inl (upd faq aq (byM q0 32))))] := hD
        refine lv_aload_n hx hb dX5_lay_59 rfl (lv_at hl 2 rfl) ?_
        refine lv_dup hx hb dX5_lay_60 rfl ?_
        refine va_get (D := (dC, dI)) (ci := 5) (v := .int (nI aq)) (C := RX5) (T := TX5) (N := 30) hx hb hts i5 hown hK hP 0 rfl rfl 2 (by decide) (hts (.fieldLink RX5 11 "StopSetterModel" "taped" "I") (by decide +kernel)) (fun _ h9 => h9) rfl dX5_lay_61 ?_
        refine lv_iconst (v := 1) hx hb dX5_lay_64 (by decide) ?_
        refine lv_iadd hx hb dX5_lay_65 ?_
        refine lv_topi (fun v_ ev_ => ?_)
        obtain rfl : v_ = (nI (aq + 1)) := ev_.trans (nI_1 aq)
        refine va_put (D := (dC, dI)) (ci := 5) (v := .int (nI (aq + 1))) (ty := tyX5 2) (C := RX5) (T := TX5) (N := 30) hx hb hts i5 tyX5 tyX5_ok nmX5 hown hK hP hD hS 0 rfl rfl 2 (by decide) (hts (.fieldLink RX5 11 "StopSetterModel" "taped" "I") (by decide +kernel)) (fun _ h9 => h9) rfl (by decide +kernel) rfl rfl (Nat.le_of_ble_eq_true rfl) dX5_lay_66 (fun H locs hP hD hS => ?_)
        have hP : va_P (dC, dI) vwCl [(h0, .inr (5, [.int th, .ref Mtape, .int (nI (aq + 1)), .int (nI znq), .ref Msort, .ref Mplace, .ref Mvalue, .int (nI anq), .int ft, .ref Mwords, .int (nI hdq), .int (nI nxq), .ref Mgoes, .ref MgoLine, .ref Mends, .ref MendLine, .ref Mkinds, .ref MisName, .int (nI mnq), .ref Mrow, .ref MbyHand, .ref Mleast, .ref Msecond, .ref MendAt, .ref MgoAt, .ref MnodeBehind, .int lE, .ref MisOut, .ref MfirstEnd, .ref MfirstGo])), (Mtape, .inl (cI, 1600, .inl (upd faq aq (byM q0 32))))] H := hP
        have hD : va_D A [(h0, .inr (5, [.int th, .ref Mtape, .int (nI (aq + 1)), .int (nI znq), .ref Msort, .ref Mplace, .ref Mvalue, .int (nI anq), .int ft, .ref Mwords, .int (nI hdq), .int (nI nxq), .ref Mgoes, .ref MgoLine, .ref Mends, .ref MendLine, .ref Mkinds, .ref MisName, .int (nI mnq), .ref Mrow, .ref MbyHand, .ref Mleast, .ref Msecond, .ref MendAt, .ref MgoAt, .ref MnodeBehind, .int lE, .ref MisOut, .ref MfirstEnd, .ref MfirstGo])), (Mtape, .inl (cI, 1600, .inl (upd faq aq (byM q0 32))))] := hD
        refine lv_iinc (v := 24) (lv' := [(3, .int 24), (4, .int (byM q0 32)), (0, .ref h0), (1, .long q0)]) hx hb dX5_lay_69 hl (k := 1) rfl (by decide) (by decide) rfl (fun ls hl => ?_)
        refine lv_goto (tgt := 3) hx hb dX5_lay_72 (by decide) ?_
        exact lp_3_24 (aq + 1) (upd faq aq (byM q0 32)) (by have h7 : sgn aq (byM q0 32) = aq + 1 := (by simp only [sgn, if_pos c_21, if_neg c_45]); have h8 := sgn_le (c := byM q0 32) haq; rw [h7] at h8; exact h8) (by have h7 : sgn aq (byM q0 32) = aq + 1 := (by simp only [sgn, if_pos c_21, if_neg c_45]); have h8 : sgF (byM q0) [24, 16, 8, 0] (sgn aq (byM q0 32)) = Tq := hTq; rw [h7] at h8; exact h8) (by have h7 : sgn aq (byM q0 32) = aq + 1 := (by simp only [sgn, if_pos c_21, if_neg c_45]); have h6 : sgM faq aq (byM q0 32) = (upd faq aq (byM q0 32)) := (by simp only [sgM, if_pos c_21, if_neg c_45]); have h8 : sgMF (byM q0) [24, 16, 8, 0] (sgM faq aq (byM q0 32)) (sgn aq (byM q0 32)) = Fq := hFq; rw [h7, h6] at h8; exact h8) _ _ _ hP hD hS (lv_sub hl [0, 2, 3] rfl)
    · skip
      refine lv_iload hx hb dX5_lay_24 (lv_at hl 0 rfl) ?_
      refine lv_bipush (v := 32) hx hb dX5_lay_26 (by decide) ?_
      refine lv_icmp_lt (tgt := 69) hx hb dX5_lay_28 (by decide) (fun c_28 => ?_) (fun c_28 => ?_)
      · skip
        refine lv_iinc (v := 24) (lv' := [(3, .int 24), (4, .int (byM q0 32)), (0, .ref h0), (1, .long q0)]) hx hb dX5_lay_69 hl (k := 1) rfl (by decide) (by decide) rfl (fun ls hl => ?_)
        refine lv_goto (tgt := 3) hx hb dX5_lay_72 (by decide) ?_
        exact lp_3_24 aq faq (by have h7 : sgn aq (byM q0 32) = aq := (by simp only [sgn, if_neg c_21, if_pos c_28]); have h8 := sgn_le (c := byM q0 32) haq; rw [h7] at h8; exact h8) (by have h7 : sgn aq (byM q0 32) = aq := (by simp only [sgn, if_neg c_21, if_pos c_28]); have h8 : sgF (byM q0) [24, 16, 8, 0] (sgn aq (byM q0 32)) = Tq := hTq; rw [h7] at h8; exact h8) (by have h7 : sgn aq (byM q0 32) = aq := (by simp only [sgn, if_neg c_21, if_pos c_28]); have h6 : sgM faq aq (byM q0 32) = faq := (by simp only [sgM, if_neg c_21, if_pos c_28]); have h8 : sgMF (byM q0) [24, 16, 8, 0] (sgM faq aq (byM q0 32)) (sgn aq (byM q0 32)) = Fq := hFq; rw [h7, h6] at h8; exact h8) _ _ _ hP hD hS (lv_sub hl [0, 2, 3] rfl)
      · skip
        refine lv_iload hx hb dX5_lay_31 (lv_at hl 0 rfl) ?_
        refine lv_bipush (v := 126) hx hb dX5_lay_33 (by decide) ?_
        refine lv_icmp_gt (tgt := 69) hx hb dX5_lay_35 (by decide) (fun c_35 => ?_) (fun c_35 => ?_)
        · skip
          refine lv_iinc (v := 24) (lv' := [(3, .int 24), (4, .int (byM q0 32)), (0, .ref h0), (1, .long q0)]) hx hb dX5_lay_69 hl (k := 1) rfl (by decide) (by decide) rfl (fun ls hl => ?_)
          refine lv_goto (tgt := 3) hx hb dX5_lay_72 (by decide) ?_
          exact lp_3_24 aq faq (by have h7 : sgn aq (byM q0 32) = aq := (by simp only [sgn, if_neg c_21, if_neg c_28, if_pos c_35]); have h8 := sgn_le (c := byM q0 32) haq; rw [h7] at h8; exact h8) (by have h7 : sgn aq (byM q0 32) = aq := (by simp only [sgn, if_neg c_21, if_neg c_28, if_pos c_35]); have h8 : sgF (byM q0) [24, 16, 8, 0] (sgn aq (byM q0 32)) = Tq := hTq; rw [h7] at h8; exact h8) (by have h7 : sgn aq (byM q0 32) = aq := (by simp only [sgn, if_neg c_21, if_neg c_28, if_pos c_35]); have h6 : sgM faq aq (byM q0 32) = faq := (by simp only [sgM, if_neg c_21, if_neg c_28, if_pos c_35]); have h8 : sgMF (byM q0) [24, 16, 8, 0] (sgM faq aq (byM q0 32)) (sgn aq (byM q0 32)) = Fq := hFq; rw [h7, h6] at h8; exact h8) _ _ _ hP hD hS (lv_sub hl [0, 2, 3] rfl)
        · skip
          refine lv_aload_n hx hb dX5_lay_38 rfl (lv_at hl 2 rfl) ?_
          refine va_get (D := (dC, dI)) (ci := 5) (v := .int (nI aq)) (C := RX5) (T := TX5) (N := 30) hx hb hts i5 hown hK hP 0 rfl rfl 2 (by decide) (hts (.fieldLink RX5 11 "StopSetterModel" "taped" "I") (by decide +kernel)) (fun _ h9 => h9) rfl dX5_lay_39 ?_
          refine lv_sipush (v := 1600) hx hb dX5_lay_42 (by decide) ?_
          refine lv_icmp_ge (tgt := 69) hx hb dX5_lay_45 (by decide) (fun c_45 => ?_) (fun c_45 => ?_)
          · skip
            refine lv_iinc (v := 24) (lv' := [(3, .int 24), (4, .int (byM q0 32)), (0, .ref h0), (1, .long q0)]) hx hb dX5_lay_69 hl (k := 1) rfl (by decide) (by decide) rfl (fun ls hl => ?_)
            refine lv_goto (tgt := 3) hx hb dX5_lay_72 (by decide) ?_
            exact lp_3_24 aq faq (by have h7 : sgn aq (byM q0 32) = aq := (by simp only [sgn, if_neg c_21, if_neg c_28, if_neg c_35, if_pos c_45]); have h8 := sgn_le (c := byM q0 32) haq; rw [h7] at h8; exact h8) (by have h7 : sgn aq (byM q0 32) = aq := (by simp only [sgn, if_neg c_21, if_neg c_28, if_neg c_35, if_pos c_45]); have h8 : sgF (byM q0) [24, 16, 8, 0] (sgn aq (byM q0 32)) = Tq := hTq; rw [h7] at h8; exact h8) (by have h7 : sgn aq (byM q0 32) = aq := (by simp only [sgn, if_neg c_21, if_neg c_28, if_neg c_35, if_pos c_45]); have h6 : sgM faq aq (byM q0 32) = faq := (by simp only [sgM, if_neg c_21, if_neg c_28, if_neg c_35, if_pos c_45]); have h8 : sgMF (byM q0) [24, 16, 8, 0] (sgM faq aq (byM q0 32)) (sgn aq (byM q0 32)) = Fq := hFq; rw [h7, h6] at h8; exact h8) _ _ _ hP hD hS (lv_sub hl [0, 2, 3] rfl)
          · skip
            have hn3 : aq < 1600 := nk_lt (N := 1600) rfl c_45 (by omega)
            refine lv_aload_n hx hb dX5_lay_48 rfl (lv_at hl 2 rfl) ?_
            refine va_get (D := (dC, dI)) (ci := 5) (v := .ref Mtape) (C := RX5) (T := TX5) (N := 30) hx hb hts i5 hown hK hP 0 rfl rfl 1 (by decide) (hts (.fieldLink RX5 14 "StopSetterModel" "tape" "[I") (by decide +kernel)) (fun _ h9 => h9) rfl dX5_lay_49 ?_
            refine lv_aload_n hx hb dX5_lay_52 rfl (lv_at hl 2 rfl) ?_
            refine va_get (D := (dC, dI)) (ci := 5) (v := .int (nI aq)) (C := RX5) (T := TX5) (N := 30) hx hb hts i5 hown hK hP 0 rfl rfl 2 (by decide) (hts (.fieldLink RX5 11 "StopSetterModel" "taped" "I") (by decide +kernel)) (fun _ h9 => h9) rfl dX5_lay_53 ?_
            refine lv_iload hx hb dX5_lay_56 (lv_at hl 0 rfl) ?_
            refine va_iast hx hb hK hP hD hS 1 0 rfl rfl (vp_in_nI hn3 (by decide)) dX5_lay_58 (fun H locs hP hD hS => ?_)
            have hP : va_P (dC, dI) vwCl [(h0, .inr (5, [.int th, .ref Mtape, .int (nI aq), .int (nI znq), .ref Msort, .ref Mplace, .ref Mvalue, .int (nI anq), .int ft, .ref Mwords, .int (nI hdq), .int (nI nxq), .ref Mgoes, .ref MgoLine, .ref Mends, .ref MendLine, .ref Mkinds, .ref MisName, .int (nI mnq), .ref Mrow, .ref MbyHand, .ref Mleast, .ref Msecond, .ref MendAt, .ref MgoAt, .ref MnodeBehind, .int lE, .ref MisOut, .ref MfirstEnd, .ref MfirstGo])), (Mtape, .inl (cI, 1600, .inl (upd faq ((nI aq).toNatClampNeg) (byM q0 32))))] H := hP
            have hD : va_D A [(h0, .inr (5, [.int th, .ref Mtape, .int (nI aq), .int (nI znq), .ref Msort, .ref Mplace, .ref Mvalue, .int (nI anq), .int ft, .ref Mwords, .int (nI hdq), .int (nI nxq), .ref Mgoes, .ref MgoLine, .ref Mends, .ref MendLine, .ref Mkinds, .ref MisName, .int (nI mnq), .ref Mrow, .ref MbyHand, .ref Mleast, .ref Msecond, .ref MendAt, .ref MgoAt, .ref MnodeBehind, .int lE, .ref MisOut, .ref MfirstEnd, .ref MfirstGo])), (Mtape, .inl (cI, 1600, .inl (upd faq ((nI aq).toNatClampNeg) (byM q0 32))))] := hD
            rw [show (upd faq ((nI aq).toNatClampNeg) (byM q0 32)) = (upd faq aq (byM q0 32)) from by rw [nI_clamp (by omega)]] at hP hD
            have hP : va_P (dC, dI) vwCl [(h0, .inr (5, [.int th, .ref Mtape, .int (nI aq), .int (nI znq), .ref Msort, .ref Mplace, .ref Mvalue, .int (nI anq), .int ft, .ref Mwords, .int (nI hdq), .int (nI nxq), .ref Mgoes, .ref MgoLine, .ref Mends, .ref MendLine, .ref Mkinds, .ref MisName, .int (nI mnq), .ref Mrow, .ref MbyHand, .ref Mleast, .ref Msecond, .ref MendAt, .ref MgoAt, .ref MnodeBehind, .int lE, .ref MisOut, .ref MfirstEnd, .ref MfirstGo])), (Mtape, .inl (cI, 1600, .inl (upd faq aq (byM q0 32))))] H := hP
            have hD : va_D A [(h0, .inr (5, [.int th, .ref Mtape, .int (nI aq), .int (nI znq), .ref Msort, .ref Mplace, .ref Mvalue, .int (nI anq), .int ft, .ref Mwords, .int (nI hdq), .int (nI nxq), .ref Mgoes, .ref MgoLine, .ref Mends, .ref MendLine, .ref Mkinds, .ref MisName, .int (nI mnq), .ref Mrow, .ref MbyHand, .ref Mleast, .ref Msecond, .ref MendAt, .ref MgoAt, .ref MnodeBehind, .int lE, .ref MisOut, .ref MfirstEnd, .ref MfirstGo])), (Mtape, .inl (cI, 1600, .inl (upd faq aq (byM q0 32))))] := hD
            refine lv_aload_n hx hb dX5_lay_59 rfl (lv_at hl 2 rfl) ?_
            refine lv_dup hx hb dX5_lay_60 rfl ?_
            refine va_get (D := (dC, dI)) (ci := 5) (v := .int (nI aq)) (C := RX5) (T := TX5) (N := 30) hx hb hts i5 hown hK hP 0 rfl rfl 2 (by decide) (hts (.fieldLink RX5 11 "StopSetterModel" "taped" "I") (by decide +kernel)) (fun _ h9 => h9) rfl dX5_lay_61 ?_
            refine lv_iconst (v := 1) hx hb dX5_lay_64 (by decide) ?_
            refine lv_iadd hx hb dX5_lay_65 ?_
            refine lv_topi (fun v_ ev_ => ?_)
            obtain rfl : v_ = (nI (aq + 1)) := ev_.trans (nI_1 aq)
            refine va_put (D := (dC, dI)) (ci := 5) (v := .int (nI (aq + 1))) (ty := tyX5 2) (C := RX5) (T := TX5) (N := 30) hx hb hts i5 tyX5 tyX5_ok nmX5 hown hK hP hD hS 0 rfl rfl 2 (by decide) (hts (.fieldLink RX5 11 "StopSetterModel" "taped" "I") (by decide +kernel)) (fun _ h9 => h9) rfl (by decide +kernel) rfl rfl (Nat.le_of_ble_eq_true rfl) dX5_lay_66 (fun H locs hP hD hS => ?_)
            have hP : va_P (dC, dI) vwCl [(h0, .inr (5, [.int th, .ref Mtape, .int (nI (aq + 1)), .int (nI znq), .ref Msort, .ref Mplace, .ref Mvalue, .int (nI anq), .int ft, .ref Mwords, .int (nI hdq), .int (nI nxq), .ref Mgoes, .ref MgoLine, .ref Mends, .ref MendLine, .ref Mkinds, .ref MisName, .int (nI mnq), .ref Mrow, .ref MbyHand, .ref Mleast, .ref Msecond, .ref MendAt, .ref MgoAt, .ref MnodeBehind, .int lE, .ref MisOut, .ref MfirstEnd, .ref MfirstGo])), (Mtape, .inl (cI, 1600, .inl (upd faq aq (byM q0 32))))] H := hP
            have hD : va_D A [(h0, .inr (5, [.int th, .ref Mtape, .int (nI (aq + 1)), .int (nI znq), .ref Msort, .ref Mplace, .ref Mvalue, .int (nI anq), .int ft, .ref Mwords, .int (nI hdq), .int (nI nxq), .ref Mgoes, .ref MgoLine, .ref Mends, .ref MendLine, .ref Mkinds, .ref MisName, .int (nI mnq), .ref Mrow, .ref MbyHand, .ref Mleast, .ref Msecond, .ref MendAt, .ref MgoAt, .ref MnodeBehind, .int lE, .ref MisOut, .ref MfirstEnd, .ref MfirstGo])), (Mtape, .inl (cI, 1600, .inl (upd faq aq (byM q0 32))))] := hD
            refine lv_iinc (v := 24) (lv' := [(3, .int 24), (4, .int (byM q0 32)), (0, .ref h0), (1, .long q0)]) hx hb dX5_lay_69 hl (k := 1) rfl (by decide) (by decide) rfl (fun ls hl => ?_)
            refine lv_goto (tgt := 3) hx hb dX5_lay_72 (by decide) ?_
            exact lp_3_24 (aq + 1) (upd faq aq (byM q0 32)) (by have h7 : sgn aq (byM q0 32) = aq + 1 := (by simp only [sgn, if_neg c_21, if_neg c_28, if_neg c_35, if_neg c_45]); have h8 := sgn_le (c := byM q0 32) haq; rw [h7] at h8; exact h8) (by have h7 : sgn aq (byM q0 32) = aq + 1 := (by simp only [sgn, if_neg c_21, if_neg c_28, if_neg c_35, if_neg c_45]); have h8 : sgF (byM q0) [24, 16, 8, 0] (sgn aq (byM q0 32)) = Tq := hTq; rw [h7] at h8; exact h8) (by have h7 : sgn aq (byM q0 32) = aq + 1 := (by simp only [sgn, if_neg c_21, if_neg c_28, if_neg c_35, if_neg c_45]); have h6 : sgM faq aq (byM q0 32) = (upd faq aq (byM q0 32)) := (by simp only [sgM, if_neg c_21, if_neg c_28, if_neg c_35, if_neg c_45]); have h8 : sgMF (byM q0) [24, 16, 8, 0] (sgM faq aq (byM q0 32)) (sgn aq (byM q0 32)) = Fq := hFq; rw [h7, h6] at h8; exact h8) _ _ _ hP hD hS (lv_sub hl [0, 2, 3] rfl)
  have lp_3_40 : ∀ (aq : Nat) (faq : Nat → Int32), aq ≤ 1600 → sgF (byM q0) [40, 32, 24, 16, 8, 0] aq = Tq → sgMF (byM q0) [40, 32, 24, 16, 8, 0] faq aq = Fq → ∀ (H : Heap) (locs : List Loc) (ls : Array Slot), va_P (dC, dI) vwCl [(h0, .inr (5, [.int th, .ref Mtape, .int (nI aq), .int (nI znq), .ref Msort, .ref Mplace, .ref Mvalue, .int (nI anq), .int ft, .ref Mwords, .int (nI hdq), .int (nI nxq), .ref Mgoes, .ref MgoLine, .ref Mends, .ref MendLine, .ref Mkinds, .ref MisName, .int (nI mnq), .ref Mrow, .ref MbyHand, .ref Mleast, .ref Msecond, .ref MendAt, .ref MgoAt, .ref MnodeBehind, .int lE, .ref MisOut, .ref MfirstEnd, .ref MfirstGo])), (Mtape, .inl (cI, 1600, .inl faq))] H → va_D A [(h0, .inr (5, [.int th, .ref Mtape, .int (nI aq), .int (nI znq), .ref Msort, .ref Mplace, .ref Mvalue, .int (nI anq), .int ft, .ref Mwords, .int (nI hdq), .int (nI nxq), .ref Mgoes, .ref MgoLine, .ref Mends, .ref MendLine, .ref Mkinds, .ref MisName, .int (nI mnq), .ref Mrow, .ref MbyHand, .ref Mleast, .ref Msecond, .ref MendAt, .ref MgoAt, .ref MnodeBehind, .int lE, .ref MisOut, .ref MfirstEnd, .ref MfirstGo])), (Mtape, .inl (cI, 1600, .inl faq))] → va_S A s.heap H locs → lv_has ls 5 [(3, .int 40), (0, .ref h0), (1, .long q0)] → W p l e (headSpec wsX5_lay ({ frames := 0, cells := 0, slots := 0, locals := 0 })).room s m ([.ref h0, .long q0]).toArray below meth c H locs 0 0 (MQ below (va_Qv (fun (u : (Nat) × (Nat → Int32)) => match u with | (tnq2, mtape2) => (tnq2 ≤ 1600) ∧ (tnq2 = sgF (byM q0) ks8 tnq) ∧ (mtape2 = sgMF (byM q0) ks8 mtape tnq)) (fun (u : (Nat) × (Nat → Int32)) t => match u with | (tnq2, mtape2) => sB dC dI A [(h0, .inr (5, [.int th, .ref Mtape, .int (nI tnq2), .int (nI znq), .ref Msort, .ref Mplace, .ref Mvalue, .int (nI anq), .int ft, .ref Mwords, .int (nI hdq), .int (nI nxq), .ref Mgoes, .ref MgoLine, .ref Mends, .ref MendLine, .ref Mkinds, .ref MisName, .int (nI mnq), .ref Mrow, .ref MbyHand, .ref Mleast, .ref Msecond, .ref MendAt, .ref MgoAt, .ref MnodeBehind, .int lE, .ref MisOut, .ref MfirstEnd, .ref MfirstGo])), (Mtape, .inl (cI, 1600, .inl mtape2))] t) A) ([.ref h0, .long q0]).toArray s 0 0 A) (F0 m 3 ls []) := by
    intro aq faq haq hTq hFq H locs ls hP hD hS hl
    refine lv_iload_n hx hb dX5_lay_3 rfl (lv_at hl 0 rfl) ?_
    refine lv_if_lt (tgt := 75) hx hb dX5_lay_4 (by decide) (fun h9 => absurd h9 (by decide)) (fun _ => ?_)
    refine lv_lload_n hx hb dX5_lay_7 rfl (lv_at hl 2 rfl) ?_
    refine lv_iload_n hx hb dX5_lay_8 rfl (lv_at hl 0 rfl) ?_
    refine lv_lshr (v := (q0 >>> ((40 : Int32).toInt64 &&& 63))) hx hb dX5_lay_9 rfl ?_
    refine lv_l2i (v := (q0 >>> ((40 : Int32).toInt64 &&& 63)).toInt32) hx hb dX5_lay_10 rfl ?_
    refine lv_sipush (v := 255) hx hb dX5_lay_11 (by decide) ?_
    refine lv_iand hx hb dX5_lay_14 ?_
    refine lv_topi (fun v_ ev_ => ?_)
    obtain rfl : v_ = (byM q0 40) := ev_.trans (rfl)
    refine lv_istore (lv' := [(4, .int (byM q0 40)), (3, .int 40), (0, .ref h0), (1, .long q0)]) hx hb dX5_lay_15 hl (by decide) rfl (fun ls hl => ?_)
    refine lv_iload hx hb dX5_lay_17 (lv_at hl 0 rfl) ?_
    refine lv_bipush (v := 10) hx hb dX5_lay_19 (by decide) ?_
    refine lv_icmp_eq (tgt := 38) hx hb dX5_lay_21 (by decide) (fun c_21 => ?_) (fun c_21 => ?_)
    · skip
      refine lv_aload_n hx hb dX5_lay_38 rfl (lv_at hl 2 rfl) ?_
      refine va_get (D := (dC, dI)) (ci := 5) (v := .int (nI aq)) (C := RX5) (T := TX5) (N := 30) hx hb hts i5 hown hK hP 0 rfl rfl 2 (by decide) (hts (.fieldLink RX5 11 "StopSetterModel" "taped" "I") (by decide +kernel)) (fun _ h9 => h9) rfl dX5_lay_39 ?_
      refine lv_sipush (v := 1600) hx hb dX5_lay_42 (by decide) ?_
      refine lv_icmp_ge (tgt := 69) hx hb dX5_lay_45 (by decide) (fun c_45 => ?_) (fun c_45 => ?_)
      · skip
        refine lv_iinc (v := 32) (lv' := [(3, .int 32), (4, .int (byM q0 40)), (0, .ref h0), (1, .long q0)]) hx hb dX5_lay_69 hl (k := 1) rfl (by decide) (by decide) rfl (fun ls hl => ?_)
        refine lv_goto (tgt := 3) hx hb dX5_lay_72 (by decide) ?_
        exact lp_3_32 aq faq (by have h7 : sgn aq (byM q0 40) = aq := (by simp only [sgn, if_pos c_21, if_pos c_45]); have h8 := sgn_le (c := byM q0 40) haq; rw [h7] at h8; exact h8) (by have h7 : sgn aq (byM q0 40) = aq := (by simp only [sgn, if_pos c_21, if_pos c_45]); have h8 : sgF (byM q0) [32, 24, 16, 8, 0] (sgn aq (byM q0 40)) = Tq := hTq; rw [h7] at h8; exact h8) (by have h7 : sgn aq (byM q0 40) = aq := (by simp only [sgn, if_pos c_21, if_pos c_45]); have h6 : sgM faq aq (byM q0 40) = faq := (by simp only [sgM, if_pos c_21, if_pos c_45]); have h8 : sgMF (byM q0) [32, 24, 16, 8, 0] (sgM faq aq (byM q0 40)) (sgn aq (byM q0 40)) = Fq := hFq; rw [h7, h6] at h8; exact h8) _ _ _ hP hD hS (lv_sub hl [0, 2, 3] rfl)
      · skip
        have hn3 : aq < 1600 := nk_lt (N := 1600) rfl c_45 (by omega)
        refine lv_aload_n hx hb dX5_lay_48 rfl (lv_at hl 2 rfl) ?_
        refine va_get (D := (dC, dI)) (ci := 5) (v := .ref Mtape) (C := RX5) (T := TX5) (N := 30) hx hb hts i5 hown hK hP 0 rfl rfl 1 (by decide) (hts (.fieldLink RX5 14 "StopSetterModel" "tape" "[I") (by decide +kernel)) (fun _ h9 => h9) rfl dX5_lay_49 ?_
        refine lv_aload_n hx hb dX5_lay_52 rfl (lv_at hl 2 rfl) ?_
        refine va_get (D := (dC, dI)) (ci := 5) (v := .int (nI aq)) (C := RX5) (T := TX5) (N := 30) hx hb hts i5 hown hK hP 0 rfl rfl 2 (by decide) (hts (.fieldLink RX5 11 "StopSetterModel" "taped" "I") (by decide +kernel)) (fun _ h9 => h9) rfl dX5_lay_53 ?_
        refine lv_iload hx hb dX5_lay_56 (lv_at hl 0 rfl) ?_
        refine va_iast hx hb hK hP hD hS 1 0 rfl rfl (vp_in_nI hn3 (by decide)) dX5_lay_58 (fun H locs hP hD hS => ?_)
        have hP : va_P (dC, dI) vwCl [(h0, .inr (5, [.int th, .ref Mtape, .int (nI aq), .int (nI znq), .ref Msort, .ref Mplace, .ref Mvalue, .int (nI anq), .int ft, .ref Mwords, .int (nI hdq), .int (nI nxq), .ref Mgoes, .ref MgoLine, .ref Mends, .ref MendLine, .ref Mkinds, .ref MisName, .int (nI mnq), .ref Mrow, .ref MbyHand, .ref Mleast, .ref Msecond, .ref MendAt, .ref MgoAt, .ref MnodeBehind, .int lE, .ref MisOut, .ref MfirstEnd, .ref MfirstGo])), (Mtape, .inl (cI, 1600, .inl (upd faq ((nI aq).toNatClampNeg) (byM q0 40))))] H := hP
        have hD : va_D A [(h0, .inr (5, [.int th, .ref Mtape, .int (nI aq), .int (nI znq), .ref Msort, .ref Mplace, .ref Mvalue, .int (nI anq), .int ft, .ref Mwords, .int (nI hdq), .int (nI nxq), .ref Mgoes, .ref MgoLine, .ref Mends, .ref MendLine, .ref Mkinds, .ref MisName, .int (nI mnq), .ref Mrow, .ref MbyHand, .ref Mleast, .ref Msecond, .ref MendAt, .ref MgoAt, .ref MnodeBehind, .int lE, .ref MisOut, .ref MfirstEnd, .ref MfirstGo])), (Mtape, .inl (cI, 1600, .inl (upd faq ((nI aq).toNatClampNeg) (byM q0 40))))] := hD
        rw [show (upd faq ((nI aq).toNatClampNeg) (byM q0 40)) = (upd faq aq (byM q0 40)) from by rw [nI_clamp (by omega)]] at hP hD
        have hP : va_P (dC, dI) vwCl [(h0, .inr (5, [.int th, .ref Mtape, .int (nI aq), .int (nI znq), .ref Msort, .ref Mplace, .ref Mvalue, .int (nI anq), .int ft, .ref Mwords, .int (nI hdq), .int (nI nxq), .ref Mgoes, .ref MgoLine, .ref Mends, .ref MendLine, .ref Mkinds, .ref MisName, .int (nI mnq), .ref Mrow, .ref MbyHand, .ref Mleast, .ref Msecond, .ref MendAt, .ref MgoAt, .ref MnodeBehind, .int lE, .ref MisOut, .ref MfirstEnd, .ref MfirstGo])), (Mtape, .inl (cI, 1600, .inl (upd faq aq (byM q0 40))))] H := hP
        have hD : va_D A [(h0, .inr (5, [.int th, .ref Mtape, .int (nI aq), .int (nI znq), .ref Msort, .ref Mplace, .ref Mvalue, .int (nI anq), .int ft, .ref Mwords, .int (nI hdq), .int (nI nxq), .ref Mgoes, .ref MgoLine, .ref Mends, .ref MendLine, .ref Mkinds, .ref MisName, .int (nI mnq), .ref Mrow, .ref MbyHand, .ref Mleast, .ref Msecond, .ref MendAt, .ref MgoAt, .ref MnodeBehind, .int lE, .ref MisOut, .ref MfirstEnd, .ref MfirstGo])), (Mtape, .inl (cI, 1600, .inl (upd faq aq (byM q0 40))))] := hD
        refine lv_aload_n hx hb dX5_lay_59 rfl (lv_at hl 2 rfl) ?_
        refine lv_dup hx hb dX5_lay_60 rfl ?_
        refine va_get (D := (dC, dI)) (ci := 5) (v := .int (nI aq)) (C := RX5) (T := TX5) (N := 30) hx hb hts i5 hown hK hP 0 rfl rfl 2 (by decide) (hts (.fieldLink RX5 11 "StopSetterModel" "taped" "I") (by decide +kernel)) (fun _ h9 => h9) rfl dX5_lay_61 ?_
        refine lv_iconst (v := 1) hx hb dX5_lay_64 (by decide) ?_
        refine lv_iadd hx hb dX5_lay_65 ?_
        refine lv_topi (fun v_ ev_ => ?_)
        obtain rfl : v_ = (nI (aq + 1)) := ev_.trans (nI_1 aq)
        refine va_put (D := (dC, dI)) (ci := 5) (v := .int (nI (aq + 1))) (ty := tyX5 2) (C := RX5) (T := TX5) (N := 30) hx hb hts i5 tyX5 tyX5_ok nmX5 hown hK hP hD hS 0 rfl rfl 2 (by decide) (hts (.fieldLink RX5 11 "StopSetterModel" "taped" "I") (by decide +kernel)) (fun _ h9 => h9) rfl (by decide +kernel) rfl rfl (Nat.le_of_ble_eq_true rfl) dX5_lay_66 (fun H locs hP hD hS => ?_)
        have hP : va_P (dC, dI) vwCl [(h0, .inr (5, [.int th, .ref Mtape, .int (nI (aq + 1)), .int (nI znq), .ref Msort, .ref Mplace, .ref Mvalue, .int (nI anq), .int ft, .ref Mwords, .int (nI hdq), .int (nI nxq), .ref Mgoes, .ref MgoLine, .ref Mends, .ref MendLine, .ref Mkinds, .ref MisName, .int (nI mnq), .ref Mrow, .ref MbyHand, .ref Mleast, .ref Msecond, .ref MendAt, .ref MgoAt, .ref MnodeBehind, .int lE, .ref MisOut, .ref MfirstEnd, .ref MfirstGo])), (Mtape, .inl (cI, 1600, .inl (upd faq aq (byM q0 40))))] H := hP
        have hD : va_D A [(h0, .inr (5, [.int th, .ref Mtape, .int (nI (aq + 1)), .int (nI znq), .ref Msort, .ref Mplace, .ref Mvalue, .int (nI anq), .int ft, .ref Mwords, .int (nI hdq), .int (nI nxq), .ref Mgoes, .ref MgoLine, .ref Mends, .ref MendLine, .ref Mkinds, .ref MisName, .int (nI mnq), .ref Mrow, .ref MbyHand, .ref Mleast, .ref Msecond, .ref MendAt, .ref MgoAt, .ref MnodeBehind, .int lE, .ref MisOut, .ref MfirstEnd, .ref MfirstGo])), (Mtape, .inl (cI, 1600, .inl (upd faq aq (byM q0 40))))] := hD
        refine lv_iinc (v := 32) (lv' := [(3, .int 32), (4, .int (byM q0 40)), (0, .ref h0), (1, .long q0)]) hx hb dX5_lay_69 hl (k := 1) rfl (by decide) (by decide) rfl (fun ls hl => ?_)
        refine lv_goto (tgt := 3) hx hb dX5_lay_72 (by decide) ?_
        exact lp_3_32 (aq + 1) (upd faq aq (byM q0 40)) (by have h7 : sgn aq (byM q0 40) = aq + 1 := (by simp only [sgn, if_pos c_21, if_neg c_45]); have h8 := sgn_le (c := byM q0 40) haq; rw [h7] at h8; exact h8) (by have h7 : sgn aq (byM q0 40) = aq + 1 := (by simp only [sgn, if_pos c_21, if_neg c_45]); have h8 : sgF (byM q0) [32, 24, 16, 8, 0] (sgn aq (byM q0 40)) = Tq := hTq; rw [h7] at h8; exact h8) (by have h7 : sgn aq (byM q0 40) = aq + 1 := (by simp only [sgn, if_pos c_21, if_neg c_45]); have h6 : sgM faq aq (byM q0 40) = (upd faq aq (byM q0 40)) := (by simp only [sgM, if_pos c_21, if_neg c_45]); have h8 : sgMF (byM q0) [32, 24, 16, 8, 0] (sgM faq aq (byM q0 40)) (sgn aq (byM q0 40)) = Fq := hFq; rw [h7, h6] at h8; exact h8) _ _ _ hP hD hS (lv_sub hl [0, 2, 3] rfl)
    · skip
      refine lv_iload hx hb dX5_lay_24 (lv_at hl 0 rfl) ?_
      refine lv_bipush (v := 32) hx hb dX5_lay_26 (by decide) ?_
      refine lv_icmp_lt (tgt := 69) hx hb dX5_lay_28 (by decide) (fun c_28 => ?_) (fun c_28 => ?_)
      · skip
        refine lv_iinc (v := 32) (lv' := [(3, .int 32), (4, .int (byM q0 40)), (0, .ref h0), (1, .long q0)]) hx hb dX5_lay_69 hl (k := 1) rfl (by decide) (by decide) rfl (fun ls hl => ?_)
        refine lv_goto (tgt := 3) hx hb dX5_lay_72 (by decide) ?_
        exact lp_3_32 aq faq (by have h7 : sgn aq (byM q0 40) = aq := (by simp only [sgn, if_neg c_21, if_pos c_28]); have h8 := sgn_le (c := byM q0 40) haq; rw [h7] at h8; exact h8) (by have h7 : sgn aq (byM q0 40) = aq := (by simp only [sgn, if_neg c_21, if_pos c_28]); have h8 : sgF (byM q0) [32, 24, 16, 8, 0] (sgn aq (byM q0 40)) = Tq := hTq; rw [h7] at h8; exact h8) (by have h7 : sgn aq (byM q0 40) = aq := (by simp only [sgn, if_neg c_21, if_pos c_28]); have h6 : sgM faq aq (byM q0 40) = faq := (by simp only [sgM, if_neg c_21, if_pos c_28]); have h8 : sgMF (byM q0) [32, 24, 16, 8, 0] (sgM faq aq (byM q0 40)) (sgn aq (byM q0 40)) = Fq := hFq; rw [h7, h6] at h8; exact h8) _ _ _ hP hD hS (lv_sub hl [0, 2, 3] rfl)
      · skip
        refine lv_iload hx hb dX5_lay_31 (lv_at hl 0 rfl) ?_
        refine lv_bipush (v := 126) hx hb dX5_lay_33 (by decide) ?_
        refine lv_icmp_gt (tgt := 69) hx hb dX5_lay_35 (by decide) (fun c_35 => ?_) (fun c_35 => ?_)
        · skip
          refine lv_iinc (v := 32) (lv' := [(3, .int 32), (4, .int (byM q0 40)), (0, .ref h0), (1, .long q0)]) hx hb dX5_lay_69 hl (k := 1) rfl (by decide) (by decide) rfl (fun ls hl => ?_)
          refine lv_goto (tgt := 3) hx hb dX5_lay_72 (by decide) ?_
          exact lp_3_32 aq faq (by have h7 : sgn aq (byM q0 40) = aq := (by simp only [sgn, if_neg c_21, if_neg c_28, if_pos c_35]); have h8 := sgn_le (c := byM q0 40) haq; rw [h7] at h8; exact h8) (by have h7 : sgn aq (byM q0 40) = aq := (by simp only [sgn, if_neg c_21, if_neg c_28, if_pos c_35]); have h8 : sgF (byM q0) [32, 24, 16, 8, 0] (sgn aq (byM q0 40)) = Tq := hTq; rw [h7] at h8; exact h8) (by have h7 : sgn aq (byM q0 40) = aq := (by simp only [sgn, if_neg c_21, if_neg c_28, if_pos c_35]); have h6 : sgM faq aq (byM q0 40) = faq := (by simp only [sgM, if_neg c_21, if_neg c_28, if_pos c_35]); have h8 : sgMF (byM q0) [32, 24, 16, 8, 0] (sgM faq aq (byM q0 40)) (sgn aq (byM q0 40)) = Fq := hFq; rw [h7, h6] at h8; exact h8) _ _ _ hP hD hS (lv_sub hl [0, 2, 3] rfl)
        · skip
          refine lv_aload_n hx hb dX5_lay_38 rfl (lv_at hl 2 rfl) ?_
          refine va_get (D := (dC, dI)) (ci := 5) (v := .int (nI aq)) (C := RX5) (T := TX5) (N := 30) hx hb hts i5 hown hK hP 0 rfl rfl 2 (by decide) (hts (.fieldLink RX5 11 "StopSetterModel" "taped" "I") (by decide +kernel)) (fun _ h9 => h9) rfl dX5_lay_39 ?_
          refine lv_sipush (v := 1600) hx hb dX5_lay_42 (by decide) ?_
          refine lv_icmp_ge (tgt := 69) hx hb dX5_lay_45 (by decide) (fun c_45 => ?_) (fun c_45 => ?_)
          · skip
            refine lv_iinc (v := 32) (lv' := [(3, .int 32), (4, .int (byM q0 40)), (0, .ref h0), (1, .long q0)]) hx hb dX5_lay_69 hl (k := 1) rfl (by decide) (by decide) rfl (fun ls hl => ?_)
            refine lv_goto (tgt := 3) hx hb dX5_lay_72 (by decide) ?_
            exact lp_3_32 aq faq (by have h7 : sgn aq (byM q0 40) = aq := (by simp only [sgn, if_neg c_21, if_neg c_28, if_neg c_35, if_pos c_45]); have h8 := sgn_le (c := byM q0 40) haq; rw [h7] at h8; exact h8) (by have h7 : sgn aq (byM q0 40) = aq := (by simp only [sgn, if_neg c_21, if_neg c_28, if_neg c_35, if_pos c_45]); have h8 : sgF (byM q0) [32, 24, 16, 8, 0] (sgn aq (byM q0 40)) = Tq := hTq; rw [h7] at h8; exact h8) (by have h7 : sgn aq (byM q0 40) = aq := (by simp only [sgn, if_neg c_21, if_neg c_28, if_neg c_35, if_pos c_45]); have h6 : sgM faq aq (byM q0 40) = faq := (by simp only [sgM, if_neg c_21, if_neg c_28, if_neg c_35, if_pos c_45]); have h8 : sgMF (byM q0) [32, 24, 16, 8, 0] (sgM faq aq (byM q0 40)) (sgn aq (byM q0 40)) = Fq := hFq; rw [h7, h6] at h8; exact h8) _ _ _ hP hD hS (lv_sub hl [0, 2, 3] rfl)
          · skip
            have hn3 : aq < 1600 := nk_lt (N := 1600) rfl c_45 (by omega)
            refine lv_aload_n hx hb dX5_lay_48 rfl (lv_at hl 2 rfl) ?_
            refine va_get (D := (dC, dI)) (ci := 5) (v := .ref Mtape) (C := RX5) (T := TX5) (N := 30) hx hb hts i5 hown hK hP 0 rfl rfl 1 (by decide) (hts (.fieldLink RX5 14 "StopSetterModel" "tape" "[I") (by decide +kernel)) (fun _ h9 => h9) rfl dX5_lay_49 ?_
            refine lv_aload_n hx hb dX5_lay_52 rfl (lv_at hl 2 rfl) ?_
            refine va_get (D := (dC, dI)) (ci := 5) (v := .int (nI aq)) (C := RX5) (T := TX5) (N := 30) hx hb hts i5 hown hK hP 0 rfl rfl 2 (by decide) (hts (.fieldLink RX5 11 "StopSetterModel" "taped" "I") (by decide +kernel)) (fun _ h9 => h9) rfl dX5_lay_53 ?_
            refine lv_iload hx hb dX5_lay_56 (lv_at hl 0 rfl) ?_
            refine va_iast hx hb hK hP hD hS 1 0 rfl rfl (vp_in_nI hn3 (by decide)) dX5_lay_58 (fun H locs hP hD hS => ?_)
            have hP : va_P (dC, dI) vwCl [(h0, .inr (5, [.int th, .ref Mtape, .int (nI aq), .int (nI znq), .ref Msort, .ref Mplace, .ref Mvalue, .int (nI anq), .int ft, .ref Mwords, .int (nI hdq), .int (nI nxq), .ref Mgoes, .ref MgoLine, .ref Mends, .ref MendLine, .ref Mkinds, .ref MisName, .int (nI mnq), .ref Mrow, .ref MbyHand, .ref Mleast, .ref Msecond, .ref MendAt, .ref MgoAt, .ref MnodeBehind, .int lE, .ref MisOut, .ref MfirstEnd, .ref MfirstGo])), (Mtape, .inl (cI, 1600, .inl (upd faq ((nI aq).toNatClampNeg) (byM q0 40))))] H := hP
            have hD : va_D A [(h0, .inr (5, [.int th, .ref Mtape, .int (nI aq), .int (nI znq), .ref Msort, .ref Mplace, .ref Mvalue, .int (nI anq), .int ft, .ref Mwords, .int (nI hdq), .int (nI nxq), .ref Mgoes, .ref MgoLine, .ref Mends, .ref MendLine, .ref Mkinds, .ref MisName, .int (nI mnq), .ref Mrow, .ref MbyHand, .ref Mleast, .ref Msecond, .ref MendAt, .ref MgoAt, .ref MnodeBehind, .int lE, .ref MisOut, .ref MfirstEnd, .ref MfirstGo])), (Mtape, .inl (cI, 1600, .inl (upd faq ((nI aq).toNatClampNeg) (byM q0 40))))] := hD
            rw [show (upd faq ((nI aq).toNatClampNeg) (byM q0 40)) = (upd faq aq (byM q0 40)) from by rw [nI_clamp (by omega)]] at hP hD
            have hP : va_P (dC, dI) vwCl [(h0, .inr (5, [.int th, .ref Mtape, .int (nI aq), .int (nI znq), .ref Msort, .ref Mplace, .ref Mvalue, .int (nI anq), .int ft, .ref Mwords, .int (nI hdq), .int (nI nxq), .ref Mgoes, .ref MgoLine, .ref Mends, .ref MendLine, .ref Mkinds, .ref MisName, .int (nI mnq), .ref Mrow, .ref MbyHand, .ref Mleast, .ref Msecond, .ref MendAt, .ref MgoAt, .ref MnodeBehind, .int lE, .ref MisOut, .ref MfirstEnd, .ref MfirstGo])), (Mtape, .inl (cI, 1600, .inl (upd faq aq (byM q0 40))))] H := hP
            have hD : va_D A [(h0, .inr (5, [.int th, .ref Mtape, .int (nI aq), .int (nI znq), .ref Msort, .ref Mplace, .ref Mvalue, .int (nI anq), .int ft, .ref Mwords, .int (nI hdq), .int (nI nxq), .ref Mgoes, .ref MgoLine, .ref Mends, .ref MendLine, .ref Mkinds, .ref MisName, .int (nI mnq), .ref Mrow, .ref MbyHand, .ref Mleast, .ref Msecond, .ref MendAt, .ref MgoAt, .ref MnodeBehind, .int lE, .ref MisOut, .ref MfirstEnd, .ref MfirstGo])), (Mtape, .inl (cI, 1600, .inl (upd faq aq (byM q0 40))))] := hD
            refine lv_aload_n hx hb dX5_lay_59 rfl (lv_at hl 2 rfl) ?_
            refine lv_dup hx hb dX5_lay_60 rfl ?_
            refine va_get (D := (dC, dI)) (ci := 5) (v := .int (nI aq)) (C := RX5) (T := TX5) (N := 30) hx hb hts i5 hown hK hP 0 rfl rfl 2 (by decide) (hts (.fieldLink RX5 11 "StopSetterModel" "taped" "I") (by decide +kernel)) (fun _ h9 => h9) rfl dX5_lay_61 ?_
            refine lv_iconst (v := 1) hx hb dX5_lay_64 (by decide) ?_
            refine lv_iadd hx hb dX5_lay_65 ?_
            refine lv_topi (fun v_ ev_ => ?_)
            obtain rfl : v_ = (nI (aq + 1)) := ev_.trans (nI_1 aq)
            refine va_put (D := (dC, dI)) (ci := 5) (v := .int (nI (aq + 1))) (ty := tyX5 2) (C := RX5) (T := TX5) (N := 30) hx hb hts i5 tyX5 tyX5_ok nmX5 hown hK hP hD hS 0 rfl rfl 2 (by decide) (hts (.fieldLink RX5 11 "StopSetterModel" "taped" "I") (by decide +kernel)) (fun _ h9 => h9) rfl (by decide +kernel) rfl rfl (Nat.le_of_ble_eq_true rfl) dX5_lay_66 (fun H locs hP hD hS => ?_)
            have hP : va_P (dC, dI) vwCl [(h0, .inr (5, [.int th, .ref Mtape, .int (nI (aq + 1)), .int (nI znq), .ref Msort, .ref Mplace, .ref Mvalue, .int (nI anq), .int ft, .ref Mwords, .int (nI hdq), .int (nI nxq), .ref Mgoes, .ref MgoLine, .ref Mends, .ref MendLine, .ref Mkinds, .ref MisName, .int (nI mnq), .ref Mrow, .ref MbyHand, .ref Mleast, .ref Msecond, .ref MendAt, .ref MgoAt, .ref MnodeBehind, .int lE, .ref MisOut, .ref MfirstEnd, .ref MfirstGo])), (Mtape, .inl (cI, 1600, .inl (upd faq aq (byM q0 40))))] H := hP
            have hD : va_D A [(h0, .inr (5, [.int th, .ref Mtape, .int (nI (aq + 1)), .int (nI znq), .ref Msort, .ref Mplace, .ref Mvalue, .int (nI anq), .int ft, .ref Mwords, .int (nI hdq), .int (nI nxq), .ref Mgoes, .ref MgoLine, .ref Mends, .ref MendLine, .ref Mkinds, .ref MisName, .int (nI mnq), .ref Mrow, .ref MbyHand, .ref Mleast, .ref Msecond, .ref MendAt, .ref MgoAt, .ref MnodeBehind, .int lE, .ref MisOut, .ref MfirstEnd, .ref MfirstGo])), (Mtape, .inl (cI, 1600, .inl (upd faq aq (byM q0 40))))] := hD
            refine lv_iinc (v := 32) (lv' := [(3, .int 32), (4, .int (byM q0 40)), (0, .ref h0), (1, .long q0)]) hx hb dX5_lay_69 hl (k := 1) rfl (by decide) (by decide) rfl (fun ls hl => ?_)
            refine lv_goto (tgt := 3) hx hb dX5_lay_72 (by decide) ?_
            exact lp_3_32 (aq + 1) (upd faq aq (byM q0 40)) (by have h7 : sgn aq (byM q0 40) = aq + 1 := (by simp only [sgn, if_neg c_21, if_neg c_28, if_neg c_35, if_neg c_45]); have h8 := sgn_le (c := byM q0 40) haq; rw [h7] at h8; exact h8) (by have h7 : sgn aq (byM q0 40) = aq + 1 := (by simp only [sgn, if_neg c_21, if_neg c_28, if_neg c_35, if_neg c_45]); have h8 : sgF (byM q0) [32, 24, 16, 8, 0] (sgn aq (byM q0 40)) = Tq := hTq; rw [h7] at h8; exact h8) (by have h7 : sgn aq (byM q0 40) = aq + 1 := (by simp only [sgn, if_neg c_21, if_neg c_28, if_neg c_35, if_neg c_45]); have h6 : sgM faq aq (byM q0 40) = (upd faq aq (byM q0 40)) := (by simp only [sgM, if_neg c_21, if_neg c_28, if_neg c_35, if_neg c_45]); have h8 : sgMF (byM q0) [32, 24, 16, 8, 0] (sgM faq aq (byM q0 40)) (sgn aq (byM q0 40)) = Fq := hFq; rw [h7, h6] at h8; exact h8) _ _ _ hP hD hS (lv_sub hl [0, 2, 3] rfl)
  have lp_3_48 : ∀ (aq : Nat) (faq : Nat → Int32), aq ≤ 1600 → sgF (byM q0) [48, 40, 32, 24, 16, 8, 0] aq = Tq → sgMF (byM q0) [48, 40, 32, 24, 16, 8, 0] faq aq = Fq → ∀ (H : Heap) (locs : List Loc) (ls : Array Slot), va_P (dC, dI) vwCl [(h0, .inr (5, [.int th, .ref Mtape, .int (nI aq), .int (nI znq), .ref Msort, .ref Mplace, .ref Mvalue, .int (nI anq), .int ft, .ref Mwords, .int (nI hdq), .int (nI nxq), .ref Mgoes, .ref MgoLine, .ref Mends, .ref MendLine, .ref Mkinds, .ref MisName, .int (nI mnq), .ref Mrow, .ref MbyHand, .ref Mleast, .ref Msecond, .ref MendAt, .ref MgoAt, .ref MnodeBehind, .int lE, .ref MisOut, .ref MfirstEnd, .ref MfirstGo])), (Mtape, .inl (cI, 1600, .inl faq))] H → va_D A [(h0, .inr (5, [.int th, .ref Mtape, .int (nI aq), .int (nI znq), .ref Msort, .ref Mplace, .ref Mvalue, .int (nI anq), .int ft, .ref Mwords, .int (nI hdq), .int (nI nxq), .ref Mgoes, .ref MgoLine, .ref Mends, .ref MendLine, .ref Mkinds, .ref MisName, .int (nI mnq), .ref Mrow, .ref MbyHand, .ref Mleast, .ref Msecond, .ref MendAt, .ref MgoAt, .ref MnodeBehind, .int lE, .ref MisOut, .ref MfirstEnd, .ref MfirstGo])), (Mtape, .inl (cI, 1600, .inl faq))] → va_S A s.heap H locs → lv_has ls 5 [(3, .int 48), (0, .ref h0), (1, .long q0)] → W p l e (headSpec wsX5_lay ({ frames := 0, cells := 0, slots := 0, locals := 0 })).room s m ([.ref h0, .long q0]).toArray below meth c H locs 0 0 (MQ below (va_Qv (fun (u : (Nat) × (Nat → Int32)) => match u with | (tnq2, mtape2) => (tnq2 ≤ 1600) ∧ (tnq2 = sgF (byM q0) ks8 tnq) ∧ (mtape2 = sgMF (byM q0) ks8 mtape tnq)) (fun (u : (Nat) × (Nat → Int32)) t => match u with | (tnq2, mtape2) => sB dC dI A [(h0, .inr (5, [.int th, .ref Mtape, .int (nI tnq2), .int (nI znq), .ref Msort, .ref Mplace, .ref Mvalue, .int (nI anq), .int ft, .ref Mwords, .int (nI hdq), .int (nI nxq), .ref Mgoes, .ref MgoLine, .ref Mends, .ref MendLine, .ref Mkinds, .ref MisName, .int (nI mnq), .ref Mrow, .ref MbyHand, .ref Mleast, .ref Msecond, .ref MendAt, .ref MgoAt, .ref MnodeBehind, .int lE, .ref MisOut, .ref MfirstEnd, .ref MfirstGo])), (Mtape, .inl (cI, 1600, .inl mtape2))] t) A) ([.ref h0, .long q0]).toArray s 0 0 A) (F0 m 3 ls []) := by
    intro aq faq haq hTq hFq H locs ls hP hD hS hl
    refine lv_iload_n hx hb dX5_lay_3 rfl (lv_at hl 0 rfl) ?_
    refine lv_if_lt (tgt := 75) hx hb dX5_lay_4 (by decide) (fun h9 => absurd h9 (by decide)) (fun _ => ?_)
    refine lv_lload_n hx hb dX5_lay_7 rfl (lv_at hl 2 rfl) ?_
    refine lv_iload_n hx hb dX5_lay_8 rfl (lv_at hl 0 rfl) ?_
    refine lv_lshr (v := (q0 >>> ((48 : Int32).toInt64 &&& 63))) hx hb dX5_lay_9 rfl ?_
    refine lv_l2i (v := (q0 >>> ((48 : Int32).toInt64 &&& 63)).toInt32) hx hb dX5_lay_10 rfl ?_
    refine lv_sipush (v := 255) hx hb dX5_lay_11 (by decide) ?_
    refine lv_iand hx hb dX5_lay_14 ?_
    refine lv_topi (fun v_ ev_ => ?_)
    obtain rfl : v_ = (byM q0 48) := ev_.trans (rfl)
    refine lv_istore (lv' := [(4, .int (byM q0 48)), (3, .int 48), (0, .ref h0), (1, .long q0)]) hx hb dX5_lay_15 hl (by decide) rfl (fun ls hl => ?_)
    refine lv_iload hx hb dX5_lay_17 (lv_at hl 0 rfl) ?_
    refine lv_bipush (v := 10) hx hb dX5_lay_19 (by decide) ?_
    refine lv_icmp_eq (tgt := 38) hx hb dX5_lay_21 (by decide) (fun c_21 => ?_) (fun c_21 => ?_)
    · skip
      refine lv_aload_n hx hb dX5_lay_38 rfl (lv_at hl 2 rfl) ?_
      refine va_get (D := (dC, dI)) (ci := 5) (v := .int (nI aq)) (C := RX5) (T := TX5) (N := 30) hx hb hts i5 hown hK hP 0 rfl rfl 2 (by decide) (hts (.fieldLink RX5 11 "StopSetterModel" "taped" "I") (by decide +kernel)) (fun _ h9 => h9) rfl dX5_lay_39 ?_
      refine lv_sipush (v := 1600) hx hb dX5_lay_42 (by decide) ?_
      refine lv_icmp_ge (tgt := 69) hx hb dX5_lay_45 (by decide) (fun c_45 => ?_) (fun c_45 => ?_)
      · skip
        refine lv_iinc (v := 40) (lv' := [(3, .int 40), (4, .int (byM q0 48)), (0, .ref h0), (1, .long q0)]) hx hb dX5_lay_69 hl (k := 1) rfl (by decide) (by decide) rfl (fun ls hl => ?_)
        refine lv_goto (tgt := 3) hx hb dX5_lay_72 (by decide) ?_
        exact lp_3_40 aq faq (by have h7 : sgn aq (byM q0 48) = aq := (by simp only [sgn, if_pos c_21, if_pos c_45]); have h8 := sgn_le (c := byM q0 48) haq; rw [h7] at h8; exact h8) (by have h7 : sgn aq (byM q0 48) = aq := (by simp only [sgn, if_pos c_21, if_pos c_45]); have h8 : sgF (byM q0) [40, 32, 24, 16, 8, 0] (sgn aq (byM q0 48)) = Tq := hTq; rw [h7] at h8; exact h8) (by have h7 : sgn aq (byM q0 48) = aq := (by simp only [sgn, if_pos c_21, if_pos c_45]); have h6 : sgM faq aq (byM q0 48) = faq := (by simp only [sgM, if_pos c_21, if_pos c_45]); have h8 : sgMF (byM q0) [40, 32, 24, 16, 8, 0] (sgM faq aq (byM q0 48)) (sgn aq (byM q0 48)) = Fq := hFq; rw [h7, h6] at h8; exact h8) _ _ _ hP hD hS (lv_sub hl [0, 2, 3] rfl)
      · skip
        have hn3 : aq < 1600 := nk_lt (N := 1600) rfl c_45 (by omega)
        refine lv_aload_n hx hb dX5_lay_48 rfl (lv_at hl 2 rfl) ?_
        refine va_get (D := (dC, dI)) (ci := 5) (v := .ref Mtape) (C := RX5) (T := TX5) (N := 30) hx hb hts i5 hown hK hP 0 rfl rfl 1 (by decide) (hts (.fieldLink RX5 14 "StopSetterModel" "tape" "[I") (by decide +kernel)) (fun _ h9 => h9) rfl dX5_lay_49 ?_
        refine lv_aload_n hx hb dX5_lay_52 rfl (lv_at hl 2 rfl) ?_
        refine va_get (D := (dC, dI)) (ci := 5) (v := .int (nI aq)) (C := RX5) (T := TX5) (N := 30) hx hb hts i5 hown hK hP 0 rfl rfl 2 (by decide) (hts (.fieldLink RX5 11 "StopSetterModel" "taped" "I") (by decide +kernel)) (fun _ h9 => h9) rfl dX5_lay_53 ?_
        refine lv_iload hx hb dX5_lay_56 (lv_at hl 0 rfl) ?_
        refine va_iast hx hb hK hP hD hS 1 0 rfl rfl (vp_in_nI hn3 (by decide)) dX5_lay_58 (fun H locs hP hD hS => ?_)
        have hP : va_P (dC, dI) vwCl [(h0, .inr (5, [.int th, .ref Mtape, .int (nI aq), .int (nI znq), .ref Msort, .ref Mplace, .ref Mvalue, .int (nI anq), .int ft, .ref Mwords, .int (nI hdq), .int (nI nxq), .ref Mgoes, .ref MgoLine, .ref Mends, .ref MendLine, .ref Mkinds, .ref MisName, .int (nI mnq), .ref Mrow, .ref MbyHand, .ref Mleast, .ref Msecond, .ref MendAt, .ref MgoAt, .ref MnodeBehind, .int lE, .ref MisOut, .ref MfirstEnd, .ref MfirstGo])), (Mtape, .inl (cI, 1600, .inl (upd faq ((nI aq).toNatClampNeg) (byM q0 48))))] H := hP
        have hD : va_D A [(h0, .inr (5, [.int th, .ref Mtape, .int (nI aq), .int (nI znq), .ref Msort, .ref Mplace, .ref Mvalue, .int (nI anq), .int ft, .ref Mwords, .int (nI hdq), .int (nI nxq), .ref Mgoes, .ref MgoLine, .ref Mends, .ref MendLine, .ref Mkinds, .ref MisName, .int (nI mnq), .ref Mrow, .ref MbyHand, .ref Mleast, .ref Msecond, .ref MendAt, .ref MgoAt, .ref MnodeBehind, .int lE, .ref MisOut, .ref MfirstEnd, .ref MfirstGo])), (Mtape, .inl (cI, 1600, .inl (upd faq ((nI aq).toNatClampNeg) (byM q0 48))))] := hD
        rw [show (upd faq ((nI aq).toNatClampNeg) (byM q0 48)) = (upd faq aq (byM q0 48)) from by rw [nI_clamp (by omega)]] at hP hD
        have hP : va_P (dC, dI) vwCl [(h0, .inr (5, [.int th, .ref Mtape, .int (nI aq), .int (nI znq), .ref Msort, .ref Mplace, .ref Mvalue, .int (nI anq), .int ft, .ref Mwords, .int (nI hdq), .int (nI nxq), .ref Mgoes, .ref MgoLine, .ref Mends, .ref MendLine, .ref Mkinds, .ref MisName, .int (nI mnq), .ref Mrow, .ref MbyHand, .ref Mleast, .ref Msecond, .ref MendAt, .ref MgoAt, .ref MnodeBehind, .int lE, .ref MisOut, .ref MfirstEnd, .ref MfirstGo])), (Mtape, .inl (cI, 1600, .inl (upd faq aq (byM q0 48))))] H := hP
        have hD : va_D A [(h0, .inr (5, [.int th, .ref Mtape, .int (nI aq), .int (nI znq), .ref Msort, .ref Mplace, .ref Mvalue, .int (nI anq), .int ft, .ref Mwords, .int (nI hdq), .int (nI nxq), .ref Mgoes, .ref MgoLine, .ref Mends, .ref MendLine, .ref Mkinds, .ref MisName, .int (nI mnq), .ref Mrow, .ref MbyHand, .ref Mleast, .ref Msecond, .ref MendAt, .ref MgoAt, .ref MnodeBehind, .int lE, .ref MisOut, .ref MfirstEnd, .ref MfirstGo])), (Mtape, .inl (cI, 1600, .inl (upd faq aq (byM q0 48))))] := hD
        refine lv_aload_n hx hb dX5_lay_59 rfl (lv_at hl 2 rfl) ?_
        refine lv_dup hx hb dX5_lay_60 rfl ?_
        refine va_get (D := (dC, dI)) (ci := 5) (v := .int (nI aq)) (C := RX5) (T := TX5) (N := 30) hx hb hts i5 hown hK hP 0 rfl rfl 2 (by decide) (hts (.fieldLink RX5 11 "StopSetterModel" "taped" "I") (by decide +kernel)) (fun _ h9 => h9) rfl dX5_lay_61 ?_
        refine lv_iconst (v := 1) hx hb dX5_lay_64 (by decide) ?_
        refine lv_iadd hx hb dX5_lay_65 ?_
        refine lv_topi (fun v_ ev_ => ?_)
        obtain rfl : v_ = (nI (aq + 1)) := ev_.trans (nI_1 aq)
        refine va_put (D := (dC, dI)) (ci := 5) (v := .int (nI (aq + 1))) (ty := tyX5 2) (C := RX5) (T := TX5) (N := 30) hx hb hts i5 tyX5 tyX5_ok nmX5 hown hK hP hD hS 0 rfl rfl 2 (by decide) (hts (.fieldLink RX5 11 "StopSetterModel" "taped" "I") (by decide +kernel)) (fun _ h9 => h9) rfl (by decide +kernel) rfl rfl (Nat.le_of_ble_eq_true rfl) dX5_lay_66 (fun H locs hP hD hS => ?_)
        have hP : va_P (dC, dI) vwCl [(h0, .inr (5, [.int th, .ref Mtape, .int (nI (aq + 1)), .int (nI znq), .ref Msort, .ref Mplace, .ref Mvalue, .int (nI anq), .int ft, .ref Mwords, .int (nI hdq), .int (nI nxq), .ref Mgoes, .ref MgoLine, .ref Mends, .ref MendLine, .ref Mkinds, .ref MisName, .int (nI mnq), .ref Mrow, .ref MbyHand, .ref Mleast, .ref Msecond, .ref MendAt, .ref MgoAt, .ref MnodeBehind, .int lE, .ref MisOut, .ref MfirstEnd, .ref MfirstGo])), (Mtape, .inl (cI, 1600, .inl (upd faq aq (byM q0 48))))] H := hP
        have hD : va_D A [(h0, .inr (5, [.int th, .ref Mtape, .int (nI (aq + 1)), .int (nI znq), .ref Msort, .ref Mplace, .ref Mvalue, .int (nI anq), .int ft, .ref Mwords, .int (nI hdq), .int (nI nxq), .ref Mgoes, .ref MgoLine, .ref Mends, .ref MendLine, .ref Mkinds, .ref MisName, .int (nI mnq), .ref Mrow, .ref MbyHand, .ref Mleast, .ref Msecond, .ref MendAt, .ref MgoAt, .ref MnodeBehind, .int lE, .ref MisOut, .ref MfirstEnd, .ref MfirstGo])), (Mtape, .inl (cI, 1600, .inl (upd faq aq (byM q0 48))))] := hD
        refine lv_iinc (v := 40) (lv' := [(3, .int 40), (4, .int (byM q0 48)), (0, .ref h0), (1, .long q0)]) hx hb dX5_lay_69 hl (k := 1) rfl (by decide) (by decide) rfl (fun ls hl => ?_)
        refine lv_goto (tgt := 3) hx hb dX5_lay_72 (by decide) ?_
        exact lp_3_40 (aq + 1) (upd faq aq (byM q0 48)) (by have h7 : sgn aq (byM q0 48) = aq + 1 := (by simp only [sgn, if_pos c_21, if_neg c_45]); have h8 := sgn_le (c := byM q0 48) haq; rw [h7] at h8; exact h8) (by have h7 : sgn aq (byM q0 48) = aq + 1 := (by simp only [sgn, if_pos c_21, if_neg c_45]); have h8 : sgF (byM q0) [40, 32, 24, 16, 8, 0] (sgn aq (byM q0 48)) = Tq := hTq; rw [h7] at h8; exact h8) (by have h7 : sgn aq (byM q0 48) = aq + 1 := (by simp only [sgn, if_pos c_21, if_neg c_45]); have h6 : sgM faq aq (byM q0 48) = (upd faq aq (byM q0 48)) := (by simp only [sgM, if_pos c_21, if_neg c_45]); have h8 : sgMF (byM q0) [40, 32, 24, 16, 8, 0] (sgM faq aq (byM q0 48)) (sgn aq (byM q0 48)) = Fq := hFq; rw [h7, h6] at h8; exact h8) _ _ _ hP hD hS (lv_sub hl [0, 2, 3] rfl)
    · skip
      refine lv_iload hx hb dX5_lay_24 (lv_at hl 0 rfl) ?_
      refine lv_bipush (v := 32) hx hb dX5_lay_26 (by decide) ?_
      refine lv_icmp_lt (tgt := 69) hx hb dX5_lay_28 (by decide) (fun c_28 => ?_) (fun c_28 => ?_)
      · skip
        refine lv_iinc (v := 40) (lv' := [(3, .int 40), (4, .int (byM q0 48)), (0, .ref h0), (1, .long q0)]) hx hb dX5_lay_69 hl (k := 1) rfl (by decide) (by decide) rfl (fun ls hl => ?_)
        refine lv_goto (tgt := 3) hx hb dX5_lay_72 (by decide) ?_
        exact lp_3_40 aq faq (by have h7 : sgn aq (byM q0 48) = aq := (by simp only [sgn, if_neg c_21, if_pos c_28]); have h8 := sgn_le (c := byM q0 48) haq; rw [h7] at h8; exact h8) (by have h7 : sgn aq (byM q0 48) = aq := (by simp only [sgn, if_neg c_21, if_pos c_28]); have h8 : sgF (byM q0) [40, 32, 24, 16, 8, 0] (sgn aq (byM q0 48)) = Tq := hTq; rw [h7] at h8; exact h8) (by have h7 : sgn aq (byM q0 48) = aq := (by simp only [sgn, if_neg c_21, if_pos c_28]); have h6 : sgM faq aq (byM q0 48) = faq := (by simp only [sgM, if_neg c_21, if_pos c_28]); have h8 : sgMF (byM q0) [40, 32, 24, 16, 8, 0] (sgM faq aq (byM q0 48)) (sgn aq (byM q0 48)) = Fq := hFq; rw [h7, h6] at h8; exact h8) _ _ _ hP hD hS (lv_sub hl [0, 2, 3] rfl)
      · skip
        refine lv_iload hx hb dX5_lay_31 (lv_at hl 0 rfl) ?_
        refine lv_bipush (v := 126) hx hb dX5_lay_33 (by decide) ?_
        refine lv_icmp_gt (tgt := 69) hx hb dX5_lay_35 (by decide) (fun c_35 => ?_) (fun c_35 => ?_)
        · skip
          refine lv_iinc (v := 40) (lv' := [(3, .int 40), (4, .int (byM q0 48)), (0, .ref h0), (1, .long q0)]) hx hb dX5_lay_69 hl (k := 1) rfl (by decide) (by decide) rfl (fun ls hl => ?_)
          refine lv_goto (tgt := 3) hx hb dX5_lay_72 (by decide) ?_
          exact lp_3_40 aq faq (by have h7 : sgn aq (byM q0 48) = aq := (by simp only [sgn, if_neg c_21, if_neg c_28, if_pos c_35]); have h8 := sgn_le (c := byM q0 48) haq; rw [h7] at h8; exact h8) (by have h7 : sgn aq (byM q0 48) = aq := (by simp only [sgn, if_neg c_21, if_neg c_28, if_pos c_35]); have h8 : sgF (byM q0) [40, 32, 24, 16, 8, 0] (sgn aq (byM q0 48)) = Tq := hTq; rw [h7] at h8; exact h8) (by have h7 : sgn aq (byM q0 48) = aq := (by simp only [sgn, if_neg c_21, if_neg c_28, if_pos c_35]); have h6 : sgM faq aq (byM q0 48) = faq := (by simp only [sgM, if_neg c_21, if_neg c_28, if_pos c_35]); have h8 : sgMF (byM q0) [40, 32, 24, 16, 8, 0] (sgM faq aq (byM q0 48)) (sgn aq (byM q0 48)) = Fq := hFq; rw [h7, h6] at h8; exact h8) _ _ _ hP hD hS (lv_sub hl [0, 2, 3] rfl)
        · skip
          refine lv_aload_n hx hb dX5_lay_38 rfl (lv_at hl 2 rfl) ?_
          refine va_get (D := (dC, dI)) (ci := 5) (v := .int (nI aq)) (C := RX5) (T := TX5) (N := 30) hx hb hts i5 hown hK hP 0 rfl rfl 2 (by decide) (hts (.fieldLink RX5 11 "StopSetterModel" "taped" "I") (by decide +kernel)) (fun _ h9 => h9) rfl dX5_lay_39 ?_
          refine lv_sipush (v := 1600) hx hb dX5_lay_42 (by decide) ?_
          refine lv_icmp_ge (tgt := 69) hx hb dX5_lay_45 (by decide) (fun c_45 => ?_) (fun c_45 => ?_)
          · skip
            refine lv_iinc (v := 40) (lv' := [(3, .int 40), (4, .int (byM q0 48)), (0, .ref h0), (1, .long q0)]) hx hb dX5_lay_69 hl (k := 1) rfl (by decide) (by decide) rfl (fun ls hl => ?_)
            refine lv_goto (tgt := 3) hx hb dX5_lay_72 (by decide) ?_
            exact lp_3_40 aq faq (by have h7 : sgn aq (byM q0 48) = aq := (by simp only [sgn, if_neg c_21, if_neg c_28, if_neg c_35, if_pos c_45]); have h8 := sgn_le (c := byM q0 48) haq; rw [h7] at h8; exact h8) (by have h7 : sgn aq (byM q0 48) = aq := (by simp only [sgn, if_neg c_21, if_neg c_28, if_neg c_35, if_pos c_45]); have h8 : sgF (byM q0) [40, 32, 24, 16, 8, 0] (sgn aq (byM q0 48)) = Tq := hTq; rw [h7] at h8; exact h8) (by have h7 : sgn aq (byM q0 48) = aq := (by simp only [sgn, if_neg c_21, if_neg c_28, if_neg c_35, if_pos c_45]); have h6 : sgM faq aq (byM q0 48) = faq := (by simp only [sgM, if_neg c_21, if_neg c_28, if_neg c_35, if_pos c_45]); have h8 : sgMF (byM q0) [40, 32, 24, 16, 8, 0] (sgM faq aq (byM q0 48)) (sgn aq (byM q0 48)) = Fq := hFq; rw [h7, h6] at h8; exact h8) _ _ _ hP hD hS (lv_sub hl [0, 2, 3] rfl)
          · skip
            have hn3 : aq < 1600 := nk_lt (N := 1600) rfl c_45 (by omega)
            refine lv_aload_n hx hb dX5_lay_48 rfl (lv_at hl 2 rfl) ?_
            refine va_get (D := (dC, dI)) (ci := 5) (v := .ref Mtape) (C := RX5) (T := TX5) (N := 30) hx hb hts i5 hown hK hP 0 rfl rfl 1 (by decide) (hts (.fieldLink RX5 14 "StopSetterModel" "tape" "[I") (by decide +kernel)) (fun _ h9 => h9) rfl dX5_lay_49 ?_
            refine lv_aload_n hx hb dX5_lay_52 rfl (lv_at hl 2 rfl) ?_
            refine va_get (D := (dC, dI)) (ci := 5) (v := .int (nI aq)) (C := RX5) (T := TX5) (N := 30) hx hb hts i5 hown hK hP 0 rfl rfl 2 (by decide) (hts (.fieldLink RX5 11 "StopSetterModel" "taped" "I") (by decide +kernel)) (fun _ h9 => h9) rfl dX5_lay_53 ?_
            refine lv_iload hx hb dX5_lay_56 (lv_at hl 0 rfl) ?_
            refine va_iast hx hb hK hP hD hS 1 0 rfl rfl (vp_in_nI hn3 (by decide)) dX5_lay_58 (fun H locs hP hD hS => ?_)
            have hP : va_P (dC, dI) vwCl [(h0, .inr (5, [.int th, .ref Mtape, .int (nI aq), .int (nI znq), .ref Msort, .ref Mplace, .ref Mvalue, .int (nI anq), .int ft, .ref Mwords, .int (nI hdq), .int (nI nxq), .ref Mgoes, .ref MgoLine, .ref Mends, .ref MendLine, .ref Mkinds, .ref MisName, .int (nI mnq), .ref Mrow, .ref MbyHand, .ref Mleast, .ref Msecond, .ref MendAt, .ref MgoAt, .ref MnodeBehind, .int lE, .ref MisOut, .ref MfirstEnd, .ref MfirstGo])), (Mtape, .inl (cI, 1600, .inl (upd faq ((nI aq).toNatClampNeg) (byM q0 48))))] H := hP
            have hD : va_D A [(h0, .inr (5, [.int th, .ref Mtape, .int (nI aq), .int (nI znq), .ref Msort, .ref Mplace, .ref Mvalue, .int (nI anq), .int ft, .ref Mwords, .int (nI hdq), .int (nI nxq), .ref Mgoes, .ref MgoLine, .ref Mends, .ref MendLine, .ref Mkinds, .ref MisName, .int (nI mnq), .ref Mrow, .ref MbyHand, .ref Mleast, .ref Msecond, .ref MendAt, .ref MgoAt, .ref MnodeBehind, .int lE, .ref MisOut, .ref MfirstEnd, .ref MfirstGo])), (Mtape, .inl (cI, 1600, .inl (upd faq ((nI aq).toNatClampNeg) (byM q0 48))))] := hD
            rw [show (upd faq ((nI aq).toNatClampNeg) (byM q0 48)) = (upd faq aq (byM q0 48)) from by rw [nI_clamp (by omega)]] at hP hD
            have hP : va_P (dC, dI) vwCl [(h0, .inr (5, [.int th, .ref Mtape, .int (nI aq), .int (nI znq), .ref Msort, .ref Mplace, .ref Mvalue, .int (nI anq), .int ft, .ref Mwords, .int (nI hdq), .int (nI nxq), .ref Mgoes, .ref MgoLine, .ref Mends, .ref MendLine, .ref Mkinds, .ref MisName, .int (nI mnq), .ref Mrow, .ref MbyHand, .ref Mleast, .ref Msecond, .ref MendAt, .ref MgoAt, .ref MnodeBehind, .int lE, .ref MisOut, .ref MfirstEnd, .ref MfirstGo])), (Mtape, .inl (cI, 1600, .inl (upd faq aq (byM q0 48))))] H := hP
            have hD : va_D A [(h0, .inr (5, [.int th, .ref Mtape, .int (nI aq), .int (nI znq), .ref Msort, .ref Mplace, .ref Mvalue, .int (nI anq), .int ft, .ref Mwords, .int (nI hdq), .int (nI nxq), .ref Mgoes, .ref MgoLine, .ref Mends, .ref MendLine, .ref Mkinds, .ref MisName, .int (nI mnq), .ref Mrow, .ref MbyHand, .ref Mleast, .ref Msecond, .ref MendAt, .ref MgoAt, .ref MnodeBehind, .int lE, .ref MisOut, .ref MfirstEnd, .ref MfirstGo])), (Mtape, .inl (cI, 1600, .inl (upd faq aq (byM q0 48))))] := hD
            refine lv_aload_n hx hb dX5_lay_59 rfl (lv_at hl 2 rfl) ?_
            refine lv_dup hx hb dX5_lay_60 rfl ?_
            refine va_get (D := (dC, dI)) (ci := 5) (v := .int (nI aq)) (C := RX5) (T := TX5) (N := 30) hx hb hts i5 hown hK hP 0 rfl rfl 2 (by decide) (hts (.fieldLink RX5 11 "StopSetterModel" "taped" "I") (by decide +kernel)) (fun _ h9 => h9) rfl dX5_lay_61 ?_
            refine lv_iconst (v := 1) hx hb dX5_lay_64 (by decide) ?_
            refine lv_iadd hx hb dX5_lay_65 ?_
            refine lv_topi (fun v_ ev_ => ?_)
            obtain rfl : v_ = (nI (aq + 1)) := ev_.trans (nI_1 aq)
            refine va_put (D := (dC, dI)) (ci := 5) (v := .int (nI (aq + 1))) (ty := tyX5 2) (C := RX5) (T := TX5) (N := 30) hx hb hts i5 tyX5 tyX5_ok nmX5 hown hK hP hD hS 0 rfl rfl 2 (by decide) (hts (.fieldLink RX5 11 "StopSetterModel" "taped" "I") (by decide +kernel)) (fun _ h9 => h9) rfl (by decide +kernel) rfl rfl (Nat.le_of_ble_eq_true rfl) dX5_lay_66 (fun H locs hP hD hS => ?_)
            have hP : va_P (dC, dI) vwCl [(h0, .inr (5, [.int th, .ref Mtape, .int (nI (aq + 1)), .int (nI znq), .ref Msort, .ref Mplace, .ref Mvalue, .int (nI anq), .int ft, .ref Mwords, .int (nI hdq), .int (nI nxq), .ref Mgoes, .ref MgoLine, .ref Mends, .ref MendLine, .ref Mkinds, .ref MisName, .int (nI mnq), .ref Mrow, .ref MbyHand, .ref Mleast, .ref Msecond, .ref MendAt, .ref MgoAt, .ref MnodeBehind, .int lE, .ref MisOut, .ref MfirstEnd, .ref MfirstGo])), (Mtape, .inl (cI, 1600, .inl (upd faq aq (byM q0 48))))] H := hP
            have hD : va_D A [(h0, .inr (5, [.int th, .ref Mtape, .int (nI (aq + 1)), .int (nI znq), .ref Msort, .ref Mplace, .ref Mvalue, .int (nI anq), .int ft, .ref Mwords, .int (nI hdq), .int (nI nxq), .ref Mgoes, .ref MgoLine, .ref Mends, .ref MendLine, .ref Mkinds, .ref MisName, .int (nI mnq), .ref Mrow, .ref MbyHand, .ref Mleast, .ref Msecond, .ref MendAt, .ref MgoAt, .ref MnodeBehind, .int lE, .ref MisOut, .ref MfirstEnd, .ref MfirstGo])), (Mtape, .inl (cI, 1600, .inl (upd faq aq (byM q0 48))))] := hD
            refine lv_iinc (v := 40) (lv' := [(3, .int 40), (4, .int (byM q0 48)), (0, .ref h0), (1, .long q0)]) hx hb dX5_lay_69 hl (k := 1) rfl (by decide) (by decide) rfl (fun ls hl => ?_)
            refine lv_goto (tgt := 3) hx hb dX5_lay_72 (by decide) ?_
            exact lp_3_40 (aq + 1) (upd faq aq (byM q0 48)) (by have h7 : sgn aq (byM q0 48) = aq + 1 := (by simp only [sgn, if_neg c_21, if_neg c_28, if_neg c_35, if_neg c_45]); have h8 := sgn_le (c := byM q0 48) haq; rw [h7] at h8; exact h8) (by have h7 : sgn aq (byM q0 48) = aq + 1 := (by simp only [sgn, if_neg c_21, if_neg c_28, if_neg c_35, if_neg c_45]); have h8 : sgF (byM q0) [40, 32, 24, 16, 8, 0] (sgn aq (byM q0 48)) = Tq := hTq; rw [h7] at h8; exact h8) (by have h7 : sgn aq (byM q0 48) = aq + 1 := (by simp only [sgn, if_neg c_21, if_neg c_28, if_neg c_35, if_neg c_45]); have h6 : sgM faq aq (byM q0 48) = (upd faq aq (byM q0 48)) := (by simp only [sgM, if_neg c_21, if_neg c_28, if_neg c_35, if_neg c_45]); have h8 : sgMF (byM q0) [40, 32, 24, 16, 8, 0] (sgM faq aq (byM q0 48)) (sgn aq (byM q0 48)) = Fq := hFq; rw [h7, h6] at h8; exact h8) _ _ _ hP hD hS (lv_sub hl [0, 2, 3] rfl)
  have lp_3_56 : ∀ (aq : Nat) (faq : Nat → Int32), aq ≤ 1600 → sgF (byM q0) [56, 48, 40, 32, 24, 16, 8, 0] aq = Tq → sgMF (byM q0) [56, 48, 40, 32, 24, 16, 8, 0] faq aq = Fq → ∀ (H : Heap) (locs : List Loc) (ls : Array Slot), va_P (dC, dI) vwCl [(h0, .inr (5, [.int th, .ref Mtape, .int (nI aq), .int (nI znq), .ref Msort, .ref Mplace, .ref Mvalue, .int (nI anq), .int ft, .ref Mwords, .int (nI hdq), .int (nI nxq), .ref Mgoes, .ref MgoLine, .ref Mends, .ref MendLine, .ref Mkinds, .ref MisName, .int (nI mnq), .ref Mrow, .ref MbyHand, .ref Mleast, .ref Msecond, .ref MendAt, .ref MgoAt, .ref MnodeBehind, .int lE, .ref MisOut, .ref MfirstEnd, .ref MfirstGo])), (Mtape, .inl (cI, 1600, .inl faq))] H → va_D A [(h0, .inr (5, [.int th, .ref Mtape, .int (nI aq), .int (nI znq), .ref Msort, .ref Mplace, .ref Mvalue, .int (nI anq), .int ft, .ref Mwords, .int (nI hdq), .int (nI nxq), .ref Mgoes, .ref MgoLine, .ref Mends, .ref MendLine, .ref Mkinds, .ref MisName, .int (nI mnq), .ref Mrow, .ref MbyHand, .ref Mleast, .ref Msecond, .ref MendAt, .ref MgoAt, .ref MnodeBehind, .int lE, .ref MisOut, .ref MfirstEnd, .ref MfirstGo])), (Mtape, .inl (cI, 1600, .inl faq))] → va_S A s.heap H locs → lv_has ls 5 [(3, .int 56), (0, .ref h0), (1, .long q0)] → W p l e (headSpec wsX5_lay ({ frames := 0, cells := 0, slots := 0, locals := 0 })).room s m ([.ref h0, .long q0]).toArray below meth c H locs 0 0 (MQ below (va_Qv (fun (u : (Nat) × (Nat → Int32)) => match u with | (tnq2, mtape2) => (tnq2 ≤ 1600) ∧ (tnq2 = sgF (byM q0) ks8 tnq) ∧ (mtape2 = sgMF (byM q0) ks8 mtape tnq)) (fun (u : (Nat) × (Nat → Int32)) t => match u with | (tnq2, mtape2) => sB dC dI A [(h0, .inr (5, [.int th, .ref Mtape, .int (nI tnq2), .int (nI znq), .ref Msort, .ref Mplace, .ref Mvalue, .int (nI anq), .int ft, .ref Mwords, .int (nI hdq), .int (nI nxq), .ref Mgoes, .ref MgoLine, .ref Mends, .ref MendLine, .ref Mkinds, .ref MisName, .int (nI mnq), .ref Mrow, .ref MbyHand, .ref Mleast, .ref Msecond, .ref MendAt, .ref MgoAt, .ref MnodeBehind, .int lE, .ref MisOut, .ref MfirstEnd, .ref MfirstGo])), (Mtape, .inl (cI, 1600, .inl mtape2))] t) A) ([.ref h0, .long q0]).toArray s 0 0 A) (F0 m 3 ls []) := by
    intro aq faq haq hTq hFq H locs ls hP hD hS hl
    refine lv_iload_n hx hb dX5_lay_3 rfl (lv_at hl 0 rfl) ?_
    refine lv_if_lt (tgt := 75) hx hb dX5_lay_4 (by decide) (fun h9 => absurd h9 (by decide)) (fun _ => ?_)
    refine lv_lload_n hx hb dX5_lay_7 rfl (lv_at hl 2 rfl) ?_
    refine lv_iload_n hx hb dX5_lay_8 rfl (lv_at hl 0 rfl) ?_
    refine lv_lshr (v := (q0 >>> ((56 : Int32).toInt64 &&& 63))) hx hb dX5_lay_9 rfl ?_
    refine lv_l2i (v := (q0 >>> ((56 : Int32).toInt64 &&& 63)).toInt32) hx hb dX5_lay_10 rfl ?_
    refine lv_sipush (v := 255) hx hb dX5_lay_11 (by decide) ?_
    refine lv_iand hx hb dX5_lay_14 ?_
    refine lv_topi (fun v_ ev_ => ?_)
    obtain rfl : v_ = (byM q0 56) := ev_.trans (rfl)
    refine lv_istore (lv' := [(4, .int (byM q0 56)), (3, .int 56), (0, .ref h0), (1, .long q0)]) hx hb dX5_lay_15 hl (by decide) rfl (fun ls hl => ?_)
    refine lv_iload hx hb dX5_lay_17 (lv_at hl 0 rfl) ?_
    refine lv_bipush (v := 10) hx hb dX5_lay_19 (by decide) ?_
    refine lv_icmp_eq (tgt := 38) hx hb dX5_lay_21 (by decide) (fun c_21 => ?_) (fun c_21 => ?_)
    · skip
      refine lv_aload_n hx hb dX5_lay_38 rfl (lv_at hl 2 rfl) ?_
      refine va_get (D := (dC, dI)) (ci := 5) (v := .int (nI aq)) (C := RX5) (T := TX5) (N := 30) hx hb hts i5 hown hK hP 0 rfl rfl 2 (by decide) (hts (.fieldLink RX5 11 "StopSetterModel" "taped" "I") (by decide +kernel)) (fun _ h9 => h9) rfl dX5_lay_39 ?_
      refine lv_sipush (v := 1600) hx hb dX5_lay_42 (by decide) ?_
      refine lv_icmp_ge (tgt := 69) hx hb dX5_lay_45 (by decide) (fun c_45 => ?_) (fun c_45 => ?_)
      · skip
        refine lv_iinc (v := 48) (lv' := [(3, .int 48), (4, .int (byM q0 56)), (0, .ref h0), (1, .long q0)]) hx hb dX5_lay_69 hl (k := 1) rfl (by decide) (by decide) rfl (fun ls hl => ?_)
        refine lv_goto (tgt := 3) hx hb dX5_lay_72 (by decide) ?_
        exact lp_3_48 aq faq (by have h7 : sgn aq (byM q0 56) = aq := (by simp only [sgn, if_pos c_21, if_pos c_45]); have h8 := sgn_le (c := byM q0 56) haq; rw [h7] at h8; exact h8) (by have h7 : sgn aq (byM q0 56) = aq := (by simp only [sgn, if_pos c_21, if_pos c_45]); have h8 : sgF (byM q0) [48, 40, 32, 24, 16, 8, 0] (sgn aq (byM q0 56)) = Tq := hTq; rw [h7] at h8; exact h8) (by have h7 : sgn aq (byM q0 56) = aq := (by simp only [sgn, if_pos c_21, if_pos c_45]); have h6 : sgM faq aq (byM q0 56) = faq := (by simp only [sgM, if_pos c_21, if_pos c_45]); have h8 : sgMF (byM q0) [48, 40, 32, 24, 16, 8, 0] (sgM faq aq (byM q0 56)) (sgn aq (byM q0 56)) = Fq := hFq; rw [h7, h6] at h8; exact h8) _ _ _ hP hD hS (lv_sub hl [0, 2, 3] rfl)
      · skip
        have hn3 : aq < 1600 := nk_lt (N := 1600) rfl c_45 (by omega)
        refine lv_aload_n hx hb dX5_lay_48 rfl (lv_at hl 2 rfl) ?_
        refine va_get (D := (dC, dI)) (ci := 5) (v := .ref Mtape) (C := RX5) (T := TX5) (N := 30) hx hb hts i5 hown hK hP 0 rfl rfl 1 (by decide) (hts (.fieldLink RX5 14 "StopSetterModel" "tape" "[I") (by decide +kernel)) (fun _ h9 => h9) rfl dX5_lay_49 ?_
        refine lv_aload_n hx hb dX5_lay_52 rfl (lv_at hl 2 rfl) ?_
        refine va_get (D := (dC, dI)) (ci := 5) (v := .int (nI aq)) (C := RX5) (T := TX5) (N := 30) hx hb hts i5 hown hK hP 0 rfl rfl 2 (by decide) (hts (.fieldLink RX5 11 "StopSetterModel" "taped" "I") (by decide +kernel)) (fun _ h9 => h9) rfl dX5_lay_53 ?_
        refine lv_iload hx hb dX5_lay_56 (lv_at hl 0 rfl) ?_
        refine va_iast hx hb hK hP hD hS 1 0 rfl rfl (vp_in_nI hn3 (by decide)) dX5_lay_58 (fun H locs hP hD hS => ?_)
        have hP : va_P (dC, dI) vwCl [(h0, .inr (5, [.int th, .ref Mtape, .int (nI aq), .int (nI znq), .ref Msort, .ref Mplace, .ref Mvalue, .int (nI anq), .int ft, .ref Mwords, .int (nI hdq), .int (nI nxq), .ref Mgoes, .ref MgoLine, .ref Mends, .ref MendLine, .ref Mkinds, .ref MisName, .int (nI mnq), .ref Mrow, .ref MbyHand, .ref Mleast, .ref Msecond, .ref MendAt, .ref MgoAt, .ref MnodeBehind, .int lE, .ref MisOut, .ref MfirstEnd, .ref MfirstGo])), (Mtape, .inl (cI, 1600, .inl (upd faq ((nI aq).toNatClampNeg) (byM q0 56))))] H := hP
        have hD : va_D A [(h0, .inr (5, [.int th, .ref Mtape, .int (nI aq), .int (nI znq), .ref Msort, .ref Mplace, .ref Mvalue, .int (nI anq), .int ft, .ref Mwords, .int (nI hdq), .int (nI nxq), .ref Mgoes, .ref MgoLine, .ref Mends, .ref MendLine, .ref Mkinds, .ref MisName, .int (nI mnq), .ref Mrow, .ref MbyHand, .ref Mleast, .ref Msecond, .ref MendAt, .ref MgoAt, .ref MnodeBehind, .int lE, .ref MisOut, .ref MfirstEnd, .ref MfirstGo])), (Mtape, .inl (cI, 1600, .inl (upd faq ((nI aq).toNatClampNeg) (byM q0 56))))] := hD
        rw [show (upd faq ((nI aq).toNatClampNeg) (byM q0 56)) = (upd faq aq (byM q0 56)) from by rw [nI_clamp (by omega)]] at hP hD
        have hP : va_P (dC, dI) vwCl [(h0, .inr (5, [.int th, .ref Mtape, .int (nI aq), .int (nI znq), .ref Msort, .ref Mplace, .ref Mvalue, .int (nI anq), .int ft, .ref Mwords, .int (nI hdq), .int (nI nxq), .ref Mgoes, .ref MgoLine, .ref Mends, .ref MendLine, .ref Mkinds, .ref MisName, .int (nI mnq), .ref Mrow, .ref MbyHand, .ref Mleast, .ref Msecond, .ref MendAt, .ref MgoAt, .ref MnodeBehind, .int lE, .ref MisOut, .ref MfirstEnd, .ref MfirstGo])), (Mtape, .inl (cI, 1600, .inl (upd faq aq (byM q0 56))))] H := hP
        have hD : va_D A [(h0, .inr (5, [.int th, .ref Mtape, .int (nI aq), .int (nI znq), .ref Msort, .ref Mplace, .ref Mvalue, .int (nI anq), .int ft, .ref Mwords, .int (nI hdq), .int (nI nxq), .ref Mgoes, .ref MgoLine, .ref Mends, .ref MendLine, .ref Mkinds, .ref MisName, .int (nI mnq), .ref Mrow, .ref MbyHand, .ref Mleast, .ref Msecond, .ref MendAt, .ref MgoAt, .ref MnodeBehind, .int lE, .ref MisOut, .ref MfirstEnd, .ref MfirstGo])), (Mtape, .inl (cI, 1600, .inl (upd faq aq (byM q0 56))))] := hD
        refine lv_aload_n hx hb dX5_lay_59 rfl (lv_at hl 2 rfl) ?_
        refine lv_dup hx hb dX5_lay_60 rfl ?_
        refine va_get (D := (dC, dI)) (ci := 5) (v := .int (nI aq)) (C := RX5) (T := TX5) (N := 30) hx hb hts i5 hown hK hP 0 rfl rfl 2 (by decide) (hts (.fieldLink RX5 11 "StopSetterModel" "taped" "I") (by decide +kernel)) (fun _ h9 => h9) rfl dX5_lay_61 ?_
        refine lv_iconst (v := 1) hx hb dX5_lay_64 (by decide) ?_
        refine lv_iadd hx hb dX5_lay_65 ?_
        refine lv_topi (fun v_ ev_ => ?_)
        obtain rfl : v_ = (nI (aq + 1)) := ev_.trans (nI_1 aq)
        refine va_put (D := (dC, dI)) (ci := 5) (v := .int (nI (aq + 1))) (ty := tyX5 2) (C := RX5) (T := TX5) (N := 30) hx hb hts i5 tyX5 tyX5_ok nmX5 hown hK hP hD hS 0 rfl rfl 2 (by decide) (hts (.fieldLink RX5 11 "StopSetterModel" "taped" "I") (by decide +kernel)) (fun _ h9 => h9) rfl (by decide +kernel) rfl rfl (Nat.le_of_ble_eq_true rfl) dX5_lay_66 (fun H locs hP hD hS => ?_)
        have hP : va_P (dC, dI) vwCl [(h0, .inr (5, [.int th, .ref Mtape, .int (nI (aq + 1)), .int (nI znq), .ref Msort, .ref Mplace, .ref Mvalue, .int (nI anq), .int ft, .ref Mwords, .int (nI hdq), .int (nI nxq), .ref Mgoes, .ref MgoLine, .ref Mends, .ref MendLine, .ref Mkinds, .ref MisName, .int (nI mnq), .ref Mrow, .ref MbyHand, .ref Mleast, .ref Msecond, .ref MendAt, .ref MgoAt, .ref MnodeBehind, .int lE, .ref MisOut, .ref MfirstEnd, .ref MfirstGo])), (Mtape, .inl (cI, 1600, .inl (upd faq aq (byM q0 56))))] H := hP
        have hD : va_D A [(h0, .inr (5, [.int th, .ref Mtape, .int (nI (aq + 1)), .int (nI znq), .ref Msort, .ref Mplace, .ref Mvalue, .int (nI anq), .int ft, .ref Mwords, .int (nI hdq), .int (nI nxq), .ref Mgoes, .ref MgoLine, .ref Mends, .ref MendLine, .ref Mkinds, .ref MisName, .int (nI mnq), .ref Mrow, .ref MbyHand, .ref Mleast, .ref Msecond, .ref MendAt, .ref MgoAt, .ref MnodeBehind, .int lE, .ref MisOut, .ref MfirstEnd, .ref MfirstGo])), (Mtape, .inl (cI, 1600, .inl (upd faq aq (byM q0 56))))] := hD
        refine lv_iinc (v := 48) (lv' := [(3, .int 48), (4, .int (byM q0 56)), (0, .ref h0), (1, .long q0)]) hx hb dX5_lay_69 hl (k := 1) rfl (by decide) (by decide) rfl (fun ls hl => ?_)
        refine lv_goto (tgt := 3) hx hb dX5_lay_72 (by decide) ?_
        exact lp_3_48 (aq + 1) (upd faq aq (byM q0 56)) (by have h7 : sgn aq (byM q0 56) = aq + 1 := (by simp only [sgn, if_pos c_21, if_neg c_45]); have h8 := sgn_le (c := byM q0 56) haq; rw [h7] at h8; exact h8) (by have h7 : sgn aq (byM q0 56) = aq + 1 := (by simp only [sgn, if_pos c_21, if_neg c_45]); have h8 : sgF (byM q0) [48, 40, 32, 24, 16, 8, 0] (sgn aq (byM q0 56)) = Tq := hTq; rw [h7] at h8; exact h8) (by have h7 : sgn aq (byM q0 56) = aq + 1 := (by simp only [sgn, if_pos c_21, if_neg c_45]); have h6 : sgM faq aq (byM q0 56) = (upd faq aq (byM q0 56)) := (by simp only [sgM, if_pos c_21, if_neg c_45]); have h8 : sgMF (byM q0) [48, 40, 32, 24, 16, 8, 0] (sgM faq aq (byM q0 56)) (sgn aq (byM q0 56)) = Fq := hFq; rw [h7, h6] at h8; exact h8) _ _ _ hP hD hS (lv_sub hl [0, 2, 3] rfl)
    · skip
      refine lv_iload hx hb dX5_lay_24 (lv_at hl 0 rfl) ?_
      refine lv_bipush (v := 32) hx hb dX5_lay_26 (by decide) ?_
      refine lv_icmp_lt (tgt := 69) hx hb dX5_lay_28 (by decide) (fun c_28 => ?_) (fun c_28 => ?_)
      · skip
        refine lv_iinc (v := 48) (lv' := [(3, .int 48), (4, .int (byM q0 56)), (0, .ref h0), (1, .long q0)]) hx hb dX5_lay_69 hl (k := 1) rfl (by decide) (by decide) rfl (fun ls hl => ?_)
        refine lv_goto (tgt := 3) hx hb dX5_lay_72 (by decide) ?_
        exact lp_3_48 aq faq (by have h7 : sgn aq (byM q0 56) = aq := (by simp only [sgn, if_neg c_21, if_pos c_28]); have h8 := sgn_le (c := byM q0 56) haq; rw [h7] at h8; exact h8) (by have h7 : sgn aq (byM q0 56) = aq := (by simp only [sgn, if_neg c_21, if_pos c_28]); have h8 : sgF (byM q0) [48, 40, 32, 24, 16, 8, 0] (sgn aq (byM q0 56)) = Tq := hTq; rw [h7] at h8; exact h8) (by have h7 : sgn aq (byM q0 56) = aq := (by simp only [sgn, if_neg c_21, if_pos c_28]); have h6 : sgM faq aq (byM q0 56) = faq := (by simp only [sgM, if_neg c_21, if_pos c_28]); have h8 : sgMF (byM q0) [48, 40, 32, 24, 16, 8, 0] (sgM faq aq (byM q0 56)) (sgn aq (byM q0 56)) = Fq := hFq; rw [h7, h6] at h8; exact h8) _ _ _ hP hD hS (lv_sub hl [0, 2, 3] rfl)
      · skip
        refine lv_iload hx hb dX5_lay_31 (lv_at hl 0 rfl) ?_
        refine lv_bipush (v := 126) hx hb dX5_lay_33 (by decide) ?_
        refine lv_icmp_gt (tgt := 69) hx hb dX5_lay_35 (by decide) (fun c_35 => ?_) (fun c_35 => ?_)
        · skip
          refine lv_iinc (v := 48) (lv' := [(3, .int 48), (4, .int (byM q0 56)), (0, .ref h0), (1, .long q0)]) hx hb dX5_lay_69 hl (k := 1) rfl (by decide) (by decide) rfl (fun ls hl => ?_)
          refine lv_goto (tgt := 3) hx hb dX5_lay_72 (by decide) ?_
          exact lp_3_48 aq faq (by have h7 : sgn aq (byM q0 56) = aq := (by simp only [sgn, if_neg c_21, if_neg c_28, if_pos c_35]); have h8 := sgn_le (c := byM q0 56) haq; rw [h7] at h8; exact h8) (by have h7 : sgn aq (byM q0 56) = aq := (by simp only [sgn, if_neg c_21, if_neg c_28, if_pos c_35]); have h8 : sgF (byM q0) [48, 40, 32, 24, 16, 8, 0] (sgn aq (byM q0 56)) = Tq := hTq; rw [h7] at h8; exact h8) (by have h7 : sgn aq (byM q0 56) = aq := (by simp only [sgn, if_neg c_21, if_neg c_28, if_pos c_35]); have h6 : sgM faq aq (byM q0 56) = faq := (by simp only [sgM, if_neg c_21, if_neg c_28, if_pos c_35]); have h8 : sgMF (byM q0) [48, 40, 32, 24, 16, 8, 0] (sgM faq aq (byM q0 56)) (sgn aq (byM q0 56)) = Fq := hFq; rw [h7, h6] at h8; exact h8) _ _ _ hP hD hS (lv_sub hl [0, 2, 3] rfl)
        · skip
          refine lv_aload_n hx hb dX5_lay_38 rfl (lv_at hl 2 rfl) ?_
          refine va_get (D := (dC, dI)) (ci := 5) (v := .int (nI aq)) (C := RX5) (T := TX5) (N := 30) hx hb hts i5 hown hK hP 0 rfl rfl 2 (by decide) (hts (.fieldLink RX5 11 "StopSetterModel" "taped" "I") (by decide +kernel)) (fun _ h9 => h9) rfl dX5_lay_39 ?_
          refine lv_sipush (v := 1600) hx hb dX5_lay_42 (by decide) ?_
          refine lv_icmp_ge (tgt := 69) hx hb dX5_lay_45 (by decide) (fun c_45 => ?_) (fun c_45 => ?_)
          · skip
            refine lv_iinc (v := 48) (lv' := [(3, .int 48), (4, .int (byM q0 56)), (0, .ref h0), (1, .long q0)]) hx hb dX5_lay_69 hl (k := 1) rfl (by decide) (by decide) rfl (fun ls hl => ?_)
            refine lv_goto (tgt := 3) hx hb dX5_lay_72 (by decide) ?_
            exact lp_3_48 aq faq (by have h7 : sgn aq (byM q0 56) = aq := (by simp only [sgn, if_neg c_21, if_neg c_28, if_neg c_35, if_pos c_45]); have h8 := sgn_le (c := byM q0 56) haq; rw [h7] at h8; exact h8) (by have h7 : sgn aq (byM q0 56) = aq := (by simp only [sgn, if_neg c_21, if_neg c_28, if_neg c_35, if_pos c_45]); have h8 : sgF (byM q0) [48, 40, 32, 24, 16, 8, 0] (sgn aq (byM q0 56)) = Tq := hTq; rw [h7] at h8; exact h8) (by have h7 : sgn aq (byM q0 56) = aq := (by simp only [sgn, if_neg c_21, if_neg c_28, if_neg c_35, if_pos c_45]); have h6 : sgM faq aq (byM q0 56) = faq := (by simp only [sgM, if_neg c_21, if_neg c_28, if_neg c_35, if_pos c_45]); have h8 : sgMF (byM q0) [48, 40, 32, 24, 16, 8, 0] (sgM faq aq (byM q0 56)) (sgn aq (byM q0 56)) = Fq := hFq; rw [h7, h6] at h8; exact h8) _ _ _ hP hD hS (lv_sub hl [0, 2, 3] rfl)
          · skip
            have hn3 : aq < 1600 := nk_lt (N := 1600) rfl c_45 (by omega)
            refine lv_aload_n hx hb dX5_lay_48 rfl (lv_at hl 2 rfl) ?_
            refine va_get (D := (dC, dI)) (ci := 5) (v := .ref Mtape) (C := RX5) (T := TX5) (N := 30) hx hb hts i5 hown hK hP 0 rfl rfl 1 (by decide) (hts (.fieldLink RX5 14 "StopSetterModel" "tape" "[I") (by decide +kernel)) (fun _ h9 => h9) rfl dX5_lay_49 ?_
            refine lv_aload_n hx hb dX5_lay_52 rfl (lv_at hl 2 rfl) ?_
            refine va_get (D := (dC, dI)) (ci := 5) (v := .int (nI aq)) (C := RX5) (T := TX5) (N := 30) hx hb hts i5 hown hK hP 0 rfl rfl 2 (by decide) (hts (.fieldLink RX5 11 "StopSetterModel" "taped" "I") (by decide +kernel)) (fun _ h9 => h9) rfl dX5_lay_53 ?_
            refine lv_iload hx hb dX5_lay_56 (lv_at hl 0 rfl) ?_
            refine va_iast hx hb hK hP hD hS 1 0 rfl rfl (vp_in_nI hn3 (by decide)) dX5_lay_58 (fun H locs hP hD hS => ?_)
            have hP : va_P (dC, dI) vwCl [(h0, .inr (5, [.int th, .ref Mtape, .int (nI aq), .int (nI znq), .ref Msort, .ref Mplace, .ref Mvalue, .int (nI anq), .int ft, .ref Mwords, .int (nI hdq), .int (nI nxq), .ref Mgoes, .ref MgoLine, .ref Mends, .ref MendLine, .ref Mkinds, .ref MisName, .int (nI mnq), .ref Mrow, .ref MbyHand, .ref Mleast, .ref Msecond, .ref MendAt, .ref MgoAt, .ref MnodeBehind, .int lE, .ref MisOut, .ref MfirstEnd, .ref MfirstGo])), (Mtape, .inl (cI, 1600, .inl (upd faq ((nI aq).toNatClampNeg) (byM q0 56))))] H := hP
            have hD : va_D A [(h0, .inr (5, [.int th, .ref Mtape, .int (nI aq), .int (nI znq), .ref Msort, .ref Mplace, .ref Mvalue, .int (nI anq), .int ft, .ref Mwords, .int (nI hdq), .int (nI nxq), .ref Mgoes, .ref MgoLine, .ref Mends, .ref MendLine, .ref Mkinds, .ref MisName, .int (nI mnq), .ref Mrow, .ref MbyHand, .ref Mleast, .ref Msecond, .ref MendAt, .ref MgoAt, .ref MnodeBehind, .int lE, .ref MisOut, .ref MfirstEnd, .ref MfirstGo])), (Mtape, .inl (cI, 1600, .inl (upd faq ((nI aq).toNatClampNeg) (byM q0 56))))] := hD
            rw [show (upd faq ((nI aq).toNatClampNeg) (byM q0 56)) = (upd faq aq (byM q0 56)) from by rw [nI_clamp (by omega)]] at hP hD
            have hP : va_P (dC, dI) vwCl [(h0, .inr (5, [.int th, .ref Mtape, .int (nI aq), .int (nI znq), .ref Msort, .ref Mplace, .ref Mvalue, .int (nI anq), .int ft, .ref Mwords, .int (nI hdq), .int (nI nxq), .ref Mgoes, .ref MgoLine, .ref Mends, .ref MendLine, .ref Mkinds, .ref MisName, .int (nI mnq), .ref Mrow, .ref MbyHand, .ref Mleast, .ref Msecond, .ref MendAt, .ref MgoAt, .ref MnodeBehind, .int lE, .ref MisOut, .ref MfirstEnd, .ref MfirstGo])), (Mtape, .inl (cI, 1600, .inl (upd faq aq (byM q0 56))))] H := hP
            have hD : va_D A [(h0, .inr (5, [.int th, .ref Mtape, .int (nI aq), .int (nI znq), .ref Msort, .ref Mplace, .ref Mvalue, .int (nI anq), .int ft, .ref Mwords, .int (nI hdq), .int (nI nxq), .ref Mgoes, .ref MgoLine, .ref Mends, .ref MendLine, .ref Mkinds, .ref MisName, .int (nI mnq), .ref Mrow, .ref MbyHand, .ref Mleast, .ref Msecond, .ref MendAt, .ref MgoAt, .ref MnodeBehind, .int lE, .ref MisOut, .ref MfirstEnd, .ref MfirstGo])), (Mtape, .inl (cI, 1600, .inl (upd faq aq (byM q0 56))))] := hD
            refine lv_aload_n hx hb dX5_lay_59 rfl (lv_at hl 2 rfl) ?_
            refine lv_dup hx hb dX5_lay_60 rfl ?_
            refine va_get (D := (dC, dI)) (ci := 5) (v := .int (nI aq)) (C := RX5) (T := TX5) (N := 30) hx hb hts i5 hown hK hP 0 rfl rfl 2 (by decide) (hts (.fieldLink RX5 11 "StopSetterModel" "taped" "I") (by decide +kernel)) (fun _ h9 => h9) rfl dX5_lay_61 ?_
            refine lv_iconst (v := 1) hx hb dX5_lay_64 (by decide) ?_
            refine lv_iadd hx hb dX5_lay_65 ?_
            refine lv_topi (fun v_ ev_ => ?_)
            obtain rfl : v_ = (nI (aq + 1)) := ev_.trans (nI_1 aq)
            refine va_put (D := (dC, dI)) (ci := 5) (v := .int (nI (aq + 1))) (ty := tyX5 2) (C := RX5) (T := TX5) (N := 30) hx hb hts i5 tyX5 tyX5_ok nmX5 hown hK hP hD hS 0 rfl rfl 2 (by decide) (hts (.fieldLink RX5 11 "StopSetterModel" "taped" "I") (by decide +kernel)) (fun _ h9 => h9) rfl (by decide +kernel) rfl rfl (Nat.le_of_ble_eq_true rfl) dX5_lay_66 (fun H locs hP hD hS => ?_)
            have hP : va_P (dC, dI) vwCl [(h0, .inr (5, [.int th, .ref Mtape, .int (nI (aq + 1)), .int (nI znq), .ref Msort, .ref Mplace, .ref Mvalue, .int (nI anq), .int ft, .ref Mwords, .int (nI hdq), .int (nI nxq), .ref Mgoes, .ref MgoLine, .ref Mends, .ref MendLine, .ref Mkinds, .ref MisName, .int (nI mnq), .ref Mrow, .ref MbyHand, .ref Mleast, .ref Msecond, .ref MendAt, .ref MgoAt, .ref MnodeBehind, .int lE, .ref MisOut, .ref MfirstEnd, .ref MfirstGo])), (Mtape, .inl (cI, 1600, .inl (upd faq aq (byM q0 56))))] H := hP
            have hD : va_D A [(h0, .inr (5, [.int th, .ref Mtape, .int (nI (aq + 1)), .int (nI znq), .ref Msort, .ref Mplace, .ref Mvalue, .int (nI anq), .int ft, .ref Mwords, .int (nI hdq), .int (nI nxq), .ref Mgoes, .ref MgoLine, .ref Mends, .ref MendLine, .ref Mkinds, .ref MisName, .int (nI mnq), .ref Mrow, .ref MbyHand, .ref Mleast, .ref Msecond, .ref MendAt, .ref MgoAt, .ref MnodeBehind, .int lE, .ref MisOut, .ref MfirstEnd, .ref MfirstGo])), (Mtape, .inl (cI, 1600, .inl (upd faq aq (byM q0 56))))] := hD
            refine lv_iinc (v := 48) (lv' := [(3, .int 48), (4, .int (byM q0 56)), (0, .ref h0), (1, .long q0)]) hx hb dX5_lay_69 hl (k := 1) rfl (by decide) (by decide) rfl (fun ls hl => ?_)
            refine lv_goto (tgt := 3) hx hb dX5_lay_72 (by decide) ?_
            exact lp_3_48 (aq + 1) (upd faq aq (byM q0 56)) (by have h7 : sgn aq (byM q0 56) = aq + 1 := (by simp only [sgn, if_neg c_21, if_neg c_28, if_neg c_35, if_neg c_45]); have h8 := sgn_le (c := byM q0 56) haq; rw [h7] at h8; exact h8) (by have h7 : sgn aq (byM q0 56) = aq + 1 := (by simp only [sgn, if_neg c_21, if_neg c_28, if_neg c_35, if_neg c_45]); have h8 : sgF (byM q0) [48, 40, 32, 24, 16, 8, 0] (sgn aq (byM q0 56)) = Tq := hTq; rw [h7] at h8; exact h8) (by have h7 : sgn aq (byM q0 56) = aq + 1 := (by simp only [sgn, if_neg c_21, if_neg c_28, if_neg c_35, if_neg c_45]); have h6 : sgM faq aq (byM q0 56) = (upd faq aq (byM q0 56)) := (by simp only [sgM, if_neg c_21, if_neg c_28, if_neg c_35, if_neg c_45]); have h8 : sgMF (byM q0) [48, 40, 32, 24, 16, 8, 0] (sgM faq aq (byM q0 56)) (sgn aq (byM q0 56)) = Fq := hFq; rw [h7, h6] at h8; exact h8) _ _ _ hP hD hS (lv_sub hl [0, 2, 3] rfl)
  exact lp_3_56 tnq mtape (htn) (eTq.symm) (eFq.symm) _ _ _ hP hD hS (lv_sub hl [0, 1, 2] rfl)
set_option maxHeartbeats 4000000 in
set_option maxRecDepth 100000 in
theorem k_mfeed (l : Launch) (dC : Nat → ClassId) (dI : Nat → Nat → Nat) (cI cZ cC cJ : ClassId) (sz : Nat) (h0 : Nat) (th : Int32) (Mtape : Nat) (tnq : Nat) (znq : Nat) (Msort : Nat) (Mplace : Nat) (Mvalue : Nat) (anq : Nat) (ft : Int32) (Mwords : Nat) (hdq : Nat) (nxq : Nat) (Mgoes : Nat) (MgoLine : Nat) (Mends : Nat) (MendLine : Nat) (Mkinds : Nat) (MisName : Nat) (mnq : Nat) (Mrow : Nat) (MbyHand : Nat) (Mleast : Nat) (Msecond : Nat) (MendAt : Nat) (MgoAt : Nat) (MnodeBehind : Nat) (lE : Int32) (MisOut : Nat) (MfirstEnd : Nat) (MfirstGo : Nat) (mtape : Nat → Int32) (q0 : Int64) (q1 : Int64) (q2 : Int64) (htn : tnq ≤ 1600) : Met l yX5_feed wsX5_feed ({ frames := 1, cells := 0, slots := 0, locals := 24 }) (va_Pc [.ref h0, .long q0, .long q1, .long q2] (sPre dC dI cI cZ cC cJ [(h0, .inr (5, [.int th, .ref Mtape, .int (nI tnq), .int (nI znq), .ref Msort, .ref Mplace, .ref Mvalue, .int (nI anq), .int ft, .ref Mwords, .int (nI hdq), .int (nI nxq), .ref Mgoes, .ref MgoLine, .ref Mends, .ref MendLine, .ref Mkinds, .ref MisName, .int (nI mnq), .ref Mrow, .ref MbyHand, .ref Mleast, .ref Msecond, .ref MendAt, .ref MgoAt, .ref MnodeBehind, .int lE, .ref MisOut, .ref MfirstEnd, .ref MfirstGo])), (Mtape, .inl (cI, 1600, .inl mtape))] sz)) (va_Qi (fun (r : Int32) (u : (Int32) × (Nat) × (Nat → Int32)) => match u with | (th2, tnq2, mtape2) => (tnq2 ≤ 1600) ∧ ((r : Int32) = nI (sgF (byM q2) ks8 (sgF (byM q1) ks8 (sgF (byM q0) ks8 tnq)))) ∧ (tnq2 = sgF (byM q2) ks8 (sgF (byM q1) ks8 (sgF (byM q0) ks8 tnq))) ∧ (mtape2 = mfF q0 q1 q2 mtape tnq)) (fun (u : (Int32) × (Nat) × (Nat → Int32)) t => match u with | (th2, tnq2, mtape2) => sB dC dI (va_A [(h0, .inr (5, [.int th, .ref Mtape, .int (nI tnq), .int (nI znq), .ref Msort, .ref Mplace, .ref Mvalue, .int (nI anq), .int ft, .ref Mwords, .int (nI hdq), .int (nI nxq), .ref Mgoes, .ref MgoLine, .ref Mends, .ref MendLine, .ref Mkinds, .ref MisName, .int (nI mnq), .ref Mrow, .ref MbyHand, .ref Mleast, .ref Msecond, .ref MendAt, .ref MgoAt, .ref MnodeBehind, .int lE, .ref MisOut, .ref MfirstEnd, .ref MfirstGo])), (Mtape, .inl (cI, 1600, .inl mtape))] sz) [(h0, .inr (5, [.int th2, .ref Mtape, .int (nI tnq2), .int (nI znq), .ref Msort, .ref Mplace, .ref Mvalue, .int (nI anq), .int ft, .ref Mwords, .int (nI hdq), .int (nI nxq), .ref Mgoes, .ref MgoLine, .ref Mends, .ref MendLine, .ref Mkinds, .ref MisName, .int (nI mnq), .ref Mrow, .ref MbyHand, .ref Mleast, .ref Msecond, .ref MendAt, .ref MgoAt, .ref MnodeBehind, .int lE, .ref MisOut, .ref MfirstEnd, .ref MfirstGo])), (Mtape, .inl (cI, 1600, .inl mtape2))] t) (va_A [(h0, .inr (5, [.int th, .ref Mtape, .int (nI tnq), .int (nI znq), .ref Msort, .ref Mplace, .ref Mvalue, .int (nI anq), .int ft, .ref Mwords, .int (nI hdq), .int (nI nxq), .ref Mgoes, .ref MgoLine, .ref Mends, .ref MendLine, .ref Mkinds, .ref MisName, .int (nI mnq), .ref Mrow, .ref MbyHand, .ref Mleast, .ref Msecond, .ref MendAt, .ref MgoAt, .ref MnodeBehind, .int lE, .ref MisOut, .ref MfirstEnd, .ref MfirstGo])), (Mtape, .inl (cI, 1600, .inl mtape))] sz)) 0 0 (va_A [(h0, .inr (5, [.int th, .ref Mtape, .int (nI tnq), .int (nI znq), .ref Msort, .ref Mplace, .ref Mvalue, .int (nI anq), .int ft, .ref Mwords, .int (nI hdq), .int (nI nxq), .ref Mgoes, .ref MgoLine, .ref Mends, .ref MendLine, .ref Mkinds, .ref MisName, .int (nI mnq), .ref Mrow, .ref MbyHand, .ref Mleast, .ref Msecond, .ref MendAt, .ref MgoAt, .ref MnodeBehind, .int lE, .ref MisOut, .ref MfirstEnd, .ref MfirstGo])), (Mtape, .inl (cI, 1600, .inl mtape))] sz) := by
  refine Met.ofW (cc := cX5_feed) (maxL := 7) (ret := (some .int)) (by decide) rfl ?_
  intro p e s m args below meth c s₁ B hml hv
  obtain ⟨rfl, hsz, hP, hsk, hD0⟩ := hv
  have hx := B.exec
  have hb := B.bytes
  have hr := B.returns
  have hts := atoms_spec (ws := wsX5_feed) B.pre
  have hown : s.vm.findClass RX5 = some m.cls := findClass_of_methodNamed B.named
  have hlocks := B.notSynchronized
  have hK := hsk.1
  have i5 : ∀ w ∈ wsX50, w ∈ wsX5_feed := by decide +kernel
  subst hsz
  have hD := hD0.self (sz := s.heap.size)
  generalize hAe : va_A [(h0, .inr (5, [.int th, .ref Mtape, .int (nI tnq), .int (nI znq), .ref Msort, .ref Mplace, .ref Mvalue, .int (nI anq), .int ft, .ref Mwords, .int (nI hdq), .int (nI nxq), .ref Mgoes, .ref MgoLine, .ref Mends, .ref MendLine, .ref Mkinds, .ref MisName, .int (nI mnq), .ref Mrow, .ref MbyHand, .ref Mleast, .ref Msecond, .ref MendAt, .ref MgoAt, .ref MnodeBehind, .int lE, .ref MisOut, .ref MfirstEnd, .ref MfirstGo])), (Mtape, .inl (cI, 1600, .inl mtape))] s.heap.size = A at hD ⊢
  have hA : ∀ q : Nat, s.heap.size ≤ q → A q := fun q h => by rw [← hAe]; exact Or.inr h
  have hS : va_S A s.heap s.heap [] := va_S.rf
  have hl := lv_entry ([.ref h0, .long q0, .long q1, .long q2]) (n := 7) (Nat.le_of_ble_eq_true rfl)
  rw [lg_entry_eq]
  generalize (lg_sl ([.ref h0, .long q0, .long q1, .long q2]) ++ List.replicate (7 - (lg_sl ([.ref h0, .long q0, .long q1, .long q2])).length) Slot.unset).toArray = ls at hl ⊢
  have hl : lv_has ls 7 [(0, .ref h0), (1, .long q0), (3, .long q1), (5, .long q2)] := hl
  refine lv_aload_n hx hb dX5_feed_0 rfl (lv_at hl 0 rfl) ?_
  refine lv_iconst (v := 0) hx hb dX5_feed_1 (by decide) ?_
  refine va_put (D := (dC, dI)) (ci := 5) (v := .int 0) (ty := tyX5 0) (C := RX5) (T := TX5) (N := 30) hx hb hts i5 tyX5 tyX5_ok nmX5 hown hK hP hD hS 0 rfl rfl 0 (by decide) (hts (.fieldLink RX5 1 "StopSetterModel" "thrown" "I") (by decide +kernel)) (fun _ h9 => h9) rfl (by decide +kernel) rfl rfl (Nat.le_of_ble_eq_true rfl) dX5_feed_2 (fun H locs hP hD hS => ?_)
  have hP : va_P (dC, dI) vwCl [(h0, .inr (5, [.int 0, .ref Mtape, .int (nI tnq), .int (nI znq), .ref Msort, .ref Mplace, .ref Mvalue, .int (nI anq), .int ft, .ref Mwords, .int (nI hdq), .int (nI nxq), .ref Mgoes, .ref MgoLine, .ref Mends, .ref MendLine, .ref Mkinds, .ref MisName, .int (nI mnq), .ref Mrow, .ref MbyHand, .ref Mleast, .ref Msecond, .ref MendAt, .ref MgoAt, .ref MnodeBehind, .int lE, .ref MisOut, .ref MfirstEnd, .ref MfirstGo])), (Mtape, .inl (cI, 1600, .inl mtape))] H := hP
  have hD : va_D A [(h0, .inr (5, [.int 0, .ref Mtape, .int (nI tnq), .int (nI znq), .ref Msort, .ref Mplace, .ref Mvalue, .int (nI anq), .int ft, .ref Mwords, .int (nI hdq), .int (nI nxq), .ref Mgoes, .ref MgoLine, .ref Mends, .ref MendLine, .ref Mkinds, .ref MisName, .int (nI mnq), .ref Mrow, .ref MbyHand, .ref Mleast, .ref Msecond, .ref MendAt, .ref MgoAt, .ref MnodeBehind, .int lE, .ref MisOut, .ref MfirstEnd, .ref MfirstGo])), (Mtape, .inl (cI, 1600, .inl mtape))] := hD
  refine lv_aload_n hx hb dX5_feed_5 rfl (lv_at hl 0 rfl) ?_
  refine lv_lload_n hx hb dX5_feed_6 rfl (lv_at hl 1 rfl) ?_
  have hPc := hP.sub (ws' := [(h0, .inr (5, [.int 0, .ref Mtape, .int (nI tnq), .int (nI znq), .ref Msort, .ref Mplace, .ref Mvalue, .int (nI anq), .int ft, .ref Mwords, .int (nI hdq), .int (nI nxq), .ref Mgoes, .ref MgoLine, .ref Mends, .ref MendLine, .ref Mkinds, .ref MisName, .int (nI mnq), .ref Mrow, .ref MbyHand, .ref Mleast, .ref Msecond, .ref MendAt, .ref MgoAt, .ref MnodeBehind, .int lE, .ref MisOut, .ref MfirstEnd, .ref MfirstGo])), (Mtape, .inl (cI, 1600, .inl mtape))]) [0, 1] rfl
  have hDc := hD.sub (ws' := [(h0, .inr (5, [.int 0, .ref Mtape, .int (nI tnq), .int (nI znq), .ref Msort, .ref Mplace, .ref Mvalue, .int (nI anq), .int ft, .ref Mwords, .int (nI hdq), .int (nI nxq), .ref Mgoes, .ref MgoLine, .ref Mends, .ref MendLine, .ref Mkinds, .ref MisName, .int (nI mnq), .ref Mrow, .ref MbyHand, .ref Mleast, .ref Msecond, .ref MendAt, .ref MgoAt, .ref MnodeBehind, .int lE, .ref MisOut, .ref MfirstEnd, .ref MfirstGo])), (Mtape, .inl (cI, 1600, .inl mtape))]) [0, 1] (by decide) rfl
  have hFc := va_free (wc := [(h0, .inr (5, [.int 0, .ref Mtape, .int (nI tnq), .int (nI znq), .ref Msort, .ref Mplace, .ref Mvalue, .int (nI anq), .int ft, .ref Mwords, .int (nI hdq), .int (nI nxq), .ref Mgoes, .ref MgoLine, .ref Mends, .ref MendLine, .ref Mkinds, .ref MisName, .int (nI mnq), .ref Mrow, .ref MbyHand, .ref Mleast, .ref Msecond, .ref MendAt, .ref MgoAt, .ref MnodeBehind, .int lE, .ref MisOut, .ref MfirstEnd, .ref MfirstGo])), (Mtape, .inl (cI, 1600, .inl mtape))]) hD hS hA [0, 1] rfl
  refine va_callv (va_runV (As := [.long q0]) (rest := []) ⟨hx, hb, hml, hown, hts⟩ (k_mlay l dC dI cI cZ cC cJ H.size  h0 0 Mtape tnq znq Msort Mplace Mvalue anq ft Mwords hdq nxq Mgoes MgoLine Mends MendLine Mkinds MisName mnq Mrow MbyHand Mleast Msecond MendAt MgoAt MnodeBehind lE MisOut MfirstEnd MfirstGo mtape q0 (by first | assumption | decide | omega)) (cwV 1 hts gX5_feed_X5_lay rfl rfl rfl (by decide +kernel) ⟨Nat.le_of_ble_eq_true rfl, Nat.le_of_ble_eq_true rfl⟩) ⟨sPre_blind, va_recv hK hPc (ci := 5) (q0 := 0) rfl rfl, fun U hU hW => ⟨rfl, sPre_ok hsk hPc hDc hU hW⟩⟩ rfl rfl hl.1 rfl (lv_room (Nat.le_of_ble_eq_true rfl)) dX5_feed_7 ⟨(show 0 + 0 ≤ 0 by omega), (show 0 + 0 ≤ 0 by omega)⟩) hS (fun q _ h => hFc q h) hFc (fun u t H1 locs ht hvm hw hB hz1 hk1 hS => ?_)
  obtain ⟨t_2, m_3⟩ := u
  try dsimp only at hw hB
  obtain ⟨he_4, he_5, he_6⟩ := hw
  have he_4 : t_2 ≤ 1600 := he_4
  have he_5 : t_2 = sgF (byM q0) ks8 tnq := he_5
  have he_6 : m_3 = sgMF (byM q0) ks8 mtape tnq := he_6
  obtain ⟨hP1, hD1⟩ := hB
  rw [ht] at hP1
  obtain ⟨hP, hD⟩ := va_join (wr := []) (w1 := [(h0, .inr (5, [.int 0, .ref Mtape, .int (nI t_2), .int (nI znq), .ref Msort, .ref Mplace, .ref Mvalue, .int (nI anq), .int ft, .ref Mwords, .int (nI hdq), .int (nI nxq), .ref Mgoes, .ref MgoLine, .ref Mends, .ref MendLine, .ref Mkinds, .ref MisName, .int (nI mnq), .ref Mrow, .ref MbyHand, .ref Mleast, .ref Msecond, .ref MendAt, .ref MgoAt, .ref MnodeBehind, .int lE, .ref MisOut, .ref MfirstEnd, .ref MfirstGo])), (Mtape, .inl (cI, 1600, .inl m_3))]) hP hD [0, 1] [] rfl rfl (by decide) (by decide) hk1 hFc hP1 hD1
  generalize H1 = H at hP hS ⊢
  have hP : va_P (dC, dI) vwCl [(h0, .inr (5, [.int 0, .ref Mtape, .int (nI t_2), .int (nI znq), .ref Msort, .ref Mplace, .ref Mvalue, .int (nI anq), .int ft, .ref Mwords, .int (nI hdq), .int (nI nxq), .ref Mgoes, .ref MgoLine, .ref Mends, .ref MendLine, .ref Mkinds, .ref MisName, .int (nI mnq), .ref Mrow, .ref MbyHand, .ref Mleast, .ref Msecond, .ref MendAt, .ref MgoAt, .ref MnodeBehind, .int lE, .ref MisOut, .ref MfirstEnd, .ref MfirstGo])), (Mtape, .inl (cI, 1600, .inl m_3))] H := hP
  have hD : va_D A [(h0, .inr (5, [.int 0, .ref Mtape, .int (nI t_2), .int (nI znq), .ref Msort, .ref Mplace, .ref Mvalue, .int (nI anq), .int ft, .ref Mwords, .int (nI hdq), .int (nI nxq), .ref Mgoes, .ref MgoLine, .ref Mends, .ref MendLine, .ref Mkinds, .ref MisName, .int (nI mnq), .ref Mrow, .ref MbyHand, .ref Mleast, .ref Msecond, .ref MendAt, .ref MgoAt, .ref MnodeBehind, .int lE, .ref MisOut, .ref MfirstEnd, .ref MfirstGo])), (Mtape, .inl (cI, 1600, .inl m_3))] := hD
  refine lv_aload_n hx hb dX5_feed_10 rfl (lv_at hl 0 rfl) ?_
  refine lv_lload_n hx hb dX5_feed_11 rfl (lv_at hl 2 rfl) ?_
  have hPc := hP.sub (ws' := [(h0, .inr (5, [.int 0, .ref Mtape, .int (nI t_2), .int (nI znq), .ref Msort, .ref Mplace, .ref Mvalue, .int (nI anq), .int ft, .ref Mwords, .int (nI hdq), .int (nI nxq), .ref Mgoes, .ref MgoLine, .ref Mends, .ref MendLine, .ref Mkinds, .ref MisName, .int (nI mnq), .ref Mrow, .ref MbyHand, .ref Mleast, .ref Msecond, .ref MendAt, .ref MgoAt, .ref MnodeBehind, .int lE, .ref MisOut, .ref MfirstEnd, .ref MfirstGo])), (Mtape, .inl (cI, 1600, .inl m_3))]) [0, 1] rfl
  have hDc := hD.sub (ws' := [(h0, .inr (5, [.int 0, .ref Mtape, .int (nI t_2), .int (nI znq), .ref Msort, .ref Mplace, .ref Mvalue, .int (nI anq), .int ft, .ref Mwords, .int (nI hdq), .int (nI nxq), .ref Mgoes, .ref MgoLine, .ref Mends, .ref MendLine, .ref Mkinds, .ref MisName, .int (nI mnq), .ref Mrow, .ref MbyHand, .ref Mleast, .ref Msecond, .ref MendAt, .ref MgoAt, .ref MnodeBehind, .int lE, .ref MisOut, .ref MfirstEnd, .ref MfirstGo])), (Mtape, .inl (cI, 1600, .inl m_3))]) [0, 1] (by decide) rfl
  have hFc := va_free (wc := [(h0, .inr (5, [.int 0, .ref Mtape, .int (nI t_2), .int (nI znq), .ref Msort, .ref Mplace, .ref Mvalue, .int (nI anq), .int ft, .ref Mwords, .int (nI hdq), .int (nI nxq), .ref Mgoes, .ref MgoLine, .ref Mends, .ref MendLine, .ref Mkinds, .ref MisName, .int (nI mnq), .ref Mrow, .ref MbyHand, .ref Mleast, .ref Msecond, .ref MendAt, .ref MgoAt, .ref MnodeBehind, .int lE, .ref MisOut, .ref MfirstEnd, .ref MfirstGo])), (Mtape, .inl (cI, 1600, .inl m_3))]) hD hS hA [0, 1] rfl
  refine va_callv (va_runV (As := [.long q1]) (rest := []) ⟨hx, hb, hml, hown, hts⟩ (k_mlay l dC dI cI cZ cC cJ H.size  h0 0 Mtape t_2 znq Msort Mplace Mvalue anq ft Mwords hdq nxq Mgoes MgoLine Mends MendLine Mkinds MisName mnq Mrow MbyHand Mleast Msecond MendAt MgoAt MnodeBehind lE MisOut MfirstEnd MfirstGo m_3 q1 (by first | assumption | decide | omega)) (cwV 1 hts gX5_feed_X5_lay rfl rfl rfl (by decide +kernel) ⟨Nat.le_of_ble_eq_true rfl, Nat.le_of_ble_eq_true rfl⟩) ⟨sPre_blind, va_recv hK hPc (ci := 5) (q0 := 0) rfl rfl, fun U hU hW => ⟨rfl, sPre_ok hsk hPc hDc hU hW⟩⟩ rfl rfl hl.1 rfl (lv_room (Nat.le_of_ble_eq_true rfl)) dX5_feed_12 ⟨(show 0 + 0 ≤ 0 by omega), (show 0 + 0 ≤ 0 by omega)⟩) hS (fun q _ h => hFc q h) hFc (fun u t H1 locs ht hvm hw hB hz1 hk1 hS => ?_)
  obtain ⟨t_8, m_9⟩ := u
  try dsimp only at hw hB
  obtain ⟨he_10, he_11, he_12⟩ := hw
  have he_10 : t_8 ≤ 1600 := he_10
  have he_11 : t_8 = sgF (byM q1) ks8 t_2 := he_11
  have he_12 : m_9 = sgMF (byM q1) ks8 m_3 t_2 := he_12
  obtain ⟨hP1, hD1⟩ := hB
  rw [ht] at hP1
  obtain ⟨hP, hD⟩ := va_join (wr := []) (w1 := [(h0, .inr (5, [.int 0, .ref Mtape, .int (nI t_8), .int (nI znq), .ref Msort, .ref Mplace, .ref Mvalue, .int (nI anq), .int ft, .ref Mwords, .int (nI hdq), .int (nI nxq), .ref Mgoes, .ref MgoLine, .ref Mends, .ref MendLine, .ref Mkinds, .ref MisName, .int (nI mnq), .ref Mrow, .ref MbyHand, .ref Mleast, .ref Msecond, .ref MendAt, .ref MgoAt, .ref MnodeBehind, .int lE, .ref MisOut, .ref MfirstEnd, .ref MfirstGo])), (Mtape, .inl (cI, 1600, .inl m_9))]) hP hD [0, 1] [] rfl rfl (by decide) (by decide) hk1 hFc hP1 hD1
  generalize H1 = H at hP hS ⊢
  have hP : va_P (dC, dI) vwCl [(h0, .inr (5, [.int 0, .ref Mtape, .int (nI t_8), .int (nI znq), .ref Msort, .ref Mplace, .ref Mvalue, .int (nI anq), .int ft, .ref Mwords, .int (nI hdq), .int (nI nxq), .ref Mgoes, .ref MgoLine, .ref Mends, .ref MendLine, .ref Mkinds, .ref MisName, .int (nI mnq), .ref Mrow, .ref MbyHand, .ref Mleast, .ref Msecond, .ref MendAt, .ref MgoAt, .ref MnodeBehind, .int lE, .ref MisOut, .ref MfirstEnd, .ref MfirstGo])), (Mtape, .inl (cI, 1600, .inl m_9))] H := hP
  have hD : va_D A [(h0, .inr (5, [.int 0, .ref Mtape, .int (nI t_8), .int (nI znq), .ref Msort, .ref Mplace, .ref Mvalue, .int (nI anq), .int ft, .ref Mwords, .int (nI hdq), .int (nI nxq), .ref Mgoes, .ref MgoLine, .ref Mends, .ref MendLine, .ref Mkinds, .ref MisName, .int (nI mnq), .ref Mrow, .ref MbyHand, .ref Mleast, .ref Msecond, .ref MendAt, .ref MgoAt, .ref MnodeBehind, .int lE, .ref MisOut, .ref MfirstEnd, .ref MfirstGo])), (Mtape, .inl (cI, 1600, .inl m_9))] := hD
  refine lv_aload_n hx hb dX5_feed_15 rfl (lv_at hl 0 rfl) ?_
  refine lv_lload hx hb dX5_feed_16 (lv_at hl 3 rfl) ?_
  have hPc := hP.sub (ws' := [(h0, .inr (5, [.int 0, .ref Mtape, .int (nI t_8), .int (nI znq), .ref Msort, .ref Mplace, .ref Mvalue, .int (nI anq), .int ft, .ref Mwords, .int (nI hdq), .int (nI nxq), .ref Mgoes, .ref MgoLine, .ref Mends, .ref MendLine, .ref Mkinds, .ref MisName, .int (nI mnq), .ref Mrow, .ref MbyHand, .ref Mleast, .ref Msecond, .ref MendAt, .ref MgoAt, .ref MnodeBehind, .int lE, .ref MisOut, .ref MfirstEnd, .ref MfirstGo])), (Mtape, .inl (cI, 1600, .inl m_9))]) [0, 1] rfl
  have hDc := hD.sub (ws' := [(h0, .inr (5, [.int 0, .ref Mtape, .int (nI t_8), .int (nI znq), .ref Msort, .ref Mplace, .ref Mvalue, .int (nI anq), .int ft, .ref Mwords, .int (nI hdq), .int (nI nxq), .ref Mgoes, .ref MgoLine, .ref Mends, .ref MendLine, .ref Mkinds, .ref MisName, .int (nI mnq), .ref Mrow, .ref MbyHand, .ref Mleast, .ref Msecond, .ref MendAt, .ref MgoAt, .ref MnodeBehind, .int lE, .ref MisOut, .ref MfirstEnd, .ref MfirstGo])), (Mtape, .inl (cI, 1600, .inl m_9))]) [0, 1] (by decide) rfl
  have hFc := va_free (wc := [(h0, .inr (5, [.int 0, .ref Mtape, .int (nI t_8), .int (nI znq), .ref Msort, .ref Mplace, .ref Mvalue, .int (nI anq), .int ft, .ref Mwords, .int (nI hdq), .int (nI nxq), .ref Mgoes, .ref MgoLine, .ref Mends, .ref MendLine, .ref Mkinds, .ref MisName, .int (nI mnq), .ref Mrow, .ref MbyHand, .ref Mleast, .ref Msecond, .ref MendAt, .ref MgoAt, .ref MnodeBehind, .int lE, .ref MisOut, .ref MfirstEnd, .ref MfirstGo])), (Mtape, .inl (cI, 1600, .inl m_9))]) hD hS hA [0, 1] rfl
  refine va_callv (va_runV (As := [.long q2]) (rest := []) ⟨hx, hb, hml, hown, hts⟩ (k_mlay l dC dI cI cZ cC cJ H.size  h0 0 Mtape t_8 znq Msort Mplace Mvalue anq ft Mwords hdq nxq Mgoes MgoLine Mends MendLine Mkinds MisName mnq Mrow MbyHand Mleast Msecond MendAt MgoAt MnodeBehind lE MisOut MfirstEnd MfirstGo m_9 q2 (by first | assumption | decide | omega)) (cwV 1 hts gX5_feed_X5_lay rfl rfl rfl (by decide +kernel) ⟨Nat.le_of_ble_eq_true rfl, Nat.le_of_ble_eq_true rfl⟩) ⟨sPre_blind, va_recv hK hPc (ci := 5) (q0 := 0) rfl rfl, fun U hU hW => ⟨rfl, sPre_ok hsk hPc hDc hU hW⟩⟩ rfl rfl hl.1 rfl (lv_room (Nat.le_of_ble_eq_true rfl)) dX5_feed_18 ⟨(show 0 + 0 ≤ 0 by omega), (show 0 + 0 ≤ 0 by omega)⟩) hS (fun q _ h => hFc q h) hFc (fun u t H1 locs ht hvm hw hB hz1 hk1 hS => ?_)
  obtain ⟨t_14, m_15⟩ := u
  try dsimp only at hw hB
  obtain ⟨he_16, he_17, he_18⟩ := hw
  have he_16 : t_14 ≤ 1600 := he_16
  have he_17 : t_14 = sgF (byM q2) ks8 t_8 := he_17
  have he_18 : m_15 = sgMF (byM q2) ks8 m_9 t_8 := he_18
  obtain ⟨hP1, hD1⟩ := hB
  rw [ht] at hP1
  obtain ⟨hP, hD⟩ := va_join (wr := []) (w1 := [(h0, .inr (5, [.int 0, .ref Mtape, .int (nI t_14), .int (nI znq), .ref Msort, .ref Mplace, .ref Mvalue, .int (nI anq), .int ft, .ref Mwords, .int (nI hdq), .int (nI nxq), .ref Mgoes, .ref MgoLine, .ref Mends, .ref MendLine, .ref Mkinds, .ref MisName, .int (nI mnq), .ref Mrow, .ref MbyHand, .ref Mleast, .ref Msecond, .ref MendAt, .ref MgoAt, .ref MnodeBehind, .int lE, .ref MisOut, .ref MfirstEnd, .ref MfirstGo])), (Mtape, .inl (cI, 1600, .inl m_15))]) hP hD [0, 1] [] rfl rfl (by decide) (by decide) hk1 hFc hP1 hD1
  generalize H1 = H at hP hS ⊢
  have hP : va_P (dC, dI) vwCl [(h0, .inr (5, [.int 0, .ref Mtape, .int (nI t_14), .int (nI znq), .ref Msort, .ref Mplace, .ref Mvalue, .int (nI anq), .int ft, .ref Mwords, .int (nI hdq), .int (nI nxq), .ref Mgoes, .ref MgoLine, .ref Mends, .ref MendLine, .ref Mkinds, .ref MisName, .int (nI mnq), .ref Mrow, .ref MbyHand, .ref Mleast, .ref Msecond, .ref MendAt, .ref MgoAt, .ref MnodeBehind, .int lE, .ref MisOut, .ref MfirstEnd, .ref MfirstGo])), (Mtape, .inl (cI, 1600, .inl m_15))] H := hP
  have hD : va_D A [(h0, .inr (5, [.int 0, .ref Mtape, .int (nI t_14), .int (nI znq), .ref Msort, .ref Mplace, .ref Mvalue, .int (nI anq), .int ft, .ref Mwords, .int (nI hdq), .int (nI nxq), .ref Mgoes, .ref MgoLine, .ref Mends, .ref MendLine, .ref Mkinds, .ref MisName, .int (nI mnq), .ref Mrow, .ref MbyHand, .ref Mleast, .ref Msecond, .ref MendAt, .ref MgoAt, .ref MnodeBehind, .int lE, .ref MisOut, .ref MfirstEnd, .ref MfirstGo])), (Mtape, .inl (cI, 1600, .inl m_15))] := hD
  refine lv_aload_n hx hb dX5_feed_21 rfl (lv_at hl 0 rfl) ?_
  refine va_get (D := (dC, dI)) (ci := 5) (v := .int (nI t_14)) (C := RX5) (T := TX5) (N := 30) hx hb hts i5 hown hK hP 0 rfl rfl 2 (by decide) (hts (.fieldLink RX5 11 "StopSetterModel" "taped" "I") (by decide +kernel)) (fun _ h9 => h9) rfl dX5_feed_22 ?_
  have hP9 := hP.sub (ws' := [(h0, .inr (5, [.int 0, .ref Mtape, .int (nI t_14), .int (nI znq), .ref Msort, .ref Mplace, .ref Mvalue, .int (nI anq), .int ft, .ref Mwords, .int (nI hdq), .int (nI nxq), .ref Mgoes, .ref MgoLine, .ref Mends, .ref MendLine, .ref Mkinds, .ref MisName, .int (nI mnq), .ref Mrow, .ref MbyHand, .ref Mleast, .ref Msecond, .ref MendAt, .ref MgoAt, .ref MnodeBehind, .int lE, .ref MisOut, .ref MfirstEnd, .ref MfirstGo])), (Mtape, .inl (cI, 1600, .inl m_15))]) [0, 1] rfl
  have hD9 := hD.sub (ws' := [(h0, .inr (5, [.int 0, .ref Mtape, .int (nI t_14), .int (nI znq), .ref Msort, .ref Mplace, .ref Mvalue, .int (nI anq), .int ft, .ref Mwords, .int (nI hdq), .int (nI nxq), .ref Mgoes, .ref MgoLine, .ref Mends, .ref MendLine, .ref Mkinds, .ref MisName, .int (nI mnq), .ref Mrow, .ref MbyHand, .ref Mleast, .ref Msecond, .ref MendAt, .ref MgoAt, .ref MnodeBehind, .int lE, .ref MisOut, .ref MfirstEnd, .ref MfirstGo])), (Mtape, .inl (cI, 1600, .inl m_15))]) [0, 1] (by decide) rfl
  have hens0 : t_14 ≤ 1600 := (by assumption)
  have hens1 : ((nI t_14) : Int32) = nI (sgF (byM q2) ks8 (sgF (byM q1) ks8 (sgF (byM q0) ks8 tnq))) := (by rw [he_17, he_11, he_5])
  have hens2 : t_14 = sgF (byM q2) ks8 (sgF (byM q1) ks8 (sgF (byM q0) ks8 tnq)) := (by rw [he_17, he_11, he_5])
  have hens3 : m_15 = mfF q0 q1 q2 mtape tnq := (by rw [he_18, he_12, he_11, he_6, he_5]; rfl)
  exact W.iret (v := (nI t_14)) hx hb hr (fun t ht hW => ⟨⟨(nI t_14), (0, t_14, m_15), rfl, ⟨hens0, hens1, hens2, hens3⟩, by rw [ht]; exact hP9, hD9⟩, hS.F ht⟩) hS.2.2 dX5_feed_25
set_option maxHeartbeats 4000000 in
set_option maxRecDepth 100000 in
theorem k_isLetter (l : Launch) (dC : Nat → ClassId) (dI : Nat → Nat → Nat) (cI cZ cC cJ : ClassId) (sz : Nat) (p0 : Int32)  : Met l yX5_isLetter wsX5_isLetter ({ frames := 0, cells := 0, slots := 0, locals := 0 }) (va_Pc [.int p0] (sPre dC dI cI cZ cC cJ [] sz)) (va_Qi (fun (r : Int32) (u : Unit) => r = isL p0) (fun _ => sB dC dI (va_A [] sz) []) (va_A [] sz)) 0 0 (va_A [] sz) := by
  refine Met.ofW (cc := cX5_isLetter) (maxL := 1) (ret := (some .boolean)) (by decide) rfl ?_
  intro p e s m args below meth c s₁ B hml hv
  obtain ⟨rfl, hsz, hP, hsk, hD0⟩ := hv
  have hx := B.exec
  have hb := B.bytes
  have hr := B.returns
  have hts := atoms_spec (ws := wsX5_isLetter) B.pre
  have hown : s.vm.findClass RX5 = some m.cls := findClass_of_methodNamed B.named
  have hlocks := B.notSynchronized
  have hK := hsk.1
  subst hsz
  have hD := hD0.self (sz := s.heap.size)
  generalize hAe : va_A [] s.heap.size = A at hD ⊢
  have hA : ∀ q : Nat, s.heap.size ≤ q → A q := fun q h => by rw [← hAe]; exact Or.inr h
  have hS : va_S A s.heap s.heap [] := va_S.rf
  have hl := lv_entry ([.int p0]) (n := 1) (Nat.le_of_ble_eq_true rfl)
  rw [lg_entry_eq]
  generalize (lg_sl ([.int p0]) ++ List.replicate (1 - (lg_sl ([.int p0])).length) Slot.unset).toArray = ls at hl ⊢
  have hl : lv_has ls 1 [(0, .int p0)] := hl
  refine lv_iload_n hx hb dX5_isLetter_0 rfl (lv_at hl 0 rfl) ?_
  refine lv_bipush (v := 97) hx hb dX5_isLetter_1 (by decide) ?_
  refine lv_icmp_lt (tgt := 16) hx hb dX5_isLetter_3 (by decide) (fun c_3 => ?_) (fun c_3 => ?_)
  · skip
    refine lv_iconst (v := 0) hx hb dX5_isLetter_16 (by decide) ?_
    have hP9 := hP.sub (ws' := []) [] rfl
    have hD9 := hD.sub (ws' := []) [] (by decide) rfl
    exact W.zret (v := 0) (ty := .boolean) hx hb hr rfl (fun t ht hW => ⟨⟨0, (), rfl, (by simp only [isL, if_pos c_3]), by rw [ht]; exact hP9, hD9⟩, hS.F ht⟩) hS.2.2 dX5_isLetter_17
  · skip
    refine lv_iload_n hx hb dX5_isLetter_6 rfl (lv_at hl 0 rfl) ?_
    refine lv_bipush (v := 122) hx hb dX5_isLetter_7 (by decide) ?_
    refine lv_icmp_gt (tgt := 16) hx hb dX5_isLetter_9 (by decide) (fun c_9 => ?_) (fun c_9 => ?_)
    · skip
      refine lv_iconst (v := 0) hx hb dX5_isLetter_16 (by decide) ?_
      have hP9 := hP.sub (ws' := []) [] rfl
      have hD9 := hD.sub (ws' := []) [] (by decide) rfl
      exact W.zret (v := 0) (ty := .boolean) hx hb hr rfl (fun t ht hW => ⟨⟨0, (), rfl, (by simp only [isL, if_neg c_3, if_pos c_9]), by rw [ht]; exact hP9, hD9⟩, hS.F ht⟩) hS.2.2 dX5_isLetter_17
    · skip
      refine lv_iconst (v := 1) hx hb dX5_isLetter_12 (by decide) ?_
      refine lv_goto (tgt := 17) hx hb dX5_isLetter_13 (by decide) ?_
      have hP9 := hP.sub (ws' := []) [] rfl
      have hD9 := hD.sub (ws' := []) [] (by decide) rfl
      exact W.zret (v := 1) (ty := .boolean) hx hb hr rfl (fun t ht hW => ⟨⟨1, (), rfl, (by simp only [isL, if_neg c_3, if_neg c_9]), by rw [ht]; exact hP9, hD9⟩, hS.F ht⟩) hS.2.2 dX5_isLetter_17
set_option maxHeartbeats 4000000 in
set_option maxRecDepth 100000 in
theorem k_isDigit (l : Launch) (dC : Nat → ClassId) (dI : Nat → Nat → Nat) (cI cZ cC cJ : ClassId) (sz : Nat) (p0 : Int32)  : Met l yX5_isDigit wsX5_isDigit ({ frames := 0, cells := 0, slots := 0, locals := 0 }) (va_Pc [.int p0] (sPre dC dI cI cZ cC cJ [] sz)) (va_Qi (fun (r : Int32) (u : Unit) => r = isD p0) (fun _ => sB dC dI (va_A [] sz) []) (va_A [] sz)) 0 0 (va_A [] sz) := by
  refine Met.ofW (cc := cX5_isDigit) (maxL := 1) (ret := (some .boolean)) (by decide) rfl ?_
  intro p e s m args below meth c s₁ B hml hv
  obtain ⟨rfl, hsz, hP, hsk, hD0⟩ := hv
  have hx := B.exec
  have hb := B.bytes
  have hr := B.returns
  have hts := atoms_spec (ws := wsX5_isDigit) B.pre
  have hown : s.vm.findClass RX5 = some m.cls := findClass_of_methodNamed B.named
  have hlocks := B.notSynchronized
  have hK := hsk.1
  subst hsz
  have hD := hD0.self (sz := s.heap.size)
  generalize hAe : va_A [] s.heap.size = A at hD ⊢
  have hA : ∀ q : Nat, s.heap.size ≤ q → A q := fun q h => by rw [← hAe]; exact Or.inr h
  have hS : va_S A s.heap s.heap [] := va_S.rf
  have hl := lv_entry ([.int p0]) (n := 1) (Nat.le_of_ble_eq_true rfl)
  rw [lg_entry_eq]
  generalize (lg_sl ([.int p0]) ++ List.replicate (1 - (lg_sl ([.int p0])).length) Slot.unset).toArray = ls at hl ⊢
  have hl : lv_has ls 1 [(0, .int p0)] := hl
  refine lv_iload_n hx hb dX5_isDigit_0 rfl (lv_at hl 0 rfl) ?_
  refine lv_bipush (v := 48) hx hb dX5_isDigit_1 (by decide) ?_
  refine lv_icmp_lt (tgt := 16) hx hb dX5_isDigit_3 (by decide) (fun c_3 => ?_) (fun c_3 => ?_)
  · skip
    refine lv_iconst (v := 0) hx hb dX5_isDigit_16 (by decide) ?_
    have hP9 := hP.sub (ws' := []) [] rfl
    have hD9 := hD.sub (ws' := []) [] (by decide) rfl
    exact W.zret (v := 0) (ty := .boolean) hx hb hr rfl (fun t ht hW => ⟨⟨0, (), rfl, (by simp only [isD, if_pos c_3]), by rw [ht]; exact hP9, hD9⟩, hS.F ht⟩) hS.2.2 dX5_isDigit_17
  · skip
    refine lv_iload_n hx hb dX5_isDigit_6 rfl (lv_at hl 0 rfl) ?_
    refine lv_bipush (v := 57) hx hb dX5_isDigit_7 (by decide) ?_
    refine lv_icmp_gt (tgt := 16) hx hb dX5_isDigit_9 (by decide) (fun c_9 => ?_) (fun c_9 => ?_)
    · skip
      refine lv_iconst (v := 0) hx hb dX5_isDigit_16 (by decide) ?_
      have hP9 := hP.sub (ws' := []) [] rfl
      have hD9 := hD.sub (ws' := []) [] (by decide) rfl
      exact W.zret (v := 0) (ty := .boolean) hx hb hr rfl (fun t ht hW => ⟨⟨0, (), rfl, (by simp only [isD, if_neg c_3, if_pos c_9]), by rw [ht]; exact hP9, hD9⟩, hS.F ht⟩) hS.2.2 dX5_isDigit_17
    · skip
      refine lv_iconst (v := 1) hx hb dX5_isDigit_12 (by decide) ?_
      refine lv_goto (tgt := 17) hx hb dX5_isDigit_13 (by decide) ?_
      have hP9 := hP.sub (ws' := []) [] rfl
      have hD9 := hD.sub (ws' := []) [] (by decide) rfl
      exact W.zret (v := 1) (ty := .boolean) hx hb hr rfl (fun t ht hW => ⟨⟨1, (), rfl, (by simp only [isD, if_neg c_3, if_neg c_9]), by rw [ht]; exact hP9, hD9⟩, hS.F ht⟩) hS.2.2 dX5_isDigit_17
set_option maxHeartbeats 4000000 in
set_option maxRecDepth 100000 in
theorem k_rank (l : Launch) (dC : Nat → ClassId) (dI : Nat → Nat → Nat) (cI cZ cC cJ : ClassId) (sz : Nat) (p0 : Int32)  : Met l yX5_rank wsX5_rank ({ frames := 1, cells := 0, slots := 0, locals := 20 }) (va_Pc [.int p0] (sPre dC dI cI cZ cC cJ [] sz)) (va_Qi (fun (r : Int32) (u : Unit) => r = (if isL p0 = 0 then p0 - 21 else p0 - 96)) (fun _ => sB dC dI (va_A [] sz) []) (va_A [] sz)) 0 0 (va_A [] sz) := by
  refine Met.ofW (cc := cX5_rank) (maxL := 1) (ret := (some .int)) (by decide) rfl ?_
  intro p e s m args below meth c s₁ B hml hv
  obtain ⟨rfl, hsz, hP, hsk, hD0⟩ := hv
  have hx := B.exec
  have hb := B.bytes
  have hr := B.returns
  have hts := atoms_spec (ws := wsX5_rank) B.pre
  have hown : s.vm.findClass RX5 = some m.cls := findClass_of_methodNamed B.named
  have hlocks := B.notSynchronized
  have hK := hsk.1
  subst hsz
  have hD := hD0.self (sz := s.heap.size)
  generalize hAe : va_A [] s.heap.size = A at hD ⊢
  have hA : ∀ q : Nat, s.heap.size ≤ q → A q := fun q h => by rw [← hAe]; exact Or.inr h
  have hS : va_S A s.heap s.heap [] := va_S.rf
  have hl := lv_entry ([.int p0]) (n := 1) (Nat.le_of_ble_eq_true rfl)
  rw [lg_entry_eq]
  generalize (lg_sl ([.int p0]) ++ List.replicate (1 - (lg_sl ([.int p0])).length) Slot.unset).toArray = ls at hl ⊢
  have hl : lv_has ls 1 [(0, .int p0)] := hl
  refine lv_iload_n hx hb dX5_rank_0 rfl (lv_at hl 0 rfl) ?_
  have hPc := hP.sub (ws' := []) [] rfl
  have hDc := hD.sub (ws' := []) [] (by decide) rfl
  have hFc := va_free (wc := []) hD hS hA [] rfl
  refine va_calli (va_runS (As := [.int p0]) (rest := []) ⟨hx, hb, hml, hown, hts⟩ (k_isLetter l dC dI cI cZ cC cJ s.heap.size  p0 ) (va_cwS 1 hts gX5_rank_X5_isLetter rfl rfl rfl (by decide +kernel) ⟨Nat.le_of_ble_eq_true rfl, Nat.le_of_ble_eq_true rfl⟩) ⟨sPre_blind, fun U hU hW => ⟨rfl, sPre_ok hsk hPc hDc hU hW⟩⟩ rfl rfl hl.1 rfl (lv_room (Nat.le_of_ble_eq_true rfl)) dX5_rank_1 ⟨(show 0 + 0 ≤ 0 by omega), (show 0 + 0 ≤ 0 by omega)⟩) hS (fun q _ h => hFc q h) hFc (fun r_1 u t H1 locs ht hvm hw hB hz1 hk1 hS => ?_)
  try dsimp only at hw hB
  have hw_2 := hw
  obtain rfl : r_1 = isL p0 := hw_2
  obtain ⟨hP1, hD1⟩ := hB
  rw [ht] at hP1
  obtain ⟨hP, hD⟩ := va_join (wr := []) (w1 := []) hP hD [] [] rfl rfl (by decide) (by decide) hk1 hFc hP1 hD1
  generalize H1 = H at hP hS ⊢
  have hP : va_P (dC, dI) vwCl [] H := hP
  have hD : va_D A [] := hD
  refine lv_if_eq (tgt := 14) hx hb dX5_rank_4 (by decide) (fun c_4 => ?_) (fun c_4 => ?_)
  · skip
    refine lv_iload_n hx hb dX5_rank_14 rfl (lv_at hl 0 rfl) ?_
    refine lv_bipush (v := 21) hx hb dX5_rank_15 (by decide) ?_
    refine lv_isub hx hb dX5_rank_17 ?_
    have hP9 := hP.sub (ws' := []) [] rfl
    have hD9 := hD.sub (ws' := []) [] (by decide) rfl
    exact W.iret (v := (p0 - 21)) hx hb hr (fun t ht hW => ⟨⟨(p0 - 21), (), rfl, (by rw [if_pos c_4]), by rw [ht]; exact hP9, hD9⟩, hS.F ht⟩) hS.2.2 dX5_rank_18
  · skip
    refine lv_iload_n hx hb dX5_rank_7 rfl (lv_at hl 0 rfl) ?_
    refine lv_bipush (v := 96) hx hb dX5_rank_8 (by decide) ?_
    refine lv_isub hx hb dX5_rank_10 ?_
    refine lv_goto (tgt := 18) hx hb dX5_rank_11 (by decide) ?_
    have hP9 := hP.sub (ws' := []) [] rfl
    have hD9 := hD.sub (ws' := []) [] (by decide) rfl
    exact W.iret (v := (p0 - 96)) hx hb hr (fun t ht hW => ⟨⟨(p0 - 96), (), rfl, (by rw [if_neg c_4]), by rw [ht]; exact hP9, hD9⟩, hS.F ht⟩) hS.2.2 dX5_rank_18
set_option maxHeartbeats 4000000 in
set_option maxRecDepth 100000 in
theorem k_isSignOf (l : Launch) (dC : Nat → ClassId) (dI : Nat → Nat → Nat) (cI cZ cC cJ : ClassId) (sz : Nat) (p0 : Int32)  : Met l yX5_isSignOf wsX5_isSignOf ({ frames := 0, cells := 0, slots := 0, locals := 0 }) (va_Pc [.int p0] (sPre dC dI cI cZ cC cJ [] sz)) (va_Qi (fun (r : Int32) (u : Unit) => r = (if p0 = 59 then 1 else 0)) (fun _ => sB dC dI (va_A [] sz) []) (va_A [] sz)) 0 0 (va_A [] sz) := by
  refine Met.ofW (cc := cX5_isSignOf) (maxL := 1) (ret := (some .boolean)) (by decide) rfl ?_
  intro p e s m args below meth c s₁ B hml hv
  obtain ⟨rfl, hsz, hP, hsk, hD0⟩ := hv
  have hx := B.exec
  have hb := B.bytes
  have hr := B.returns
  have hts := atoms_spec (ws := wsX5_isSignOf) B.pre
  have hown : s.vm.findClass RX5 = some m.cls := findClass_of_methodNamed B.named
  have hlocks := B.notSynchronized
  have hK := hsk.1
  subst hsz
  have hD := hD0.self (sz := s.heap.size)
  generalize hAe : va_A [] s.heap.size = A at hD ⊢
  have hA : ∀ q : Nat, s.heap.size ≤ q → A q := fun q h => by rw [← hAe]; exact Or.inr h
  have hS : va_S A s.heap s.heap [] := va_S.rf
  have hl := lv_entry ([.int p0]) (n := 1) (Nat.le_of_ble_eq_true rfl)
  rw [lg_entry_eq]
  generalize (lg_sl ([.int p0]) ++ List.replicate (1 - (lg_sl ([.int p0])).length) Slot.unset).toArray = ls at hl ⊢
  have hl : lv_has ls 1 [(0, .int p0)] := hl
  refine lv_iload_n hx hb dX5_isSignOf_0 rfl (lv_at hl 0 rfl) ?_
  refine lv_bipush (v := 59) hx hb dX5_isSignOf_1 (by decide) ?_
  refine lv_icmp_ne (tgt := 10) hx hb dX5_isSignOf_3 (by decide) (fun c_3 => ?_) (fun c_3 => ?_)
  · skip
    refine lv_iconst (v := 0) hx hb dX5_isSignOf_10 (by decide) ?_
    have hP9 := hP.sub (ws' := []) [] rfl
    have hD9 := hD.sub (ws' := []) [] (by decide) rfl
    exact W.zret (v := 0) (ty := .boolean) hx hb hr rfl (fun t ht hW => ⟨⟨0, (), rfl, (by rw [if_neg c_3]), by rw [ht]; exact hP9, hD9⟩, hS.F ht⟩) hS.2.2 dX5_isSignOf_11
  · skip
    refine lv_iconst (v := 1) hx hb dX5_isSignOf_6 (by decide) ?_
    refine lv_goto (tgt := 11) hx hb dX5_isSignOf_7 (by decide) ?_
    have hP9 := hP.sub (ws' := []) [] rfl
    have hD9 := hD.sub (ws' := []) [] (by decide) rfl
    exact W.zret (v := 1) (ty := .boolean) hx hb hr rfl (fun t ht hW => ⟨⟨1, (), rfl, (by rw [if_pos c_3]), by rw [ht]; exact hP9, hD9⟩, hS.F ht⟩) hS.2.2 dX5_isSignOf_11
set_option maxHeartbeats 4000000 in
set_option maxRecDepth 100000 in
theorem k_isOne (l : Launch) (dC : Nat → ClassId) (dI : Nat → Nat → Nat) (cI cZ cC cJ : ClassId) (sz : Nat) (p0 : Int32)  : Met l yX5_isOne wsX5_isOne ({ frames := 0, cells := 0, slots := 0, locals := 0 }) (va_Pc [.int p0] (sPre dC dI cI cZ cC cJ [] sz)) (va_Qi (fun (r : Int32) (u : Unit) => r = isW p0) (fun _ => sB dC dI (va_A [] sz) []) (va_A [] sz)) 0 0 (va_A [] sz) := by
  refine Met.ofW (cc := cX5_isOne) (maxL := 1) (ret := (some .boolean)) (by decide) rfl ?_
  intro p e s m args below meth c s₁ B hml hv
  obtain ⟨rfl, hsz, hP, hsk, hD0⟩ := hv
  have hx := B.exec
  have hb := B.bytes
  have hr := B.returns
  have hts := atoms_spec (ws := wsX5_isOne) B.pre
  have hown : s.vm.findClass RX5 = some m.cls := findClass_of_methodNamed B.named
  have hlocks := B.notSynchronized
  have hK := hsk.1
  subst hsz
  have hD := hD0.self (sz := s.heap.size)
  generalize hAe : va_A [] s.heap.size = A at hD ⊢
  have hA : ∀ q : Nat, s.heap.size ≤ q → A q := fun q h => by rw [← hAe]; exact Or.inr h
  have hS : va_S A s.heap s.heap [] := va_S.rf
  have hl := lv_entry ([.int p0]) (n := 1) (Nat.le_of_ble_eq_true rfl)
  rw [lg_entry_eq]
  generalize (lg_sl ([.int p0]) ++ List.replicate (1 - (lg_sl ([.int p0])).length) Slot.unset).toArray = ls at hl ⊢
  have hl : lv_has ls 1 [(0, .int p0)] := hl
  refine lv_iload_n hx hb dX5_isOne_0 rfl (lv_at hl 0 rfl) ?_
  refine lv_iconst (v := 1) hx hb dX5_isOne_1 (by decide) ?_
  refine lv_icmp_lt (tgt := 15) hx hb dX5_isOne_2 (by decide) (fun c_2 => ?_) (fun c_2 => ?_)
  · skip
    refine lv_iconst (v := 0) hx hb dX5_isOne_15 (by decide) ?_
    have hP9 := hP.sub (ws' := []) [] rfl
    have hD9 := hD.sub (ws' := []) [] (by decide) rfl
    exact W.zret (v := 0) (ty := .boolean) hx hb hr rfl (fun t ht hW => ⟨⟨0, (), rfl, (by simp only [isW, if_pos c_2]), by rw [ht]; exact hP9, hD9⟩, hS.F ht⟩) hS.2.2 dX5_isOne_16
  · skip
    refine lv_iload_n hx hb dX5_isOne_5 rfl (lv_at hl 0 rfl) ?_
    refine lv_bipush (v := 99) hx hb dX5_isOne_6 (by decide) ?_
    refine lv_icmp_gt (tgt := 15) hx hb dX5_isOne_8 (by decide) (fun c_8 => ?_) (fun c_8 => ?_)
    · skip
      refine lv_iconst (v := 0) hx hb dX5_isOne_15 (by decide) ?_
      have hP9 := hP.sub (ws' := []) [] rfl
      have hD9 := hD.sub (ws' := []) [] (by decide) rfl
      exact W.zret (v := 0) (ty := .boolean) hx hb hr rfl (fun t ht hW => ⟨⟨0, (), rfl, (by simp only [isW, if_neg c_2, if_pos c_8]), by rw [ht]; exact hP9, hD9⟩, hS.F ht⟩) hS.2.2 dX5_isOne_16
    · skip
      refine lv_iconst (v := 1) hx hb dX5_isOne_11 (by decide) ?_
      refine lv_goto (tgt := 16) hx hb dX5_isOne_12 (by decide) ?_
      have hP9 := hP.sub (ws' := []) [] rfl
      have hD9 := hD.sub (ws' := []) [] (by decide) rfl
      exact W.zret (v := 1) (ty := .boolean) hx hb hr rfl (fun t ht hW => ⟨⟨1, (), rfl, (by simp only [isW, if_neg c_2, if_neg c_8]), by rw [ht]; exact hP9, hD9⟩, hS.F ht⟩) hS.2.2 dX5_isOne_16
set_option maxHeartbeats 4000000 in
set_option maxRecDepth 100000 in
theorem k_mname (l : Launch) (dC : Nat → ClassId) (dI : Nat → Nat → Nat) (cI cZ cC cJ : ClassId) (sz : Nat) (h0 : Nat) (th : Int32) (Mtape : Nat) (tnq : Nat) (znq : Nat) (Msort : Nat) (Mplace : Nat) (Mvalue : Nat) (anq : Nat) (ft : Int32) (Mwords : Nat) (hdq : Nat) (nxq : Nat) (Mgoes : Nat) (MgoLine : Nat) (Mends : Nat) (MendLine : Nat) (Mkinds : Nat) (MisName : Nat) (mnq : Nat) (Mrow : Nat) (MbyHand : Nat) (Mleast : Nat) (Msecond : Nat) (MendAt : Nat) (MgoAt : Nat) (MnodeBehind : Nat) (lE : Int32) (MisOut : Nat) (MfirstEnd : Nat) (MfirstGo : Nat) (misName : Nat → Int32) (p0 : Int32) (p1 : Int32)  : Met l yX5_name wsX5_name ({ frames := 1, cells := 0, slots := 0, locals := 20 }) (va_Pc [.ref h0, .int p0, .int p1] (sPre dC dI cI cZ cC cJ [(h0, .inr (5, [.int th, .ref Mtape, .int (nI tnq), .int (nI znq), .ref Msort, .ref Mplace, .ref Mvalue, .int (nI anq), .int ft, .ref Mwords, .int (nI hdq), .int (nI nxq), .ref Mgoes, .ref MgoLine, .ref Mends, .ref MendLine, .ref Mkinds, .ref MisName, .int (nI mnq), .ref Mrow, .ref MbyHand, .ref Mleast, .ref Msecond, .ref MendAt, .ref MgoAt, .ref MnodeBehind, .int lE, .ref MisOut, .ref MfirstEnd, .ref MfirstGo])), (MisName, .inl (cZ, 100, .inl misName))] sz)) (va_Qi (fun (r : Int32) (u : (Int32) × (Nat → Int32)) => match u with | (th2, misName2) => r = rName p0) (fun (u : (Int32) × (Nat → Int32)) t => match u with | (th2, misName2) => sB dC dI (va_A [(h0, .inr (5, [.int th, .ref Mtape, .int (nI tnq), .int (nI znq), .ref Msort, .ref Mplace, .ref Mvalue, .int (nI anq), .int ft, .ref Mwords, .int (nI hdq), .int (nI nxq), .ref Mgoes, .ref MgoLine, .ref Mends, .ref MendLine, .ref Mkinds, .ref MisName, .int (nI mnq), .ref Mrow, .ref MbyHand, .ref Mleast, .ref Msecond, .ref MendAt, .ref MgoAt, .ref MnodeBehind, .int lE, .ref MisOut, .ref MfirstEnd, .ref MfirstGo])), (MisName, .inl (cZ, 100, .inl misName))] sz) [(h0, .inr (5, [.int th2, .ref Mtape, .int (nI tnq), .int (nI znq), .ref Msort, .ref Mplace, .ref Mvalue, .int (nI anq), .int ft, .ref Mwords, .int (nI hdq), .int (nI nxq), .ref Mgoes, .ref MgoLine, .ref Mends, .ref MendLine, .ref Mkinds, .ref MisName, .int (nI mnq), .ref Mrow, .ref MbyHand, .ref Mleast, .ref Msecond, .ref MendAt, .ref MgoAt, .ref MnodeBehind, .int lE, .ref MisOut, .ref MfirstEnd, .ref MfirstGo])), (MisName, .inl (cZ, 100, .inl misName2))] t) (va_A [(h0, .inr (5, [.int th, .ref Mtape, .int (nI tnq), .int (nI znq), .ref Msort, .ref Mplace, .ref Mvalue, .int (nI anq), .int ft, .ref Mwords, .int (nI hdq), .int (nI nxq), .ref Mgoes, .ref MgoLine, .ref Mends, .ref MendLine, .ref Mkinds, .ref MisName, .int (nI mnq), .ref Mrow, .ref MbyHand, .ref Mleast, .ref Msecond, .ref MendAt, .ref MgoAt, .ref MnodeBehind, .int lE, .ref MisOut, .ref MfirstEnd, .ref MfirstGo])), (MisName, .inl (cZ, 100, .inl misName))] sz)) 0 0 (va_A [(h0, .inr (5, [.int th, .ref Mtape, .int (nI tnq), .int (nI znq), .ref Msort, .ref Mplace, .ref Mvalue, .int (nI anq), .int ft, .ref Mwords, .int (nI hdq), .int (nI nxq), .ref Mgoes, .ref MgoLine, .ref Mends, .ref MendLine, .ref Mkinds, .ref MisName, .int (nI mnq), .ref Mrow, .ref MbyHand, .ref Mleast, .ref Msecond, .ref MendAt, .ref MgoAt, .ref MnodeBehind, .int lE, .ref MisOut, .ref MfirstEnd, .ref MfirstGo])), (MisName, .inl (cZ, 100, .inl misName))] sz) := by
  refine Met.ofW (cc := cX5_name) (maxL := 3) (ret := (some .boolean)) (by decide) rfl ?_
  intro p e s m args below meth c s₁ B hml hv
  obtain ⟨rfl, hsz, hP, hsk, hD0⟩ := hv
  have hx := B.exec
  have hb := B.bytes
  have hr := B.returns
  have hts := atoms_spec (ws := wsX5_name) B.pre
  have hown : s.vm.findClass RX5 = some m.cls := findClass_of_methodNamed B.named
  have hlocks := B.notSynchronized
  have hK := hsk.1
  have i5 : ∀ w ∈ wsX50, w ∈ wsX5_name := by decide +kernel
  subst hsz
  have hD := hD0.self (sz := s.heap.size)
  generalize hAe : va_A [(h0, .inr (5, [.int th, .ref Mtape, .int (nI tnq), .int (nI znq), .ref Msort, .ref Mplace, .ref Mvalue, .int (nI anq), .int ft, .ref Mwords, .int (nI hdq), .int (nI nxq), .ref Mgoes, .ref MgoLine, .ref Mends, .ref MendLine, .ref Mkinds, .ref MisName, .int (nI mnq), .ref Mrow, .ref MbyHand, .ref Mleast, .ref Msecond, .ref MendAt, .ref MgoAt, .ref MnodeBehind, .int lE, .ref MisOut, .ref MfirstEnd, .ref MfirstGo])), (MisName, .inl (cZ, 100, .inl misName))] s.heap.size = A at hD ⊢
  have hA : ∀ q : Nat, s.heap.size ≤ q → A q := fun q h => by rw [← hAe]; exact Or.inr h
  have hS : va_S A s.heap s.heap [] := va_S.rf
  have hl := lv_entry ([.ref h0, .int p0, .int p1]) (n := 3) (Nat.le_of_ble_eq_true rfl)
  rw [lg_entry_eq]
  generalize (lg_sl ([.ref h0, .int p0, .int p1]) ++ List.replicate (3 - (lg_sl ([.ref h0, .int p0, .int p1])).length) Slot.unset).toArray = ls at hl ⊢
  have hl : lv_has ls 3 [(0, .ref h0), (1, .int p0), (2, .int p1)] := hl
  refine lv_aload_n hx hb dX5_name_0 rfl (lv_at hl 0 rfl) ?_
  refine lv_iconst (v := 0) hx hb dX5_name_1 (by decide) ?_
  refine va_put (D := (dC, dI)) (ci := 5) (v := .int 0) (ty := tyX5 0) (C := RX5) (T := TX5) (N := 30) hx hb hts i5 tyX5 tyX5_ok nmX5 hown hK hP hD hS 0 rfl rfl 0 (by decide) (hts (.fieldLink RX5 1 "StopSetterModel" "thrown" "I") (by decide +kernel)) (fun _ h9 => h9) rfl (by decide +kernel) rfl rfl (Nat.le_of_ble_eq_true rfl) dX5_name_2 (fun H locs hP hD hS => ?_)
  have hP : va_P (dC, dI) vwCl [(h0, .inr (5, [.int 0, .ref Mtape, .int (nI tnq), .int (nI znq), .ref Msort, .ref Mplace, .ref Mvalue, .int (nI anq), .int ft, .ref Mwords, .int (nI hdq), .int (nI nxq), .ref Mgoes, .ref MgoLine, .ref Mends, .ref MendLine, .ref Mkinds, .ref MisName, .int (nI mnq), .ref Mrow, .ref MbyHand, .ref Mleast, .ref Msecond, .ref MendAt, .ref MgoAt, .ref MnodeBehind, .int lE, .ref MisOut, .ref MfirstEnd, .ref MfirstGo])), (MisName, .inl (cZ, 100, .inl misName))] H := hP
  have hD : va_D A [(h0, .inr (5, [.int 0, .ref Mtape, .int (nI tnq), .int (nI znq), .ref Msort, .ref Mplace, .ref Mvalue, .int (nI anq), .int ft, .ref Mwords, .int (nI hdq), .int (nI nxq), .ref Mgoes, .ref MgoLine, .ref Mends, .ref MendLine, .ref Mkinds, .ref MisName, .int (nI mnq), .ref Mrow, .ref MbyHand, .ref Mleast, .ref Msecond, .ref MendAt, .ref MgoAt, .ref MnodeBehind, .int lE, .ref MisOut, .ref MfirstEnd, .ref MfirstGo])), (MisName, .inl (cZ, 100, .inl misName))] := hD
  refine lv_iload_n hx hb dX5_name_5 rfl (lv_at hl 1 rfl) ?_
  have hPc := hP.sub (ws' := []) [] rfl
  have hDc := hD.sub (ws' := []) [] (by decide) rfl
  have hFc := va_free (wc := []) hD hS hA [] rfl
  refine va_calli (va_runS (As := [.int p0]) (rest := []) ⟨hx, hb, hml, hown, hts⟩ (k_isOne l dC dI cI cZ cC cJ H.size  p0 ) (va_cwS 1 hts gX5_name_X5_isOne rfl rfl rfl (by decide +kernel) ⟨Nat.le_of_ble_eq_true rfl, Nat.le_of_ble_eq_true rfl⟩) ⟨sPre_blind, fun U hU hW => ⟨rfl, sPre_ok hsk hPc hDc hU hW⟩⟩ rfl rfl hl.1 rfl (lv_room (Nat.le_of_ble_eq_true rfl)) dX5_name_6 ⟨(show 0 + 0 ≤ 0 by omega), (show 0 + 0 ≤ 0 by omega)⟩) hS (fun q _ h => hFc q h) hFc (fun r_1 u t H1 locs ht hvm hw hB hz1 hk1 hS => ?_)
  try dsimp only at hw hB
  have hw_2 := hw
  obtain rfl : r_1 = isW p0 := hw_2
  obtain ⟨hP1, hD1⟩ := hB
  rw [ht] at hP1
  obtain ⟨hP, hD⟩ := va_join (wr := [(h0, .inr (5, [.int 0, .ref Mtape, .int (nI tnq), .int (nI znq), .ref Msort, .ref Mplace, .ref Mvalue, .int (nI anq), .int ft, .ref Mwords, .int (nI hdq), .int (nI nxq), .ref Mgoes, .ref MgoLine, .ref Mends, .ref MendLine, .ref Mkinds, .ref MisName, .int (nI mnq), .ref Mrow, .ref MbyHand, .ref Mleast, .ref Msecond, .ref MendAt, .ref MgoAt, .ref MnodeBehind, .int lE, .ref MisOut, .ref MfirstEnd, .ref MfirstGo])), (MisName, .inl (cZ, 100, .inl misName))]) (w1 := []) hP hD [] [0, 1] rfl rfl (by decide) (by decide) hk1 hFc hP1 hD1
  generalize H1 = H at hP hS ⊢
  have hP : va_P (dC, dI) vwCl [(h0, .inr (5, [.int 0, .ref Mtape, .int (nI tnq), .int (nI znq), .ref Msort, .ref Mplace, .ref Mvalue, .int (nI anq), .int ft, .ref Mwords, .int (nI hdq), .int (nI nxq), .ref Mgoes, .ref MgoLine, .ref Mends, .ref MendLine, .ref Mkinds, .ref MisName, .int (nI mnq), .ref Mrow, .ref MbyHand, .ref Mleast, .ref Msecond, .ref MendAt, .ref MgoAt, .ref MnodeBehind, .int lE, .ref MisOut, .ref MfirstEnd, .ref MfirstGo])), (MisName, .inl (cZ, 100, .inl misName))] H := hP
  have hD : va_D A [(h0, .inr (5, [.int 0, .ref Mtape, .int (nI tnq), .int (nI znq), .ref Msort, .ref Mplace, .ref Mvalue, .int (nI anq), .int ft, .ref Mwords, .int (nI hdq), .int (nI nxq), .ref Mgoes, .ref MgoLine, .ref Mends, .ref MendLine, .ref Mkinds, .ref MisName, .int (nI mnq), .ref Mrow, .ref MbyHand, .ref Mleast, .ref Msecond, .ref MendAt, .ref MgoAt, .ref MnodeBehind, .int lE, .ref MisOut, .ref MfirstEnd, .ref MfirstGo])), (MisName, .inl (cZ, 100, .inl misName))] := hD
  refine lv_if_ne (tgt := 14) hx hb dX5_name_9 (by decide) (fun c_9 => ?_) (fun c_9 => ?_)
  · skip
    refine lv_aload_n hx hb dX5_name_14 rfl (lv_at hl 0 rfl) ?_
    refine va_get (D := (dC, dI)) (ci := 5) (v := .ref MisName) (C := RX5) (T := TX5) (N := 30) hx hb hts i5 hown hK hP 0 rfl rfl 17 (by decide) (hts (.fieldLink RX5 76 "StopSetterModel" "isName" "[Z") (by decide +kernel)) (fun _ h9 => h9) rfl dX5_name_15 ?_
    refine lv_iload_n hx hb dX5_name_18 rfl (lv_at hl 1 rfl) ?_
    refine lv_iload_n hx hb dX5_name_19 rfl (lv_at hl 2 rfl) ?_
    refine va_zast hx hb hK hP hD hS 1 1 rfl rfl (isW_in c_9) dX5_name_20 (fun H locs hP hD hS => ?_)
    have hP : va_P (dC, dI) vwCl [(h0, .inr (5, [.int 0, .ref Mtape, .int (nI tnq), .int (nI znq), .ref Msort, .ref Mplace, .ref Mvalue, .int (nI anq), .int ft, .ref Mwords, .int (nI hdq), .int (nI nxq), .ref Mgoes, .ref MgoLine, .ref Mends, .ref MendLine, .ref Mkinds, .ref MisName, .int (nI mnq), .ref Mrow, .ref MbyHand, .ref Mleast, .ref Msecond, .ref MendAt, .ref MgoAt, .ref MnodeBehind, .int lE, .ref MisOut, .ref MfirstEnd, .ref MfirstGo])), (MisName, .inl (cZ, 100, .inl (upd misName (p0.toNatClampNeg) (vp_nar .boolean p1))))] H := hP
    have hD : va_D A [(h0, .inr (5, [.int 0, .ref Mtape, .int (nI tnq), .int (nI znq), .ref Msort, .ref Mplace, .ref Mvalue, .int (nI anq), .int ft, .ref Mwords, .int (nI hdq), .int (nI nxq), .ref Mgoes, .ref MgoLine, .ref Mends, .ref MendLine, .ref Mkinds, .ref MisName, .int (nI mnq), .ref Mrow, .ref MbyHand, .ref Mleast, .ref Msecond, .ref MendAt, .ref MgoAt, .ref MnodeBehind, .int lE, .ref MisOut, .ref MfirstEnd, .ref MfirstGo])), (MisName, .inl (cZ, 100, .inl (upd misName (p0.toNatClampNeg) (vp_nar .boolean p1))))] := hD
    obtain ⟨f_3, ef_3⟩ : ∃ f9, f9 = (upd misName (p0.toNatClampNeg) (vp_nar .boolean p1)) := ⟨_, rfl⟩
    rw [← ef_3] at hP hD
    have hP : va_P (dC, dI) vwCl [(h0, .inr (5, [.int 0, .ref Mtape, .int (nI tnq), .int (nI znq), .ref Msort, .ref Mplace, .ref Mvalue, .int (nI anq), .int ft, .ref Mwords, .int (nI hdq), .int (nI nxq), .ref Mgoes, .ref MgoLine, .ref Mends, .ref MendLine, .ref Mkinds, .ref MisName, .int (nI mnq), .ref Mrow, .ref MbyHand, .ref Mleast, .ref Msecond, .ref MendAt, .ref MgoAt, .ref MnodeBehind, .int lE, .ref MisOut, .ref MfirstEnd, .ref MfirstGo])), (MisName, .inl (cZ, 100, .inl f_3))] H := hP
    have hD : va_D A [(h0, .inr (5, [.int 0, .ref Mtape, .int (nI tnq), .int (nI znq), .ref Msort, .ref Mplace, .ref Mvalue, .int (nI anq), .int ft, .ref Mwords, .int (nI hdq), .int (nI nxq), .ref Mgoes, .ref MgoLine, .ref Mends, .ref MendLine, .ref Mkinds, .ref MisName, .int (nI mnq), .ref Mrow, .ref MbyHand, .ref Mleast, .ref Msecond, .ref MendAt, .ref MgoAt, .ref MnodeBehind, .int lE, .ref MisOut, .ref MfirstEnd, .ref MfirstGo])), (MisName, .inl (cZ, 100, .inl f_3))] := hD
    refine lv_iconst (v := 1) hx hb dX5_name_21 (by decide) ?_
    have hP9 := hP.sub (ws' := [(h0, .inr (5, [.int 0, .ref Mtape, .int (nI tnq), .int (nI znq), .ref Msort, .ref Mplace, .ref Mvalue, .int (nI anq), .int ft, .ref Mwords, .int (nI hdq), .int (nI nxq), .ref Mgoes, .ref MgoLine, .ref Mends, .ref MendLine, .ref Mkinds, .ref MisName, .int (nI mnq), .ref Mrow, .ref MbyHand, .ref Mleast, .ref Msecond, .ref MendAt, .ref MgoAt, .ref MnodeBehind, .int lE, .ref MisOut, .ref MfirstEnd, .ref MfirstGo])), (MisName, .inl (cZ, 100, .inl f_3))]) [0, 1] rfl
    have hD9 := hD.sub (ws' := [(h0, .inr (5, [.int 0, .ref Mtape, .int (nI tnq), .int (nI znq), .ref Msort, .ref Mplace, .ref Mvalue, .int (nI anq), .int ft, .ref Mwords, .int (nI hdq), .int (nI nxq), .ref Mgoes, .ref MgoLine, .ref Mends, .ref MendLine, .ref Mkinds, .ref MisName, .int (nI mnq), .ref Mrow, .ref MbyHand, .ref Mleast, .ref Msecond, .ref MendAt, .ref MgoAt, .ref MnodeBehind, .int lE, .ref MisOut, .ref MfirstEnd, .ref MfirstGo])), (MisName, .inl (cZ, 100, .inl f_3))]) [0, 1] (by decide) rfl
    exact W.zret (v := 1) (ty := .boolean) hx hb hr rfl (fun t ht hW => ⟨⟨1, (0, f_3), rfl, (by simp only [rName, if_neg c_9]), by rw [ht]; exact hP9, hD9⟩, hS.F ht⟩) hS.2.2 dX5_name_22
  · skip
    refine lv_iconst (v := 0) hx hb dX5_name_12 (by decide) ?_
    have hP9 := hP.sub (ws' := [(h0, .inr (5, [.int 0, .ref Mtape, .int (nI tnq), .int (nI znq), .ref Msort, .ref Mplace, .ref Mvalue, .int (nI anq), .int ft, .ref Mwords, .int (nI hdq), .int (nI nxq), .ref Mgoes, .ref MgoLine, .ref Mends, .ref MendLine, .ref Mkinds, .ref MisName, .int (nI mnq), .ref Mrow, .ref MbyHand, .ref Mleast, .ref Msecond, .ref MendAt, .ref MgoAt, .ref MnodeBehind, .int lE, .ref MisOut, .ref MfirstEnd, .ref MfirstGo])), (MisName, .inl (cZ, 100, .inl misName))]) [0, 1] rfl
    have hD9 := hD.sub (ws' := [(h0, .inr (5, [.int 0, .ref Mtape, .int (nI tnq), .int (nI znq), .ref Msort, .ref Mplace, .ref Mvalue, .int (nI anq), .int ft, .ref Mwords, .int (nI hdq), .int (nI nxq), .ref Mgoes, .ref MgoLine, .ref Mends, .ref MendLine, .ref Mkinds, .ref MisName, .int (nI mnq), .ref Mrow, .ref MbyHand, .ref Mleast, .ref Msecond, .ref MendAt, .ref MgoAt, .ref MnodeBehind, .int lE, .ref MisOut, .ref MfirstEnd, .ref MfirstGo])), (MisName, .inl (cZ, 100, .inl misName))]) [0, 1] (by decide) rfl
    exact W.zret (v := 0) (ty := .boolean) hx hb hr rfl (fun t ht hW => ⟨⟨0, (0, misName), rfl, (by simp only [rName, if_pos c_9]), by rw [ht]; exact hP9, hD9⟩, hS.F ht⟩) hS.2.2 dX5_name_13
set_option maxHeartbeats 4000000 in
set_option maxRecDepth 100000 in
theorem k_mdrop (l : Launch) (dC : Nat → ClassId) (dI : Nat → Nat → Nat) (cI cZ cC cJ : ClassId) (sz : Nat) (h0 : Nat) (th : Int32) (Mtape : Nat) (tnq : Nat) (znq : Nat) (Msort : Nat) (Mplace : Nat) (Mvalue : Nat) (anq : Nat) (ft : Int32) (Mwords : Nat) (hdq : Nat) (nxq : Nat) (Mgoes : Nat) (MgoLine : Nat) (Mends : Nat) (MendLine : Nat) (Mkinds : Nat) (MisName : Nat) (mnq : Nat) (Mrow : Nat) (MbyHand : Nat) (Mleast : Nat) (Msecond : Nat) (MendAt : Nat) (MgoAt : Nat) (MnodeBehind : Nat) (lE : Int32) (MisOut : Nat) (MfirstEnd : Nat) (MfirstGo : Nat) (hmn : mnq ≤ 60) : Met l yX5_drop wsX5_drop ({ frames := 0, cells := 0, slots := 0, locals := 0 }) (va_Pc [.ref h0] (sPre dC dI cI cZ cC cJ [(h0, .inr (5, [.int th, .ref Mtape, .int (nI tnq), .int (nI znq), .ref Msort, .ref Mplace, .ref Mvalue, .int (nI anq), .int ft, .ref Mwords, .int (nI hdq), .int (nI nxq), .ref Mgoes, .ref MgoLine, .ref Mends, .ref MendLine, .ref Mkinds, .ref MisName, .int (nI mnq), .ref Mrow, .ref MbyHand, .ref Mleast, .ref Msecond, .ref MendAt, .ref MgoAt, .ref MnodeBehind, .int lE, .ref MisOut, .ref MfirstEnd, .ref MfirstGo]))] sz)) (va_Qi (fun (r : Int32) (u : (Int32) × (Nat)) => match u with | (th2, mnq2) => r = mdR mnq ∧ (mnq2 ≤ 60) ∧ (mnq2 = mdN mnq)) (fun (u : (Int32) × (Nat)) t => match u with | (th2, mnq2) => sB dC dI (va_A [(h0, .inr (5, [.int th, .ref Mtape, .int (nI tnq), .int (nI znq), .ref Msort, .ref Mplace, .ref Mvalue, .int (nI anq), .int ft, .ref Mwords, .int (nI hdq), .int (nI nxq), .ref Mgoes, .ref MgoLine, .ref Mends, .ref MendLine, .ref Mkinds, .ref MisName, .int (nI mnq), .ref Mrow, .ref MbyHand, .ref Mleast, .ref Msecond, .ref MendAt, .ref MgoAt, .ref MnodeBehind, .int lE, .ref MisOut, .ref MfirstEnd, .ref MfirstGo]))] sz) [(h0, .inr (5, [.int th2, .ref Mtape, .int (nI tnq), .int (nI znq), .ref Msort, .ref Mplace, .ref Mvalue, .int (nI anq), .int ft, .ref Mwords, .int (nI hdq), .int (nI nxq), .ref Mgoes, .ref MgoLine, .ref Mends, .ref MendLine, .ref Mkinds, .ref MisName, .int (nI mnq2), .ref Mrow, .ref MbyHand, .ref Mleast, .ref Msecond, .ref MendAt, .ref MgoAt, .ref MnodeBehind, .int lE, .ref MisOut, .ref MfirstEnd, .ref MfirstGo]))] t) (va_A [(h0, .inr (5, [.int th, .ref Mtape, .int (nI tnq), .int (nI znq), .ref Msort, .ref Mplace, .ref Mvalue, .int (nI anq), .int ft, .ref Mwords, .int (nI hdq), .int (nI nxq), .ref Mgoes, .ref MgoLine, .ref Mends, .ref MendLine, .ref Mkinds, .ref MisName, .int (nI mnq), .ref Mrow, .ref MbyHand, .ref Mleast, .ref Msecond, .ref MendAt, .ref MgoAt, .ref MnodeBehind, .int lE, .ref MisOut, .ref MfirstEnd, .ref MfirstGo]))] sz)) 0 0 (va_A [(h0, .inr (5, [.int th, .ref Mtape, .int (nI tnq), .int (nI znq), .ref Msort, .ref Mplace, .ref Mvalue, .int (nI anq), .int ft, .ref Mwords, .int (nI hdq), .int (nI nxq), .ref Mgoes, .ref MgoLine, .ref Mends, .ref MendLine, .ref Mkinds, .ref MisName, .int (nI mnq), .ref Mrow, .ref MbyHand, .ref Mleast, .ref Msecond, .ref MendAt, .ref MgoAt, .ref MnodeBehind, .int lE, .ref MisOut, .ref MfirstEnd, .ref MfirstGo]))] sz) := by
  refine Met.ofW (cc := cX5_drop) (maxL := 1) (ret := (some .int)) (by decide) rfl ?_
  intro p e s m args below meth c s₁ B hml hv
  obtain ⟨rfl, hsz, hP, hsk, hD0⟩ := hv
  have hx := B.exec
  have hb := B.bytes
  have hr := B.returns
  have hts := atoms_spec (ws := wsX5_drop) B.pre
  have hown : s.vm.findClass RX5 = some m.cls := findClass_of_methodNamed B.named
  have hlocks := B.notSynchronized
  have hK := hsk.1
  have i5 : ∀ w ∈ wsX50, w ∈ wsX5_drop := by decide +kernel
  subst hsz
  have hD := hD0.self (sz := s.heap.size)
  generalize hAe : va_A [(h0, .inr (5, [.int th, .ref Mtape, .int (nI tnq), .int (nI znq), .ref Msort, .ref Mplace, .ref Mvalue, .int (nI anq), .int ft, .ref Mwords, .int (nI hdq), .int (nI nxq), .ref Mgoes, .ref MgoLine, .ref Mends, .ref MendLine, .ref Mkinds, .ref MisName, .int (nI mnq), .ref Mrow, .ref MbyHand, .ref Mleast, .ref Msecond, .ref MendAt, .ref MgoAt, .ref MnodeBehind, .int lE, .ref MisOut, .ref MfirstEnd, .ref MfirstGo]))] s.heap.size = A at hD ⊢
  have hA : ∀ q : Nat, s.heap.size ≤ q → A q := fun q h => by rw [← hAe]; exact Or.inr h
  have hS : va_S A s.heap s.heap [] := va_S.rf
  have hl := lv_entry ([.ref h0]) (n := 1) (Nat.le_of_ble_eq_true rfl)
  rw [lg_entry_eq]
  generalize (lg_sl ([.ref h0]) ++ List.replicate (1 - (lg_sl ([.ref h0])).length) Slot.unset).toArray = ls at hl ⊢
  have hl : lv_has ls 1 [(0, .ref h0)] := hl
  refine lv_aload_n hx hb dX5_drop_0 rfl (lv_at hl 0 rfl) ?_
  refine lv_iconst (v := 0) hx hb dX5_drop_1 (by decide) ?_
  refine va_put (D := (dC, dI)) (ci := 5) (v := .int 0) (ty := tyX5 0) (C := RX5) (T := TX5) (N := 30) hx hb hts i5 tyX5 tyX5_ok nmX5 hown hK hP hD hS 0 rfl rfl 0 (by decide) (hts (.fieldLink RX5 1 "StopSetterModel" "thrown" "I") (by decide +kernel)) (fun _ h9 => h9) rfl (by decide +kernel) rfl rfl (Nat.le_of_ble_eq_true rfl) dX5_drop_2 (fun H locs hP hD hS => ?_)
  have hP : va_P (dC, dI) vwCl [(h0, .inr (5, [.int 0, .ref Mtape, .int (nI tnq), .int (nI znq), .ref Msort, .ref Mplace, .ref Mvalue, .int (nI anq), .int ft, .ref Mwords, .int (nI hdq), .int (nI nxq), .ref Mgoes, .ref MgoLine, .ref Mends, .ref MendLine, .ref Mkinds, .ref MisName, .int (nI mnq), .ref Mrow, .ref MbyHand, .ref Mleast, .ref Msecond, .ref MendAt, .ref MgoAt, .ref MnodeBehind, .int lE, .ref MisOut, .ref MfirstEnd, .ref MfirstGo]))] H := hP
  have hD : va_D A [(h0, .inr (5, [.int 0, .ref Mtape, .int (nI tnq), .int (nI znq), .ref Msort, .ref Mplace, .ref Mvalue, .int (nI anq), .int ft, .ref Mwords, .int (nI hdq), .int (nI nxq), .ref Mgoes, .ref MgoLine, .ref Mends, .ref MendLine, .ref Mkinds, .ref MisName, .int (nI mnq), .ref Mrow, .ref MbyHand, .ref Mleast, .ref Msecond, .ref MendAt, .ref MgoAt, .ref MnodeBehind, .int lE, .ref MisOut, .ref MfirstEnd, .ref MfirstGo]))] := hD
  refine lv_aload_n hx hb dX5_drop_5 rfl (lv_at hl 0 rfl) ?_
  refine va_get (D := (dC, dI)) (ci := 5) (v := .int (nI mnq)) (C := RX5) (T := TX5) (N := 30) hx hb hts i5 hown hK hP 0 rfl rfl 18 (by decide) (hts (.fieldLink RX5 186 "StopSetterModel" "many" "I") (by decide +kernel)) (fun _ h9 => h9) rfl dX5_drop_6 ?_
  refine lv_if_ne (tgt := 14) hx hb dX5_drop_9 (by decide) (fun c_9 => ?_) (fun c_9 => ?_)
  · skip
    refine lv_aload_n hx hb dX5_drop_14 rfl (lv_at hl 0 rfl) ?_
    refine lv_dup hx hb dX5_drop_15 rfl ?_
    refine va_get (D := (dC, dI)) (ci := 5) (v := .int (nI mnq)) (C := RX5) (T := TX5) (N := 30) hx hb hts i5 hown hK hP 0 rfl rfl 18 (by decide) (hts (.fieldLink RX5 186 "StopSetterModel" "many" "I") (by decide +kernel)) (fun _ h9 => h9) rfl dX5_drop_16 ?_
    refine lv_iconst (v := 1) hx hb dX5_drop_19 (by decide) ?_
    refine lv_isub hx hb dX5_drop_20 ?_
    refine lv_topi (fun v_ ev_ => ?_)
    obtain rfl : v_ = (nI (mnq - 1)) := ev_.trans (subn (ne0 c_9))
    refine va_put (D := (dC, dI)) (ci := 5) (v := .int (nI (mnq - 1))) (ty := tyX5 18) (C := RX5) (T := TX5) (N := 30) hx hb hts i5 tyX5 tyX5_ok nmX5 hown hK hP hD hS 0 rfl rfl 18 (by decide) (hts (.fieldLink RX5 186 "StopSetterModel" "many" "I") (by decide +kernel)) (fun _ h9 => h9) rfl (by decide +kernel) rfl rfl (Nat.le_of_ble_eq_true rfl) dX5_drop_21 (fun H locs hP hD hS => ?_)
    have hP : va_P (dC, dI) vwCl [(h0, .inr (5, [.int 0, .ref Mtape, .int (nI tnq), .int (nI znq), .ref Msort, .ref Mplace, .ref Mvalue, .int (nI anq), .int ft, .ref Mwords, .int (nI hdq), .int (nI nxq), .ref Mgoes, .ref MgoLine, .ref Mends, .ref MendLine, .ref Mkinds, .ref MisName, .int (nI (mnq - 1)), .ref Mrow, .ref MbyHand, .ref Mleast, .ref Msecond, .ref MendAt, .ref MgoAt, .ref MnodeBehind, .int lE, .ref MisOut, .ref MfirstEnd, .ref MfirstGo]))] H := hP
    have hD : va_D A [(h0, .inr (5, [.int 0, .ref Mtape, .int (nI tnq), .int (nI znq), .ref Msort, .ref Mplace, .ref Mvalue, .int (nI anq), .int ft, .ref Mwords, .int (nI hdq), .int (nI nxq), .ref Mgoes, .ref MgoLine, .ref Mends, .ref MendLine, .ref Mkinds, .ref MisName, .int (nI (mnq - 1)), .ref Mrow, .ref MbyHand, .ref Mleast, .ref Msecond, .ref MendAt, .ref MgoAt, .ref MnodeBehind, .int lE, .ref MisOut, .ref MfirstEnd, .ref MfirstGo]))] := hD
    refine lv_aload_n hx hb dX5_drop_24 rfl (lv_at hl 0 rfl) ?_
    refine va_get (D := (dC, dI)) (ci := 5) (v := .int (nI (mnq - 1))) (C := RX5) (T := TX5) (N := 30) hx hb hts i5 hown hK hP 0 rfl rfl 18 (by decide) (hts (.fieldLink RX5 186 "StopSetterModel" "many" "I") (by decide +kernel)) (fun _ h9 => h9) rfl dX5_drop_25 ?_
    have hP9 := hP.sub (ws' := [(h0, .inr (5, [.int 0, .ref Mtape, .int (nI tnq), .int (nI znq), .ref Msort, .ref Mplace, .ref Mvalue, .int (nI anq), .int ft, .ref Mwords, .int (nI hdq), .int (nI nxq), .ref Mgoes, .ref MgoLine, .ref Mends, .ref MendLine, .ref Mkinds, .ref MisName, .int (nI (mnq - 1)), .ref Mrow, .ref MbyHand, .ref Mleast, .ref Msecond, .ref MendAt, .ref MgoAt, .ref MnodeBehind, .int lE, .ref MisOut, .ref MfirstEnd, .ref MfirstGo]))]) [0] rfl
    have hD9 := hD.sub (ws' := [(h0, .inr (5, [.int 0, .ref Mtape, .int (nI tnq), .int (nI znq), .ref Msort, .ref Mplace, .ref Mvalue, .int (nI anq), .int ft, .ref Mwords, .int (nI hdq), .int (nI nxq), .ref Mgoes, .ref MgoLine, .ref Mends, .ref MendLine, .ref Mkinds, .ref MisName, .int (nI (mnq - 1)), .ref Mrow, .ref MbyHand, .ref Mleast, .ref Msecond, .ref MendAt, .ref MgoAt, .ref MnodeBehind, .int lE, .ref MisOut, .ref MfirstEnd, .ref MfirstGo]))]) [0] (by decide) rfl
    have hens0 : (mnq - 1) ≤ 60 := (by omega)
    have hens1 : (mnq - 1) = mdN mnq := (by simp only [mdN, if_neg c_9])
    exact W.iret (v := (nI (mnq - 1))) hx hb hr (fun t ht hW => ⟨⟨(nI (mnq - 1)), (0, (mnq - 1)), rfl, ⟨(by simp only [mdR, if_neg c_9]), hens0, hens1⟩, by rw [ht]; exact hP9, hD9⟩, hS.F ht⟩) hS.2.2 dX5_drop_28
  · skip
    refine lv_iconst (v := (-1)) hx hb dX5_drop_12 (by decide) ?_
    have hP9 := hP.sub (ws' := [(h0, .inr (5, [.int 0, .ref Mtape, .int (nI tnq), .int (nI znq), .ref Msort, .ref Mplace, .ref Mvalue, .int (nI anq), .int ft, .ref Mwords, .int (nI hdq), .int (nI nxq), .ref Mgoes, .ref MgoLine, .ref Mends, .ref MendLine, .ref Mkinds, .ref MisName, .int (nI mnq), .ref Mrow, .ref MbyHand, .ref Mleast, .ref Msecond, .ref MendAt, .ref MgoAt, .ref MnodeBehind, .int lE, .ref MisOut, .ref MfirstEnd, .ref MfirstGo]))]) [0] rfl
    have hD9 := hD.sub (ws' := [(h0, .inr (5, [.int 0, .ref Mtape, .int (nI tnq), .int (nI znq), .ref Msort, .ref Mplace, .ref Mvalue, .int (nI anq), .int ft, .ref Mwords, .int (nI hdq), .int (nI nxq), .ref Mgoes, .ref MgoLine, .ref Mends, .ref MendLine, .ref Mkinds, .ref MisName, .int (nI mnq), .ref Mrow, .ref MbyHand, .ref Mleast, .ref Msecond, .ref MendAt, .ref MgoAt, .ref MnodeBehind, .int lE, .ref MisOut, .ref MfirstEnd, .ref MfirstGo]))]) [0] (by decide) rfl
    have hens0 : mnq ≤ 60 := (by omega)
    have hens1 : mnq = mdN mnq := (by simp only [mdN, if_pos c_9])
    exact W.iret (v := (-1)) hx hb hr (fun t ht hW => ⟨⟨(-1), (0, mnq), rfl, ⟨(by simp only [mdR, if_pos c_9]), hens0, hens1⟩, by rw [ht]; exact hP9, hD9⟩, hS.F ht⟩) hS.2.2 dX5_drop_13
set_option maxHeartbeats 4000000 in
set_option maxRecDepth 100000 in
theorem k_mhand (l : Launch) (dC : Nat → ClassId) (dI : Nat → Nat → Nat) (cI cZ cC cJ : ClassId) (sz : Nat) (h0 : Nat) (th : Int32) (Mtape : Nat) (tnq : Nat) (znq : Nat) (Msort : Nat) (Mplace : Nat) (Mvalue : Nat) (anq : Nat) (ft : Int32) (Mwords : Nat) (hdq : Nat) (nxq : Nat) (Mgoes : Nat) (MgoLine : Nat) (Mends : Nat) (MendLine : Nat) (Mkinds : Nat) (MisName : Nat) (mnq : Nat) (Mrow : Nat) (MbyHand : Nat) (Mleast : Nat) (Msecond : Nat) (MendAt : Nat) (MgoAt : Nat) (MnodeBehind : Nat) (lE : Int32) (MisOut : Nat) (MfirstEnd : Nat) (MfirstGo : Nat) (mbyHand : Nat → Int32) (p0 : Int32) (p1 : Int32) (hmn : mnq ≤ 60) : Met l yX5_hand wsX5_hand ({ frames := 0, cells := 0, slots := 0, locals := 0 }) (va_Pc [.ref h0, .int p0, .int p1] (sPre dC dI cI cZ cC cJ [(h0, .inr (5, [.int th, .ref Mtape, .int (nI tnq), .int (nI znq), .ref Msort, .ref Mplace, .ref Mvalue, .int (nI anq), .int ft, .ref Mwords, .int (nI hdq), .int (nI nxq), .ref Mgoes, .ref MgoLine, .ref Mends, .ref MendLine, .ref Mkinds, .ref MisName, .int (nI mnq), .ref Mrow, .ref MbyHand, .ref Mleast, .ref Msecond, .ref MendAt, .ref MgoAt, .ref MnodeBehind, .int lE, .ref MisOut, .ref MfirstEnd, .ref MfirstGo])), (MbyHand, .inl (cI, 60, .inl mbyHand))] sz)) (va_Qi (fun (r : Int32) (u : (Int32) × (Nat → Int32)) => match u with | (th2, mbyHand2) => r = mhR p0 p1 mnq ∧ (mbyHand2 = if mhR p0 p1 mnq = 0 then mbyHand else upd mbyHand p0.toNatClampNeg p1)) (fun (u : (Int32) × (Nat → Int32)) t => match u with | (th2, mbyHand2) => sB dC dI (va_A [(h0, .inr (5, [.int th, .ref Mtape, .int (nI tnq), .int (nI znq), .ref Msort, .ref Mplace, .ref Mvalue, .int (nI anq), .int ft, .ref Mwords, .int (nI hdq), .int (nI nxq), .ref Mgoes, .ref MgoLine, .ref Mends, .ref MendLine, .ref Mkinds, .ref MisName, .int (nI mnq), .ref Mrow, .ref MbyHand, .ref Mleast, .ref Msecond, .ref MendAt, .ref MgoAt, .ref MnodeBehind, .int lE, .ref MisOut, .ref MfirstEnd, .ref MfirstGo])), (MbyHand, .inl (cI, 60, .inl mbyHand))] sz) [(h0, .inr (5, [.int th2, .ref Mtape, .int (nI tnq), .int (nI znq), .ref Msort, .ref Mplace, .ref Mvalue, .int (nI anq), .int ft, .ref Mwords, .int (nI hdq), .int (nI nxq), .ref Mgoes, .ref MgoLine, .ref Mends, .ref MendLine, .ref Mkinds, .ref MisName, .int (nI mnq), .ref Mrow, .ref MbyHand, .ref Mleast, .ref Msecond, .ref MendAt, .ref MgoAt, .ref MnodeBehind, .int lE, .ref MisOut, .ref MfirstEnd, .ref MfirstGo])), (MbyHand, .inl (cI, 60, .inl mbyHand2))] t) (va_A [(h0, .inr (5, [.int th, .ref Mtape, .int (nI tnq), .int (nI znq), .ref Msort, .ref Mplace, .ref Mvalue, .int (nI anq), .int ft, .ref Mwords, .int (nI hdq), .int (nI nxq), .ref Mgoes, .ref MgoLine, .ref Mends, .ref MendLine, .ref Mkinds, .ref MisName, .int (nI mnq), .ref Mrow, .ref MbyHand, .ref Mleast, .ref Msecond, .ref MendAt, .ref MgoAt, .ref MnodeBehind, .int lE, .ref MisOut, .ref MfirstEnd, .ref MfirstGo])), (MbyHand, .inl (cI, 60, .inl mbyHand))] sz)) 0 0 (va_A [(h0, .inr (5, [.int th, .ref Mtape, .int (nI tnq), .int (nI znq), .ref Msort, .ref Mplace, .ref Mvalue, .int (nI anq), .int ft, .ref Mwords, .int (nI hdq), .int (nI nxq), .ref Mgoes, .ref MgoLine, .ref Mends, .ref MendLine, .ref Mkinds, .ref MisName, .int (nI mnq), .ref Mrow, .ref MbyHand, .ref Mleast, .ref Msecond, .ref MendAt, .ref MgoAt, .ref MnodeBehind, .int lE, .ref MisOut, .ref MfirstEnd, .ref MfirstGo])), (MbyHand, .inl (cI, 60, .inl mbyHand))] sz) := by
  refine Met.ofW (cc := cX5_hand) (maxL := 3) (ret := (some .boolean)) (by decide) rfl ?_
  intro p e s m args below meth c s₁ B hml hv
  obtain ⟨rfl, hsz, hP, hsk, hD0⟩ := hv
  have hx := B.exec
  have hb := B.bytes
  have hr := B.returns
  have hts := atoms_spec (ws := wsX5_hand) B.pre
  have hown : s.vm.findClass RX5 = some m.cls := findClass_of_methodNamed B.named
  have hlocks := B.notSynchronized
  have hK := hsk.1
  have i5 : ∀ w ∈ wsX50, w ∈ wsX5_hand := by decide +kernel
  subst hsz
  have hD := hD0.self (sz := s.heap.size)
  generalize hAe : va_A [(h0, .inr (5, [.int th, .ref Mtape, .int (nI tnq), .int (nI znq), .ref Msort, .ref Mplace, .ref Mvalue, .int (nI anq), .int ft, .ref Mwords, .int (nI hdq), .int (nI nxq), .ref Mgoes, .ref MgoLine, .ref Mends, .ref MendLine, .ref Mkinds, .ref MisName, .int (nI mnq), .ref Mrow, .ref MbyHand, .ref Mleast, .ref Msecond, .ref MendAt, .ref MgoAt, .ref MnodeBehind, .int lE, .ref MisOut, .ref MfirstEnd, .ref MfirstGo])), (MbyHand, .inl (cI, 60, .inl mbyHand))] s.heap.size = A at hD ⊢
  have hA : ∀ q : Nat, s.heap.size ≤ q → A q := fun q h => by rw [← hAe]; exact Or.inr h
  have hS : va_S A s.heap s.heap [] := va_S.rf
  have hl := lv_entry ([.ref h0, .int p0, .int p1]) (n := 3) (Nat.le_of_ble_eq_true rfl)
  rw [lg_entry_eq]
  generalize (lg_sl ([.ref h0, .int p0, .int p1]) ++ List.replicate (3 - (lg_sl ([.ref h0, .int p0, .int p1])).length) Slot.unset).toArray = ls at hl ⊢
  have hl : lv_has ls 3 [(0, .ref h0), (1, .int p0), (2, .int p1)] := hl
  refine lv_aload_n hx hb dX5_hand_0 rfl (lv_at hl 0 rfl) ?_
  refine lv_iconst (v := 0) hx hb dX5_hand_1 (by decide) ?_
  refine va_put (D := (dC, dI)) (ci := 5) (v := .int 0) (ty := tyX5 0) (C := RX5) (T := TX5) (N := 30) hx hb hts i5 tyX5 tyX5_ok nmX5 hown hK hP hD hS 0 rfl rfl 0 (by decide) (hts (.fieldLink RX5 1 "StopSetterModel" "thrown" "I") (by decide +kernel)) (fun _ h9 => h9) rfl (by decide +kernel) rfl rfl (Nat.le_of_ble_eq_true rfl) dX5_hand_2 (fun H locs hP hD hS => ?_)
  have hP : va_P (dC, dI) vwCl [(h0, .inr (5, [.int 0, .ref Mtape, .int (nI tnq), .int (nI znq), .ref Msort, .ref Mplace, .ref Mvalue, .int (nI anq), .int ft, .ref Mwords, .int (nI hdq), .int (nI nxq), .ref Mgoes, .ref MgoLine, .ref Mends, .ref MendLine, .ref Mkinds, .ref MisName, .int (nI mnq), .ref Mrow, .ref MbyHand, .ref Mleast, .ref Msecond, .ref MendAt, .ref MgoAt, .ref MnodeBehind, .int lE, .ref MisOut, .ref MfirstEnd, .ref MfirstGo])), (MbyHand, .inl (cI, 60, .inl mbyHand))] H := hP
  have hD : va_D A [(h0, .inr (5, [.int 0, .ref Mtape, .int (nI tnq), .int (nI znq), .ref Msort, .ref Mplace, .ref Mvalue, .int (nI anq), .int ft, .ref Mwords, .int (nI hdq), .int (nI nxq), .ref Mgoes, .ref MgoLine, .ref Mends, .ref MendLine, .ref Mkinds, .ref MisName, .int (nI mnq), .ref Mrow, .ref MbyHand, .ref Mleast, .ref Msecond, .ref MendAt, .ref MgoAt, .ref MnodeBehind, .int lE, .ref MisOut, .ref MfirstEnd, .ref MfirstGo])), (MbyHand, .inl (cI, 60, .inl mbyHand))] := hD
  refine lv_iload_n hx hb dX5_hand_5 rfl (lv_at hl 1 rfl) ?_
  refine lv_if_lt (tgt := 37) hx hb dX5_hand_6 (by decide) (fun c_6 => ?_) (fun c_6 => ?_)
  · skip
    refine lv_iconst (v := 0) hx hb dX5_hand_37 (by decide) ?_
    have hP9 := hP.sub (ws' := [(h0, .inr (5, [.int 0, .ref Mtape, .int (nI tnq), .int (nI znq), .ref Msort, .ref Mplace, .ref Mvalue, .int (nI anq), .int ft, .ref Mwords, .int (nI hdq), .int (nI nxq), .ref Mgoes, .ref MgoLine, .ref Mends, .ref MendLine, .ref Mkinds, .ref MisName, .int (nI mnq), .ref Mrow, .ref MbyHand, .ref Mleast, .ref Msecond, .ref MendAt, .ref MgoAt, .ref MnodeBehind, .int lE, .ref MisOut, .ref MfirstEnd, .ref MfirstGo])), (MbyHand, .inl (cI, 60, .inl mbyHand))]) [0, 1] rfl
    have hD9 := hD.sub (ws' := [(h0, .inr (5, [.int 0, .ref Mtape, .int (nI tnq), .int (nI znq), .ref Msort, .ref Mplace, .ref Mvalue, .int (nI anq), .int ft, .ref Mwords, .int (nI hdq), .int (nI nxq), .ref Mgoes, .ref MgoLine, .ref Mends, .ref MendLine, .ref Mkinds, .ref MisName, .int (nI mnq), .ref Mrow, .ref MbyHand, .ref Mleast, .ref Msecond, .ref MendAt, .ref MgoAt, .ref MnodeBehind, .int lE, .ref MisOut, .ref MfirstEnd, .ref MfirstGo])), (MbyHand, .inl (cI, 60, .inl mbyHand))]) [0, 1] (by decide) rfl
    have hens0 : mbyHand = if mhR p0 p1 mnq = 0 then mbyHand else upd mbyHand p0.toNatClampNeg p1 := (by rw [show mhR p0 p1 mnq = 0 from (by simp only [mhR, if_pos c_6]), if_pos rfl])
    exact W.zret (v := 0) (ty := .boolean) hx hb hr rfl (fun t ht hW => ⟨⟨0, (0, mbyHand), rfl, ⟨(by simp only [mhR, if_pos c_6]), hens0⟩, by rw [ht]; exact hP9, hD9⟩, hS.F ht⟩) hS.2.2 dX5_hand_38
  · skip
    refine lv_iload_n hx hb dX5_hand_9 rfl (lv_at hl 1 rfl) ?_
    refine lv_aload_n hx hb dX5_hand_10 rfl (lv_at hl 0 rfl) ?_
    refine va_get (D := (dC, dI)) (ci := 5) (v := .int (nI mnq)) (C := RX5) (T := TX5) (N := 30) hx hb hts i5 hown hK hP 0 rfl rfl 18 (by decide) (hts (.fieldLink RX5 186 "StopSetterModel" "many" "I") (by decide +kernel)) (fun _ h9 => h9) rfl dX5_hand_11 ?_
    refine lv_icmp_ge (tgt := 37) hx hb dX5_hand_14 (by decide) (fun c_14 => ?_) (fun c_14 => ?_)
    · skip
      refine lv_iconst (v := 0) hx hb dX5_hand_37 (by decide) ?_
      have hP9 := hP.sub (ws' := [(h0, .inr (5, [.int 0, .ref Mtape, .int (nI tnq), .int (nI znq), .ref Msort, .ref Mplace, .ref Mvalue, .int (nI anq), .int ft, .ref Mwords, .int (nI hdq), .int (nI nxq), .ref Mgoes, .ref MgoLine, .ref Mends, .ref MendLine, .ref Mkinds, .ref MisName, .int (nI mnq), .ref Mrow, .ref MbyHand, .ref Mleast, .ref Msecond, .ref MendAt, .ref MgoAt, .ref MnodeBehind, .int lE, .ref MisOut, .ref MfirstEnd, .ref MfirstGo])), (MbyHand, .inl (cI, 60, .inl mbyHand))]) [0, 1] rfl
      have hD9 := hD.sub (ws' := [(h0, .inr (5, [.int 0, .ref Mtape, .int (nI tnq), .int (nI znq), .ref Msort, .ref Mplace, .ref Mvalue, .int (nI anq), .int ft, .ref Mwords, .int (nI hdq), .int (nI nxq), .ref Mgoes, .ref MgoLine, .ref Mends, .ref MendLine, .ref Mkinds, .ref MisName, .int (nI mnq), .ref Mrow, .ref MbyHand, .ref Mleast, .ref Msecond, .ref MendAt, .ref MgoAt, .ref MnodeBehind, .int lE, .ref MisOut, .ref MfirstEnd, .ref MfirstGo])), (MbyHand, .inl (cI, 60, .inl mbyHand))]) [0, 1] (by decide) rfl
      have hens0 : mbyHand = if mhR p0 p1 mnq = 0 then mbyHand else upd mbyHand p0.toNatClampNeg p1 := (by rw [show mhR p0 p1 mnq = 0 from (by simp only [mhR, if_neg c_6, if_pos c_14]), if_pos rfl])
      exact W.zret (v := 0) (ty := .boolean) hx hb hr rfl (fun t ht hW => ⟨⟨0, (0, mbyHand), rfl, ⟨(by simp only [mhR, if_neg c_6, if_pos c_14]), hens0⟩, by rw [ht]; exact hP9, hD9⟩, hS.F ht⟩) hS.2.2 dX5_hand_38
    · skip
      refine lv_iload_n hx hb dX5_hand_17 rfl (lv_at hl 2 rfl) ?_
      refine lv_iconst (v := (-1)) hx hb dX5_hand_18 (by decide) ?_
      refine lv_icmp_lt (tgt := 37) hx hb dX5_hand_19 (by decide) (fun c_19 => ?_) (fun c_19 => ?_)
      · skip
        refine lv_iconst (v := 0) hx hb dX5_hand_37 (by decide) ?_
        have hP9 := hP.sub (ws' := [(h0, .inr (5, [.int 0, .ref Mtape, .int (nI tnq), .int (nI znq), .ref Msort, .ref Mplace, .ref Mvalue, .int (nI anq), .int ft, .ref Mwords, .int (nI hdq), .int (nI nxq), .ref Mgoes, .ref MgoLine, .ref Mends, .ref MendLine, .ref Mkinds, .ref MisName, .int (nI mnq), .ref Mrow, .ref MbyHand, .ref Mleast, .ref Msecond, .ref MendAt, .ref MgoAt, .ref MnodeBehind, .int lE, .ref MisOut, .ref MfirstEnd, .ref MfirstGo])), (MbyHand, .inl (cI, 60, .inl mbyHand))]) [0, 1] rfl
        have hD9 := hD.sub (ws' := [(h0, .inr (5, [.int 0, .ref Mtape, .int (nI tnq), .int (nI znq), .ref Msort, .ref Mplace, .ref Mvalue, .int (nI anq), .int ft, .ref Mwords, .int (nI hdq), .int (nI nxq), .ref Mgoes, .ref MgoLine, .ref Mends, .ref MendLine, .ref Mkinds, .ref MisName, .int (nI mnq), .ref Mrow, .ref MbyHand, .ref Mleast, .ref Msecond, .ref MendAt, .ref MgoAt, .ref MnodeBehind, .int lE, .ref MisOut, .ref MfirstEnd, .ref MfirstGo])), (MbyHand, .inl (cI, 60, .inl mbyHand))]) [0, 1] (by decide) rfl
        have hens0 : mbyHand = if mhR p0 p1 mnq = 0 then mbyHand else upd mbyHand p0.toNatClampNeg p1 := (by rw [show mhR p0 p1 mnq = 0 from (by simp only [mhR, if_neg c_6, if_neg c_14, if_pos c_19]), if_pos rfl])
        exact W.zret (v := 0) (ty := .boolean) hx hb hr rfl (fun t ht hW => ⟨⟨0, (0, mbyHand), rfl, ⟨(by simp only [mhR, if_neg c_6, if_neg c_14, if_pos c_19]), hens0⟩, by rw [ht]; exact hP9, hD9⟩, hS.F ht⟩) hS.2.2 dX5_hand_38
      · skip
        refine lv_iload_n hx hb dX5_hand_22 rfl (lv_at hl 2 rfl) ?_
        refine lv_bipush (v := 6) hx hb dX5_hand_23 (by decide) ?_
        refine lv_icmp_gt (tgt := 37) hx hb dX5_hand_25 (by decide) (fun c_25 => ?_) (fun c_25 => ?_)
        · skip
          refine lv_iconst (v := 0) hx hb dX5_hand_37 (by decide) ?_
          have hP9 := hP.sub (ws' := [(h0, .inr (5, [.int 0, .ref Mtape, .int (nI tnq), .int (nI znq), .ref Msort, .ref Mplace, .ref Mvalue, .int (nI anq), .int ft, .ref Mwords, .int (nI hdq), .int (nI nxq), .ref Mgoes, .ref MgoLine, .ref Mends, .ref MendLine, .ref Mkinds, .ref MisName, .int (nI mnq), .ref Mrow, .ref MbyHand, .ref Mleast, .ref Msecond, .ref MendAt, .ref MgoAt, .ref MnodeBehind, .int lE, .ref MisOut, .ref MfirstEnd, .ref MfirstGo])), (MbyHand, .inl (cI, 60, .inl mbyHand))]) [0, 1] rfl
          have hD9 := hD.sub (ws' := [(h0, .inr (5, [.int 0, .ref Mtape, .int (nI tnq), .int (nI znq), .ref Msort, .ref Mplace, .ref Mvalue, .int (nI anq), .int ft, .ref Mwords, .int (nI hdq), .int (nI nxq), .ref Mgoes, .ref MgoLine, .ref Mends, .ref MendLine, .ref Mkinds, .ref MisName, .int (nI mnq), .ref Mrow, .ref MbyHand, .ref Mleast, .ref Msecond, .ref MendAt, .ref MgoAt, .ref MnodeBehind, .int lE, .ref MisOut, .ref MfirstEnd, .ref MfirstGo])), (MbyHand, .inl (cI, 60, .inl mbyHand))]) [0, 1] (by decide) rfl
          have hens0 : mbyHand = if mhR p0 p1 mnq = 0 then mbyHand else upd mbyHand p0.toNatClampNeg p1 := (by rw [show mhR p0 p1 mnq = 0 from (by simp only [mhR, if_neg c_6, if_neg c_14, if_neg c_19, if_pos c_25]), if_pos rfl])
          exact W.zret (v := 0) (ty := .boolean) hx hb hr rfl (fun t ht hW => ⟨⟨0, (0, mbyHand), rfl, ⟨(by simp only [mhR, if_neg c_6, if_neg c_14, if_neg c_19, if_pos c_25]), hens0⟩, by rw [ht]; exact hP9, hD9⟩, hS.F ht⟩) hS.2.2 dX5_hand_38
        · skip
          refine lv_iload_n hx hb dX5_hand_28 rfl (lv_at hl 1 rfl) ?_
          refine lv_if_ne (tgt := 39) hx hb dX5_hand_29 (by decide) (fun c_29 => ?_) (fun c_29 => ?_)
          · skip
            refine lv_aload_n hx hb dX5_hand_39 rfl (lv_at hl 0 rfl) ?_
            refine va_get (D := (dC, dI)) (ci := 5) (v := .ref MbyHand) (C := RX5) (T := TX5) (N := 30) hx hb hts i5 hown hK hP 0 rfl rfl 20 (by decide) (hts (.fieldLink RX5 83 "StopSetterModel" "byHand" "[I") (by decide +kernel)) (fun _ h9 => h9) rfl dX5_hand_40 ?_
            refine lv_iload_n hx hb dX5_hand_43 rfl (lv_at hl 1 rfl) ?_
            refine lv_iload_n hx hb dX5_hand_44 rfl (lv_at hl 2 rfl) ?_
            refine va_iast hx hb hK hP hD hS 1 0 rfl rfl (in_mn hmn c_6 c_14) dX5_hand_45 (fun H locs hP hD hS => ?_)
            have hP : va_P (dC, dI) vwCl [(h0, .inr (5, [.int 0, .ref Mtape, .int (nI tnq), .int (nI znq), .ref Msort, .ref Mplace, .ref Mvalue, .int (nI anq), .int ft, .ref Mwords, .int (nI hdq), .int (nI nxq), .ref Mgoes, .ref MgoLine, .ref Mends, .ref MendLine, .ref Mkinds, .ref MisName, .int (nI mnq), .ref Mrow, .ref MbyHand, .ref Mleast, .ref Msecond, .ref MendAt, .ref MgoAt, .ref MnodeBehind, .int lE, .ref MisOut, .ref MfirstEnd, .ref MfirstGo])), (MbyHand, .inl (cI, 60, .inl (upd mbyHand (p0.toNatClampNeg) p1)))] H := hP
            have hD : va_D A [(h0, .inr (5, [.int 0, .ref Mtape, .int (nI tnq), .int (nI znq), .ref Msort, .ref Mplace, .ref Mvalue, .int (nI anq), .int ft, .ref Mwords, .int (nI hdq), .int (nI nxq), .ref Mgoes, .ref MgoLine, .ref Mends, .ref MendLine, .ref Mkinds, .ref MisName, .int (nI mnq), .ref Mrow, .ref MbyHand, .ref Mleast, .ref Msecond, .ref MendAt, .ref MgoAt, .ref MnodeBehind, .int lE, .ref MisOut, .ref MfirstEnd, .ref MfirstGo])), (MbyHand, .inl (cI, 60, .inl (upd mbyHand (p0.toNatClampNeg) p1)))] := hD
            refine lv_iconst (v := 1) hx hb dX5_hand_46 (by decide) ?_
            have hP9 := hP.sub (ws' := [(h0, .inr (5, [.int 0, .ref Mtape, .int (nI tnq), .int (nI znq), .ref Msort, .ref Mplace, .ref Mvalue, .int (nI anq), .int ft, .ref Mwords, .int (nI hdq), .int (nI nxq), .ref Mgoes, .ref MgoLine, .ref Mends, .ref MendLine, .ref Mkinds, .ref MisName, .int (nI mnq), .ref Mrow, .ref MbyHand, .ref Mleast, .ref Msecond, .ref MendAt, .ref MgoAt, .ref MnodeBehind, .int lE, .ref MisOut, .ref MfirstEnd, .ref MfirstGo])), (MbyHand, .inl (cI, 60, .inl (upd mbyHand (p0.toNatClampNeg) p1)))]) [0, 1] rfl
            have hD9 := hD.sub (ws' := [(h0, .inr (5, [.int 0, .ref Mtape, .int (nI tnq), .int (nI znq), .ref Msort, .ref Mplace, .ref Mvalue, .int (nI anq), .int ft, .ref Mwords, .int (nI hdq), .int (nI nxq), .ref Mgoes, .ref MgoLine, .ref Mends, .ref MendLine, .ref Mkinds, .ref MisName, .int (nI mnq), .ref Mrow, .ref MbyHand, .ref Mleast, .ref Msecond, .ref MendAt, .ref MgoAt, .ref MnodeBehind, .int lE, .ref MisOut, .ref MfirstEnd, .ref MfirstGo])), (MbyHand, .inl (cI, 60, .inl (upd mbyHand (p0.toNatClampNeg) p1)))]) [0, 1] (by decide) rfl
            have hens0 : (upd mbyHand (p0.toNatClampNeg) p1) = if mhR p0 p1 mnq = 0 then mbyHand else upd mbyHand p0.toNatClampNeg p1 := (by rw [show mhR p0 p1 mnq = 1 from (by simp only [mhR, if_neg c_6, if_neg c_14, if_neg c_19, if_neg c_25, if_neg c_29]), if_neg (by decide)])
            exact W.zret (v := 1) (ty := .boolean) hx hb hr rfl (fun t ht hW => ⟨⟨1, (0, (upd mbyHand (p0.toNatClampNeg) p1)), rfl, ⟨(by simp only [mhR, if_neg c_6, if_neg c_14, if_neg c_19, if_neg c_25, if_neg c_29]), hens0⟩, by rw [ht]; exact hP9, hD9⟩, hS.F ht⟩) hS.2.2 dX5_hand_47
          · skip
            refine lv_iload_n hx hb dX5_hand_32 rfl (lv_at hl 2 rfl) ?_
            refine lv_iconst (v := 3) hx hb dX5_hand_33 (by decide) ?_
            refine lv_icmp_le (tgt := 39) hx hb dX5_hand_34 (by decide) (fun c_34 => ?_) (fun c_34 => ?_)
            · skip
              refine lv_aload_n hx hb dX5_hand_39 rfl (lv_at hl 0 rfl) ?_
              refine va_get (D := (dC, dI)) (ci := 5) (v := .ref MbyHand) (C := RX5) (T := TX5) (N := 30) hx hb hts i5 hown hK hP 0 rfl rfl 20 (by decide) (hts (.fieldLink RX5 83 "StopSetterModel" "byHand" "[I") (by decide +kernel)) (fun _ h9 => h9) rfl dX5_hand_40 ?_
              refine lv_iload_n hx hb dX5_hand_43 rfl (lv_at hl 1 rfl) ?_
              refine lv_iload_n hx hb dX5_hand_44 rfl (lv_at hl 2 rfl) ?_
              refine va_iast hx hb hK hP hD hS 1 0 rfl rfl (in_mn hmn c_6 c_14) dX5_hand_45 (fun H locs hP hD hS => ?_)
              have hP : va_P (dC, dI) vwCl [(h0, .inr (5, [.int 0, .ref Mtape, .int (nI tnq), .int (nI znq), .ref Msort, .ref Mplace, .ref Mvalue, .int (nI anq), .int ft, .ref Mwords, .int (nI hdq), .int (nI nxq), .ref Mgoes, .ref MgoLine, .ref Mends, .ref MendLine, .ref Mkinds, .ref MisName, .int (nI mnq), .ref Mrow, .ref MbyHand, .ref Mleast, .ref Msecond, .ref MendAt, .ref MgoAt, .ref MnodeBehind, .int lE, .ref MisOut, .ref MfirstEnd, .ref MfirstGo])), (MbyHand, .inl (cI, 60, .inl (upd mbyHand (p0.toNatClampNeg) p1)))] H := hP
              have hD : va_D A [(h0, .inr (5, [.int 0, .ref Mtape, .int (nI tnq), .int (nI znq), .ref Msort, .ref Mplace, .ref Mvalue, .int (nI anq), .int ft, .ref Mwords, .int (nI hdq), .int (nI nxq), .ref Mgoes, .ref MgoLine, .ref Mends, .ref MendLine, .ref Mkinds, .ref MisName, .int (nI mnq), .ref Mrow, .ref MbyHand, .ref Mleast, .ref Msecond, .ref MendAt, .ref MgoAt, .ref MnodeBehind, .int lE, .ref MisOut, .ref MfirstEnd, .ref MfirstGo])), (MbyHand, .inl (cI, 60, .inl (upd mbyHand (p0.toNatClampNeg) p1)))] := hD
              refine lv_iconst (v := 1) hx hb dX5_hand_46 (by decide) ?_
              have hP9 := hP.sub (ws' := [(h0, .inr (5, [.int 0, .ref Mtape, .int (nI tnq), .int (nI znq), .ref Msort, .ref Mplace, .ref Mvalue, .int (nI anq), .int ft, .ref Mwords, .int (nI hdq), .int (nI nxq), .ref Mgoes, .ref MgoLine, .ref Mends, .ref MendLine, .ref Mkinds, .ref MisName, .int (nI mnq), .ref Mrow, .ref MbyHand, .ref Mleast, .ref Msecond, .ref MendAt, .ref MgoAt, .ref MnodeBehind, .int lE, .ref MisOut, .ref MfirstEnd, .ref MfirstGo])), (MbyHand, .inl (cI, 60, .inl (upd mbyHand (p0.toNatClampNeg) p1)))]) [0, 1] rfl
              have hD9 := hD.sub (ws' := [(h0, .inr (5, [.int 0, .ref Mtape, .int (nI tnq), .int (nI znq), .ref Msort, .ref Mplace, .ref Mvalue, .int (nI anq), .int ft, .ref Mwords, .int (nI hdq), .int (nI nxq), .ref Mgoes, .ref MgoLine, .ref Mends, .ref MendLine, .ref Mkinds, .ref MisName, .int (nI mnq), .ref Mrow, .ref MbyHand, .ref Mleast, .ref Msecond, .ref MendAt, .ref MgoAt, .ref MnodeBehind, .int lE, .ref MisOut, .ref MfirstEnd, .ref MfirstGo])), (MbyHand, .inl (cI, 60, .inl (upd mbyHand (p0.toNatClampNeg) p1)))]) [0, 1] (by decide) rfl
              have hens0 : (upd mbyHand (p0.toNatClampNeg) p1) = if mhR p0 p1 mnq = 0 then mbyHand else upd mbyHand p0.toNatClampNeg p1 := (by rw [show mhR p0 p1 mnq = 1 from (by simp only [mhR, if_neg c_6, if_neg c_14, if_neg c_19, if_neg c_25, if_pos c_29, if_pos c_34]), if_neg (by decide)])
              exact W.zret (v := 1) (ty := .boolean) hx hb hr rfl (fun t ht hW => ⟨⟨1, (0, (upd mbyHand (p0.toNatClampNeg) p1)), rfl, ⟨(by simp only [mhR, if_neg c_6, if_neg c_14, if_neg c_19, if_neg c_25, if_pos c_29, if_pos c_34]), hens0⟩, by rw [ht]; exact hP9, hD9⟩, hS.F ht⟩) hS.2.2 dX5_hand_47
            · skip
              refine lv_iconst (v := 0) hx hb dX5_hand_37 (by decide) ?_
              have hP9 := hP.sub (ws' := [(h0, .inr (5, [.int 0, .ref Mtape, .int (nI tnq), .int (nI znq), .ref Msort, .ref Mplace, .ref Mvalue, .int (nI anq), .int ft, .ref Mwords, .int (nI hdq), .int (nI nxq), .ref Mgoes, .ref MgoLine, .ref Mends, .ref MendLine, .ref Mkinds, .ref MisName, .int (nI mnq), .ref Mrow, .ref MbyHand, .ref Mleast, .ref Msecond, .ref MendAt, .ref MgoAt, .ref MnodeBehind, .int lE, .ref MisOut, .ref MfirstEnd, .ref MfirstGo])), (MbyHand, .inl (cI, 60, .inl mbyHand))]) [0, 1] rfl
              have hD9 := hD.sub (ws' := [(h0, .inr (5, [.int 0, .ref Mtape, .int (nI tnq), .int (nI znq), .ref Msort, .ref Mplace, .ref Mvalue, .int (nI anq), .int ft, .ref Mwords, .int (nI hdq), .int (nI nxq), .ref Mgoes, .ref MgoLine, .ref Mends, .ref MendLine, .ref Mkinds, .ref MisName, .int (nI mnq), .ref Mrow, .ref MbyHand, .ref Mleast, .ref Msecond, .ref MendAt, .ref MgoAt, .ref MnodeBehind, .int lE, .ref MisOut, .ref MfirstEnd, .ref MfirstGo])), (MbyHand, .inl (cI, 60, .inl mbyHand))]) [0, 1] (by decide) rfl
              have hens0 : mbyHand = if mhR p0 p1 mnq = 0 then mbyHand else upd mbyHand p0.toNatClampNeg p1 := (by rw [show mhR p0 p1 mnq = 0 from (by simp only [mhR, if_neg c_6, if_neg c_14, if_neg c_19, if_neg c_25, if_pos c_29, if_neg c_34]), if_pos rfl])
              exact W.zret (v := 0) (ty := .boolean) hx hb hr rfl (fun t ht hW => ⟨⟨0, (0, mbyHand), rfl, ⟨(by simp only [mhR, if_neg c_6, if_neg c_14, if_neg c_19, if_neg c_25, if_pos c_29, if_neg c_34]), hens0⟩, by rw [ht]; exact hP9, hD9⟩, hS.F ht⟩) hS.2.2 dX5_hand_38
set_option maxHeartbeats 4000000 in
set_option maxRecDepth 100000 in
theorem k_mkinds (l : Launch) (dC : Nat → ClassId) (dI : Nat → Nat → Nat) (cI cZ cC cJ : ClassId) (sz : Nat) (h0 : Nat) (th : Int32) (Mtape : Nat) (tnq : Nat) (znq : Nat) (Msort : Nat) (Mplace : Nat) (Mvalue : Nat) (anq : Nat) (ft : Int32) (Mwords : Nat) (hdq : Nat) (nxq : Nat) (Mgoes : Nat) (MgoLine : Nat) (Mends : Nat) (MendLine : Nat) (Mkinds : Nat) (MisName : Nat) (mnq : Nat) (Mrow : Nat) (MbyHand : Nat) (Mleast : Nat) (Msecond : Nat) (MendAt : Nat) (MgoAt : Nat) (MnodeBehind : Nat) (lE : Int32) (MisOut : Nat) (MfirstEnd : Nat) (MfirstGo : Nat) (mkinds : Nat → Int32) (p0 : Int32) (p1 : Int32)  : Met l yX5_kinds wsX5_kinds ({ frames := 1, cells := 0, slots := 0, locals := 20 }) (va_Pc [.ref h0, .int p0, .int p1] (sPre dC dI cI cZ cC cJ [(h0, .inr (5, [.int th, .ref Mtape, .int (nI tnq), .int (nI znq), .ref Msort, .ref Mplace, .ref Mvalue, .int (nI anq), .int ft, .ref Mwords, .int (nI hdq), .int (nI nxq), .ref Mgoes, .ref MgoLine, .ref Mends, .ref MendLine, .ref Mkinds, .ref MisName, .int (nI mnq), .ref Mrow, .ref MbyHand, .ref Mleast, .ref Msecond, .ref MendAt, .ref MgoAt, .ref MnodeBehind, .int lE, .ref MisOut, .ref MfirstEnd, .ref MfirstGo])), (Mkinds, .inl (cI, 100, .inl mkinds))] sz)) (va_Qi (fun (r : Int32) (u : (Int32) × (Nat → Int32)) => match u with | (th2, mkinds2) => r = rKinds p0 p1 ∧ (mkinds2 = if rKinds p0 p1 = 0 then mkinds else upd mkinds p0.toNatClampNeg p1)) (fun (u : (Int32) × (Nat → Int32)) t => match u with | (th2, mkinds2) => sB dC dI (va_A [(h0, .inr (5, [.int th, .ref Mtape, .int (nI tnq), .int (nI znq), .ref Msort, .ref Mplace, .ref Mvalue, .int (nI anq), .int ft, .ref Mwords, .int (nI hdq), .int (nI nxq), .ref Mgoes, .ref MgoLine, .ref Mends, .ref MendLine, .ref Mkinds, .ref MisName, .int (nI mnq), .ref Mrow, .ref MbyHand, .ref Mleast, .ref Msecond, .ref MendAt, .ref MgoAt, .ref MnodeBehind, .int lE, .ref MisOut, .ref MfirstEnd, .ref MfirstGo])), (Mkinds, .inl (cI, 100, .inl mkinds))] sz) [(h0, .inr (5, [.int th2, .ref Mtape, .int (nI tnq), .int (nI znq), .ref Msort, .ref Mplace, .ref Mvalue, .int (nI anq), .int ft, .ref Mwords, .int (nI hdq), .int (nI nxq), .ref Mgoes, .ref MgoLine, .ref Mends, .ref MendLine, .ref Mkinds, .ref MisName, .int (nI mnq), .ref Mrow, .ref MbyHand, .ref Mleast, .ref Msecond, .ref MendAt, .ref MgoAt, .ref MnodeBehind, .int lE, .ref MisOut, .ref MfirstEnd, .ref MfirstGo])), (Mkinds, .inl (cI, 100, .inl mkinds2))] t) (va_A [(h0, .inr (5, [.int th, .ref Mtape, .int (nI tnq), .int (nI znq), .ref Msort, .ref Mplace, .ref Mvalue, .int (nI anq), .int ft, .ref Mwords, .int (nI hdq), .int (nI nxq), .ref Mgoes, .ref MgoLine, .ref Mends, .ref MendLine, .ref Mkinds, .ref MisName, .int (nI mnq), .ref Mrow, .ref MbyHand, .ref Mleast, .ref Msecond, .ref MendAt, .ref MgoAt, .ref MnodeBehind, .int lE, .ref MisOut, .ref MfirstEnd, .ref MfirstGo])), (Mkinds, .inl (cI, 100, .inl mkinds))] sz)) 0 0 (va_A [(h0, .inr (5, [.int th, .ref Mtape, .int (nI tnq), .int (nI znq), .ref Msort, .ref Mplace, .ref Mvalue, .int (nI anq), .int ft, .ref Mwords, .int (nI hdq), .int (nI nxq), .ref Mgoes, .ref MgoLine, .ref Mends, .ref MendLine, .ref Mkinds, .ref MisName, .int (nI mnq), .ref Mrow, .ref MbyHand, .ref Mleast, .ref Msecond, .ref MendAt, .ref MgoAt, .ref MnodeBehind, .int lE, .ref MisOut, .ref MfirstEnd, .ref MfirstGo])), (Mkinds, .inl (cI, 100, .inl mkinds))] sz) := by
  refine Met.ofW (cc := cX5_kinds) (maxL := 3) (ret := (some .boolean)) (by decide) rfl ?_
  intro p e s m args below meth c s₁ B hml hv
  obtain ⟨rfl, hsz, hP, hsk, hD0⟩ := hv
  have hx := B.exec
  have hb := B.bytes
  have hr := B.returns
  have hts := atoms_spec (ws := wsX5_kinds) B.pre
  have hown : s.vm.findClass RX5 = some m.cls := findClass_of_methodNamed B.named
  have hlocks := B.notSynchronized
  have hK := hsk.1
  have i5 : ∀ w ∈ wsX50, w ∈ wsX5_kinds := by decide +kernel
  subst hsz
  have hD := hD0.self (sz := s.heap.size)
  generalize hAe : va_A [(h0, .inr (5, [.int th, .ref Mtape, .int (nI tnq), .int (nI znq), .ref Msort, .ref Mplace, .ref Mvalue, .int (nI anq), .int ft, .ref Mwords, .int (nI hdq), .int (nI nxq), .ref Mgoes, .ref MgoLine, .ref Mends, .ref MendLine, .ref Mkinds, .ref MisName, .int (nI mnq), .ref Mrow, .ref MbyHand, .ref Mleast, .ref Msecond, .ref MendAt, .ref MgoAt, .ref MnodeBehind, .int lE, .ref MisOut, .ref MfirstEnd, .ref MfirstGo])), (Mkinds, .inl (cI, 100, .inl mkinds))] s.heap.size = A at hD ⊢
  have hA : ∀ q : Nat, s.heap.size ≤ q → A q := fun q h => by rw [← hAe]; exact Or.inr h
  have hS : va_S A s.heap s.heap [] := va_S.rf
  have hl := lv_entry ([.ref h0, .int p0, .int p1]) (n := 3) (Nat.le_of_ble_eq_true rfl)
  rw [lg_entry_eq]
  generalize (lg_sl ([.ref h0, .int p0, .int p1]) ++ List.replicate (3 - (lg_sl ([.ref h0, .int p0, .int p1])).length) Slot.unset).toArray = ls at hl ⊢
  have hl : lv_has ls 3 [(0, .ref h0), (1, .int p0), (2, .int p1)] := hl
  refine lv_aload_n hx hb dX5_kinds_0 rfl (lv_at hl 0 rfl) ?_
  refine lv_iconst (v := 0) hx hb dX5_kinds_1 (by decide) ?_
  refine va_put (D := (dC, dI)) (ci := 5) (v := .int 0) (ty := tyX5 0) (C := RX5) (T := TX5) (N := 30) hx hb hts i5 tyX5 tyX5_ok nmX5 hown hK hP hD hS 0 rfl rfl 0 (by decide) (hts (.fieldLink RX5 1 "StopSetterModel" "thrown" "I") (by decide +kernel)) (fun _ h9 => h9) rfl (by decide +kernel) rfl rfl (Nat.le_of_ble_eq_true rfl) dX5_kinds_2 (fun H locs hP hD hS => ?_)
  have hP : va_P (dC, dI) vwCl [(h0, .inr (5, [.int 0, .ref Mtape, .int (nI tnq), .int (nI znq), .ref Msort, .ref Mplace, .ref Mvalue, .int (nI anq), .int ft, .ref Mwords, .int (nI hdq), .int (nI nxq), .ref Mgoes, .ref MgoLine, .ref Mends, .ref MendLine, .ref Mkinds, .ref MisName, .int (nI mnq), .ref Mrow, .ref MbyHand, .ref Mleast, .ref Msecond, .ref MendAt, .ref MgoAt, .ref MnodeBehind, .int lE, .ref MisOut, .ref MfirstEnd, .ref MfirstGo])), (Mkinds, .inl (cI, 100, .inl mkinds))] H := hP
  have hD : va_D A [(h0, .inr (5, [.int 0, .ref Mtape, .int (nI tnq), .int (nI znq), .ref Msort, .ref Mplace, .ref Mvalue, .int (nI anq), .int ft, .ref Mwords, .int (nI hdq), .int (nI nxq), .ref Mgoes, .ref MgoLine, .ref Mends, .ref MendLine, .ref Mkinds, .ref MisName, .int (nI mnq), .ref Mrow, .ref MbyHand, .ref Mleast, .ref Msecond, .ref MendAt, .ref MgoAt, .ref MnodeBehind, .int lE, .ref MisOut, .ref MfirstEnd, .ref MfirstGo])), (Mkinds, .inl (cI, 100, .inl mkinds))] := hD
  refine lv_iload_n hx hb dX5_kinds_5 rfl (lv_at hl 1 rfl) ?_
  have hPc := hP.sub (ws' := []) [] rfl
  have hDc := hD.sub (ws' := []) [] (by decide) rfl
  have hFc := va_free (wc := []) hD hS hA [] rfl
  refine va_calli (va_runS (As := [.int p0]) (rest := []) ⟨hx, hb, hml, hown, hts⟩ (k_isOne l dC dI cI cZ cC cJ H.size  p0 ) (va_cwS 1 hts gX5_kinds_X5_isOne rfl rfl rfl (by decide +kernel) ⟨Nat.le_of_ble_eq_true rfl, Nat.le_of_ble_eq_true rfl⟩) ⟨sPre_blind, fun U hU hW => ⟨rfl, sPre_ok hsk hPc hDc hU hW⟩⟩ rfl rfl hl.1 rfl (lv_room (Nat.le_of_ble_eq_true rfl)) dX5_kinds_6 ⟨(show 0 + 0 ≤ 0 by omega), (show 0 + 0 ≤ 0 by omega)⟩) hS (fun q _ h => hFc q h) hFc (fun r_1 u t H1 locs ht hvm hw hB hz1 hk1 hS => ?_)
  try dsimp only at hw hB
  have hw_2 := hw
  obtain rfl : r_1 = isW p0 := hw_2
  obtain ⟨hP1, hD1⟩ := hB
  rw [ht] at hP1
  obtain ⟨hP, hD⟩ := va_join (wr := [(h0, .inr (5, [.int 0, .ref Mtape, .int (nI tnq), .int (nI znq), .ref Msort, .ref Mplace, .ref Mvalue, .int (nI anq), .int ft, .ref Mwords, .int (nI hdq), .int (nI nxq), .ref Mgoes, .ref MgoLine, .ref Mends, .ref MendLine, .ref Mkinds, .ref MisName, .int (nI mnq), .ref Mrow, .ref MbyHand, .ref Mleast, .ref Msecond, .ref MendAt, .ref MgoAt, .ref MnodeBehind, .int lE, .ref MisOut, .ref MfirstEnd, .ref MfirstGo])), (Mkinds, .inl (cI, 100, .inl mkinds))]) (w1 := []) hP hD [] [0, 1] rfl rfl (by decide) (by decide) hk1 hFc hP1 hD1
  generalize H1 = H at hP hS ⊢
  have hP : va_P (dC, dI) vwCl [(h0, .inr (5, [.int 0, .ref Mtape, .int (nI tnq), .int (nI znq), .ref Msort, .ref Mplace, .ref Mvalue, .int (nI anq), .int ft, .ref Mwords, .int (nI hdq), .int (nI nxq), .ref Mgoes, .ref MgoLine, .ref Mends, .ref MendLine, .ref Mkinds, .ref MisName, .int (nI mnq), .ref Mrow, .ref MbyHand, .ref Mleast, .ref Msecond, .ref MendAt, .ref MgoAt, .ref MnodeBehind, .int lE, .ref MisOut, .ref MfirstEnd, .ref MfirstGo])), (Mkinds, .inl (cI, 100, .inl mkinds))] H := hP
  have hD : va_D A [(h0, .inr (5, [.int 0, .ref Mtape, .int (nI tnq), .int (nI znq), .ref Msort, .ref Mplace, .ref Mvalue, .int (nI anq), .int ft, .ref Mwords, .int (nI hdq), .int (nI nxq), .ref Mgoes, .ref MgoLine, .ref Mends, .ref MendLine, .ref Mkinds, .ref MisName, .int (nI mnq), .ref Mrow, .ref MbyHand, .ref Mleast, .ref Msecond, .ref MendAt, .ref MgoAt, .ref MnodeBehind, .int lE, .ref MisOut, .ref MfirstEnd, .ref MfirstGo])), (Mkinds, .inl (cI, 100, .inl mkinds))] := hD
  refine lv_if_eq (tgt := 24) hx hb dX5_kinds_9 (by decide) (fun c_9 => ?_) (fun c_9 => ?_)
  · skip
    refine lv_iconst (v := 0) hx hb dX5_kinds_24 (by decide) ?_
    have hP9 := hP.sub (ws' := [(h0, .inr (5, [.int 0, .ref Mtape, .int (nI tnq), .int (nI znq), .ref Msort, .ref Mplace, .ref Mvalue, .int (nI anq), .int ft, .ref Mwords, .int (nI hdq), .int (nI nxq), .ref Mgoes, .ref MgoLine, .ref Mends, .ref MendLine, .ref Mkinds, .ref MisName, .int (nI mnq), .ref Mrow, .ref MbyHand, .ref Mleast, .ref Msecond, .ref MendAt, .ref MgoAt, .ref MnodeBehind, .int lE, .ref MisOut, .ref MfirstEnd, .ref MfirstGo])), (Mkinds, .inl (cI, 100, .inl mkinds))]) [0, 1] rfl
    have hD9 := hD.sub (ws' := [(h0, .inr (5, [.int 0, .ref Mtape, .int (nI tnq), .int (nI znq), .ref Msort, .ref Mplace, .ref Mvalue, .int (nI anq), .int ft, .ref Mwords, .int (nI hdq), .int (nI nxq), .ref Mgoes, .ref MgoLine, .ref Mends, .ref MendLine, .ref Mkinds, .ref MisName, .int (nI mnq), .ref Mrow, .ref MbyHand, .ref Mleast, .ref Msecond, .ref MendAt, .ref MgoAt, .ref MnodeBehind, .int lE, .ref MisOut, .ref MfirstEnd, .ref MfirstGo])), (Mkinds, .inl (cI, 100, .inl mkinds))]) [0, 1] (by decide) rfl
    have hens0 : mkinds = if rKinds p0 p1 = 0 then mkinds else upd mkinds p0.toNatClampNeg p1 := (by rw [show rKinds p0 p1 = 0 from (by simp only [rKinds, if_pos c_9]), if_pos rfl])
    exact W.zret (v := 0) (ty := .boolean) hx hb hr rfl (fun t ht hW => ⟨⟨0, (0, mkinds), rfl, ⟨(by simp only [rKinds, if_pos c_9]), hens0⟩, by rw [ht]; exact hP9, hD9⟩, hS.F ht⟩) hS.2.2 dX5_kinds_25
  · skip
    refine lv_iload_n hx hb dX5_kinds_12 rfl (lv_at hl 2 rfl) ?_
    refine lv_iconst (v := 1) hx hb dX5_kinds_13 (by decide) ?_
    refine lv_icmp_lt (tgt := 24) hx hb dX5_kinds_14 (by decide) (fun c_14 => ?_) (fun c_14 => ?_)
    · skip
      refine lv_iconst (v := 0) hx hb dX5_kinds_24 (by decide) ?_
      have hP9 := hP.sub (ws' := [(h0, .inr (5, [.int 0, .ref Mtape, .int (nI tnq), .int (nI znq), .ref Msort, .ref Mplace, .ref Mvalue, .int (nI anq), .int ft, .ref Mwords, .int (nI hdq), .int (nI nxq), .ref Mgoes, .ref MgoLine, .ref Mends, .ref MendLine, .ref Mkinds, .ref MisName, .int (nI mnq), .ref Mrow, .ref MbyHand, .ref Mleast, .ref Msecond, .ref MendAt, .ref MgoAt, .ref MnodeBehind, .int lE, .ref MisOut, .ref MfirstEnd, .ref MfirstGo])), (Mkinds, .inl (cI, 100, .inl mkinds))]) [0, 1] rfl
      have hD9 := hD.sub (ws' := [(h0, .inr (5, [.int 0, .ref Mtape, .int (nI tnq), .int (nI znq), .ref Msort, .ref Mplace, .ref Mvalue, .int (nI anq), .int ft, .ref Mwords, .int (nI hdq), .int (nI nxq), .ref Mgoes, .ref MgoLine, .ref Mends, .ref MendLine, .ref Mkinds, .ref MisName, .int (nI mnq), .ref Mrow, .ref MbyHand, .ref Mleast, .ref Msecond, .ref MendAt, .ref MgoAt, .ref MnodeBehind, .int lE, .ref MisOut, .ref MfirstEnd, .ref MfirstGo])), (Mkinds, .inl (cI, 100, .inl mkinds))]) [0, 1] (by decide) rfl
      have hens0 : mkinds = if rKinds p0 p1 = 0 then mkinds else upd mkinds p0.toNatClampNeg p1 := (by rw [show rKinds p0 p1 = 0 from (by simp only [rKinds, if_neg c_9, if_pos c_14]), if_pos rfl])
      exact W.zret (v := 0) (ty := .boolean) hx hb hr rfl (fun t ht hW => ⟨⟨0, (0, mkinds), rfl, ⟨(by simp only [rKinds, if_neg c_9, if_pos c_14]), hens0⟩, by rw [ht]; exact hP9, hD9⟩, hS.F ht⟩) hS.2.2 dX5_kinds_25
    · skip
      refine lv_iload_n hx hb dX5_kinds_17 rfl (lv_at hl 2 rfl) ?_
      refine lv_sipush (v := 255) hx hb dX5_kinds_18 (by decide) ?_
      refine lv_icmp_le (tgt := 26) hx hb dX5_kinds_21 (by decide) (fun c_21 => ?_) (fun c_21 => ?_)
      · skip
        refine lv_aload_n hx hb dX5_kinds_26 rfl (lv_at hl 0 rfl) ?_
        refine va_get (D := (dC, dI)) (ci := 5) (v := .ref Mkinds) (C := RX5) (T := TX5) (N := 30) hx hb hts i5 hown hK hP 0 rfl rfl 16 (by decide) (hts (.fieldLink RX5 73 "StopSetterModel" "kinds" "[I") (by decide +kernel)) (fun _ h9 => h9) rfl dX5_kinds_27 ?_
        refine lv_iload_n hx hb dX5_kinds_30 rfl (lv_at hl 1 rfl) ?_
        refine lv_iload_n hx hb dX5_kinds_31 rfl (lv_at hl 2 rfl) ?_
        refine va_iast hx hb hK hP hD hS 1 0 rfl rfl (isW_in c_9) dX5_kinds_32 (fun H locs hP hD hS => ?_)
        have hP : va_P (dC, dI) vwCl [(h0, .inr (5, [.int 0, .ref Mtape, .int (nI tnq), .int (nI znq), .ref Msort, .ref Mplace, .ref Mvalue, .int (nI anq), .int ft, .ref Mwords, .int (nI hdq), .int (nI nxq), .ref Mgoes, .ref MgoLine, .ref Mends, .ref MendLine, .ref Mkinds, .ref MisName, .int (nI mnq), .ref Mrow, .ref MbyHand, .ref Mleast, .ref Msecond, .ref MendAt, .ref MgoAt, .ref MnodeBehind, .int lE, .ref MisOut, .ref MfirstEnd, .ref MfirstGo])), (Mkinds, .inl (cI, 100, .inl (upd mkinds (p0.toNatClampNeg) p1)))] H := hP
        have hD : va_D A [(h0, .inr (5, [.int 0, .ref Mtape, .int (nI tnq), .int (nI znq), .ref Msort, .ref Mplace, .ref Mvalue, .int (nI anq), .int ft, .ref Mwords, .int (nI hdq), .int (nI nxq), .ref Mgoes, .ref MgoLine, .ref Mends, .ref MendLine, .ref Mkinds, .ref MisName, .int (nI mnq), .ref Mrow, .ref MbyHand, .ref Mleast, .ref Msecond, .ref MendAt, .ref MgoAt, .ref MnodeBehind, .int lE, .ref MisOut, .ref MfirstEnd, .ref MfirstGo])), (Mkinds, .inl (cI, 100, .inl (upd mkinds (p0.toNatClampNeg) p1)))] := hD
        refine lv_iconst (v := 1) hx hb dX5_kinds_33 (by decide) ?_
        have hP9 := hP.sub (ws' := [(h0, .inr (5, [.int 0, .ref Mtape, .int (nI tnq), .int (nI znq), .ref Msort, .ref Mplace, .ref Mvalue, .int (nI anq), .int ft, .ref Mwords, .int (nI hdq), .int (nI nxq), .ref Mgoes, .ref MgoLine, .ref Mends, .ref MendLine, .ref Mkinds, .ref MisName, .int (nI mnq), .ref Mrow, .ref MbyHand, .ref Mleast, .ref Msecond, .ref MendAt, .ref MgoAt, .ref MnodeBehind, .int lE, .ref MisOut, .ref MfirstEnd, .ref MfirstGo])), (Mkinds, .inl (cI, 100, .inl (upd mkinds (p0.toNatClampNeg) p1)))]) [0, 1] rfl
        have hD9 := hD.sub (ws' := [(h0, .inr (5, [.int 0, .ref Mtape, .int (nI tnq), .int (nI znq), .ref Msort, .ref Mplace, .ref Mvalue, .int (nI anq), .int ft, .ref Mwords, .int (nI hdq), .int (nI nxq), .ref Mgoes, .ref MgoLine, .ref Mends, .ref MendLine, .ref Mkinds, .ref MisName, .int (nI mnq), .ref Mrow, .ref MbyHand, .ref Mleast, .ref Msecond, .ref MendAt, .ref MgoAt, .ref MnodeBehind, .int lE, .ref MisOut, .ref MfirstEnd, .ref MfirstGo])), (Mkinds, .inl (cI, 100, .inl (upd mkinds (p0.toNatClampNeg) p1)))]) [0, 1] (by decide) rfl
        have hens0 : (upd mkinds (p0.toNatClampNeg) p1) = if rKinds p0 p1 = 0 then mkinds else upd mkinds p0.toNatClampNeg p1 := (by rw [show rKinds p0 p1 = 1 from (by simp only [rKinds, if_neg c_9, if_neg c_14, if_pos c_21]), if_neg (by decide)])
        exact W.zret (v := 1) (ty := .boolean) hx hb hr rfl (fun t ht hW => ⟨⟨1, (0, (upd mkinds (p0.toNatClampNeg) p1)), rfl, ⟨(by simp only [rKinds, if_neg c_9, if_neg c_14, if_pos c_21]), hens0⟩, by rw [ht]; exact hP9, hD9⟩, hS.F ht⟩) hS.2.2 dX5_kinds_34
      · skip
        refine lv_iconst (v := 0) hx hb dX5_kinds_24 (by decide) ?_
        have hP9 := hP.sub (ws' := [(h0, .inr (5, [.int 0, .ref Mtape, .int (nI tnq), .int (nI znq), .ref Msort, .ref Mplace, .ref Mvalue, .int (nI anq), .int ft, .ref Mwords, .int (nI hdq), .int (nI nxq), .ref Mgoes, .ref MgoLine, .ref Mends, .ref MendLine, .ref Mkinds, .ref MisName, .int (nI mnq), .ref Mrow, .ref MbyHand, .ref Mleast, .ref Msecond, .ref MendAt, .ref MgoAt, .ref MnodeBehind, .int lE, .ref MisOut, .ref MfirstEnd, .ref MfirstGo])), (Mkinds, .inl (cI, 100, .inl mkinds))]) [0, 1] rfl
        have hD9 := hD.sub (ws' := [(h0, .inr (5, [.int 0, .ref Mtape, .int (nI tnq), .int (nI znq), .ref Msort, .ref Mplace, .ref Mvalue, .int (nI anq), .int ft, .ref Mwords, .int (nI hdq), .int (nI nxq), .ref Mgoes, .ref MgoLine, .ref Mends, .ref MendLine, .ref Mkinds, .ref MisName, .int (nI mnq), .ref Mrow, .ref MbyHand, .ref Mleast, .ref Msecond, .ref MendAt, .ref MgoAt, .ref MnodeBehind, .int lE, .ref MisOut, .ref MfirstEnd, .ref MfirstGo])), (Mkinds, .inl (cI, 100, .inl mkinds))]) [0, 1] (by decide) rfl
        have hens0 : mkinds = if rKinds p0 p1 = 0 then mkinds else upd mkinds p0.toNatClampNeg p1 := (by rw [show rKinds p0 p1 = 0 from (by simp only [rKinds, if_neg c_9, if_neg c_14, if_neg c_21]), if_pos rfl])
        exact W.zret (v := 0) (ty := .boolean) hx hb hr rfl (fun t ht hW => ⟨⟨0, (0, mkinds), rfl, ⟨(by simp only [rKinds, if_neg c_9, if_neg c_14, if_neg c_21]), hens0⟩, by rw [ht]; exact hP9, hD9⟩, hS.F ht⟩) hS.2.2 dX5_kinds_25
set_option maxHeartbeats 4000000 in
set_option maxRecDepth 100000 in
theorem k_mword (l : Launch) (dC : Nat → ClassId) (dI : Nat → Nat → Nat) (cI cZ cC cJ : ClassId) (sz : Nat) (h0 : Nat) (th : Int32) (Mtape : Nat) (tnq : Nat) (znq : Nat) (Msort : Nat) (Mplace : Nat) (Mvalue : Nat) (anq : Nat) (ft : Int32) (Mwords : Nat) (hdq : Nat) (nxq : Nat) (Mgoes : Nat) (MgoLine : Nat) (Mends : Nat) (MendLine : Nat) (Mkinds : Nat) (MisName : Nat) (mnq : Nat) (Mrow : Nat) (MbyHand : Nat) (Mleast : Nat) (Msecond : Nat) (MendAt : Nat) (MgoAt : Nat) (MnodeBehind : Nat) (lE : Int32) (MisOut : Nat) (MfirstEnd : Nat) (MfirstGo : Nat) (mrow : Nat → Int32) (mbyHand : Nat → Int32) (p0 : Int32) (hmn : mnq ≤ 60) (hrow : rowOK mrow) : Met l yX5_word wsX5_word ({ frames := 1, cells := 0, slots := 0, locals := 20 }) (va_Pc [.ref h0, .int p0] (sPre dC dI cI cZ cC cJ [(h0, .inr (5, [.int th, .ref Mtape, .int (nI tnq), .int (nI znq), .ref Msort, .ref Mplace, .ref Mvalue, .int (nI anq), .int ft, .ref Mwords, .int (nI hdq), .int (nI nxq), .ref Mgoes, .ref MgoLine, .ref Mends, .ref MendLine, .ref Mkinds, .ref MisName, .int (nI mnq), .ref Mrow, .ref MbyHand, .ref Mleast, .ref Msecond, .ref MendAt, .ref MgoAt, .ref MnodeBehind, .int lE, .ref MisOut, .ref MfirstEnd, .ref MfirstGo])), (Mrow, .inl (cI, 60, .inl mrow)), (MbyHand, .inl (cI, 60, .inl mbyHand))] sz)) (va_Qi (fun (r : Int32) (u : (Int32) × (Nat) × (Nat → Int32) × (Nat → Int32)) => match u with | (th2, mnq2, mrow2, mbyHand2) => r = mwR p0 mnq ∧ (mnq2 ≤ 60) ∧ (rowOK mrow2) ∧ (mnq2 = mwN p0 mnq) ∧ (mbyHand2 = if mwR p0 mnq = -1 then mbyHand else upd mbyHand (nI mnq).toNatClampNeg (-1)) ∧ (mrow2 = if mwR p0 mnq = -1 then mrow else upd mrow (nI mnq).toNatClampNeg p0)) (fun (u : (Int32) × (Nat) × (Nat → Int32) × (Nat → Int32)) t => match u with | (th2, mnq2, mrow2, mbyHand2) => sB dC dI (va_A [(h0, .inr (5, [.int th, .ref Mtape, .int (nI tnq), .int (nI znq), .ref Msort, .ref Mplace, .ref Mvalue, .int (nI anq), .int ft, .ref Mwords, .int (nI hdq), .int (nI nxq), .ref Mgoes, .ref MgoLine, .ref Mends, .ref MendLine, .ref Mkinds, .ref MisName, .int (nI mnq), .ref Mrow, .ref MbyHand, .ref Mleast, .ref Msecond, .ref MendAt, .ref MgoAt, .ref MnodeBehind, .int lE, .ref MisOut, .ref MfirstEnd, .ref MfirstGo])), (Mrow, .inl (cI, 60, .inl mrow)), (MbyHand, .inl (cI, 60, .inl mbyHand))] sz) [(h0, .inr (5, [.int th2, .ref Mtape, .int (nI tnq), .int (nI znq), .ref Msort, .ref Mplace, .ref Mvalue, .int (nI anq), .int ft, .ref Mwords, .int (nI hdq), .int (nI nxq), .ref Mgoes, .ref MgoLine, .ref Mends, .ref MendLine, .ref Mkinds, .ref MisName, .int (nI mnq2), .ref Mrow, .ref MbyHand, .ref Mleast, .ref Msecond, .ref MendAt, .ref MgoAt, .ref MnodeBehind, .int lE, .ref MisOut, .ref MfirstEnd, .ref MfirstGo])), (Mrow, .inl (cI, 60, .inl mrow2)), (MbyHand, .inl (cI, 60, .inl mbyHand2))] t) (va_A [(h0, .inr (5, [.int th, .ref Mtape, .int (nI tnq), .int (nI znq), .ref Msort, .ref Mplace, .ref Mvalue, .int (nI anq), .int ft, .ref Mwords, .int (nI hdq), .int (nI nxq), .ref Mgoes, .ref MgoLine, .ref Mends, .ref MendLine, .ref Mkinds, .ref MisName, .int (nI mnq), .ref Mrow, .ref MbyHand, .ref Mleast, .ref Msecond, .ref MendAt, .ref MgoAt, .ref MnodeBehind, .int lE, .ref MisOut, .ref MfirstEnd, .ref MfirstGo])), (Mrow, .inl (cI, 60, .inl mrow)), (MbyHand, .inl (cI, 60, .inl mbyHand))] sz)) 0 0 (va_A [(h0, .inr (5, [.int th, .ref Mtape, .int (nI tnq), .int (nI znq), .ref Msort, .ref Mplace, .ref Mvalue, .int (nI anq), .int ft, .ref Mwords, .int (nI hdq), .int (nI nxq), .ref Mgoes, .ref MgoLine, .ref Mends, .ref MendLine, .ref Mkinds, .ref MisName, .int (nI mnq), .ref Mrow, .ref MbyHand, .ref Mleast, .ref Msecond, .ref MendAt, .ref MgoAt, .ref MnodeBehind, .int lE, .ref MisOut, .ref MfirstEnd, .ref MfirstGo])), (Mrow, .inl (cI, 60, .inl mrow)), (MbyHand, .inl (cI, 60, .inl mbyHand))] sz) := by
  refine Met.ofW (cc := cX5_word) (maxL := 2) (ret := (some .int)) (by decide) rfl ?_
  intro p e s m args below meth c s₁ B hml hv
  obtain ⟨rfl, hsz, hP, hsk, hD0⟩ := hv
  have hx := B.exec
  have hb := B.bytes
  have hr := B.returns
  have hts := atoms_spec (ws := wsX5_word) B.pre
  have hown : s.vm.findClass RX5 = some m.cls := findClass_of_methodNamed B.named
  have hlocks := B.notSynchronized
  have hK := hsk.1
  have i5 : ∀ w ∈ wsX50, w ∈ wsX5_word := by decide +kernel
  subst hsz
  have hD := hD0.self (sz := s.heap.size)
  generalize hAe : va_A [(h0, .inr (5, [.int th, .ref Mtape, .int (nI tnq), .int (nI znq), .ref Msort, .ref Mplace, .ref Mvalue, .int (nI anq), .int ft, .ref Mwords, .int (nI hdq), .int (nI nxq), .ref Mgoes, .ref MgoLine, .ref Mends, .ref MendLine, .ref Mkinds, .ref MisName, .int (nI mnq), .ref Mrow, .ref MbyHand, .ref Mleast, .ref Msecond, .ref MendAt, .ref MgoAt, .ref MnodeBehind, .int lE, .ref MisOut, .ref MfirstEnd, .ref MfirstGo])), (Mrow, .inl (cI, 60, .inl mrow)), (MbyHand, .inl (cI, 60, .inl mbyHand))] s.heap.size = A at hD ⊢
  have hA : ∀ q : Nat, s.heap.size ≤ q → A q := fun q h => by rw [← hAe]; exact Or.inr h
  have hS : va_S A s.heap s.heap [] := va_S.rf
  have hl := lv_entry ([.ref h0, .int p0]) (n := 2) (Nat.le_of_ble_eq_true rfl)
  rw [lg_entry_eq]
  generalize (lg_sl ([.ref h0, .int p0]) ++ List.replicate (2 - (lg_sl ([.ref h0, .int p0])).length) Slot.unset).toArray = ls at hl ⊢
  have hl : lv_has ls 2 [(0, .ref h0), (1, .int p0)] := hl
  refine lv_aload_n hx hb dX5_word_0 rfl (lv_at hl 0 rfl) ?_
  refine lv_iconst (v := 0) hx hb dX5_word_1 (by decide) ?_
  refine va_put (D := (dC, dI)) (ci := 5) (v := .int 0) (ty := tyX5 0) (C := RX5) (T := TX5) (N := 30) hx hb hts i5 tyX5 tyX5_ok nmX5 hown hK hP hD hS 0 rfl rfl 0 (by decide) (hts (.fieldLink RX5 1 "StopSetterModel" "thrown" "I") (by decide +kernel)) (fun _ h9 => h9) rfl (by decide +kernel) rfl rfl (Nat.le_of_ble_eq_true rfl) dX5_word_2 (fun H locs hP hD hS => ?_)
  have hP : va_P (dC, dI) vwCl [(h0, .inr (5, [.int 0, .ref Mtape, .int (nI tnq), .int (nI znq), .ref Msort, .ref Mplace, .ref Mvalue, .int (nI anq), .int ft, .ref Mwords, .int (nI hdq), .int (nI nxq), .ref Mgoes, .ref MgoLine, .ref Mends, .ref MendLine, .ref Mkinds, .ref MisName, .int (nI mnq), .ref Mrow, .ref MbyHand, .ref Mleast, .ref Msecond, .ref MendAt, .ref MgoAt, .ref MnodeBehind, .int lE, .ref MisOut, .ref MfirstEnd, .ref MfirstGo])), (Mrow, .inl (cI, 60, .inl mrow)), (MbyHand, .inl (cI, 60, .inl mbyHand))] H := hP
  have hD : va_D A [(h0, .inr (5, [.int 0, .ref Mtape, .int (nI tnq), .int (nI znq), .ref Msort, .ref Mplace, .ref Mvalue, .int (nI anq), .int ft, .ref Mwords, .int (nI hdq), .int (nI nxq), .ref Mgoes, .ref MgoLine, .ref Mends, .ref MendLine, .ref Mkinds, .ref MisName, .int (nI mnq), .ref Mrow, .ref MbyHand, .ref Mleast, .ref Msecond, .ref MendAt, .ref MgoAt, .ref MnodeBehind, .int lE, .ref MisOut, .ref MfirstEnd, .ref MfirstGo])), (Mrow, .inl (cI, 60, .inl mrow)), (MbyHand, .inl (cI, 60, .inl mbyHand))] := hD
  refine lv_iload_n hx hb dX5_word_5 rfl (lv_at hl 1 rfl) ?_
  have hPc := hP.sub (ws' := []) [] rfl
  have hDc := hD.sub (ws' := []) [] (by decide) rfl
  have hFc := va_free (wc := []) hD hS hA [] rfl
  refine va_calli (va_runS (As := [.int p0]) (rest := []) ⟨hx, hb, hml, hown, hts⟩ (k_isOne l dC dI cI cZ cC cJ H.size  p0 ) (va_cwS 1 hts gX5_word_X5_isOne rfl rfl rfl (by decide +kernel) ⟨Nat.le_of_ble_eq_true rfl, Nat.le_of_ble_eq_true rfl⟩) ⟨sPre_blind, fun U hU hW => ⟨rfl, sPre_ok hsk hPc hDc hU hW⟩⟩ rfl rfl hl.1 rfl (lv_room (Nat.le_of_ble_eq_true rfl)) dX5_word_6 ⟨(show 0 + 0 ≤ 0 by omega), (show 0 + 0 ≤ 0 by omega)⟩) hS (fun q _ h => hFc q h) hFc (fun r_1 u t H1 locs ht hvm hw hB hz1 hk1 hS => ?_)
  try dsimp only at hw hB
  have hw_2 := hw
  obtain rfl : r_1 = isW p0 := hw_2
  obtain ⟨hP1, hD1⟩ := hB
  rw [ht] at hP1
  obtain ⟨hP, hD⟩ := va_join (wr := [(h0, .inr (5, [.int 0, .ref Mtape, .int (nI tnq), .int (nI znq), .ref Msort, .ref Mplace, .ref Mvalue, .int (nI anq), .int ft, .ref Mwords, .int (nI hdq), .int (nI nxq), .ref Mgoes, .ref MgoLine, .ref Mends, .ref MendLine, .ref Mkinds, .ref MisName, .int (nI mnq), .ref Mrow, .ref MbyHand, .ref Mleast, .ref Msecond, .ref MendAt, .ref MgoAt, .ref MnodeBehind, .int lE, .ref MisOut, .ref MfirstEnd, .ref MfirstGo])), (Mrow, .inl (cI, 60, .inl mrow)), (MbyHand, .inl (cI, 60, .inl mbyHand))]) (w1 := []) hP hD [] [0, 1, 2] rfl rfl (by decide) (by decide) hk1 hFc hP1 hD1
  generalize H1 = H at hP hS ⊢
  have hP : va_P (dC, dI) vwCl [(h0, .inr (5, [.int 0, .ref Mtape, .int (nI tnq), .int (nI znq), .ref Msort, .ref Mplace, .ref Mvalue, .int (nI anq), .int ft, .ref Mwords, .int (nI hdq), .int (nI nxq), .ref Mgoes, .ref MgoLine, .ref Mends, .ref MendLine, .ref Mkinds, .ref MisName, .int (nI mnq), .ref Mrow, .ref MbyHand, .ref Mleast, .ref Msecond, .ref MendAt, .ref MgoAt, .ref MnodeBehind, .int lE, .ref MisOut, .ref MfirstEnd, .ref MfirstGo])), (Mrow, .inl (cI, 60, .inl mrow)), (MbyHand, .inl (cI, 60, .inl mbyHand))] H := hP
  have hD : va_D A [(h0, .inr (5, [.int 0, .ref Mtape, .int (nI tnq), .int (nI znq), .ref Msort, .ref Mplace, .ref Mvalue, .int (nI anq), .int ft, .ref Mwords, .int (nI hdq), .int (nI nxq), .ref Mgoes, .ref MgoLine, .ref Mends, .ref MendLine, .ref Mkinds, .ref MisName, .int (nI mnq), .ref Mrow, .ref MbyHand, .ref Mleast, .ref Msecond, .ref MendAt, .ref MgoAt, .ref MnodeBehind, .int lE, .ref MisOut, .ref MfirstEnd, .ref MfirstGo])), (Mrow, .inl (cI, 60, .inl mrow)), (MbyHand, .inl (cI, 60, .inl mbyHand))] := hD
  refine lv_if_eq (tgt := 21) hx hb dX5_word_9 (by decide) (fun c_9 => ?_) (fun c_9 => ?_)
  · skip
    refine lv_iconst (v := (-1)) hx hb dX5_word_21 (by decide) ?_
    have hP9 := hP.sub (ws' := [(h0, .inr (5, [.int 0, .ref Mtape, .int (nI tnq), .int (nI znq), .ref Msort, .ref Mplace, .ref Mvalue, .int (nI anq), .int ft, .ref Mwords, .int (nI hdq), .int (nI nxq), .ref Mgoes, .ref MgoLine, .ref Mends, .ref MendLine, .ref Mkinds, .ref MisName, .int (nI mnq), .ref Mrow, .ref MbyHand, .ref Mleast, .ref Msecond, .ref MendAt, .ref MgoAt, .ref MnodeBehind, .int lE, .ref MisOut, .ref MfirstEnd, .ref MfirstGo])), (Mrow, .inl (cI, 60, .inl mrow)), (MbyHand, .inl (cI, 60, .inl mbyHand))]) [0, 1, 2] rfl
    have hD9 := hD.sub (ws' := [(h0, .inr (5, [.int 0, .ref Mtape, .int (nI tnq), .int (nI znq), .ref Msort, .ref Mplace, .ref Mvalue, .int (nI anq), .int ft, .ref Mwords, .int (nI hdq), .int (nI nxq), .ref Mgoes, .ref MgoLine, .ref Mends, .ref MendLine, .ref Mkinds, .ref MisName, .int (nI mnq), .ref Mrow, .ref MbyHand, .ref Mleast, .ref Msecond, .ref MendAt, .ref MgoAt, .ref MnodeBehind, .int lE, .ref MisOut, .ref MfirstEnd, .ref MfirstGo])), (Mrow, .inl (cI, 60, .inl mrow)), (MbyHand, .inl (cI, 60, .inl mbyHand))]) [0, 1, 2] (by decide) rfl
    have hens0 : mnq ≤ 60 := (by omega)
    have hens1 : rowOK mrow := hrow
    have hens2 : mnq = mwN p0 mnq := (by simp only [mwN, if_pos c_9])
    have hens3 : mbyHand = if mwR p0 mnq = -1 then mbyHand else upd mbyHand (nI mnq).toNatClampNeg (-1) := (by rw [show mwR p0 mnq = -1 from (by simp only [mwR, if_pos c_9]), if_pos rfl])
    have hens4 : mrow = if mwR p0 mnq = -1 then mrow else upd mrow (nI mnq).toNatClampNeg p0 := (by rw [show mwR p0 mnq = -1 from (by simp only [mwR, if_pos c_9]), if_pos rfl])
    exact W.iret (v := (-1)) hx hb hr (fun t ht hW => ⟨⟨(-1), (0, mnq, mrow, mbyHand), rfl, ⟨(by simp only [mwR, if_pos c_9]), hens0, hens1, hens2, hens3, hens4⟩, by rw [ht]; exact hP9, hD9⟩, hS.F ht⟩) hS.2.2 dX5_word_22
  · skip
    refine lv_aload_n hx hb dX5_word_12 rfl (lv_at hl 0 rfl) ?_
    refine va_get (D := (dC, dI)) (ci := 5) (v := .int (nI mnq)) (C := RX5) (T := TX5) (N := 30) hx hb hts i5 hown hK hP 0 rfl rfl 18 (by decide) (hts (.fieldLink RX5 186 "StopSetterModel" "many" "I") (by decide +kernel)) (fun _ h9 => h9) rfl dX5_word_13 ?_
    refine lv_bipush (v := 60) hx hb dX5_word_16 (by decide) ?_
    refine lv_icmp_ne (tgt := 23) hx hb dX5_word_18 (by decide) (fun c_18 => ?_) (fun c_18 => ?_)
    · skip
      have hm3 : mnq < 60 := ne60 hmn c_18
      refine lv_aload_n hx hb dX5_word_23 rfl (lv_at hl 0 rfl) ?_
      refine va_get (D := (dC, dI)) (ci := 5) (v := .ref Mrow) (C := RX5) (T := TX5) (N := 30) hx hb hts i5 hown hK hP 0 rfl rfl 19 (by decide) (hts (.fieldLink RX5 80 "StopSetterModel" "row" "[I") (by decide +kernel)) (fun _ h9 => h9) rfl dX5_word_24 ?_
      refine lv_aload_n hx hb dX5_word_27 rfl (lv_at hl 0 rfl) ?_
      refine va_get (D := (dC, dI)) (ci := 5) (v := .int (nI mnq)) (C := RX5) (T := TX5) (N := 30) hx hb hts i5 hown hK hP 0 rfl rfl 18 (by decide) (hts (.fieldLink RX5 186 "StopSetterModel" "many" "I") (by decide +kernel)) (fun _ h9 => h9) rfl dX5_word_28 ?_
      refine lv_iload_n hx hb dX5_word_31 rfl (lv_at hl 1 rfl) ?_
      refine va_iast hx hb hK hP hD hS 1 0 rfl rfl (vp_in_nI hm3 (by decide)) dX5_word_32 (fun H locs hP hD hS => ?_)
      have hP : va_P (dC, dI) vwCl [(h0, .inr (5, [.int 0, .ref Mtape, .int (nI tnq), .int (nI znq), .ref Msort, .ref Mplace, .ref Mvalue, .int (nI anq), .int ft, .ref Mwords, .int (nI hdq), .int (nI nxq), .ref Mgoes, .ref MgoLine, .ref Mends, .ref MendLine, .ref Mkinds, .ref MisName, .int (nI mnq), .ref Mrow, .ref MbyHand, .ref Mleast, .ref Msecond, .ref MendAt, .ref MgoAt, .ref MnodeBehind, .int lE, .ref MisOut, .ref MfirstEnd, .ref MfirstGo])), (Mrow, .inl (cI, 60, .inl (upd mrow ((nI mnq).toNatClampNeg) p0))), (MbyHand, .inl (cI, 60, .inl mbyHand))] H := hP
      have hD : va_D A [(h0, .inr (5, [.int 0, .ref Mtape, .int (nI tnq), .int (nI znq), .ref Msort, .ref Mplace, .ref Mvalue, .int (nI anq), .int ft, .ref Mwords, .int (nI hdq), .int (nI nxq), .ref Mgoes, .ref MgoLine, .ref Mends, .ref MendLine, .ref Mkinds, .ref MisName, .int (nI mnq), .ref Mrow, .ref MbyHand, .ref Mleast, .ref Msecond, .ref MendAt, .ref MgoAt, .ref MnodeBehind, .int lE, .ref MisOut, .ref MfirstEnd, .ref MfirstGo])), (Mrow, .inl (cI, 60, .inl (upd mrow ((nI mnq).toNatClampNeg) p0))), (MbyHand, .inl (cI, 60, .inl mbyHand))] := hD
      refine lv_aload_n hx hb dX5_word_33 rfl (lv_at hl 0 rfl) ?_
      refine va_get (D := (dC, dI)) (ci := 5) (v := .ref MbyHand) (C := RX5) (T := TX5) (N := 30) hx hb hts i5 hown hK hP 0 rfl rfl 20 (by decide) (hts (.fieldLink RX5 83 "StopSetterModel" "byHand" "[I") (by decide +kernel)) (fun _ h9 => h9) rfl dX5_word_34 ?_
      refine lv_aload_n hx hb dX5_word_37 rfl (lv_at hl 0 rfl) ?_
      refine va_get (D := (dC, dI)) (ci := 5) (v := .int (nI mnq)) (C := RX5) (T := TX5) (N := 30) hx hb hts i5 hown hK hP 0 rfl rfl 18 (by decide) (hts (.fieldLink RX5 186 "StopSetterModel" "many" "I") (by decide +kernel)) (fun _ h9 => h9) rfl dX5_word_38 ?_
      refine lv_iconst (v := (-1)) hx hb dX5_word_41 (by decide) ?_
      refine va_iast hx hb hK hP hD hS 2 0 rfl rfl (vp_in_nI hm3 (by decide)) dX5_word_42 (fun H locs hP hD hS => ?_)
      have hP : va_P (dC, dI) vwCl [(h0, .inr (5, [.int 0, .ref Mtape, .int (nI tnq), .int (nI znq), .ref Msort, .ref Mplace, .ref Mvalue, .int (nI anq), .int ft, .ref Mwords, .int (nI hdq), .int (nI nxq), .ref Mgoes, .ref MgoLine, .ref Mends, .ref MendLine, .ref Mkinds, .ref MisName, .int (nI mnq), .ref Mrow, .ref MbyHand, .ref Mleast, .ref Msecond, .ref MendAt, .ref MgoAt, .ref MnodeBehind, .int lE, .ref MisOut, .ref MfirstEnd, .ref MfirstGo])), (Mrow, .inl (cI, 60, .inl (upd mrow ((nI mnq).toNatClampNeg) p0))), (MbyHand, .inl (cI, 60, .inl (upd mbyHand ((nI mnq).toNatClampNeg) (-1))))] H := hP
      have hD : va_D A [(h0, .inr (5, [.int 0, .ref Mtape, .int (nI tnq), .int (nI znq), .ref Msort, .ref Mplace, .ref Mvalue, .int (nI anq), .int ft, .ref Mwords, .int (nI hdq), .int (nI nxq), .ref Mgoes, .ref MgoLine, .ref Mends, .ref MendLine, .ref Mkinds, .ref MisName, .int (nI mnq), .ref Mrow, .ref MbyHand, .ref Mleast, .ref Msecond, .ref MendAt, .ref MgoAt, .ref MnodeBehind, .int lE, .ref MisOut, .ref MfirstEnd, .ref MfirstGo])), (Mrow, .inl (cI, 60, .inl (upd mrow ((nI mnq).toNatClampNeg) p0))), (MbyHand, .inl (cI, 60, .inl (upd mbyHand ((nI mnq).toNatClampNeg) (-1))))] := hD
      refine lv_aload_n hx hb dX5_word_43 rfl (lv_at hl 0 rfl) ?_
      refine lv_dup hx hb dX5_word_44 rfl ?_
      refine va_get (D := (dC, dI)) (ci := 5) (v := .int (nI mnq)) (C := RX5) (T := TX5) (N := 30) hx hb hts i5 hown hK hP 0 rfl rfl 18 (by decide) (hts (.fieldLink RX5 186 "StopSetterModel" "many" "I") (by decide +kernel)) (fun _ h9 => h9) rfl dX5_word_45 ?_
      refine lv_iconst (v := 1) hx hb dX5_word_48 (by decide) ?_
      refine lv_iadd hx hb dX5_word_49 ?_
      refine lv_topi (fun v_ ev_ => ?_)
      obtain rfl : v_ = (nI (mnq + 1)) := ev_.trans (nI_1 mnq)
      refine va_put (D := (dC, dI)) (ci := 5) (v := .int (nI (mnq + 1))) (ty := tyX5 18) (C := RX5) (T := TX5) (N := 30) hx hb hts i5 tyX5 tyX5_ok nmX5 hown hK hP hD hS 0 rfl rfl 18 (by decide) (hts (.fieldLink RX5 186 "StopSetterModel" "many" "I") (by decide +kernel)) (fun _ h9 => h9) rfl (by decide +kernel) rfl rfl (Nat.le_of_ble_eq_true rfl) dX5_word_50 (fun H locs hP hD hS => ?_)
      have hP : va_P (dC, dI) vwCl [(h0, .inr (5, [.int 0, .ref Mtape, .int (nI tnq), .int (nI znq), .ref Msort, .ref Mplace, .ref Mvalue, .int (nI anq), .int ft, .ref Mwords, .int (nI hdq), .int (nI nxq), .ref Mgoes, .ref MgoLine, .ref Mends, .ref MendLine, .ref Mkinds, .ref MisName, .int (nI (mnq + 1)), .ref Mrow, .ref MbyHand, .ref Mleast, .ref Msecond, .ref MendAt, .ref MgoAt, .ref MnodeBehind, .int lE, .ref MisOut, .ref MfirstEnd, .ref MfirstGo])), (Mrow, .inl (cI, 60, .inl (upd mrow ((nI mnq).toNatClampNeg) p0))), (MbyHand, .inl (cI, 60, .inl (upd mbyHand ((nI mnq).toNatClampNeg) (-1))))] H := hP
      have hD : va_D A [(h0, .inr (5, [.int 0, .ref Mtape, .int (nI tnq), .int (nI znq), .ref Msort, .ref Mplace, .ref Mvalue, .int (nI anq), .int ft, .ref Mwords, .int (nI hdq), .int (nI nxq), .ref Mgoes, .ref MgoLine, .ref Mends, .ref MendLine, .ref Mkinds, .ref MisName, .int (nI (mnq + 1)), .ref Mrow, .ref MbyHand, .ref Mleast, .ref Msecond, .ref MendAt, .ref MgoAt, .ref MnodeBehind, .int lE, .ref MisOut, .ref MfirstEnd, .ref MfirstGo])), (Mrow, .inl (cI, 60, .inl (upd mrow ((nI mnq).toNatClampNeg) p0))), (MbyHand, .inl (cI, 60, .inl (upd mbyHand ((nI mnq).toNatClampNeg) (-1))))] := hD
      refine lv_aload_n hx hb dX5_word_53 rfl (lv_at hl 0 rfl) ?_
      refine va_get (D := (dC, dI)) (ci := 5) (v := .int (nI (mnq + 1))) (C := RX5) (T := TX5) (N := 30) hx hb hts i5 hown hK hP 0 rfl rfl 18 (by decide) (hts (.fieldLink RX5 186 "StopSetterModel" "many" "I") (by decide +kernel)) (fun _ h9 => h9) rfl dX5_word_54 ?_
      have hP9 := hP.sub (ws' := [(h0, .inr (5, [.int 0, .ref Mtape, .int (nI tnq), .int (nI znq), .ref Msort, .ref Mplace, .ref Mvalue, .int (nI anq), .int ft, .ref Mwords, .int (nI hdq), .int (nI nxq), .ref Mgoes, .ref MgoLine, .ref Mends, .ref MendLine, .ref Mkinds, .ref MisName, .int (nI (mnq + 1)), .ref Mrow, .ref MbyHand, .ref Mleast, .ref Msecond, .ref MendAt, .ref MgoAt, .ref MnodeBehind, .int lE, .ref MisOut, .ref MfirstEnd, .ref MfirstGo])), (Mrow, .inl (cI, 60, .inl (upd mrow ((nI mnq).toNatClampNeg) p0))), (MbyHand, .inl (cI, 60, .inl (upd mbyHand ((nI mnq).toNatClampNeg) (-1))))]) [0, 1, 2] rfl
      have hD9 := hD.sub (ws' := [(h0, .inr (5, [.int 0, .ref Mtape, .int (nI tnq), .int (nI znq), .ref Msort, .ref Mplace, .ref Mvalue, .int (nI anq), .int ft, .ref Mwords, .int (nI hdq), .int (nI nxq), .ref Mgoes, .ref MgoLine, .ref Mends, .ref MendLine, .ref Mkinds, .ref MisName, .int (nI (mnq + 1)), .ref Mrow, .ref MbyHand, .ref Mleast, .ref Msecond, .ref MendAt, .ref MgoAt, .ref MnodeBehind, .int lE, .ref MisOut, .ref MfirstEnd, .ref MfirstGo])), (Mrow, .inl (cI, 60, .inl (upd mrow ((nI mnq).toNatClampNeg) p0))), (MbyHand, .inl (cI, 60, .inl (upd mbyHand ((nI mnq).toNatClampNeg) (-1))))]) [0, 1, 2] (by decide) rfl
      have hens0 : (mnq + 1) ≤ 60 := (by omega)
      have hens1 : rowOK (upd mrow ((nI mnq).toNatClampNeg) p0) := (rowOK_upd hrow (isW_in c_9))
      have hens2 : (mnq + 1) = mwN p0 mnq := (by simp only [mwN, if_neg c_9, if_neg c_18])
      have hens3 : (upd mbyHand ((nI mnq).toNatClampNeg) (-1)) = if mwR p0 mnq = -1 then mbyHand else upd mbyHand (nI mnq).toNatClampNeg (-1) := (by rw [if_neg (show ¬ mwR p0 mnq = -1 from fun z9 => ne_m1 (by omega) ((show nI (mnq + 1) = mwR p0 mnq from (by simp only [mwR, if_neg c_9, if_neg c_18])).trans z9))])
      have hens4 : (upd mrow ((nI mnq).toNatClampNeg) p0) = if mwR p0 mnq = -1 then mrow else upd mrow (nI mnq).toNatClampNeg p0 := (by rw [if_neg (show ¬ mwR p0 mnq = -1 from fun z9 => ne_m1 (by omega) ((show nI (mnq + 1) = mwR p0 mnq from (by simp only [mwR, if_neg c_9, if_neg c_18])).trans z9))])
      exact W.iret (v := (nI (mnq + 1))) hx hb hr (fun t ht hW => ⟨⟨(nI (mnq + 1)), (0, (mnq + 1), (upd mrow ((nI mnq).toNatClampNeg) p0), (upd mbyHand ((nI mnq).toNatClampNeg) (-1))), rfl, ⟨(by simp only [mwR, if_neg c_9, if_neg c_18]), hens0, hens1, hens2, hens3, hens4⟩, by rw [ht]; exact hP9, hD9⟩, hS.F ht⟩) hS.2.2 dX5_word_57
    · skip
      refine lv_iconst (v := (-1)) hx hb dX5_word_21 (by decide) ?_
      have hP9 := hP.sub (ws' := [(h0, .inr (5, [.int 0, .ref Mtape, .int (nI tnq), .int (nI znq), .ref Msort, .ref Mplace, .ref Mvalue, .int (nI anq), .int ft, .ref Mwords, .int (nI hdq), .int (nI nxq), .ref Mgoes, .ref MgoLine, .ref Mends, .ref MendLine, .ref Mkinds, .ref MisName, .int (nI mnq), .ref Mrow, .ref MbyHand, .ref Mleast, .ref Msecond, .ref MendAt, .ref MgoAt, .ref MnodeBehind, .int lE, .ref MisOut, .ref MfirstEnd, .ref MfirstGo])), (Mrow, .inl (cI, 60, .inl mrow)), (MbyHand, .inl (cI, 60, .inl mbyHand))]) [0, 1, 2] rfl
      have hD9 := hD.sub (ws' := [(h0, .inr (5, [.int 0, .ref Mtape, .int (nI tnq), .int (nI znq), .ref Msort, .ref Mplace, .ref Mvalue, .int (nI anq), .int ft, .ref Mwords, .int (nI hdq), .int (nI nxq), .ref Mgoes, .ref MgoLine, .ref Mends, .ref MendLine, .ref Mkinds, .ref MisName, .int (nI mnq), .ref Mrow, .ref MbyHand, .ref Mleast, .ref Msecond, .ref MendAt, .ref MgoAt, .ref MnodeBehind, .int lE, .ref MisOut, .ref MfirstEnd, .ref MfirstGo])), (Mrow, .inl (cI, 60, .inl mrow)), (MbyHand, .inl (cI, 60, .inl mbyHand))]) [0, 1, 2] (by decide) rfl
      have hens0 : mnq ≤ 60 := (by omega)
      have hens1 : rowOK mrow := hrow
      have hens2 : mnq = mwN p0 mnq := (by simp only [mwN, if_neg c_9, if_pos c_18])
      have hens3 : mbyHand = if mwR p0 mnq = -1 then mbyHand else upd mbyHand (nI mnq).toNatClampNeg (-1) := (by rw [show mwR p0 mnq = -1 from (by simp only [mwR, if_neg c_9, if_pos c_18]), if_pos rfl])
      have hens4 : mrow = if mwR p0 mnq = -1 then mrow else upd mrow (nI mnq).toNatClampNeg p0 := (by rw [show mwR p0 mnq = -1 from (by simp only [mwR, if_neg c_9, if_pos c_18]), if_pos rfl])
      exact W.iret (v := (-1)) hx hb hr (fun t ht hW => ⟨⟨(-1), (0, mnq, mrow, mbyHand), rfl, ⟨(by simp only [mwR, if_neg c_9, if_pos c_18]), hens0, hens1, hens2, hens3, hens4⟩, by rw [ht]; exact hP9, hD9⟩, hS.F ht⟩) hS.2.2 dX5_word_22

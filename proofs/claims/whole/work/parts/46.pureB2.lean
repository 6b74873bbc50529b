/-! the reference's rows -/
theorem lc_gt {a b : Nat} (ha : a < 2 ^ 63) (hb : b < 2 ^ 63) (h : 0 < lg_cmp (lN a) (lN b)) : b < a := by
  unfold lg_cmp at h
  split at h
  · rename_i q
    exact (pk_lLT hb ha).mp q
  · split at h
    · exact absurd h (by decide)
    · exact absurd h (by decide)
theorem lc_ngt {a b : Nat} (ha : a < 2 ^ 63) (hb : b < 2 ^ 63) (h : ¬ 0 < lg_cmp (lN a) (lN b)) : a ≤ b := by
  unfold lg_cmp at h
  split at h
  · exact absurd (by decide) h
  · rename_i q
    exact Nat.le_of_not_lt (fun z => q ((pk_lLT hb ha).mpr z))
theorem lc_le {a b : Nat} (ha : a < 2 ^ 63) (hb : b < 2 ^ 63) (h : lg_cmp (lN a) (lN b) ≤ 0) : a ≤ b := lc_ngt ha hb (Int32.not_lt.mpr h)
theorem lc_nle {a b : Nat} (ha : a < 2 ^ 63) (hb : b < 2 ^ 63) (h : ¬ lg_cmp (lN a) (lN b) ≤ 0) : b < a := lc_gt ha hb (Int32.not_le.mp h)
theorem ln_ge {l : Nat} (hl : l ≤ 3) (h : 0 ≤ nI l - nI 1) : ¬ l = 0 := fun q => by subst q; exact absurd h (by decide)
theorem ln_nge {l : Nat} (hl : l ≤ 3) (h : ¬ 0 ≤ nI l - nI 1) : l = 0 := Decidable.byContradiction (fun q => h (by rcases (show l = 1 ∨ l = 2 ∨ l = 3 by omega) with rfl | rfl | rfl <;> decide))
theorem ln_lt0 {l : Nat} (hl : l ≤ 3) (h : nI l - nI 1 < 0) : l = 0 := ln_nge hl (Int32.not_le.mpr h)
theorem ln_nlt0 {l : Nat} (hl : l ≤ 3) (h : ¬ nI l - nI 1 < 0) : ¬ l = 0 := ln_ge hl (Int32.not_lt.mp h)
theorem i_nat {x : Int32} (h : ¬ x < 0) : ∃ n, n < 2 ^ 31 ∧ x = nI n := by
  rw [i_0] at h
  have b := x.toInt_lt
  exact ⟨x.toInt.toNat, by omega, by apply Int32.toInt_inj.mp; rw [nI_toInt (by omega)]; omega⟩
theorem plB_gIn {s : Nat} {y : Int32} (hs : s ≤ 40) : plB s y (nI 1) = true ↔ ¬ wi y (nI 0) (nI s - nI 1) = 0 := by
  rw [plB_t, wi_nat (by omega)]
  constructor
  · intro h
    obtain ⟨a, b, rfl, hb, h1, h2, h3⟩ := h.nat
    obtain rfl : 1 = b := nq_eq (by omega) h3 hb
    exact ⟨a, by omega, rfl⟩
  · rintro ⟨j, hj, rfl⟩
    exact (plOk_n (by omega) (by omega)).mpr (by omega)
theorem fndS_g {l s : Nat} {y : Int32} (hl : ¬ l = 0) (hs : s ≤ 40) : fndS l s y (nI 1) = if wi y (nI 0) (nI s - nI 1) = 0 then 2 else 0 := by
  unfold fndS
  rw [if_neg hl]
  by_cases h : wi y (nI 0) (nI s - nI 1) = 0
  · rw [if_pos h, if_neg (fun q => (plB_gIn hs).mp q h)]
  · rw [if_neg h, if_pos ((plB_gIn hs).mpr h)]
theorem fndS_l0 {s : Nat} {i n : Int32} : fndS 0 s i n = 1 := if_pos rfl
theorem fndS_ok {l s a b : Nat} (hl : ¬ l = 0) (ha : a < 2 ^ 31) (hb : b < 2 ^ 31) (h : a + b ≤ s) : fndS l s (nI a) (nI b) = 0 := by
  unfold fndS
  rw [if_neg hl, if_pos (plB_t.mpr ((plOk_n ha hb).mpr h))]
theorem fndS_no {l s : Nat} {i n : Int32} (hl : ¬ l = 0) (h : ¬ plOk s i n) : fndS l s i n = 2 := by
  unfold fndS
  rw [if_neg hl, if_neg (fun q => h (plB_t.mp q))]
theorem pl_i {s : Nat} {i n : Int32} (h : i < 0) : ¬ plOk s i n := fun q => by rw [i_0] at h; have := q.1; omega
theorem pl_n {s : Nat} {i n : Int32} (h : n < 0) : ¬ plOk s i n := fun q => by rw [i_0] at h; have := q.2.1; omega
theorem pl_s {s a b : Nat} (ha : a < 2 ^ 31) (hb : b < 2 ^ 31) (h : s < a + b) : ¬ plOk s (nI a) (nI b) := fun q => by have := (plOk_n ha hb).mp q; omega
def zrM (r i : Nat) (σ : Sg) : Sg := fun b k => if b = 295 ∧ 40 * r ≤ k ∧ k < 40 * r + i then nI 0 else σ b k
theorem zrM_0 {r : Nat} {σ : Sg} : zrM r 0 σ = σ := by funext b k; exact if_neg (by omega)
theorem zrM_s {r i : Nat} {σ : Sg} : up2 (zrM r i σ) 295 (40 * r + i) (nI 0) = zrM r (i + 1) σ := by
  funext b k
  unfold up2 zrM
  by_cases h : b = 295 ∧ k = 40 * r + i
  · rw [if_pos h, if_pos (by omega)]
  · rw [if_neg h]
    by_cases h2 : b = 295 ∧ 40 * r ≤ k ∧ k < 40 * r + i
    · rw [if_pos h2, if_pos (by omega)]
    · rw [if_neg h2, if_neg (by omega)]
theorem zrM_ne {r i b k : Nat} {σ : Sg} (h : b ≠ 295) : zrM r i σ b k = σ b k := if_neg (fun q => h q.1)
theorem MR.beg {σ : Sg} {R : Rw} {r l n : Nat} (h : MR σ R) (hr : r < 8) : MR (zrM r 40 (up2 (up2 σ 293 r (nI l)) 294 r (nI n))) (begR R r l n) := fun k hk => by
  obtain ⟨h1, h2, h3⟩ := h k hk
  unfold begR
  dsimp only
  by_cases q : k = r
  · subst q
    simp only [if_true]
    refine ⟨?_, ?_, fun j hj => ?_⟩
    · rw [zrM_ne (by decide), up2_ne (by decide), up2_at, ← nI_add, Int32.add_sub_cancel]
    · rw [zrM_ne (by decide), up2_at]
    · unfold zrM
      rw [if_pos (by omega)]; exact nI_0
  · simp only [if_neg q]
    refine ⟨?_, ?_, fun j hj => ?_⟩
    · rw [zrM_ne (by decide), up2_ne (by decide), up2_k q]; exact h1
    · rw [zrM_ne (by decide), up2_k q, up2_ne (by decide)]; exact h2
    · unfold zrM
      rw [if_neg (by omega), up2_ne (by decide), up2_ne (by decide)]; exact h3 j hj
theorem MR.put {σ : Sg} {R : Rw} {r i : Nat} {v : Int32} (h : MR σ R) (hi : i < 40) : MR (up2 σ 295 (40 * r + i) v) (putR R r i v) := fun k hk => by
  obtain ⟨h1, h2, h3⟩ := h k hk
  refine ⟨(congrFun (up2_ne (by decide)) k).trans h1, (congrFun (up2_ne (by decide)) k).trans h2, fun j hj => ?_⟩
  unfold putR up2
  dsimp only
  by_cases q : k = r ∧ j = i
  · rw [if_pos q, if_pos (by omega)]
  · rw [if_neg q, if_neg (by omega)]; exact h3 j hj
theorem MR.drop {σ : Sg} {R : Rw} {r : Nat} (h : MR σ R) : MR (up2 σ 293 r (-1)) (dropR R r) := fun k hk => by
  obtain ⟨h1, h2, h3⟩ := h k hk
  unfold dropR
  dsimp only
  by_cases q : k = r
  · subst q
    simp only [if_true]
    exact ⟨up2_at.trans (by decide), (congrFun (up2_ne (by decide)) k).trans h2, fun j hj => (congrFun (up2_ne (by decide)) _).trans (h3 j hj)⟩
  · simp only [if_neg q]
    exact ⟨(up2_k q).trans h1, (congrFun (up2_ne (by decide)) k).trans h2, fun j hj => (congrFun (up2_ne (by decide)) _).trans (h3 j hj)⟩
def cpM (s d lo hi : Nat) (σ : Sg) : Sg := fun c q => if c = 295 ∧ d + lo ≤ q ∧ q < d + hi then σ 295 (s + (q - d)) else σ c q
theorem cpM_0 {s d lo : Nat} {σ : Sg} : cpM s d lo lo σ = σ := by funext c q; exact if_neg (by omega)
theorem cpM_up {s d k : Nat} {σ : Sg} : up2 (cpM s d 0 k σ) 295 (d + k) (σ 295 (s + k)) = cpM s d 0 (k + 1) σ := by
  funext c q
  unfold up2 cpM
  by_cases h : c = 295 ∧ q = d + k
  · rw [if_pos h, if_pos (by omega), h.2, show d + k - d = k by omega]
  · rw [if_neg h]
    by_cases h2 : c = 295 ∧ d + 0 ≤ q ∧ q < d + k
    · rw [if_pos h2, if_pos (by omega)]
    · rw [if_neg h2, if_neg (by omega)]
theorem cpM_dn {s d n lo : Nat} {σ : Sg} (hlo : lo < n) : up2 (cpM s d (lo + 1) n σ) 295 (d + lo) (σ 295 (s + lo)) = cpM s d lo n σ := by
  funext c q
  unfold up2 cpM
  by_cases h : c = 295 ∧ q = d + lo
  · rw [if_pos h, if_pos (by omega), h.2, show d + lo - d = lo by omega]
  · rw [if_neg h]
    by_cases h2 : c = 295 ∧ d + (lo + 1) ≤ q ∧ q < d + n
    · rw [if_pos h2, if_pos (by omega)]
    · rw [if_neg h2, if_neg (by omega)]
theorem cpM_ne {s d lo hi c q : Nat} {σ : Sg} (h : c ≠ 295) : cpM s d lo hi σ c q = σ c q := if_neg (fun z => h z.1)
theorem cpM_out {s d lo hi q : Nat} {σ : Sg} (h : q < d + lo ∨ d + hi ≤ q) : cpM s d lo hi σ 295 q = σ 295 q := if_neg (by omega)
theorem MR.cpy {σ : Sg} {R : Rw} {a i b j n : Nat} (h : MR σ R) (ha : a < 8) (hi : i + n ≤ 40) (hj : j + n ≤ 40) : MR (cpM (40 * a + i) (40 * b + j) 0 n σ) (cpyR R a i b j n) := fun k hk => by
  obtain ⟨h1, h2, h3⟩ := h k hk
  refine ⟨(cpM_ne (by decide)).trans h1, (cpM_ne (by decide)).trans h2, fun q hq => ?_⟩
  unfold cpyR cpM
  dsimp only
  by_cases z : k = b ∧ j ≤ q ∧ q < j + n
  · rw [if_pos z, if_pos (by omega), show 40 * a + i + (40 * k + q - (40 * b + j)) = 40 * a + (i + (q - j)) by omega]
    exact (h a ha).2.2 _ (by omega)
  · rw [if_neg z, if_neg (by omega)]; exact h3 q hq
theorem dis_up {a i b j k n : Nat} (hi : i + n ≤ 40) (hj : j + n ≤ 40) (hk : k < n) (hij : ¬ i < j) : 40 * a + i + k < 40 * b + j + 0 ∨ 40 * b + j + k ≤ 40 * a + i + k := by
  rcases Nat.lt_trichotomy a b with h | h | h <;> omega
theorem dis_dn {a i b j lo n : Nat} (hi : i + n ≤ 40) (hj : j + n ≤ 40) (hk : lo < n) (hij : i < j) : 40 * a + i + lo < 40 * b + j + (lo + 1) ∨ 40 * b + j + n ≤ 40 * a + i + lo := by
  rcases Nat.lt_trichotomy a b with h | h | h <;> omega

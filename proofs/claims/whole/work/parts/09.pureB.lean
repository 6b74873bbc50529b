/-! sums, sets, a shore's picture -/
def sumN (f : Nat → Nat) : Nat → Nat
  | 0 => 0
  | n + 1 => sumN f n + f n
def mkN (f : Nat → Nat) : Nat → Nat
  | 0 => 0
  | n + 1 => mkN f n ||| f n
def hung (A : Vec) : Nat := sumN (fun m => A (30 + 6 * m)) (A 1)
def fishs (A : Vec) : Nat := sumN (fun m => A (29 + 6 * m)) (A 1)
def stayF (A : Vec) (m : Nat) : Nat := if bitN (A 6) m = 0 then 0 else 2 ^ m
def atF (A : Vec) (g i m : Nat) : Nat := if A (25 + 6 * m) = g then (if A (26 + 6 * m) = i then 2 ^ m else 0) else 0
def ofF (A : Vec) (g m : Nat) : Nat := bitN (A (27 + 6 * m)) g * 2 ^ m
def felF (A : Vec) (x m : Nat) : Nat := if m = x then 0 else if A (27 + 6 * m) = A (27 + 6 * x) then 2 ^ m else 0
def cntN (x : Nat) : Nat := bitN x 0 + bitN x 1 + bitN x 2 + bitN x 3 + bitN x 4 + bitN x 5
theorem bcN : ∀ x, x < 64 → bc (nI x) = nI (cntN x) := by decide +kernel
theorem cnt_le (x : Nat) : cntN x ≤ 6 := by
  have h0 := bitN_le x 0
  have h1 := bitN_le x 1
  have h2 := bitN_le x 2
  have h3 := bitN_le x 3
  have h4 := bitN_le x 4
  have h5 := bitN_le x 5
  unfold cntN
  omega
theorem c_J6_bitCountN (E : En) (x : Nat) (σ : Sg) (hx : x < 64) : Cn E m_J6_bitCount_0f7a4 1 [.int (nI x)] σ (pI (fun σ' r => σ' = σ ∧ r = nI (cntN x))) := by
  rw [← bcN x hx]
  exact c_J6_bitCount_0f7a4 E _ σ
def pget (q : Pn) (i : Nat) : Nat := match i with
  | 0 => q.1
  | 1 => q.2.1
  | 2 => q.2.2.1
  | 3 => q.2.2.2.1
  | 4 => q.2.2.2.2.1
  | _ => q.2.2.2.2.2
/-- a day of all -/
def dayV (A : Vec) : Vec := fun k => if 25 ≤ k ∧ k < 25 + 6 * A 1 then pget (dayPn A (bitN (A 6) ((k - 25) / 6)) (pn A ((k - 25) / 6))) ((k - 25) % 6) else if k = 4 then A 4 + 1 else A k
def daysV (A : Vec) : Nat → Vec
  | 0 => A
  | n + 1 => dayV (daysV A n)
def RepC (σ : Sg) (n : Nat) (A : Vec) : Prop := EnvC σ n A ∧ ∀ p, p < A 1 → Wk σ (n + 4 + p) (pn A p) ∧ σ (n + 4 + p) 6 = nI (bitN (A 6) p)
def WF (A : Vec) : Prop := WE A ∧ 1 ≤ A 1 ∧ A 1 ≤ 5 ∧ A 6 < 32 ∧ A 6 < 2 ^ A 1 ∧ ∀ p, p < A 1 → WP A (pn A p)
/-- the walkers' six alone may have changed -/
def Fp (σ σ' : Sg) (n : Nat) : Prop := ∀ a k, ¬ (n + 4 ≤ a ∧ a < n + 9 ∧ k < 6) → σ' a k = σ a k
theorem Fp.rf {σ : Sg} {n : Nat} : Fp σ σ n := fun _ _ _ => rfl
theorem Fp.fw {σ τ ρ : Sg} {n p : Nat} (h : Fp σ τ n) (hp : p < 5) (hf : Fw τ ρ (n + 4 + p)) : Fp σ ρ n := fun a k hk => (hf a k (fun q => hk ⟨by omega, by omega, q.2⟩)).trans (h a k hk)
theorem EnvC.fp {σ τ : Sg} {n : Nat} {A : Vec} (h : EnvC σ n A) (hf : Fp σ τ n) : EnvC τ n A := by
  have e : ∀ a, a < n + 4 → ∀ k, τ a k = σ a k := fun a ha k => hf a k (fun q => by omega)
  unfold EnvC at h ⊢
  simp only [e n (by omega), e (n + 1) (by omega), e (n + 2) (by omega)]
  exact h
theorem Wk.cg {σ τ : Sg} {w : Nat} {q : Pn} (h : Wk σ w q) (e : ∀ k, k < 6 → τ w k = σ w k) : Wk τ w q := by
  unfold Wk at h ⊢
  rw [e 0 (by omega), e 1 (by omega), e 2 (by omega), e 3 (by omega), e 4 (by omega), e 5 (by omega)]
  exact h
theorem pn_dayV {A : Vec} {m : Nat} (h : m < A 1) : pn (dayV A) m = dayPn A (bitN (A 6) m) (pn A m) := by
  have e : ∀ i, i < 6 → dayV A (25 + i + 6 * m) = pget (dayPn A (bitN (A 6) m) (pn A m)) i := by
    intro i hi
    unfold dayV
    rw [if_pos ⟨by omega, by omega⟩, show (25 + i + 6 * m - 25) / 6 = m by omega, show (25 + i + 6 * m - 25) % 6 = i by omega]
  unfold pn
  rw [e 0 (by omega), e 1 (by omega), e 2 (by omega), e 3 (by omega), e 4 (by omega), e 5 (by omega)]
  rfl
theorem dayV_lo {A : Vec} {k : Nat} (h : k < 25) (h4 : k ≠ 4) : dayV A k = A k := by
  unfold dayV
  rw [if_neg (by omega), if_neg h4]
theorem dayV_4 {A : Vec} : dayV A 4 = A 4 + 1 := by
  unfold dayV
  rw [if_neg (by omega), if_pos rfl]
theorem thr_cg {A B : Vec} {g gi s : Nat} (h : ∀ k, k < 25 → k ≠ 4 → A k = B k) (hg : g < 6) : thr A g gi s = thr B g gi s := by
  unfold thr
  rw [h 5 (by omega) (by omega), h (9 + 3 * g) (by omega) (by omega), h (7 + 3 * g) (by omega) (by omega)]
theorem WE.day {A : Vec} (h : WE A) : WE (dayV A) := by
  unfold WE at h ⊢
  obtain ⟨h1, h2, h3, h4, h5, h6, h7, h8, h9⟩ := h
  rw [dayV_lo (k := 0) (by omega) (by omega), dayV_lo (k := 5) (by omega) (by omega), dayV_lo (k := 2) (by omega) (by omega), dayV_lo (k := 3) (by omega) (by omega)]
  refine ⟨h1, h2, h3, h4, h5, h6, h7, h8, fun g hg => ?_⟩
  rw [dayV_lo (k := 7 + 3 * g) (by omega) (by omega), dayV_lo (k := 8 + 3 * g) (by omega) (by omega), dayV_lo (k := 9 + 3 * g) (by omega) (by omega)]
  exact h9 g hg
theorem WF.day {A : Vec} (h : WF A) : WF (dayV A) := by
  obtain ⟨h1, h2, h3, h4, h5, h6⟩ := h
  unfold WF
  rw [dayV_lo (k := 1) (by omega) (by omega), dayV_lo (k := 6) (by omega) (by omega)]
  refine ⟨h1.day, h2, h3, h4, h5, fun p hp => ?_⟩
  rw [pn_dayV hp]
  have := (h6 p hp).day (st := bitN (A 6) p) h1.1
  unfold WP at this ⊢
  rw [dayV_lo (k := 0) (by omega) (by omega)]
  exact this
theorem EnvC.day {σ : Sg} {n : Nat} {A : Vec} (hA : WE A) (h : EnvC σ n A) (h2 : σ n 2 = nI (A 4 + 1)) (h0 : True) : EnvC σ n (dayV A) := by
  unfold EnvC at h ⊢
  obtain ⟨e0, e1, e2, e3, e4, e6, ⟨F, hF, e5, hFb⟩, egs⟩ := h
  rw [dayV_lo (k := 0) (by omega) (by omega), dayV_lo (k := 5) (by omega) (by omega), dayV_lo (k := 2) (by omega) (by omega), dayV_lo (k := 3) (by omega) (by omega), dayV_lo (k := 1) (by omega) (by omega), dayV_4]
  have hG := hA.2.1
  refine ⟨e0, e1, h2, e3, e4, e6, ⟨F, hF, e5, fun g hg => ?_⟩, fun g hg => ?_⟩
  · rw [dayV_lo (k := 9 + 3 * g) (by omega) (by omega)]
    exact hFb g hg
  · rw [dayV_lo (k := 7 + 3 * g) (by omega) (by omega), dayV_lo (k := 8 + 3 * g) (by omega) (by omega)]
    exact egs g hg
/-- the block of a shore as that of another -/
def bec (n m : Nat) (σ : Sg) : Sg := fun a k => if a = n ∧ k < 7 then σ m k else if (a = n + 1 ∨ a = n + 2) ∧ k < 6 then σ (m + (a - n)) k else if n + 4 ≤ a ∧ a < n + 9 ∧ k < 7 then σ (m + (a - n)) k else σ a k
/-- on the way: i places of the two rows, p walkers -/
def becA (n m i p : Nat) (σ : Sg) : Sg := fun a k => if a = n ∧ k < 7 then σ m k else if (a = n + 1 ∨ a = n + 2) ∧ k < i then σ (m + (a - n)) k else if n + 4 ≤ a ∧ a < n + 4 + p ∧ k < 7 then σ (m + (a - n)) k else σ a k
theorem shoresL : ∀ n, n < 307 → kd n = 5 → n ∈ [4, 13, 25, 34, 43, 52, 61, 70, 79, 88, 97, 106, 115, 124, 133, 142, 151, 160, 169, 178, 187, 196, 205, 214, 223, 232, 242, 274, 283] := by decide +kernel
theorem shores_apart {n m : Nat} (hn : kd n = 5) (hm : kd m = 5) (h : n ≠ m) : n + 9 ≤ m ∨ m + 9 ≤ n := by
  have h1 := shoresL n (kd_lt (by omega)) hn
  have h2 := shoresL m (kd_lt (by omega)) hm
  exact (show ∀ n ∈ [4, 13, 25, 34, 43, 52, 61, 70, 79, 88, 97, 106, 115, 124, 133, 142, 151, 160, 169, 178, 187, 196, 205, 214, 223, 232, 242, 274, 283], ∀ m ∈ [4, 13, 25, 34, 43, 52, 61, 70, 79, 88, 97, 106, 115, 124, 133, 142, 151, 160, 169, 178, 187, 196, 205, 214, 223, 232, 242, 274, 283], n ≠ m → n + 9 ≤ m ∨ m + 9 ≤ n by decide +kernel) n h1 m h2 h
theorem becA_0 {n m : Nat} {σ : Sg} (h : n + 9 ≤ m ∨ m + 9 ≤ n) : up2 (up2 (up2 (up2 (up2 (up2 (up2 σ n 0 (σ m 0)) n 1 (σ m 1)) n 2 (σ m 2)) n 3 (σ m 3)) n 4 (σ m 4)) n 5 (σ m 5)) n 6 (σ m 6) = becA n m 0 0 σ := by
  funext a k
  unfold up2 becA
  by_cases ha : a = n
  · subst ha
    by_cases hk : k < 7
    · rw [if_pos (c := a = a ∧ k < 7) ⟨rfl, hk⟩]
      rcases (show k = 0 ∨ k = 1 ∨ k = 2 ∨ k = 3 ∨ k = 4 ∨ k = 5 ∨ k = 6 by omega) with rfl | rfl | rfl | rfl | rfl | rfl | rfl <;> simp
    · rw [if_neg (c := a = a ∧ k < 7) (fun q => hk q.2)]
      rw [if_neg (by omega), if_neg (by omega), if_neg (by omega), if_neg (by omega), if_neg (by omega), if_neg (by omega), if_neg (by omega), if_neg (by omega), if_neg (by omega)]
  · simp only [ha, false_and, if_false]
    rw [if_neg (by omega), if_neg (by omega)]
theorem sgc {σ : Sg} {a b i j : Nat} (h1 : a = b) (h2 : i = j) : σ a i = σ b j := by rw [h1, h2]
theorem becA_i {n m i : Nat} {σ : Sg} (h : n + 9 ≤ m ∨ m + 9 ≤ n) (hi : i < 6) : up2 (up2 (becA n m i 0 σ) (n + 1) i (σ (m + 1) i)) (n + 2) i (σ (m + 2) i) = becA n m (i + 1) 0 σ := by
  funext a k
  unfold up2 becA
  (repeat' split) <;> first | rfl | (exfalso; omega) | exact sgc (by omega) (by omega)
theorem becA_m {n m i p : Nat} {σ : Sg} (h : n + 9 ≤ m ∨ m + 9 ≤ n) (hp : p ≤ 5) {a k : Nat} (h1 : m ≤ a) (h2 : a < m + 9) : becA n m i p σ a k = σ a k := by
  unfold becA
  rw [if_neg (by omega), if_neg (by omega), if_neg (by omega)]
theorem becA_p {n m p : Nat} {σ : Sg} (h : n + 9 ≤ m ∨ m + 9 ≤ n) (hp : p < 5) : wbec (n + 4 + p) (m + 4 + p) (becA n m 6 p σ) = becA n m 6 (p + 1) σ := by
  have hm : ∀ k, becA n m 6 p σ (m + 4 + p) k = σ (m + 4 + p) k := fun k => by
    unfold becA
    rw [if_neg (by omega), if_neg (by omega), if_neg (by omega)]
  funext a k
  unfold wbec
  simp only [hm]
  by_cases ha : a = n + 4 + p
  · subst ha
    by_cases hk : k < 7
    · have e : becA n m 6 (p + 1) σ (n + 4 + p) k = σ (m + 4 + p) k := by
        unfold becA
        rw [if_neg (by omega), if_neg (by omega), if_pos ⟨by omega, by omega, hk⟩, show m + (n + 4 + p - n) = m + 4 + p by omega]
      rw [e]
      unfold up2
      rcases (show k = 0 ∨ k = 1 ∨ k = 2 ∨ k = 3 ∨ k = 4 ∨ k = 5 ∨ k = 6 by omega) with rfl | rfl | rfl | rfl | rfl | rfl | rfl <;> simp
    · unfold up2
      rw [if_neg (by omega), if_neg (by omega), if_neg (by omega), if_neg (by omega), if_neg (by omega), if_neg (by omega), if_neg (by omega)]
      unfold becA
      rw [if_neg (by omega), if_neg (by omega), if_neg (by omega), if_neg (by omega), if_neg (by omega), if_neg (by omega)]
  · unfold up2
    simp only [ha, false_and, if_false]
    unfold becA
    by_cases h1 : n + 4 ≤ a ∧ a < n + 4 + p ∧ k < 7
    · rw [if_pos (c := n + 4 ≤ a ∧ a < n + 4 + p ∧ k < 7) h1, if_pos (c := n + 4 ≤ a ∧ a < n + 4 + (p + 1) ∧ k < 7) (by omega)]
    · rw [if_neg (c := n + 4 ≤ a ∧ a < n + 4 + p ∧ k < 7) h1, if_neg (c := n + 4 ≤ a ∧ a < n + 4 + (p + 1) ∧ k < 7) (by omega)]
theorem becA_5 {n m : Nat} {σ : Sg} : becA n m 6 5 σ = bec n m σ := rfl
theorem shz {z G : Nat} (hz : z ≤ 1) (hb : G < 6) : z * 2 ^ G < 2 ^ 31 ∧ G < 31 := (show ∀ z, z ≤ 1 → ∀ G, G < 6 → z * 2 ^ G < 2 ^ 31 ∧ G < 31 by intro z hz; rcases (show z = 0 ∨ z = 1 by omega) with rfl | rfl <;> decide) z hz G hb

def cntK (x : Nat) : Nat → Nat
  | 0 => 0
  | k + 1 => cntK x k + bitN x k
def wayK (a pr s : Nat) : Nat → Nat
  | 0 => 1
  | k + 1 => wayK a pr s k * (if bitN a k = 1 then 1 else if bitN s k = 1 then pr else 10 - pr)
theorem wayK_eq {a pr s : Nat} (h : ∀ i, bitN s i * bitN a i = 0) : ∀ k, cntK s k + cntK a k ≤ k ∧ wayK a pr s k = pr ^ cntK s k * (10 - pr) ^ (k - cntK a k - cntK s k)
  | 0 => ⟨Nat.le_refl _, rfl⟩
  | k + 1 => by
    obtain ⟨h1, h2⟩ := wayK_eq (pr := pr) h k
    have e1 : cntK s (k + 1) = cntK s k + bitN s k := rfl
    have e2 : cntK a (k + 1) = cntK a k + bitN a k := rfl
    have e3 : wayK a pr s (k + 1) = wayK a pr s k * (if bitN a k = 1 then 1 else if bitN s k = 1 then pr else 10 - pr) := rfl
    have b1 := bitN_le s k
    have b2 := bitN_le a k
    have h0 := h k
    rw [e1, e2, e3, h2]
    rcases (show bitN a k = 0 ∨ bitN a k = 1 by omega) with qa | qa
    · rcases (show bitN s k = 0 ∨ bitN s k = 1 by omega) with qs | qs
      · rw [qa, qs, if_neg (by decide), if_neg (by decide)]
        refine ⟨by omega, ?_⟩
        rw [show k + 1 - (cntK a k + 0) - (cntK s k + 0) = (k - cntK a k - cntK s k) + 1 by omega, Nat.add_zero, Nat.pow_succ, Nat.mul_assoc]
      · rw [qa, qs, if_neg (by decide), if_pos rfl]
        refine ⟨by omega, ?_⟩
        rw [show k + 1 - (cntK a k + 0) - (cntK s k + 1) = k - cntK a k - cntK s k by omega, Nat.pow_succ, Nat.mul_right_comm]
    · have qs : bitN s k = 0 := by rw [qa, Nat.mul_one] at h0; exact h0
      rw [qa, qs, if_pos rfl]
      refine ⟨by omega, ?_⟩
      rw [show k + 1 - (cntK a k + 1) - (cntK s k + 0) = k - cntK a k - cntK s k by omega, Nat.add_zero, Nat.mul_one]
theorem cntK_N : ∀ G, G < 7 → ∀ x, x < 2 ^ G → cntK x G = cntN x := by decide +kernel
theorem way_cs {A : Vec} {pr s : Nat} (hA : WE A) (hs : s < 2 ^ A 0) (h : s &&& A 5 = 0) : wayK (A 5) pr s (A 0) = csS A pr s := by
  have h6 := hA.2.1
  have hb : ∀ i, bitN s i * bitN (A 5) i = 0 := fun i => by rw [← bitN_and, h]; unfold bitN; rw [Nat.zero_div]
  rw [(wayK_eq hb (A 0)).2, cntK_N _ (by omega) s hs, cntK_N _ (by omega) (A 5) hA.2.2.2.1]
  rfl
def blN (G a pr : Nat) : Nat → Nat
  | 0 => 0
  | s + 1 => blN G a pr s + (if s &&& a = 0 then pr ^ cntN s * (10 - pr) ^ (G - cntN a - cntN s) else 0)
theorem blN_all : ∀ G, G < 7 → ∀ a, a < 2 ^ G → ∀ pr, pr < 11 → blN G a pr (2 ^ G) = 10 ^ (G - cntN a) := by decide +kernel
theorem bl_1 {A : Vec} {pr s : Nat} (h : s &&& A 5 = 0) : blN (A 0) (A 5) pr s + csS A pr s = blN (A 0) (A 5) pr (s + 1) := by
  show _ = blN (A 0) (A 5) pr s + (if s &&& A 5 = 0 then pr ^ cntN s * (10 - pr) ^ (A 0 - cntN (A 5) - cntN s) else 0)
  rw [if_pos h]
  rfl
theorem bl_x {A : Vec} {pr s : Nat} (h : ¬ s &&& A 5 = 0) : blN (A 0) (A 5) pr s = blN (A 0) (A 5) pr (s + 1) := by
  show _ = blN (A 0) (A 5) pr s + (if s &&& A 5 = 0 then pr ^ cntN s * (10 - pr) ^ (A 0 - cntN (A 5) - cntN s) else 0)
  rw [if_neg h]
  rfl
theorem lk_1 {A : Vec} {p n pr s : Nat} (h : s &&& A 5 = 0) (hf : ¬ fdS A p n s = 0) : lkS A p n pr s + csS A pr s = lkS A p n pr (s + 1) := by
  show _ = lkS A p n pr s + (if s &&& A 5 = 0 then (if csS A pr s = 0 then 0 else if fdS A p n s = 0 then 0 else csS A pr s) else 0)
  rw [if_pos h, if_neg hf]
  congr 1
  split
  · assumption
  · rfl
theorem lk_0 {A : Vec} {p n pr s : Nat} (h : s &&& A 5 = 0) (hf : fdS A p n s = 0) : lkS A p n pr s + 0 = lkS A p n pr (s + 1) := by
  show _ = lkS A p n pr s + (if s &&& A 5 = 0 then (if csS A pr s = 0 then 0 else if fdS A p n s = 0 then 0 else csS A pr s) else 0)
  rw [if_pos h, if_pos hf]
  congr 1
  split <;> rfl
theorem lk_x {A : Vec} {p n pr s : Nat} (h : ¬ s &&& A 5 = 0) : lkS A p n pr s = lkS A p n pr (s + 1) := by
  show _ = lkS A p n pr s + (if s &&& A 5 = 0 then (if csS A pr s = 0 then 0 else if fdS A p n s = 0 then 0 else csS A pr s) else 0)
  rw [if_neg h]
  rfl
theorem gcd_st (a b : Nat) : Nat.gcd b (a % b) = Nat.gcd a b := by rw [Nat.gcd_comm a b, Nat.gcd_rec b a, Nat.gcd_comm (a % b) b]
theorem cdv_gcd : ∀ (j k a b : Nat), 2 * j + 1 ≤ k → b < 2 ^ j → cdv k a b = Nat.gcd a b
  | 0, k, a, b, hk, hb => by
    obtain rfl : b = 0 := by rw [Nat.pow_zero] at hb; omega
    rw [cdv_z, Nat.gcd_zero_right]
  | j + 1, k, a, b, hk, hb => by
    obtain ⟨k2, rfl⟩ : ∃ k2, k = k2 + 1 + 1 := ⟨k - 2, by omega⟩
    by_cases h0 : b = 0
    · rw [h0, cdv_z, Nat.gcd_zero_right]
    · rw [cdv, if_neg h0]
      by_cases h1 : a % b = 0
      · rw [h1, cdv_z, ← gcd_st a b, h1, Nat.gcd_zero_right]
      · rw [cdv, if_neg h1, cdv_gcd j k2 (a % b) (b % (a % b)) (by omega) ?_, gcd_st, gcd_st]
        have h2 := Nat.mod_lt a (show 0 < b by omega)
        have h3 := Nat.mod_lt b (show 0 < a % b by omega)
        have h4 := Nat.div_add_mod b (a % b)
        have h5 : 1 ≤ b / (a % b) := Nat.div_pos (Nat.le_of_lt h2) (by omega)
        have h6 : (a % b) * 1 ≤ (a % b) * (b / (a % b)) := Nat.mul_le_mul_left _ h5
        rw [Nat.pow_succ] at hb
        omega
theorem lkR_gcd {A : Vec} {p n pr v : Nat} (hG6 : A 0 ≤ 6) : lkR A p n pr v = lN ((if v = 0 then lkS A p n pr (2 ^ A 0) else 10 ^ (A 0 - cntN (A 5))) / Nat.gcd (lkS A p n pr (2 ^ A 0)) (10 ^ (A 0 - cntN (A 5)))) := by
  have hlb : 10 ^ (A 0 - cntN (A 5)) ≤ 10 ^ 6 := Nat.pow_le_pow_right (by decide) (by omega)
  have hp : 0 < 10 ^ (A 0 - cntN (A 5)) := Nat.pow_pos (by decide)
  have hg := Nat.gcd_pos_of_pos_right (lkS A p n pr (2 ^ A 0)) hp
  unfold lkR
  rw [cdv_gcd 20 100 _ _ (by decide) (Nat.lt_of_le_of_lt hlb (by decide)), if_neg (by omega)]
  split <;> rfl

def cdv : Nat → Nat → Nat → Nat
  | 0, a, _ => a
  | k + 1, a, b => if b = 0 then a else cdv k b (a % b)
theorem cdv_step {i a b : Nat} (hi : i < 100) (hb : ¬ b = 0) : cdv (100 - i) a b = cdv (100 - (i + 1)) b (a % b) := by
  rw [show 100 - i = (100 - (i + 1)) + 1 by omega, cdv, if_neg hb]
theorem cdv_z {k a : Nat} : cdv k a 0 = a := by cases k <;> simp [cdv]
theorem cnt_G : ∀ G, G < 7 → ∀ x, x < 2 ^ G → cntN x ≤ G := by decide +kernel
theorem bitN_and (x y i : Nat) : bitN (x &&& y) i = bitN x i * bitN y i := by
  rw [bitN_tb, bitN_tb, bitN_tb, Nat.testBit_and]
  by_cases h1 : x.testBit i <;> by_cases h2 : y.testBit i <;> simp [h1, h2]
theorem bitN_dis {x y i : Nat} (h : x &&& y = 0) : bitN (x ||| y) i = bitN x i + bitN y i := by
  have h0 : bitN (x &&& y) i = 0 := by rw [h]; unfold bitN; rw [Nat.zero_div]
  rw [bitN_and] at h0
  have h1 := bitN_or x y i
  have hx := bitN_le x i
  have hy := bitN_le y i
  have ho := bitN_le (x ||| y) i
  rcases Nat.mul_eq_zero.mp h0 with q | q <;> omega
theorem cnt_or {s a : Nat} (h : s &&& a = 0) : cntN s + cntN a = cntN (s ||| a) := by
  unfold cntN
  rw [bitN_dis h, bitN_dis h, bitN_dis h, bitN_dis h, bitN_dis h, bitN_dis h]
  omega
theorem cnt_sum {G s a : Nat} (hG : G ≤ 6) (hs : s < 2 ^ G) (ha : a < 2 ^ G) (h : s &&& a = 0) : cntN s + cntN a ≤ G := by
  have h6 := pow6 hG
  rw [cnt_or h]
  exact cnt_G G (by omega) _ (or2 hs ha)
/-- the cases of ten in which just s falls -/
def csS (A : Vec) (pr s : Nat) : Nat := pr ^ cntN s * (10 - pr) ^ (A 0 - cntN (A 5) - cntN s)
def lkS (A : Vec) (p n pr : Nat) : Nat → Nat
  | 0 => 0
  | s + 1 => lkS A p n pr s + (if s &&& A 5 = 0 then (if csS A pr s = 0 then 0 else if fdS A p n s = 0 then 0 else csS A pr s) else 0)
theorem csS_le {A : Vec} {pr s : Nat} (hA : WE A) (hs : s < 2 ^ A 0) (hp : pr ≤ 10) (h : s &&& A 5 = 0) : csS A pr s ≤ 10 ^ 6 := by
  have h1 := cnt_sum hA.2.1 hs hA.2.2.2.1 h
  have h2 : pr ^ cntN s ≤ 10 ^ cntN s := Nat.pow_le_pow_left hp _
  have h3 : (10 - pr) ^ (A 0 - cntN (A 5) - cntN s) ≤ 10 ^ (A 0 - cntN (A 5) - cntN s) := Nat.pow_le_pow_left (Nat.sub_le _ _) _
  have h4 := Nat.mul_le_mul h2 h3
  rw [← Nat.pow_add] at h4
  have h6 := hA.2.1
  exact Nat.le_trans h4 (Nat.pow_le_pow_right (by decide) (by omega))
theorem lkS_le {A : Vec} {p n pr c : Nat} (hc : ∀ s, s < 2 ^ A 0 → s &&& A 5 = 0 → csS A pr s ≤ c) : ∀ s, s ≤ 2 ^ A 0 → lkS A p n pr s ≤ c * s
  | 0, _ => Nat.zero_le _
  | s + 1, hs => by
    have h1 := lkS_le (p := p) (n := n) hc s (Nat.le_of_succ_le hs)
    have e : c * (s + 1) = c * s + c := Nat.mul_succ c s
    rw [e]
    unfold lkS
    refine Nat.add_le_add h1 ?_
    split
    · rename_i h0
      have h2 := hc s hs h0
      split
      · exact Nat.zero_le _
      · split
        · exact Nat.zero_le _
        · exact h2
    · exact Nat.zero_le _

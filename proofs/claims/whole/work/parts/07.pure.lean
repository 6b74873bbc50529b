/-! the shore as a row of numbers (the reference's order): 0 gates, 1 people, 2 dinner, 3 toll, 4 day, 5 fallen, 6 stays, 7 + 3 g kind, length, facing, 25 + 6 m at, inside, of, heading, fish, hungry -/
abbrev Vec : Type := Nat → Nat
abbrev Pn : Type := Nat × Nat × Nat × Nat × Nat × Nat
def pn (A : Vec) (m : Nat) : Pn := (A (25 + 6 * m), A (26 + 6 * m), A (27 + 6 * m), A (28 + 6 * m), A (29 + 6 * m), A (30 + 6 * m))
def bclr (s g : Nat) : Nat := if bitN s g = 1 then s - 2 ^ g else s
def thr (A : Vec) (g gi s : Nat) : Nat :=
  if bitN (A 5) g = 1 then s
  else if gi + A (9 + 3 * g) = 1 then (if A (7 + 3 * g) = 1 then 2 ^ g else if A (7 + 3 * g) = 2 then s ||| 2 ^ g else if A (7 + 3 * g) = 3 then 2 ^ g else s)
  else (if A (7 + 3 * g) = 3 then bclr s g else if A (7 + 3 * g) = 5 then 0 else s)
def fre (A : Vec) (g s : Nat) : Nat := if bitN (s ||| A 5) g = 1 then 1 else if A (7 + 3 * g) = 4 then 1 else if A (7 + 3 * g) = 5 then 1 else 0
def crossP (A : Vec) (q : Pn) : Pn := (q.1, 1 - q.2.1, thr A q.1 (1 - q.2.1) q.2.2.1, q.2.2.2)
def walkP (A : Vec) (q : Pn) : Pn :=
  if q.2.2.2.1 = 1 then (if q.1 = A 0 - 1 then (q.1 - 1, q.2.1, q.2.2.1, 0, q.2.2.2.2) else (q.1 + 1, q.2.1, q.2.2.1, 1, q.2.2.2.2))
  else (if q.1 = 0 then (q.1 + 1, q.2.1, q.2.2.1, 1, q.2.2.2.2) else (q.1 - 1, q.2.1, q.2.2.1, 0, q.2.2.2.2))
def eatP (A : Vec) (q : Pn) : Pn :=
  if fre A q.1 q.2.2.1 = 1 then (q.1, q.2.1, q.2.2.1, q.2.2.2.1, min 99 (q.2.2.2.2.1 + A 2), q.2.2.2.2.2)
  else if A 3 ≤ q.2.2.2.2.1 then (q.1, q.2.1, q.2.2.1, q.2.2.2.1, q.2.2.2.2.1 - A 3, q.2.2.2.2.2)
  else (q.1, q.2.1, q.2.2.1, q.2.2.2.1, q.2.2.2.2.1, q.2.2.2.2.2 + 1)
def fedP (A : Vec) (q : Pn) : Nat := if fre A q.1 q.2.2.1 = 1 then 1 else if A 3 ≤ q.2.2.2.2.1 then 1 else 0
def goP (A : Vec) (stay : Nat) (q : Pn) : Pn := if stay = 0 then crossP A (walkP A (if q.2.1 = 0 then q else crossP A q)) else q
def dayPn (A : Vec) (stay : Nat) (q : Pn) : Pn := if (goP A stay q).2.1 = 0 then goP A stay q else eatP A (goP A stay q)
def eatsP (A : Vec) (stay : Nat) (q : Pn) : Nat := if (goP A stay q).2.1 = 0 then 0 else fedP A (goP A stay q)
/-- what the places of a shore may be -/
def WE (A : Vec) : Prop := 2 ≤ A 0 ∧ A 0 ≤ 6 ∧ A 5 < 64 ∧ A 5 < 2 ^ A 0 ∧ 1 ≤ A 2 ∧ A 2 ≤ 9 ∧ 1 ≤ A 3 ∧ A 3 ≤ 30 ∧ ∀ g, g < A 0 → 1 ≤ A (7 + 3 * g) ∧ A (7 + 3 * g) ≤ 5 ∧ 1 ≤ A (8 + 3 * g) ∧ A (8 + 3 * g) ≤ 9 ∧ A (9 + 3 * g) ≤ 1
def WP (A : Vec) (q : Pn) : Prop := q.1 < A 0 ∧ q.2.1 ≤ 1 ∧ q.2.2.1 < 2 ^ A 0 ∧ q.2.2.2.1 ≤ 1 ∧ q.2.2.2.2.1 ≤ 99
theorem pow6 {G : Nat} (h : G ≤ 6) : 2 ^ G ≤ 64 := Nat.pow_le_pow_right (by omega) h
theorem pow_le6 {g G : Nat} (h : g < G) : 2 ^ g * 2 ≤ 2 ^ G := by
  have := Nat.pow_le_pow_right (n := 2) (by omega) (show g + 1 ≤ G by omega)
  rwa [Nat.pow_succ] at this
/-! the class's shore n, the model's row a -/
def EnvC (σ : Sg) (n : Nat) (A : Vec) : Prop := σ n 0 = nI (A 2) ∧ σ n 1 = nI (A 3) ∧ σ n 2 = nI (A 4) ∧ σ n 3 = nI (A 0) ∧ σ n 4 = nI (A 1) ∧ σ n 6 = nI (A 5) ∧ (∃ F, F < 64 ∧ σ n 5 = nI F ∧ ∀ g, g < A 0 → A (9 + 3 * g) = bitN F g) ∧ ∀ g, g < A 0 → σ (n + 1) g = nI (A (7 + 3 * g)) ∧ σ (n + 2) g = nI (A (8 + 3 * g))
def Wk (σ : Sg) (w : Nat) (q : Pn) : Prop := σ w 0 = nI q.1 ∧ σ w 5 = nI q.2.1 ∧ σ w 1 = nI q.2.2.1 ∧ σ w 2 = nI q.2.2.2.1 ∧ σ w 3 = nI q.2.2.2.2.1 ∧ σ w 4 = nI q.2.2.2.2.2
/-- only the six of a walker may have changed -/
def Fw (σ σ' : Sg) (w : Nat) : Prop := ∀ a k, ¬ (a = w ∧ k < 6) → σ' a k = σ a k
theorem Fw.rf {σ : Sg} {w : Nat} : Fw σ σ w := fun _ _ _ => rfl
theorem Fw.tr {σ τ ρ : Sg} {w : Nat} (h1 : Fw σ τ w) (h2 : Fw τ ρ w) : Fw σ ρ w := fun a k h => (h2 a k h).trans (h1 a k h)
theorem Fw.up {σ τ : Sg} {w k : Nat} {x : Int32} (h : Fw σ τ w) (hk : k < 6) : Fw σ (up2 τ w k x) w := fun a j hj => by
  unfold up2
  rw [if_neg (fun q => hj ⟨q.1, by rw [q.2]; exact hk⟩)]
  exact h a j hj
theorem EnvC.fw {σ τ : Sg} {n w : Nat} {A : Vec} (h : EnvC σ n A) (hf : Fw σ τ w) (h1 : n ≠ w) (h2 : n + 1 ≠ w) (h3 : n + 2 ≠ w) : EnvC τ n A := by
  have e : ∀ a, a ≠ w → ∀ k, τ a k = σ a k := fun a ha k => hf a k (fun q => ha q.1)
  unfold EnvC at h ⊢
  simp only [e n h1, e (n + 1) h2, e (n + 2) h3]
  exact h
theorem bitN_tb (x i : Nat) : bitN x i = if x.testBit i then 1 else 0 := by
  unfold bitN
  rw [Nat.testBit_eq_decide_div_mod_eq]
  by_cases h : x / 2 ^ i % 2 = 1
  · simp [h]
  · simp [h]; omega
theorem bitN_or (x y i : Nat) : bitN (x ||| y) i = 1 ↔ bitN x i = 1 ∨ bitN y i = 1 := by
  rw [bitN_tb, bitN_tb, bitN_tb, Nat.testBit_or]
  by_cases h1 : x.testBit i <;> by_cases h2 : y.testBit i <;> simp [h1, h2]
theorem or64 {a b : Nat} (ha : a < 64) (hb : b < 64) : a ||| b < 64 := Nat.or_lt_two_pow (n := 6) ha hb
theorem or2 {a b G : Nat} (ha : a < 2 ^ G) (hb : b < 2 ^ G) : a ||| b < 2 ^ G := Nat.or_lt_two_pow ha hb
theorem clrI : ∀ s, s < 64 → ∀ g, g < 6 → nI s &&& (nI (2 ^ g) ^^^ (-1)) = nI (bclr s g) := by decide +kernel
theorem bclr_le (s g : Nat) : bclr s g ≤ s := by
  unfold bclr
  split
  · exact Nat.sub_le _ _
  · exact Nat.le_refl _
theorem thr_lt {A : Vec} {g gi s : Nat} (hg : g < A 0) (hs : s < 2 ^ A 0) : thr A g gi s < 2 ^ A 0 := by
  have h1 := pow_le6 hg
  have h2 : s ||| 2 ^ g < 2 ^ A 0 := or2 hs (by have := Nat.two_pow_pos g; omega)
  have h3 := bclr_le s g
  have h4 := Nat.two_pow_pos g
  unfold thr
  repeat' split
  all_goals omega
theorem fre_le (A : Vec) (g s : Nat) : fre A g s ≤ 1 := by
  unfold fre
  (repeat' split) <;> omega
theorem fedP_le (A : Vec) (q : Pn) : fedP A q ≤ 1 := by
  unfold fedP
  (repeat' split) <;> omega
theorem WP.cross {A : Vec} {q : Pn} (h : WP A q) : WP A (crossP A q) := by
  obtain ⟨h1, h2, h3, h4, h5⟩ := h
  exact ⟨h1, by show 1 - q.2.1 ≤ 1; omega, thr_lt h1 h3, h4, h5⟩
theorem WP.walk {A : Vec} {q : Pn} (hG : 2 ≤ A 0) (h : WP A q) : WP A (walkP A q) := by
  obtain ⟨h1, h2, h3, h4, h5⟩ := h
  unfold walkP
  (repeat' split) <;> refine ⟨?_, h2, h3, ?_, h5⟩ <;> dsimp only <;> omega
theorem WP.eat {A : Vec} {q : Pn} (h : WP A q) : WP A (eatP A q) := by
  obtain ⟨h1, h2, h3, h4, h5⟩ := h
  unfold eatP
  (repeat' split) <;> refine ⟨h1, h2, h3, h4, ?_⟩ <;> dsimp only <;> omega
theorem WP.go {A : Vec} {q : Pn} {st : Nat} (hG : 2 ≤ A 0) (h : WP A q) : WP A (goP A st q) := by
  unfold goP
  split
  · split
    · exact (h.walk hG).cross
    · exact (h.cross.walk hG).cross
  · exact h
theorem WP.day {A : Vec} {q : Pn} {st : Nat} (hG : 2 ≤ A 0) (h : WP A q) : WP A (dayPn A st q) := by
  unfold dayPn
  split
  · exact h.go hG
  · exact (h.go hG).eat
theorem sub1 {a : Nat} (h : 0 < a) : nI a + (-1) = nI (a - 1) := by
  have := pk_m1 (a - 1)
  rwa [show a - 1 + 1 = a by omega] at this
theorem WP.of64 {A : Vec} {q : Pn} (hG : A 0 ≤ 6) (h : WP A q) : q.2.2.1 < 64 := Nat.lt_of_lt_of_le h.2.2.1 (pow6 hG)

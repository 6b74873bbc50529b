/-! places: 128 gate + 64 inside + of; the class's number of a place -/
def cd (P : Nat) : Nat := 16 * (P % 64) + 8 * (P / 64 % 2) + P / 128
def dc (c : Nat) : Nat := 128 * (c % 8) + 64 * (c / 8 % 2) + c / 16
theorem cd_lt {P : Nat} (h : P < 1024) : cd P < 1024 := by unfold cd; omega
theorem dc_lt {c : Nat} (h : c < 1024) : dc c < 1024 := by unfold dc; omega
set_option maxRecDepth 100000 in
theorem dc_cd0 : ∀ P, P < 1024 → dc (cd P) = P ∧ cd (dc P) = P ∧ cd P &&& 8 = 8 * (P / 64 % 2) := by decide +kernel
theorem dc_cd {P : Nat} (h : P < 1024) : dc (cd P) = P := (dc_cd0 P h).1
theorem cd_dc {c : Nat} (h : c < 1024) : cd (dc c) = c := (dc_cd0 c h).2.1
theorem cd_inj {P Q : Nat} (hP : P < 1024) (hQ : Q < 1024) (h : cd P = cd Q) : P = Q := by rw [← dc_cd hP, ← dc_cd hQ, h]
theorem nI_nn {n : Nat} (h : n < 2 ^ 31) : ¬ nI n = (-1000000) := fun q => by
  have h1 := congrArg Int32.toInt q
  rw [nI_toInt h] at h1
  have h2 : (-1000000 : Int32).toInt = -1000000 := by decide
  omega
/-- the place behind a move -/
def nxt (A : Vec) (P m : Nat) : Option Nat :=
  if m = 0 then some (128 * (P / 128) + 64 * (1 - P / 64 % 2) + thr A (P / 128) (1 - P / 64 % 2) (P % 64))
  else if P / 64 % 2 = 1 then none
  else if m = 1 then (if P / 128 + 1 < A 0 then some (128 * (P / 128 + 1) + P % 64) else none)
  else (if P / 128 = 0 then none else some (128 * (P / 128 - 1) + P % 64))
def cst (A : Vec) (P m : Nat) : Nat := if m = 0 then 1 else if m = 1 then A (8 + 3 * (P / 128)) else A (8 + 3 * (P / 128 - 1))
theorem clr64 : ∀ s, s < 64 → ∀ g, g < 6 → bclr s g < 64 ∧ s ||| 2 ^ g < 64 ∧ 2 ^ g < 64 := by decide +kernel
theorem thr_64 {A : Vec} {g gi s : Nat} (hg : g < 6) (hs : s < 64) : thr A g gi s < 64 := by
  have h := clr64 s hs g hg
  unfold thr
  (repeat' split) <;> omega
theorem nxt_lt {A : Vec} {P m Q : Nat} (h6 : A 0 ≤ 6) (hP : P < 128 * A 0) (h : nxt A P m = some Q) : Q < 128 * A 0 := by
  have ht := thr_64 (A := A) (g := P / 128) (gi := 1 - P / 64 % 2) (s := P % 64) (by omega) (by omega)
  unfold nxt at h
  split at h
  · have := Option.some.inj h; omega
  · split at h
    · cases h
    · split at h
      · split at h
        · have := Option.some.inj h; omega
        · cases h
      · split at h
        · cases h
        · have := Option.some.inj h; omega
theorem cst_1 {A : Vec} {P m Q : Nat} (hA : WE A) (hP : P < 128 * A 0) (h : nxt A P m = some Q) : 1 ≤ cst A P m ∧ cst A P m ≤ 9 := by
  have h6 := hA.2.1
  have hk := hA.2.2.2.2.2.2.2.2
  unfold cst
  unfold nxt at h
  split at h
  · rename_i q; rw [if_pos q]; omega
  · rename_i q
    rw [if_neg q]
    split at h
    · cases h
    · split at h
      · rename_i q2; rw [if_pos q2]; have := hk (P / 128) (by omega); omega
      · rename_i q2
        rw [if_neg q2]
        have := hk (P / 128 - 1) (by omega)
        omega
def og (f : Nat → Nat) (o : Option Nat) : Nat := match o with
  | none => 0
  | some Q => f Q
/-- the ways of k moves that end in the set -/
def wy (A : Vec) (s : Nat) : Nat → Nat → Nat
  | 0, P => if P % 64 = s then 1 else 0
  | k + 1, P => sumN (fun m => og (wy A s k) (nxt A P m)) 3
def oc (o : Option Nat) : Int32 := match o with
  | none => (-1000000)
  | some Q => nI (cd Q)
def plO (A : Vec) (p : Nat) : Nat := 128 * A (25 + 6 * p) + 64 * A (26 + 6 * p) + A (27 + 6 * p)
theorem plO_lt {A : Vec} {p : Nat} (hF : WF A) (hp : p < A 1) : plO A p < 128 * A 0 := by
  obtain ⟨w1, w2, w3, w4, w5, w6⟩ := hF.per hp
  unfold plO
  omega
theorem plO_d {A : Vec} {p : Nat} (hF : WF A) (hp : p < A 1) : plO A p / 128 = A (25 + 6 * p) ∧ plO A p / 64 % 2 = A (26 + 6 * p) ∧ plO A p % 64 = A (27 + 6 * p) := by
  obtain ⟨w1, w2, w3, w4, w5, w6⟩ := hF.per hp
  unfold plO
  omega
theorem orN : ∀ t, t < 64 → ∀ g, g < 8 → (t * 2 ^ 4 ||| 0) ||| g = 16 * t + 8 * 0 + g ∧ (t * 2 ^ 4 ||| 8) ||| g = 16 * t + 8 * 1 + g := by decide +kernel
theorem and7 (P : Nat) (h : P < 1024) : cd P &&& 7 = P / 128 := by
  rw [show (7 : Nat) = 2 ^ 3 - 1 from rfl, Nat.and_two_pow_sub_one_eq_mod]
  unfold cd
  omega
theorem and8c (P : Nat) (h : P < 1024) : cd P &&& 8 = 8 * (P / 64 % 2) := (dc_cd0 P h).2.2
theorem and63 (P : Nat) : P &&& 63 = P % 64 := by rw [show (63 : Nat) = 2 ^ 6 - 1 from rfl, Nat.and_two_pow_sub_one_eq_mod]
theorem gup : ∀ G, G < 7 → ∀ g, g < G → wi (nI (g + 1)) (nI 0) (nI G - nI 1) = nI (if g + 1 < G then 1 else 0) := by decide +kernel
theorem gdn : ∀ G, G < 7 → ∀ g, g < G → wi (nI g) (nI 0) (nI G - nI 1) = nI 1 := by decide +kernel
theorem gm1 : ∀ G, G < 7 → wi (nI 0 - nI 1) (nI 0) (nI G - nI 1) = nI 0 := by decide +kernel
/-! sums -/
theorem sum_cg {f g : Nat → Nat} : ∀ n, (∀ i, i < n → f i = g i) → sumN f n = sumN g n
  | 0, _ => rfl
  | n + 1, h => by show _ + _ = _ + _; rw [sum_cg n (fun i hi => h i (by omega)), h n (by omega)]
theorem sum_z {f : Nat → Nat} : ∀ n, (∀ i, i < n → f i = 0) → sumN f n = 0
  | 0, _ => rfl
  | n + 1, h => by show _ + _ = 0; rw [sum_z n (fun i hi => h i (by omega)), h n (by omega)]
theorem sum_ge {f : Nat → Nat} {i : Nat} : ∀ n, i < n → f i ≤ sumN f n
  | 0, h => absurd h (Nat.not_lt_zero i)
  | n + 1, h => by
    show f i ≤ sumN f n + f n
    by_cases q : i = n
    · rw [q]; exact Nat.le_add_left _ _
    · exact Nat.le_trans (sum_ge n (by omega)) (Nat.le_add_right _ _)
/-- one place of a sum is changed -/
theorem sum_ch {f g : Nat → Nat} {i : Nat} : ∀ n, i < n → (∀ j, j < n → j ≠ i → g j = f j) → sumN g n + f i = sumN f n + g i
  | 0, h, _ => absurd h (Nat.not_lt_zero i)
  | n + 1, h, e => by
    show sumN g n + g n + f i = sumN f n + f n + g i
    by_cases q : i = n
    · rw [q, sum_cg n (fun j hj => e j (by omega) (by omega))]
      omega
    · have h1 := sum_ch (f := f) (g := g) (i := i) n (by omega) (fun j hj hn => e j (by omega) hn)
      have h2 := e n (by omega) (fun z => q z.symm)
      omega
theorem sum_tail0 {f : Nat → Nat} {n : Nat} : ∀ k, (∀ i, n ≤ i → i < n + k → f i = 0) → sumN f (n + k) = sumN f n
  | 0, _ => rfl
  | k + 1, h => by
    show sumN f (n + k) + f (n + k) = _
    rw [sum_tail0 k (fun i h1 h2 => h i h1 (by omega)), h (n + k) (by omega) (by omega), Nat.add_zero]
theorem nI_self (x : Int32) : nI x.toBitVec.toNat = x := by
  apply bvI
  rw [nI_bv]
  simp
/-! the reference's two rows of 768 -/
def stF (σ : Sg) (F R : Nat → Nat) : Sg := fun b k => if b = 302 ∧ k < 768 then nI (F k) else if b = 303 ∧ k < 768 then nI (R k) else σ b k
theorem stF_any (σ : Sg) : σ = stF σ (fun k => (σ 302 k).toBitVec.toNat) (fun k => (σ 303 k).toBitVec.toNat) := by
  funext b k
  unfold stF
  by_cases h1 : b = 302 ∧ k < 768
  · rw [if_pos h1, nI_self, h1.1]
  · rw [if_neg h1]
    by_cases h2 : b = 303 ∧ k < 768
    · rw [if_pos h2, nI_self, h2.1]
    · rw [if_neg h2]
theorem stF_ne {σ : Sg} {F R : Nat → Nat} {b k : Nat} (h1 : b ≠ 302) (h2 : b ≠ 303) : stF σ F R b k = σ b k := by
  unfold stF
  rw [if_neg (fun q => h1 q.1), if_neg (fun q => h2 q.1)]
theorem stF_2 {σ : Sg} {F R : Nat → Nat} {k : Nat} (h : k < 768) : stF σ F R 302 k = nI (F k) := if_pos ⟨rfl, h⟩
theorem stF_3 {σ : Sg} {F R : Nat → Nat} {k : Nat} (h : k < 768) : stF σ F R 303 k = nI (R k) := by
  unfold stF
  rw [if_neg (fun q => absurd q.1 (by decide)), if_pos ⟨rfl, h⟩]
theorem stF_u2 {σ : Sg} {F R : Nat → Nat} {i v : Nat} (hi : i < 768) : up2 (stF σ F R) 302 i (nI v) = stF σ (updN F i v) R := by
  funext b k
  unfold up2 stF updN
  by_cases h : b = 302 ∧ k = i
  · rw [if_pos h, if_pos ⟨h.1, by omega⟩, if_pos h.2]
  · rw [if_neg h]
    by_cases h2 : b = 302 ∧ k < 768
    · rw [if_pos h2, if_pos h2, if_neg (fun q => h ⟨h2.1, q⟩)]
    · rw [if_neg h2, if_neg h2]
theorem stF_u3 {σ : Sg} {F R : Nat → Nat} {i v : Nat} (hi : i < 768) : up2 (stF σ F R) 303 i (nI v) = stF σ F (updN R i v) := by
  funext b k
  unfold up2 stF updN
  by_cases h : b = 303 ∧ k = i
  · rw [if_pos h, if_neg (by omega), if_pos ⟨h.1, by omega⟩, if_pos h.2]
  · rw [if_neg h]
    by_cases h2 : b = 303 ∧ k < 768
    · rw [if_neg (by omega), if_pos h2, if_neg (by omega), if_pos h2, if_neg (fun q => h ⟨h2.1, q⟩)]
    · rw [if_neg h2, if_neg h2]
def mixF (f F : Nat → Nat) (i : Nat) : Nat → Nat := fun k => if k < i then f k else F k
theorem mixF_0 {f F : Nat → Nat} : mixF f F 0 = F := by funext k; exact if_neg (by omega)
theorem mixF_s {f F : Nat → Nat} {i : Nat} : updN (mixF f F i) i (f i) = mixF f F (i + 1) := by
  funext k
  unfold updN mixF
  by_cases h : k = i
  · rw [if_pos h, if_pos (by omega), h]
  · rw [if_neg h]
    by_cases h2 : k < i
    · rw [if_pos h2, if_pos (by omega)]
    · rw [if_neg h2, if_neg (by omega)]
theorem stF_m2 {σ : Sg} {f F R : Nat → Nat} : stF σ (mixF f F 768) R = stF σ f R := by
  funext b k
  unfold stF mixF
  by_cases h : b = 302 ∧ k < 768
  · rw [if_pos h, if_pos h, if_pos h.2]
  · rw [if_neg h, if_neg h]
theorem stF_m3 {σ : Sg} {f F R : Nat → Nat} : stF σ R (mixF f F 768) = stF σ R f := by
  funext b k
  unfold stF mixF
  by_cases h2 : b = 302 ∧ k < 768
  · rw [if_pos h2, if_pos h2]
  · rw [if_neg h2, if_neg h2]
    by_cases h : b = 303 ∧ k < 768
    · rw [if_pos h, if_pos h, if_pos h.2]
    · rw [if_neg h, if_neg h]
theorem stF_M {σ : Sg} {F R : Nat → Nat} {A : Vec} (h : RepM σ 296 A) : RepM (stF σ F R) 296 A := fun k hk => (stF_ne (by decide) (by decide)).trans (h k hk)
theorem pow38 {j : Nat} (h : j ≤ 8) : 3 ^ j ≤ 6561 := Nat.le_trans (Nat.pow_le_pow_right (by decide) h) (by decide)
def oWays (S : Ab) (x y z : Int32) : Ab × Int32 := (S, if gIn x (S.1 1) = 0 then (-1000001) else if gIn y (2 ^ S.1 0) = 0 then (-1000001) else if wi z (nI 0) (nI 8) = 0 then (-1000001) else nI (wy S.1 (ix y) (ix z) (plO S.1 (ix x))))

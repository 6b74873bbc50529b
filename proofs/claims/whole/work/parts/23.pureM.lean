/-! the model's rows of 55 -/
def stM (σ : Sg) (a : Nat) (A : Vec) : Sg := fun b k => if b = a ∧ k < 55 then nI (A k) else σ b k
def RepM (σ : Sg) (a : Nat) (A : Vec) : Prop := ∀ k, k < 55 → σ a k = nI (A k)
theorem stM_at {σ : Sg} {a k : Nat} {A : Vec} (hk : k < 55) : stM σ a A a k = nI (A k) := if_pos ⟨rfl, hk⟩
theorem stM_ne {σ : Sg} {a b k : Nat} {A : Vec} (h : b ≠ a) : stM σ a A b k = σ b k := if_neg (fun q => h q.1)
theorem RepM.st {σ : Sg} {a : Nat} {A : Vec} (h : RepM σ a A) : stM σ a A = σ := by
  funext b k
  unfold stM
  split
  · rename_i q
    rw [q.1]
    exact (h k q.2).symm
  · rfl
theorem stM_rep {σ : Sg} {a : Nat} {A : Vec} : RepM (stM σ a A) a A := fun _ hk => stM_at hk
def updN (A : Vec) (i v : Nat) : Vec := fun k => if k = i then v else A k
theorem stM_up {σ : Sg} {a i v : Nat} {A : Vec} (hi : i < 55) : up2 (stM σ a A) a i (nI v) = stM σ a (updN A i v) := by
  funext b k
  unfold up2 stM updN
  by_cases h : b = a
  · subst h
    by_cases hk : k = i
    · subst hk
      rw [if_pos ⟨rfl, rfl⟩, if_pos ⟨rfl, hi⟩, if_pos rfl]
    · rw [if_neg (fun q => hk q.2)]
      by_cases h5 : k < 55
      · rw [if_pos ⟨rfl, h5⟩, if_pos ⟨rfl, h5⟩, if_neg hk]
      · rw [if_neg (fun q => h5 q.2), if_neg (fun q => h5 q.2)]
  · rw [if_neg (fun q => h q.1), if_neg (fun q => h q.1), if_neg (fun q => h q.1)]
def setP (A : Vec) (m : Nat) (q : Pn) : Vec := fun k => if k = 25 + 6 * m then q.1 else if k = 26 + 6 * m then q.2.1 else if k = 27 + 6 * m then q.2.2.1 else if k = 28 + 6 * m then q.2.2.2.1 else if k = 29 + 6 * m then q.2.2.2.2.1 else if k = 30 + 6 * m then q.2.2.2.2.2 else A k
theorem setP_lo {A : Vec} {m k : Nat} {q : Pn} (h : k < 25) : setP A m q k = A k := by
  unfold setP
  rw [if_neg (by omega), if_neg (by omega), if_neg (by omega), if_neg (by omega), if_neg (by omega), if_neg (by omega)]
theorem setP_0 {A : Vec} {m : Nat} {q : Pn} : setP A m q (25 + 6 * m) = q.1 := if_pos rfl
theorem setP_1 {A : Vec} {m : Nat} {q : Pn} : setP A m q (26 + 6 * m) = q.2.1 := by unfold setP; rw [if_neg (by omega), if_pos rfl]
theorem setP_2 {A : Vec} {m : Nat} {q : Pn} : setP A m q (27 + 6 * m) = q.2.2.1 := by unfold setP; rw [if_neg (by omega), if_neg (by omega), if_pos rfl]
theorem setP_3 {A : Vec} {m : Nat} {q : Pn} : setP A m q (28 + 6 * m) = q.2.2.2.1 := by unfold setP; rw [if_neg (by omega), if_neg (by omega), if_neg (by omega), if_pos rfl]
theorem setP_4 {A : Vec} {m : Nat} {q : Pn} : setP A m q (29 + 6 * m) = q.2.2.2.2.1 := by unfold setP; rw [if_neg (by omega), if_neg (by omega), if_neg (by omega), if_neg (by omega), if_pos rfl]
theorem setP_5 {A : Vec} {m : Nat} {q : Pn} : setP A m q (30 + 6 * m) = q.2.2.2.2.2 := by unfold setP; rw [if_neg (by omega), if_neg (by omega), if_neg (by omega), if_neg (by omega), if_neg (by omega), if_pos rfl]
theorem setP_pn {A : Vec} {m : Nat} : setP A m (pn A m) = A := by
  funext k
  unfold setP pn
  (repeat' split) <;> first | rfl | (rename_i h; exact congrArg A h.symm) | simp_all
theorem setP_u0 {A : Vec} {m v : Nat} {q : Pn} : updN (setP A m q) (25 + 6 * m) v = setP A m (v, q.2) := by
  funext k
  unfold updN setP
  (repeat' split) <;> first | rfl | (exfalso; omega)
theorem setP_u1 {A : Vec} {m v : Nat} {q : Pn} : updN (setP A m q) (26 + 6 * m) v = setP A m (q.1, v, q.2.2) := by
  funext k
  unfold updN setP
  (repeat' split) <;> first | rfl | (exfalso; omega)
theorem setP_u2 {A : Vec} {m v : Nat} {q : Pn} : updN (setP A m q) (27 + 6 * m) v = setP A m (q.1, q.2.1, v, q.2.2.2) := by
  funext k
  unfold updN setP
  (repeat' split) <;> first | rfl | (exfalso; omega)
theorem setP_u3 {A : Vec} {m v : Nat} {q : Pn} : updN (setP A m q) (28 + 6 * m) v = setP A m (q.1, q.2.1, q.2.2.1, v, q.2.2.2.2) := by
  funext k
  unfold updN setP
  (repeat' split) <;> first | rfl | (exfalso; omega)
theorem setP_u4 {A : Vec} {m v : Nat} {q : Pn} : updN (setP A m q) (29 + 6 * m) v = setP A m (q.1, q.2.1, q.2.2.1, q.2.2.2.1, v, q.2.2.2.2.2) := by
  funext k
  unfold updN setP
  (repeat' split) <;> first | rfl | (exfalso; omega)
theorem setP_u5 {A : Vec} {m v : Nat} {q : Pn} : updN (setP A m q) (30 + 6 * m) v = setP A m (q.1, q.2.1, q.2.2.1, q.2.2.2.1, q.2.2.2.2.1, v) := by
  funext k
  unfold updN setP
  (repeat' split) <;> first | rfl | (exfalso; omega)
theorem setP_setP {A : Vec} {m : Nat} {q r : Pn} : setP (setP A m q) m r = setP A m r := by
  funext k
  unfold setP
  (repeat' split) <;> first | rfl | (exfalso; omega)
/-! longs against ints -/
theorem l_lt {x y : Int32} : x.toInt64 < y.toInt64 ↔ x < y := by rw [Int64.lt_iff_toInt_lt, Int32.lt_iff_toInt_lt, Int32.toInt_toInt64, Int32.toInt_toInt64]
theorem l_eq {x y : Int32} : x.toInt64 = y.toInt64 ↔ x = y := ⟨fun h => by apply Int32.toInt_inj.mp; have := congrArg Int64.toInt h; rwa [Int32.toInt_toInt64, Int32.toInt_toInt64] at this, fun h => by rw [h]⟩
theorem i_tri {x y : Int32} (h1 : ¬ y < x) (h2 : ¬ x = y) : x < y := by
  rw [Int32.lt_iff_toInt_lt] at h1 ⊢
  have h5 : ¬ x.toInt = y.toInt := fun q => h2 (Int32.toInt_inj.mp q)
  omega
theorem i_asy {x y : Int32} (h1 : y < x) (h2 : x < y) : False := by
  rw [Int32.lt_iff_toInt_lt] at h1 h2
  omega
theorem i_irr {x : Int32} (h1 : x < x) : False := by
  rw [Int32.lt_iff_toInt_lt] at h1
  omega
theorem lg_lt {x y : Int32} : lg_cmp x.toInt64 y.toInt64 < 0 ↔ x < y := by
  unfold lg_cmp
  by_cases h1 : y < x
  · rw [if_pos (show x.toInt64 > y.toInt64 from l_lt.mpr h1)]
    exact ⟨fun q => absurd q (by decide), fun q => (i_asy h1 q).elim⟩
  · rw [if_neg (show ¬ x.toInt64 > y.toInt64 from fun q => h1 (l_lt.mp q))]
    by_cases h2 : x = y
    · rw [if_pos (l_eq.mpr h2)]
      exact ⟨fun q => absurd q (by decide), fun q => by subst h2; exact (i_irr q).elim⟩
    · rw [if_neg (fun q => h2 (l_eq.mp q))]
      exact ⟨fun _ => i_tri h1 h2, fun _ => by decide⟩
theorem lg_gt {x y : Int32} : 0 < lg_cmp x.toInt64 y.toInt64 ↔ y < x := by
  unfold lg_cmp
  by_cases h1 : y < x
  · rw [if_pos (show x.toInt64 > y.toInt64 from l_lt.mpr h1)]
    exact ⟨fun _ => h1, fun _ => by decide⟩
  · rw [if_neg (show ¬ x.toInt64 > y.toInt64 from fun q => h1 (l_lt.mp q))]
    by_cases h2 : x = y
    · rw [if_pos (l_eq.mpr h2)]
      exact ⟨fun q => absurd q (by decide), fun q => (h1 q).elim⟩
    · rw [if_neg (fun q => h2 (l_eq.mp q))]
      exact ⟨fun q => absurd q (by decide), fun q => (h1 q).elim⟩

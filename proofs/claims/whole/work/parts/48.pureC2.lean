/-! the reference's trace -/
def tm1 (t b : Nat) (σ : Sg) : Sg := up2 (up2 σ 306 t (nI b)) 292 25 (nI (t + 1))
def tmL (t : Nat) : List Nat → Sg → Sg
  | [], σ => σ
  | b :: bs, σ => tmL (t + 1) bs (tm1 t b σ)
theorem tm1_sz {t b : Nat} {σ : Sg} : tm1 t b σ 292 25 = nI (t + 1) := up2_at
theorem tmL_app : ∀ (l : List Nat) (t b : Nat) (σ : Sg), tmL t (l ++ [b]) σ = tm1 (t + l.length) b (tmL t l σ)
  | [], _, _, _ => rfl
  | c :: cs, t, b, σ => by
    show tmL (t + 1) (cs ++ [b]) (tm1 t c σ) = tm1 (t + (c :: cs).length) b (tmL (t + 1) cs (tm1 t c σ))
    rw [tmL_app cs (t + 1) b (tm1 t c σ), List.length_cons, show t + 1 + cs.length = t + (cs.length + 1) by omega]
theorem tmL_sz : ∀ (l : List Nat) (t : Nat) (σ : Sg), σ 292 25 = nI t → tmL t l σ 292 25 = nI (t + l.length)
  | [], _, _, h => h
  | b :: bs, t, σ, _ => by
    have h1 := tmL_sz bs (t + 1) (tm1 t b σ) tm1_sz
    rw [show t + (b :: bs).length = t + 1 + bs.length by rw [List.length_cons]; omega]
    exact h1
theorem tmL_lo : ∀ (l : List Nat) (t : Nat) (σ : Sg) (j : Nat), j < t → tmL t l σ 306 j = σ 306 j
  | [], _, _, _, _ => rfl
  | b :: bs, t, σ, j, h => (tmL_lo bs (t + 1) (tm1 t b σ) j (by omega)).trans (by unfold tm1; rw [up2_ne (by omega), up2_k (by omega)])
theorem tmL_v : ∀ (l : List Nat) (t : Nat) (σ : Sg) (j : Nat), j < l.length → tmL t l σ 306 (t + j) = nI (l.getD j 0)
  | [], _, _, _, h => absurd h (by simp)
  | b :: bs, t, σ, 0, _ => (tmL_lo bs (t + 1) (tm1 t b σ) t (by omega)).trans (by unfold tm1; rw [up2_ne (by omega)]; exact up2_at)
  | b :: bs, t, σ, j + 1, h => by
    have h1 := tmL_v bs (t + 1) (tm1 t b σ) j (by rw [List.length_cons] at h; omega)
    rw [show t + (j + 1) = t + 1 + j by omega]
    exact h1
theorem tmL_ne : ∀ (l : List Nat) (t : Nat) (σ : Sg) (a k : Nat), a ≠ 306 → ¬ (a = 292 ∧ k = 25) → tmL t l σ a k = σ a k
  | [], _, _, _, _, _, _ => rfl
  | b :: bs, t, σ, a, k, h1, h2 => (tmL_ne bs (t + 1) (tm1 t b σ) a k h1 h2).trans (by unfold tm1; unfold up2; rw [if_neg h2, if_neg (fun q => h1 q.1)])
theorem tmL_M {l : List Nat} {σ : Sg} {A : Vec} (h : RepM σ 296 A) : RepM (tmL 0 l σ) 296 A := fun k hk => (tmL_ne l 0 σ 296 k (by decide) (fun q => absurd q.1 (by decide))).trans (h k hk)
theorem tmL_sz0 {l : List Nat} {σ : Sg} (h : σ 292 25 = nI 0) : tmL 0 l σ 292 25 = nI l.length := by have := tmL_sz l 0 σ h; rwa [Nat.zero_add] at this
theorem MX.tm {σ : Sg} {l : List Nat} (h : σ 292 25 = nI 0) : MX (tmL 0 l σ) (lX l) := ⟨tmL_sz0 h, fun j hj => by have h := tmL_v l 0 σ j hj; rw [Nat.zero_add] at h; exact h⟩
theorem imtm {σ : Sg} {S : Ab} {k w : Nat} (h : IM σ S) : IM (tmL 0 (askT k w) (up2 σ 292 25 (nI 0))) (wX S (lX (askT k w))) := by
  refine IM.wX h (askT_le k w) (MX.tm up2_at) (fun a j h1 h2 => ?_)
  rw [tmL_ne _ _ _ _ _ (fun q => h2 (by rw [q]; rfl)) (fun q => h2 (by rw [q.1, q.2]; rfl))]
  exact mup (b := 292) (j := 25) rfl a j h1 h2
theorem tm_fb {σ : Sg} {l : List Nat} : Fb 292 307 σ (tmL 0 l (up2 σ 292 25 (nI 0))) := fun a k hk => by
  rw [tmL_ne _ _ _ _ _ (by omega) (by omega), up2_ne (by omega)]
theorem imul_c (x y : Int32) : x * y = y * x := Int32.mul_comm x y

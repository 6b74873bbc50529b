theorem WF.per {A : Vec} (h : WF A) {p : Nat} (hp : p < A 1) : A (25 + 6 * p) < A 0 ∧ A (26 + 6 * p) ≤ 1 ∧ A (27 + 6 * p) < 64 ∧ A (28 + 6 * p) ≤ 1 ∧ A (29 + 6 * p) ≤ 99 ∧ A (27 + 6 * p) < 2 ^ A 0 := by
  have hw := h.2.2.2.2.2 p hp
  exact ⟨hw.1, hw.2.1, hw.of64 h.1.2.1, hw.2.2.2.1, hw.2.2.2.2, hw.2.2.1⟩
/-- a day, p people on -/
def PD (σ : Sg) (n : Nat) (A : Vec) (p : Nat) (τ : Sg) : Prop := Fp σ τ n ∧ (∀ m, m < p → Wk τ (n + 4 + m) (dayPn A (bitN (A 6) m) (pn A m))) ∧ ∀ m, p ≤ m → m < A 1 → Wk τ (n + 4 + m) (pn A m)
theorem PD.zero {σ : Sg} {n : Nat} {A : Vec} (h : RepC σ n A) : PD σ n A 0 σ := ⟨Fp.rf, fun m hm => absurd hm (by omega), fun m _ hm => (h.2 m hm).1⟩
theorem PD.step {σ τ τ' : Sg} {n p : Nat} {A : Vec} (h : PD σ n A p τ) (hp : p < 5) (hw : Wk τ' (n + 4 + p) (dayPn A (bitN (A 6) p) (pn A p))) (hf : Fw τ τ' (n + 4 + p)) : PD σ n A (p + 1) τ' := by
  obtain ⟨h1, h2, h3⟩ := h
  refine ⟨h1.fw hp hf, fun m hm => ?_, fun m hm hm2 => ?_⟩
  · by_cases e : m = p
    · subst e
      exact hw
    · exact (h2 m (by omega)).cg (fun k _ => hf _ _ (fun q => e (by have := q.1; omega)))
  · exact (h3 m (by omega) hm2).cg (fun k _ => hf _ _ (fun q => by have := q.1; omega))
/-- the frame of a day of a shore -/
def FdS (σ σ' : Sg) (n : Nat) : Prop := ∀ a k, ¬ (n + 4 ≤ a ∧ a < n + 9 ∧ k < 6) → ¬ (a = n ∧ k = 2) → σ' a k = σ a k
theorem PD.end {σ τ : Sg} {n : Nat} {A : Vec} (hA : WF A) (hR : RepC σ n A) (h : PD σ n A (A 1) τ) : RepC (up2 τ n 2 (nI (A 4 + 1))) n (dayV A) ∧ FdS σ (up2 τ n 2 (nI (A 4 + 1))) n := by
  obtain ⟨h1, h2, -⟩ := h
  have hE := hR.1.fp h1
  have hu : ∀ a k, a ≠ n → up2 τ n 2 (nI (A 4 + 1)) a k = τ a k := fun a k ha => by rw [up2_ne ha]
  have h5 := hA.2.2.1
  refine ⟨⟨?_, fun p hp => ?_⟩, fun a k hk hk2 => ?_⟩
  · obtain ⟨e0, e1, e2, e3, e4, e6, ⟨F, hF, e5, hFb⟩, egs⟩ := hE
    have hG := hA.1.2.1
    unfold EnvC
    rw [dayV_lo (k := 0) (by omega) (by omega), dayV_lo (k := 5) (by omega) (by omega), dayV_lo (k := 2) (by omega) (by omega), dayV_lo (k := 3) (by omega) (by omega), dayV_lo (k := 1) (by omega) (by omega), dayV_4]
    refine ⟨by simp [up2, e0], by simp [up2, e1], by simp [up2], by simp [up2, e3], by simp [up2, e4], by simp [up2, e6], ⟨F, hF, by simp [up2, e5], fun g hg => ?_⟩, fun g hg => ?_⟩
    · rw [dayV_lo (k := 9 + 3 * g) (by omega) (by omega)]
      exact hFb g hg
    · rw [dayV_lo (k := 7 + 3 * g) (by omega) (by omega), dayV_lo (k := 8 + 3 * g) (by omega) (by omega), hu _ _ (by omega), hu _ _ (by omega)]
      exact egs g hg
  · rw [dayV_lo (k := 1) (by omega) (by omega)] at hp
    rw [pn_dayV hp, dayV_lo (k := 6) (by omega) (by omega)]
    refine ⟨(h2 p hp).cg (fun k _ => hu _ _ (by omega)), ?_⟩
    rw [hu _ _ (by omega), h1 _ _ (by omega)]
    exact (hR.2 p hp).2
  · unfold up2
    rw [if_neg hk2]
    exact h1 a k hk

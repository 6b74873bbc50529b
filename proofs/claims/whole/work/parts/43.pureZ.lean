/-! the reference's parts, one by one -/
theorem IM.wH {σ τ : Sg} {S : Ab} {H : (Nat → Vec) × Nat} (h : IM σ S) (hA : H.2 ≤ 24 ∧ ∀ j, j < H.2 → GD (H.1 j)) (hR : MH τ H) (e : ∀ a k, 0 < mrg a k → ¬ mrg a k = 2 → τ a k = σ a k) : IM τ (wH S H) := IM.of (h.1.wH hA) σ S h (Or.inl ⟨rfl, fun a k q => e a k (by omega) (by omega)⟩) (Or.inr hR) (Or.inl ⟨rfl, fun a k q => e a k (by omega) (by omega)⟩) (Or.inl ⟨rfl, fun a k q => e a k (by omega) (by omega)⟩) (Or.inl ⟨rfl, fun a k q => e a k (by omega) (by omega)⟩) (Or.inl ⟨rfl, fun a k q => e a k (by omega) (by omega)⟩) (Or.inl ⟨rfl, fun a k q => e a k (by omega) (by omega)⟩) (Or.inl ⟨rfl, fun a k q => e a k (by omega) (by omega)⟩)
theorem IM.wI {σ τ : Sg} {S : Ab} {I : (Nat → Nat) × (Nat → Vec)} (h : IM σ S) (hA : ∀ k, k < 2 → I.1 k ≤ 1 ∧ (I.1 k = 1 → GD (I.2 k))) (hR : MI τ I) (e : ∀ a k, 0 < mrg a k → ¬ mrg a k = 3 → τ a k = σ a k) : IM τ (wI S I) := IM.of (h.1.wI hA) σ S h (Or.inl ⟨rfl, fun a k q => e a k (by omega) (by omega)⟩) (Or.inl ⟨rfl, fun a k q => e a k (by omega) (by omega)⟩) (Or.inr hR) (Or.inl ⟨rfl, fun a k q => e a k (by omega) (by omega)⟩) (Or.inl ⟨rfl, fun a k q => e a k (by omega) (by omega)⟩) (Or.inl ⟨rfl, fun a k q => e a k (by omega) (by omega)⟩) (Or.inl ⟨rfl, fun a k q => e a k (by omega) (by omega)⟩) (Or.inl ⟨rfl, fun a k q => e a k (by omega) (by omega)⟩)
theorem IM.wR {σ τ : Sg} {S : Ab} {R : Rw} (h : IM σ S) (hA : ∀ r, r < 8 → R.1 r ≤ 3 ∧ R.2.1 r ≤ 40) (hR : MR τ R) (e : ∀ a k, 0 < mrg a k → ¬ mrg a k = 4 → τ a k = σ a k) : IM τ (wR S R) := IM.of (h.1.wR hA) σ S h (Or.inl ⟨rfl, fun a k q => e a k (by omega) (by omega)⟩) (Or.inl ⟨rfl, fun a k q => e a k (by omega) (by omega)⟩) (Or.inl ⟨rfl, fun a k q => e a k (by omega) (by omega)⟩) (Or.inr hR) (Or.inl ⟨rfl, fun a k q => e a k (by omega) (by omega)⟩) (Or.inl ⟨rfl, fun a k q => e a k (by omega) (by omega)⟩) (Or.inl ⟨rfl, fun a k q => e a k (by omega) (by omega)⟩) (Or.inl ⟨rfl, fun a k q => e a k (by omega) (by omega)⟩)
theorem IM.wT {σ τ : Sg} {S : Ab} {T : Nat × (Nat → Nat)} (h : IM σ S) (hA : T.1 ≤ 100 ∧ ∀ j, j < T.1 → T.2 j < 256) (hR : MT τ T) (e : ∀ a k, 0 < mrg a k → ¬ mrg a k = 5 → τ a k = σ a k) : IM τ (wT S T) := IM.of (h.1.wT hA) σ S h (Or.inl ⟨rfl, fun a k q => e a k (by omega) (by omega)⟩) (Or.inl ⟨rfl, fun a k q => e a k (by omega) (by omega)⟩) (Or.inl ⟨rfl, fun a k q => e a k (by omega) (by omega)⟩) (Or.inl ⟨rfl, fun a k q => e a k (by omega) (by omega)⟩) (Or.inr hR) (Or.inl ⟨rfl, fun a k q => e a k (by omega) (by omega)⟩) (Or.inl ⟨rfl, fun a k q => e a k (by omega) (by omega)⟩) (Or.inl ⟨rfl, fun a k q => e a k (by omega) (by omega)⟩)
theorem IM.wF {σ τ : Sg} {S : Ab} {f : Nat} (h : IM σ S) (hA : f ≤ 3) (hR : τ 292 18 = nI f) (e : ∀ a k, 0 < mrg a k → ¬ mrg a k = 6 → τ a k = σ a k) : IM τ (wF S f) := IM.of (h.1.wF hA) σ S h (Or.inl ⟨rfl, fun a k q => e a k (by omega) (by omega)⟩) (Or.inl ⟨rfl, fun a k q => e a k (by omega) (by omega)⟩) (Or.inl ⟨rfl, fun a k q => e a k (by omega) (by omega)⟩) (Or.inl ⟨rfl, fun a k q => e a k (by omega) (by omega)⟩) (Or.inl ⟨rfl, fun a k q => e a k (by omega) (by omega)⟩) (Or.inr hR) (Or.inl ⟨rfl, fun a k q => e a k (by omega) (by omega)⟩) (Or.inl ⟨rfl, fun a k q => e a k (by omega) (by omega)⟩)
theorem IM.wS {σ τ : Sg} {S : Ab} {f : Nat} (h : IM σ S) (hA : f ≤ 5) (hR : τ 292 1 = nI f) (e : ∀ a k, 0 < mrg a k → ¬ mrg a k = 7 → τ a k = σ a k) : IM τ (wS S f) := IM.of (h.1.wS hA) σ S h (Or.inl ⟨rfl, fun a k q => e a k (by omega) (by omega)⟩) (Or.inl ⟨rfl, fun a k q => e a k (by omega) (by omega)⟩) (Or.inl ⟨rfl, fun a k q => e a k (by omega) (by omega)⟩) (Or.inl ⟨rfl, fun a k q => e a k (by omega) (by omega)⟩) (Or.inl ⟨rfl, fun a k q => e a k (by omega) (by omega)⟩) (Or.inl ⟨rfl, fun a k q => e a k (by omega) (by omega)⟩) (Or.inr hR) (Or.inl ⟨rfl, fun a k q => e a k (by omega) (by omega)⟩)
theorem IM.wX {σ τ : Sg} {S : Ab} {X : Nat × (Nat → Nat)} (h : IM σ S) (hA : X.1 ≤ 16) (hR : MX τ X) (e : ∀ a k, 0 < mrg a k → ¬ mrg a k = 8 → τ a k = σ a k) : IM τ (wX S X) := IM.of (h.1.wX hA) σ S h (Or.inl ⟨rfl, fun a k q => e a k (by omega) (by omega)⟩) (Or.inl ⟨rfl, fun a k q => e a k (by omega) (by omega)⟩) (Or.inl ⟨rfl, fun a k q => e a k (by omega) (by omega)⟩) (Or.inl ⟨rfl, fun a k q => e a k (by omega) (by omega)⟩) (Or.inl ⟨rfl, fun a k q => e a k (by omega) (by omega)⟩) (Or.inl ⟨rfl, fun a k q => e a k (by omega) (by omega)⟩) (Or.inl ⟨rfl, fun a k q => e a k (by omega) (by omega)⟩) (Or.inr hR)
theorem mup {σ : Sg} {b j g : Nat} {v : Int32} (h : mrg b j = g) : ∀ a k, 0 < mrg a k → ¬ mrg a k = g → up2 σ b j v a k = σ a k := fun a k _ h2 => by
  unfold up2
  rw [if_neg (fun q => h2 (by rw [q.1, q.2]; exact h))]
theorem mup0 {σ : Sg} {b j : Nat} {v : Int32} (h : mrg b j = 0) : ∀ a k, 0 < mrg a k → up2 σ b j v a k = σ a k := fun a k h1 => by
  unfold up2
  rw [if_neg (fun q => by rw [q.1, q.2, h] at h1; omega)]
theorem imst {σ : Sg} {S : Ab} {f : Nat} (h : IM σ S) (hf : f ≤ 5) : IM (up2 σ 292 1 (nI f)) (wS S f) := IM.wS h hf up2_at (mup rfl)
theorem wS_wS {S : Ab} {f g : Nat} : wS (wS S f) g = wS S g := rfl
theorem th_fb {σ : Sg} {k : Nat} {v : Int32} : Fb 292 307 σ (up2 σ 292 k v) := Fb.rf.up (by decide) (by decide)
/-! keeping -/
def shf (i : Nat) (σ : Sg) : Sg := fun b k => if b = 299 ∧ k < i then σ 299 (k + 55) else σ b k
theorem shf_0 {σ : Sg} : shf 0 σ = σ := by funext b k; exact if_neg (by omega)
theorem shf_s {σ : Sg} {i : Nat} : up2 (shf i σ) 299 i (σ 299 (i + 55)) = shf (i + 1) σ := by
  funext b k
  unfold up2 shf
  by_cases h : b = 299 ∧ k = i
  · rw [if_pos h, if_pos (by omega), h.2]
  · rw [if_neg h]
    by_cases h2 : b = 299 ∧ k < i
    · rw [if_pos h2, if_pos (by omega)]
    · rw [if_neg h2, if_neg (by omega)]
theorem shf_hi {σ : Sg} {i k : Nat} (h : i ≤ k) : shf i σ 299 k = σ 299 k := if_neg (by omega)
theorem shf_ne {σ : Sg} {i b k : Nat} (h : b ≠ 299) : shf i σ b k = σ b k := if_neg (fun q => h q.1)
/-- i places of a row, from at on, as the vector -/
def layW (c at_ i : Nat) (A : Vec) (σ : Sg) : Sg := fun b k => if b = c ∧ at_ ≤ k ∧ k < at_ + i then nI (A (k - at_)) else σ b k
theorem layW_0 {c a : Nat} {A : Vec} {σ : Sg} : layW c a 0 A σ = σ := by funext b k; exact if_neg (by omega)
theorem layW_s {c a i : Nat} {A : Vec} {σ : Sg} : up2 (layW c a i A σ) c (a + i) (nI (A i)) = layW c a (i + 1) A σ := by
  funext b k
  unfold up2 layW
  by_cases h : b = c ∧ k = a + i
  · rw [if_pos h, if_pos (by omega), h.2, show a + i - a = i by omega]
  · rw [if_neg h]
    by_cases h2 : b = c ∧ a ≤ k ∧ k < a + i
    · rw [if_pos h2, if_pos (by omega)]
    · rw [if_neg h2, if_neg (by omega)]
theorem layW_ne {c a i b k : Nat} {A : Vec} {σ : Sg} (h : b ≠ c) : layW c a i A σ b k = σ b k := if_neg (fun q => h q.1)
theorem layW_lo {c a i k : Nat} {A : Vec} {σ : Sg} (h : k < a ∨ a + i ≤ k) : layW c a i A σ c k = σ c k := if_neg (by omega)
theorem layW_at {c a i k : Nat} {A : Vec} {σ : Sg} (h : k < i) : layW c a i A σ c (a + k) = nI (A k) := by unfold layW; rw [if_pos (by omega), show a + k - a = k by omega]
theorem layW_st {c : Nat} {A : Vec} {σ : Sg} : layW c 0 55 A σ = stM σ c A := by
  funext b k
  unfold layW stM
  by_cases h : b = c ∧ k < 55
  · rw [if_pos h, if_pos (by omega)]; rfl
  · rw [if_neg h, if_neg (by omega)]
theorem MH.keepn {σ : Sg} {A : Vec} {H : (Nat → Vec) × Nat} (h : MH σ H) (hn : H.2 < 24) : MH (up2 (layW 299 (55 * H.2) 55 A σ) 292 9 (nI (H.2 + 1))) (keepH A H) := by
  unfold keepH
  rw [if_pos hn]
  refine ⟨up2_at, fun j hj k hk => ?_⟩
  dsimp only at hj ⊢
  rw [up2_ne (by decide)]
  by_cases q : j = H.2
  · rw [if_pos q, q]; exact layW_at hk
  · rw [if_neg q, layW_lo (by omega)]; exact h.2 j (by omega) k hk
theorem MH.keepf {σ : Sg} {A : Vec} {H : (Nat → Vec) × Nat} (h : MH σ H) (hn : H.2 = 24) : MH (up2 (layW 299 (55 * 23) 55 A (up2 (shf 1265 σ) 292 9 (nI 23))) 292 9 (nI 24)) (keepH A H) := by
  unfold keepH
  rw [if_neg (by omega)]
  refine ⟨by rw [up2_at, hn], fun j hj k hk => ?_⟩
  dsimp only at hj ⊢
  rw [up2_ne (by decide)]
  by_cases q : j = 23
  · rw [if_pos q, q]; exact layW_at hk
  · rw [if_neg q, layW_lo (by omega), up2_ne (by decide)]
    unfold shf
    rw [if_pos ⟨rfl, by omega⟩, show 55 * j + k + 55 = 55 * (j + 1) + k by omega]
    exact h.2 (j + 1) (by omega) k hk

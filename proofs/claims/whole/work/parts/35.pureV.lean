/-! the state that class and reference share: shore; acts; images; rows; tape; latest fault; status; trace -/
abbrev Ab : Type := Vec × ((Nat → Vec) × Nat) × ((Nat → Nat) × (Nat → Vec)) × ((Nat → Nat) × (Nat → Nat) × (Nat → Nat → Int32)) × (Nat × (Nat → Nat)) × Nat × Nat × (Nat × (Nat → Nat))
abbrev aA (S : Ab) : Vec := S.1
abbrev aH (S : Ab) : (Nat → Vec) × Nat := S.2.1
abbrev aI (S : Ab) : (Nat → Nat) × (Nat → Vec) := S.2.2.1
abbrev aR (S : Ab) : (Nat → Nat) × (Nat → Nat) × (Nat → Nat → Int32) := S.2.2.2.1
abbrev aT (S : Ab) : Nat × (Nat → Nat) := S.2.2.2.2.1
abbrev aF (S : Ab) : Nat := S.2.2.2.2.2.1
abbrev aS (S : Ab) : Nat := S.2.2.2.2.2.2.1
abbrev aX (S : Ab) : Nat × (Nat → Nat) := S.2.2.2.2.2.2.2
def wA (S : Ab) (A : Vec) : Ab := (A, S.2)
def wH (S : Ab) (H : (Nat → Vec) × Nat) : Ab := (S.1, H, S.2.2)
def wI (S : Ab) (I : (Nat → Nat) × (Nat → Vec)) : Ab := (S.1, S.2.1, I, S.2.2.2)
def wR (S : Ab) (R : (Nat → Nat) × (Nat → Nat) × (Nat → Nat → Int32)) : Ab := (S.1, S.2.1, S.2.2.1, R, S.2.2.2.2)
def wT (S : Ab) (T : Nat × (Nat → Nat)) : Ab := (S.1, S.2.1, S.2.2.1, S.2.2.2.1, T, S.2.2.2.2.2)
def wF (S : Ab) (f : Nat) : Ab := (S.1, S.2.1, S.2.2.1, S.2.2.2.1, S.2.2.2.2.1, f, S.2.2.2.2.2.2)
def wS (S : Ab) (s : Nat) : Ab := (S.1, S.2.1, S.2.2.1, S.2.2.2.1, S.2.2.2.2.1, S.2.2.2.2.2.1, s, S.2.2.2.2.2.2.2)
def wX (S : Ab) (X : Nat × (Nat → Nat)) : Ab := (S.1, S.2.1, S.2.2.1, S.2.2.2.1, S.2.2.2.2.1, S.2.2.2.2.2.1, S.2.2.2.2.2.2.1, X)
def GD (A : Vec) : Prop := WN A ∧ (∀ p, p < A 1 → A (30 + 6 * p) ≤ A 4) ∧ A 4 ≤ 999
theorem GD.hb {A : Vec} (h : GD A) : HBd A := fun p hp => Nat.le_trans (h.2.1 p hp) (Nat.le_trans h.2.2 (by decide))
def GS (S : Ab) : Prop := GD (aA S) ∧ ((aH S).2 ≤ 24 ∧ ∀ j, j < (aH S).2 → GD ((aH S).1 j)) ∧ (∀ k, k < 2 → (aI S).1 k ≤ 1 ∧ ((aI S).1 k = 1 → GD ((aI S).2 k))) ∧ (∀ r, r < 8 → (aR S).1 r ≤ 3 ∧ (aR S).2.1 r ≤ 40) ∧ ((aT S).1 ≤ 100 ∧ ∀ j, j < (aT S).1 → (aT S).2 j < 256) ∧ aF S ≤ 3 ∧ aS S ≤ 5 ∧ (aX S).1 ≤ 16
theorem RepC.eq {σ τ : Sg} {n : Nat} {A : Vec} (h5 : A 1 ≤ 5) (h : RepC σ n A) (e : ∀ a, n ≤ a → a < n + 9 → ∀ k, τ a k = σ a k) : RepC τ n A := by
  obtain ⟨h1, h2⟩ := h
  refine ⟨?_, fun p hp => ?_⟩
  · unfold EnvC at h1 ⊢
    simp only [e n (by omega) (by omega), e (n + 1) (by omega) (by omega), e (n + 2) (by omega) (by omega)]
    exact h1
  · rw [e _ (by omega) (by omega)]
    exact ⟨(h2 p hp).1.cg (fun k _ => e _ (by omega) (by omega) k), (h2 p hp).2⟩
theorem GD.p5 {A : Vec} (h : GD A) : A 1 ≤ 5 := h.1.le.2
theorem GD.g6 {A : Vec} (h : GD A) : A 0 ≤ 6 := h.1.le.1
/-! the class -/
def CH (σ : Sg) (H : (Nat → Vec) × Nat) : Prop := ∃ O, O < 24 ∧ σ 23 1 = nI O ∧ σ 23 2 = nI H.2 ∧ ∀ j, j < H.2 → RepC σ (25 + 9 * ((O + j) % 24)) (H.1 j)
def CI (σ : Sg) (I : (Nat → Nat) × (Nat → Vec)) : Prop := σ 0 9 = nI (I.1 0 + 2 * I.1 1) ∧ ∀ k, k < 2 → I.1 k = 1 → RepC σ (274 + 9 * k) (I.2 k)
def CR (σ : Sg) (R : (Nat → Nat) × (Nat → Nat) × (Nat → Nat → Int32)) : Prop := ∀ r, r < 8 → σ (258 + 2 * r) 1 = nI (if R.1 r = 0 then 1 else 0) ∧ (¬ R.1 r = 0 → σ (258 + 2 * r) 2 = nI (R.1 r - 1)) ∧ σ (258 + 2 * r) 3 = nI (R.2.1 r) ∧ ∀ k, k < 40 → σ (259 + 2 * r) k = R.2.2 r k
def CT (σ : Sg) (T : Nat × (Nat → Nat)) : Prop := σ 2 1 = nI T.1 ∧ ∀ j, j < T.1 → σ 3 j = nI (T.2 j)
def CX (σ : Sg) (X : Nat × (Nat → Nat)) : Prop := σ 256 1 = nI X.1 ∧ ∀ j, j < X.1 → σ 257 j = nI (X.2 j)
def IC (σ : Sg) (S : Ab) : Prop := GS S ∧ RepC σ 4 (aA S) ∧ CH σ (aH S) ∧ CI σ (aI S) ∧ CR σ (aR S) ∧ CT σ (aT S) ∧ σ 0 10 = nI (aF S) ∧ σ 0 11 = nI (aS S) ∧ CX σ (aX S)
theorem CH.fr {σ τ : Sg} {H : (Nat → Vec) × Nat} (h : CH σ H) (hG : ∀ j, j < H.2 → GD (H.1 j)) (e : ∀ a k, 23 ≤ a → a < 241 → τ a k = σ a k) : CH τ H := by
  obtain ⟨O, h1, h2, h3, h4⟩ := h
  exact ⟨O, h1, (e 23 1 (by omega) (by omega)).trans h2, (e 23 2 (by omega) (by omega)).trans h3, fun j hj => (h4 j hj).eq (hG j hj).p5 (fun a ha hb k => e a k (by omega) (by omega))⟩
theorem CI.fr {σ τ : Sg} {I : (Nat → Nat) × (Nat → Vec)} (h : CI σ I) (hG : ∀ k, k < 2 → I.1 k ≤ 1 ∧ (I.1 k = 1 → GD (I.2 k))) (e0 : τ 0 9 = σ 0 9) (e : ∀ a k, 274 ≤ a → a < 292 → τ a k = σ a k) : CI τ I := ⟨e0.trans h.1, fun k hk hk2 => (h.2 k hk hk2).eq ((hG k hk).2 hk2).p5 (fun a ha hb j => e a j (by omega) (by omega))⟩
theorem CR.fr {σ τ : Sg} {R : (Nat → Nat) × (Nat → Nat) × (Nat → Nat → Int32)} (h : CR σ R) (e : ∀ a k, 258 ≤ a → a < 274 → τ a k = σ a k) : CR τ R := fun r hr => by
  obtain ⟨h1, h2, h3, h4⟩ := h r hr
  exact ⟨(e _ _ (by omega) (by omega)).trans h1, fun q => (e _ _ (by omega) (by omega)).trans (h2 q), (e _ _ (by omega) (by omega)).trans h3, fun k hk => (e _ _ (by omega) (by omega)).trans (h4 k hk)⟩
theorem CT.fr {σ τ : Sg} {T : Nat × (Nat → Nat)} (h : CT σ T) (e0 : τ 2 1 = σ 2 1) (e : ∀ k, τ 3 k = σ 3 k) : CT τ T := ⟨e0.trans h.1, fun j hj => (e j).trans (h.2 j hj)⟩
theorem CX.fr {σ τ : Sg} {X : Nat × (Nat → Nat)} (h : CX σ X) (e0 : τ 256 1 = σ 256 1) (e : ∀ k, τ 257 k = σ 257 k) : CX τ X := ⟨e0.trans h.1, fun j hj => (e j).trans (h.2 j hj)⟩
/-- what no picture of the class reads -/
def Nrd (a k : Nat) : Prop := (a = 0 ∧ k < 9) ∨ a = 1 ∨ (a = 2 ∧ ¬ k = 1) ∨ (13 ≤ a ∧ a < 23) ∨ (241 ≤ a ∧ a < 256) ∨ 292 ≤ a
theorem IC.fr {σ τ : Sg} {S : Ab} (h : IC σ S) (e : ∀ a k, ¬ Nrd a k → τ a k = σ a k) : IC τ S := by
  obtain ⟨hG, h1, h2, h3, h4, h5, h6, h7, h8⟩ := h
  refine ⟨hG, h1.eq hG.1.p5 (fun a ha hb k => e a k (by unfold Nrd; omega)), h2.fr hG.2.1.2 (fun a k ha hb => e a k (by unfold Nrd; omega)), h3.fr hG.2.2.1 (e 0 9 (by unfold Nrd; omega)) (fun a k ha hb => e a k (by unfold Nrd; omega)), h4.fr (fun a k ha hb => e a k (by unfold Nrd; omega)), h5.fr (e 2 1 (by unfold Nrd; omega)) (fun k => e 3 k (by unfold Nrd; omega)), (e 0 10 (by unfold Nrd; omega)).trans h6, (e 0 11 (by unfold Nrd; omega)).trans h7, h8.fr (e 256 1 (by unfold Nrd; omega)) (fun k => e 257 k (by unfold Nrd; omega))⟩
theorem IC.fb {σ τ : Sg} {S : Ab} (h : IC σ S) (e : Fb 242 251 σ τ) : IC τ S := h.fr (fun a k hk => e a k (fun q => hk (by unfold Nrd; omega)))
theorem IC.m {σ τ : Sg} {S : Ab} (h : IC σ S) (e : Fb 292 307 σ τ) : IC τ S := h.fr (fun a k hk => e a k (fun q => hk (by unfold Nrd; omega)))
theorem GS.wA {S : Ab} {A : Vec} (h : GS S) (hA : GD A) : GS (wA S A) := ⟨hA, h.2⟩
theorem IC.wA {σ τ : Sg} {S : Ab} {A : Vec} (h : IC σ S) (hA : GD A) (hR : RepC τ 4 A) (e : Fb 4 13 σ τ) : IC τ (wA S A) := by
  obtain ⟨hG, h1, h2, h3, h4, h5, h6, h7, h8⟩ := h
  exact ⟨hG.wA hA, hR, h2.fr hG.2.1.2 (fun a k ha hb => e a k (by omega)), h3.fr hG.2.2.1 (e 0 9 (by omega)) (fun a k ha hb => e a k (by omega)), h4.fr (fun a k ha hb => e a k (by omega)), h5.fr (e 2 1 (by omega)) (fun k => e 3 k (by omega)), (e 0 10 (by omega)).trans h6, (e 0 11 (by omega)).trans h7, h8.fr (e 256 1 (by omega)) (fun k => e 257 k (by omega))⟩
theorem GS.wH {S : Ab} {H : (Nat → Vec) × Nat} (h : GS S) (hA : H.2 ≤ 24 ∧ ∀ j, j < H.2 → GD (H.1 j)) : GS (wH S H) := ⟨h.1, hA, h.2.2⟩
theorem IC.wH {σ τ : Sg} {S : Ab} {H : (Nat → Vec) × Nat} (h : IC σ S) (hA : H.2 ≤ 24 ∧ ∀ j, j < H.2 → GD (H.1 j)) (hR : CH τ H) (e : Fb 23 241 σ τ) : IC τ (wH S H) := by
  obtain ⟨hG, h1, h2, h3, h4, h5, h6, h7, h8⟩ := h
  exact ⟨hG.wH hA, h1.eq hG.1.p5 (fun a ha hb k => e a k (by omega)), hR, h3.fr hG.2.2.1 (e 0 9 (by omega)) (fun a k ha hb => e a k (by omega)), h4.fr (fun a k ha hb => e a k (by omega)), h5.fr (e 2 1 (by omega)) (fun k => e 3 k (by omega)), (e 0 10 (by omega)).trans h6, (e 0 11 (by omega)).trans h7, h8.fr (e 256 1 (by omega)) (fun k => e 257 k (by omega))⟩
theorem GS.wI {S : Ab} {I : (Nat → Nat) × (Nat → Vec)} (h : GS S) (hA : ∀ k, k < 2 → I.1 k ≤ 1 ∧ (I.1 k = 1 → GD (I.2 k))) : GS (wI S I) := ⟨h.1, h.2.1, hA, h.2.2.2⟩
theorem IC.wI {σ τ : Sg} {S : Ab} {I : (Nat → Nat) × (Nat → Vec)} (h : IC σ S) (hA : ∀ k, k < 2 → I.1 k ≤ 1 ∧ (I.1 k = 1 → GD (I.2 k))) (hR : CI τ I) (e : ∀ a k, ¬ (a = 0 ∧ k = 9) → a < 274 → τ a k = σ a k) : IC τ (wI S I) := by
  obtain ⟨hG, h1, h2, h3, h4, h5, h6, h7, h8⟩ := h
  exact ⟨hG.wI hA, h1.eq hG.1.p5 (fun a ha hb k => e a k (by omega) (by omega)), h2.fr hG.2.1.2 (fun a k ha hb => e a k (by omega) (by omega)), hR, h4.fr (fun a k ha hb => e a k (by omega) (by omega)), h5.fr (e 2 1 (by omega) (by omega)) (fun k => e 3 k (by omega) (by omega)), (e 0 10 (by omega) (by omega)).trans h6, (e 0 11 (by omega) (by omega)).trans h7, h8.fr (e 256 1 (by omega) (by omega)) (fun k => e 257 k (by omega) (by omega))⟩
theorem GS.wR {S : Ab} {R : (Nat → Nat) × (Nat → Nat) × (Nat → Nat → Int32)} (h : GS S) (hA : ∀ r, r < 8 → R.1 r ≤ 3 ∧ R.2.1 r ≤ 40) : GS (wR S R) := ⟨h.1, h.2.1, h.2.2.1, hA, h.2.2.2.2⟩
theorem IC.wR {σ τ : Sg} {S : Ab} {R : (Nat → Nat) × (Nat → Nat) × (Nat → Nat → Int32)} (h : IC σ S) (hA : ∀ r, r < 8 → R.1 r ≤ 3 ∧ R.2.1 r ≤ 40) (hR : CR τ R) (e : Fb 258 274 σ τ) : IC τ (wR S R) := by
  obtain ⟨hG, h1, h2, h3, h4, h5, h6, h7, h8⟩ := h
  exact ⟨hG.wR hA, h1.eq hG.1.p5 (fun a ha hb k => e a k (by omega)), h2.fr hG.2.1.2 (fun a k ha hb => e a k (by omega)), h3.fr hG.2.2.1 (e 0 9 (by omega)) (fun a k ha hb => e a k (by omega)), hR, h5.fr (e 2 1 (by omega)) (fun k => e 3 k (by omega)), (e 0 10 (by omega)).trans h6, (e 0 11 (by omega)).trans h7, h8.fr (e 256 1 (by omega)) (fun k => e 257 k (by omega))⟩
theorem GS.wT {S : Ab} {T : Nat × (Nat → Nat)} (h : GS S) (hA : T.1 ≤ 100 ∧ ∀ j, j < T.1 → T.2 j < 256) : GS (wT S T) := ⟨h.1, h.2.1, h.2.2.1, h.2.2.2.1, hA, h.2.2.2.2.2⟩
theorem IC.wT {σ τ : Sg} {S : Ab} {T : Nat × (Nat → Nat)} (h : IC σ S) (hA : T.1 ≤ 100 ∧ ∀ j, j < T.1 → T.2 j < 256) (hR : CT τ T) (e : Fb 2 4 σ τ) : IC τ (wT S T) := by
  obtain ⟨hG, h1, h2, h3, h4, h5, h6, h7, h8⟩ := h
  exact ⟨hG.wT hA, h1.eq hG.1.p5 (fun a ha hb k => e a k (by omega)), h2.fr hG.2.1.2 (fun a k ha hb => e a k (by omega)), h3.fr hG.2.2.1 (e 0 9 (by omega)) (fun a k ha hb => e a k (by omega)), h4.fr (fun a k ha hb => e a k (by omega)), hR, (e 0 10 (by omega)).trans h6, (e 0 11 (by omega)).trans h7, h8.fr (e 256 1 (by omega)) (fun k => e 257 k (by omega))⟩
theorem GS.wF {S : Ab} {f : Nat} (h : GS S) (hA : f ≤ 3) : GS (wF S f) := ⟨h.1, h.2.1, h.2.2.1, h.2.2.2.1, h.2.2.2.2.1, hA, h.2.2.2.2.2.2⟩
theorem IC.wF {σ : Sg} {S : Ab} {f : Nat} (h : IC σ S) (hA : f ≤ 3) : IC (up2 σ 0 10 (nI f)) (wF S f) := by
  obtain ⟨hG, h1, h2, h3, h4, h5, h6, h7, h8⟩ := h
  have e : ∀ a k, ¬ (a = 0 ∧ k = 10) → up2 σ 0 10 (nI f) a k = σ a k := fun a k hk => by unfold up2; rw [if_neg hk]
  exact ⟨hG.wF hA, h1.eq hG.1.p5 (fun a ha hb k => e a k (by omega)), h2.fr hG.2.1.2 (fun a k ha hb => e a k (by omega)), h3.fr hG.2.2.1 (e 0 9 (by omega)) (fun a k ha hb => e a k (by omega)), h4.fr (fun a k ha hb => e a k (by omega)), h5.fr (e 2 1 (by omega)) (fun k => e 3 k (by omega)), by unfold up2; rw [if_pos ⟨rfl, rfl⟩]; rfl, (e 0 11 (by omega)).trans h7, h8.fr (e 256 1 (by omega)) (fun k => e 257 k (by omega))⟩
theorem GS.wS {S : Ab} {f : Nat} (h : GS S) (hA : f ≤ 5) : GS (wS S f) := ⟨h.1, h.2.1, h.2.2.1, h.2.2.2.1, h.2.2.2.2.1, h.2.2.2.2.2.1, hA, h.2.2.2.2.2.2.2⟩
theorem IC.wS {σ : Sg} {S : Ab} {f : Nat} (h : IC σ S) (hA : f ≤ 5) : IC (up2 σ 0 11 (nI f)) (wS S f) := by
  obtain ⟨hG, h1, h2, h3, h4, h5, h6, h7, h8⟩ := h
  have e : ∀ a k, ¬ (a = 0 ∧ k = 11) → up2 σ 0 11 (nI f) a k = σ a k := fun a k hk => by unfold up2; rw [if_neg hk]
  exact ⟨hG.wS hA, h1.eq hG.1.p5 (fun a ha hb k => e a k (by omega)), h2.fr hG.2.1.2 (fun a k ha hb => e a k (by omega)), h3.fr hG.2.2.1 (e 0 9 (by omega)) (fun a k ha hb => e a k (by omega)), h4.fr (fun a k ha hb => e a k (by omega)), h5.fr (e 2 1 (by omega)) (fun k => e 3 k (by omega)), (e 0 10 (by omega)).trans h6, by unfold up2; rw [if_pos ⟨rfl, rfl⟩]; rfl, h8.fr (e 256 1 (by omega)) (fun k => e 257 k (by omega))⟩
theorem GS.wX {S : Ab} {X : Nat × (Nat → Nat)} (h : GS S) (hA : X.1 ≤ 16) : GS (wX S X) := ⟨h.1, h.2.1, h.2.2.1, h.2.2.2.1, h.2.2.2.2.1, h.2.2.2.2.2.1, h.2.2.2.2.2.2.1, hA⟩
theorem IC.wX {σ τ : Sg} {S : Ab} {X : Nat × (Nat → Nat)} (h : IC σ S) (hA : X.1 ≤ 16) (hR : CX τ X) (e : Fb 256 258 σ τ) : IC τ (wX S X) := by
  obtain ⟨hG, h1, h2, h3, h4, h5, h6, h7, h8⟩ := h
  exact ⟨hG.wX hA, h1.eq hG.1.p5 (fun a ha hb k => e a k (by omega)), h2.fr hG.2.1.2 (fun a k ha hb => e a k (by omega)), h3.fr hG.2.2.1 (e 0 9 (by omega)) (fun a k ha hb => e a k (by omega)), h4.fr (fun a k ha hb => e a k (by omega)), h5.fr (e 2 1 (by omega)) (fun k => e 3 k (by omega)), (e 0 10 (by omega)).trans h6, (e 0 11 (by omega)).trans h7, hR⟩
/-! the reference -/
def MH (σ : Sg) (H : (Nat → Vec) × Nat) : Prop := σ 292 9 = nI H.2 ∧ ∀ j, j < H.2 → ∀ k, k < 55 → σ 299 (55 * j + k) = nI (H.1 j k)
def MI (σ : Sg) (I : (Nat → Nat) × (Nat → Vec)) : Prop := ∀ k, k < 2 → σ 304 k = nI (I.1 k) ∧ (I.1 k = 1 → ∀ i, i < 55 → σ 305 (55 * k + i) = nI (I.2 k i))
def MR (σ : Sg) (R : (Nat → Nat) × (Nat → Nat) × (Nat → Nat → Int32)) : Prop := ∀ r, r < 8 → σ 293 r = nI (R.1 r) - nI 1 ∧ σ 294 r = nI (R.2.1 r) ∧ ∀ k, k < 40 → σ 295 (40 * r + k) = R.2.2 r k
def MT (σ : Sg) (T : Nat × (Nat → Nat)) : Prop := σ 292 11 = nI T.1 ∧ ∀ j, j < T.1 → σ 300 j = nI (T.2 j)
def MX (σ : Sg) (X : Nat × (Nat → Nat)) : Prop := σ 292 25 = nI X.1 ∧ ∀ j, j < X.1 → σ 306 j = nI (X.2 j)
def IM (σ : Sg) (S : Ab) : Prop := GS S ∧ RepM σ 296 (aA S) ∧ MH σ (aH S) ∧ MI σ (aI S) ∧ MR σ (aR S) ∧ MT σ (aT S) ∧ σ 292 18 = nI (aF S) ∧ σ 292 1 = nI (aS S) ∧ MX σ (aX S)
theorem MH.fr {σ τ : Sg} {H : (Nat → Vec) × Nat} (h : MH σ H) (e0 : τ 292 9 = σ 292 9) (e : ∀ k, τ 299 k = σ 299 k) : MH τ H := ⟨e0.trans h.1, fun j hj k hk => (e _).trans (h.2 j hj k hk)⟩
theorem MI.fr {σ τ : Sg} {I : (Nat → Nat) × (Nat → Vec)} (h : MI σ I) (e0 : ∀ k, τ 304 k = σ 304 k) (e : ∀ k, τ 305 k = σ 305 k) : MI τ I := fun k hk => ⟨(e0 k).trans (h k hk).1, fun q i hi => (e _).trans ((h k hk).2 q i hi)⟩
theorem MR.fr {σ τ : Sg} {R : (Nat → Nat) × (Nat → Nat) × (Nat → Nat → Int32)} (h : MR σ R) (e3 : ∀ k, τ 293 k = σ 293 k) (e4 : ∀ k, τ 294 k = σ 294 k) (e5 : ∀ k, τ 295 k = σ 295 k) : MR τ R := fun r hr => ⟨(e3 r).trans (h r hr).1, (e4 r).trans (h r hr).2.1, fun k hk => (e5 _).trans ((h r hr).2.2 k hk)⟩
theorem MT.fr {σ τ : Sg} {T : Nat × (Nat → Nat)} (h : MT σ T) (e0 : τ 292 11 = σ 292 11) (e : ∀ k, τ 300 k = σ 300 k) : MT τ T := ⟨e0.trans h.1, fun j hj => (e j).trans (h.2 j hj)⟩
theorem MX.fr {σ τ : Sg} {X : Nat × (Nat → Nat)} (h : MX σ X) (e0 : τ 292 25 = σ 292 25) (e : ∀ k, τ 306 k = σ 306 k) : MX τ X := ⟨e0.trans h.1, fun j hj => (e j).trans (h.2 j hj)⟩
/-- the reference's parts; what no picture of it reads is 0 -/
def mrg (a k : Nat) : Nat := if a = 292 then (if k = 9 then 2 else if k = 11 then 5 else if k = 18 then 6 else if k = 1 then 7 else if k = 25 then 8 else 0) else if a = 296 then 1 else if a = 299 then 2 else if a = 304 then 3 else if a = 305 then 3 else if a = 293 then 4 else if a = 294 then 4 else if a = 295 then 4 else if a = 300 then 5 else if a = 306 then 8 else 0
theorem IM.fr {σ τ : Sg} {S : Ab} (h : IM σ S) (e : ∀ a k, 0 < mrg a k → τ a k = σ a k) : IM τ S := by
  obtain ⟨hG, h1, h2, h3, h4, h5, h6, h7, h8⟩ := h
  exact ⟨hG, fun k hk => (e 296 k (Nat.zero_lt_one)).trans (h1 k hk), h2.fr (e _ _ (by decide)) (fun k => e _ _ (by show 0 < 2; decide)), h3.fr (fun k => e _ _ (by show 0 < 3; decide)) (fun k => e _ _ (by show 0 < 3; decide)), h4.fr (fun k => e _ _ (by show 0 < 4; decide)) (fun k => e _ _ (by show 0 < 4; decide)) (fun k => e _ _ (by show 0 < 4; decide)), h5.fr (e _ _ (by decide)) (fun k => e _ _ (by show 0 < 5; decide)), (e _ _ (by decide)).trans h6, (e _ _ (by decide)).trans h7, h8.fr (e _ _ (by decide)) (fun k => e _ _ (by show 0 < 8; decide))⟩
theorem IM.c {σ τ : Sg} {S : Ab} (h : IM σ S) (e : Fb 0 292 σ τ) : IM τ S := h.fr (fun a k hk => e a k (fun q => by unfold mrg at hk; (repeat' split at hk) <;> omega))
theorem IM.fm {σ τ : Sg} {S : Ab} (h : IM σ S) (e : Fm σ τ) : IM τ S := h.fr (fun a k hk => e a k (fun q => by subst q; exact absurd hk (by show ¬ 0 < 0; decide)) (fun q => by rw [q.1, q.2] at hk; exact absurd hk (by decide)))
theorem IM.wA {σ τ : Sg} {S : Ab} {A : Vec} (h : IM σ S) (hA : GD A) (hR : RepM τ 296 A) (e : ∀ a k, 1 < mrg a k → τ a k = σ a k) : IM τ (wA S A) := by
  obtain ⟨hG, h1, h2, h3, h4, h5, h6, h7, h8⟩ := h
  exact ⟨hG.wA hA, hR, h2.fr (e _ _ (by decide)) (fun k => e _ _ (by show 1 < 2; decide)), h3.fr (fun k => e _ _ (by show 1 < 3; decide)) (fun k => e _ _ (by show 1 < 3; decide)), h4.fr (fun k => e _ _ (by show 1 < 4; decide)) (fun k => e _ _ (by show 1 < 4; decide)) (fun k => e _ _ (by show 1 < 4; decide)), h5.fr (e _ _ (by decide)) (fun k => e _ _ (by show 1 < 5; decide)), (e _ _ (by decide)).trans h6, (e _ _ (by decide)).trans h7, h8.fr (e _ _ (by decide)) (fun k => e _ _ (by show 1 < 8; decide))⟩
theorem IM.of {τ : Sg} {S' : Ab} (hG : GS S') (σ : Sg) (S : Ab) (h : IM σ S) (a1 : (aA S' = aA S ∧ ∀ a k, mrg a k = 1 → τ a k = σ a k) ∨ RepM τ 296 (aA S')) (a2 : (aH S' = aH S ∧ ∀ a k, mrg a k = 2 → τ a k = σ a k) ∨ MH τ (aH S')) (a3 : (aI S' = aI S ∧ ∀ a k, mrg a k = 3 → τ a k = σ a k) ∨ MI τ (aI S')) (a4 : (aR S' = aR S ∧ ∀ a k, mrg a k = 4 → τ a k = σ a k) ∨ MR τ (aR S')) (a5 : (aT S' = aT S ∧ ∀ a k, mrg a k = 5 → τ a k = σ a k) ∨ MT τ (aT S')) (a6 : (aF S' = aF S ∧ ∀ a k, mrg a k = 6 → τ a k = σ a k) ∨ τ 292 18 = nI (aF S')) (a7 : (aS S' = aS S ∧ ∀ a k, mrg a k = 7 → τ a k = σ a k) ∨ τ 292 1 = nI (aS S')) (a8 : (aX S' = aX S ∧ ∀ a k, mrg a k = 8 → τ a k = σ a k) ∨ MX τ (aX S')) : IM τ S' := by
  obtain ⟨-, h1, h2, h3, h4, h5, h6, h7, h8⟩ := h
  refine ⟨hG, ?_, ?_, ?_, ?_, ?_, ?_, ?_, ?_⟩
  · rcases a1 with ⟨q, e⟩ | q
    · rw [q]; exact fun k hk => (e 296 k rfl).trans (h1 k hk)
    · exact q
  · rcases a2 with ⟨q, e⟩ | q
    · rw [q]; exact h2.fr (e _ _ rfl) (fun k => e _ _ rfl)
    · exact q
  · rcases a3 with ⟨q, e⟩ | q
    · rw [q]; exact h3.fr (fun k => e _ _ rfl) (fun k => e _ _ rfl)
    · exact q
  · rcases a4 with ⟨q, e⟩ | q
    · rw [q]; exact h4.fr (fun k => e _ _ rfl) (fun k => e _ _ rfl) (fun k => e _ _ rfl)
    · exact q
  · rcases a5 with ⟨q, e⟩ | q
    · rw [q]; exact h5.fr (e _ _ rfl) (fun k => e _ _ rfl)
    · exact q
  · rcases a6 with ⟨q, e⟩ | q
    · rw [q]; exact (e _ _ rfl).trans h6
    · exact q
  · rcases a7 with ⟨q, e⟩ | q
    · rw [q]; exact (e _ _ rfl).trans h7
    · exact q
  · rcases a8 with ⟨q, e⟩ | q
    · rw [q]; exact h8.fr (e _ _ rfl) (fun k => e _ _ rfl)
    · exact q
/-- the answers' form -/
def pC (σ : Sg) (R : Ab × Int32) : Sg → Option Value → Prop := pI (fun σ' r => Fb 0 292 σ σ' ∧ IC σ' R.1 ∧ r = R.2)
def pM (σ : Sg) (R : Ab × Int32) : Sg → Option Value → Prop := pI (fun σ' r => Fb 292 307 σ σ' ∧ IM σ' R.1 ∧ r = R.2)
def pCJ (σ : Sg) (R : Ab × Int64) : Sg → Option Value → Prop := pJ (fun σ' r => Fb 0 292 σ σ' ∧ IC σ' R.1 ∧ r = R.2)
def pMJ (σ : Sg) (R : Ab × Int64) : Sg → Option Value → Prop := pJ (fun σ' r => Fb 292 307 σ σ' ∧ IM σ' R.1 ∧ r = R.2)
theorem Cn.mono {E : En} {M : Mi} {d : Nat} {av : List Value} {σ : Sg} {P Q : Sg → Option Value → Prop} (h : Cn E M d av σ P) (hPQ : ∀ σ' v, P σ' v → Q σ' v) : Cn E M d av σ Q := by
  intro l p e h1 h2 h3 s m args below hf ha hP hK
  obtain ⟨n, o, a, b, c, ⟨⟨σ', v, ho, hp, hw⟩, hF⟩, rest⟩ := h l p e h1 h2 h3 s m args below hf ha hP hK
  exact ⟨n, o, a, b, c, ⟨⟨σ', v, ho, hPQ σ' v hp, hw⟩, hF⟩, rest⟩

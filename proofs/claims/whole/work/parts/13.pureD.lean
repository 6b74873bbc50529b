/-! trials -/
def Fb (lo hi : Nat) (σ τ : Sg) : Prop := ∀ a k, ¬ (lo ≤ a ∧ a < hi) → τ a k = σ a k
theorem Fb.rf {lo hi : Nat} {σ : Sg} : Fb lo hi σ σ := fun _ _ _ => rfl
theorem Fb.tr {lo hi : Nat} {σ τ ρ : Sg} (h1 : Fb lo hi σ τ) (h2 : Fb lo hi τ ρ) : Fb lo hi σ ρ := fun a k h => (h2 a k h).trans (h1 a k h)
theorem Fb.up {lo hi : Nat} {σ τ : Sg} {a k : Nat} {x : Int32} (h : Fb lo hi σ τ) (h1 : lo ≤ a) (h2 : a < hi) : Fb lo hi σ (up2 τ a k x) := fun b j hb => by
  unfold up2
  rw [if_neg (fun q => hb (by rw [q.1]; exact ⟨h1, h2⟩))]
  exact h b j hb
theorem Fb.wide {lo hi lo' hi' : Nat} {σ τ : Sg} (h : Fb lo hi σ τ) (h1 : lo' ≤ lo) (h2 : hi ≤ hi') : Fb lo' hi' σ τ := fun a k hk => h a k (fun q => hk ⟨by omega, by omega⟩)
theorem Fw.b {lo hi : Nat} {σ τ : Sg} {w : Nat} (h : Fw σ τ w) (h1 : lo ≤ w) (h2 : w < hi) : Fb lo hi σ τ := fun a k hk => h a k (fun q => hk (by rw [q.1]; exact ⟨h1, h2⟩))
theorem Wk.cg2 {σ τ : Sg} {w v : Nat} {q : Pn} (h : Wk σ w q) (e : ∀ k, k < 6 → τ v k = σ w k) : Wk τ v q := by
  unfold Wk at h ⊢
  rw [e 0 (by omega), e 1 (by omega), e 2 (by omega), e 3 (by omega), e 4 (by omega), e 5 (by omega)]
  exact h
theorem bec_fb {n m : Nat} {σ : Sg} : Fb n (n + 9) σ (bec n m σ) := fun a k hk => by
  unfold bec
  rw [if_neg (by omega), if_neg (by omega), if_neg (by omega)]
theorem bec_rep {n m : Nat} {σ : Sg} {A : Vec} (h6 : A 0 ≤ 6) (h5 : A 1 ≤ 5) (h : RepC σ m A) : RepC (bec n m σ) n A := by
  have e0 : ∀ k, k < 7 → bec n m σ n k = σ m k := fun k hk => by unfold bec; rw [if_pos ⟨rfl, hk⟩]
  have e1 : ∀ k, k < 6 → bec n m σ (n + 1) k = σ (m + 1) k := fun k hk => by unfold bec; rw [if_neg (by omega), if_pos ⟨Or.inl rfl, hk⟩, show m + (n + 1 - n) = m + 1 by omega]
  have e2 : ∀ k, k < 6 → bec n m σ (n + 2) k = σ (m + 2) k := fun k hk => by unfold bec; rw [if_neg (by omega), if_pos ⟨Or.inr rfl, hk⟩, show m + (n + 2 - n) = m + 2 by omega]
  have e3 : ∀ p, p < 5 → ∀ k, k < 7 → bec n m σ (n + 4 + p) k = σ (m + 4 + p) k := fun p hp k hk => by unfold bec; rw [if_neg (by omega), if_neg (by omega), if_pos ⟨by omega, by omega, hk⟩, show m + (n + 4 + p - n) = m + 4 + p by omega]
  obtain ⟨⟨x0, x1, x2, x3, x4, x6, ⟨F, hF, x5, hFb⟩, xgs⟩, hp⟩ := h
  refine ⟨⟨(e0 0 (by omega)).trans x0, (e0 1 (by omega)).trans x1, (e0 2 (by omega)).trans x2, (e0 3 (by omega)).trans x3, (e0 4 (by omega)).trans x4, (e0 6 (by omega)).trans x6, ⟨F, hF, (e0 5 (by omega)).trans x5, hFb⟩, fun g hg => ?_⟩, fun p hp2 => ?_⟩
  · rw [e1 g (by omega), e2 g (by omega)]
    exact xgs g hg
  · rw [e3 p (by omega) 6 (by omega)]
    exact ⟨(hp p hp2).1.cg2 (fun k hk => e3 p (by omega) k (by omega)), (hp p hp2).2⟩
theorem bec_rep0 {n m : Nat} {σ : Sg} {A : Vec} (h6 : A 0 ≤ 6) (h5 : A 1 ≤ 5) (h : RepC σ m A) : RepC (bec n m σ) n A := bec_rep h6 h5 h
def pdays (B : Vec) (st : Nat) (q : Pn) : Nat → Pn
  | 0 => q
  | i + 1 => dayPn B st (pdays B st q i)
/-- a trial of one person -/
def TS (σ τ : Sg) (B : Vec) (p st : Nat) (q : Pn) : Prop := Fb 242 251 σ τ ∧ EnvC τ 242 B ∧ Wk τ (246 + p) q ∧ τ (246 + p) 6 = nI st
theorem TS.step {σ τ τ' : Sg} {B : Vec} {p st : Nat} {q q' : Pn} (hp : p < 5) (h : TS σ τ B p st q) (hw : Wk τ' (246 + p) q') (hf : Fw τ τ' (246 + p)) : TS σ τ' B p st q' := by
  obtain ⟨h1, h2, h3, h4⟩ := h
  exact ⟨h1.tr (hf.b (by omega) (by omega)), h2.fw hf (by omega) (by omega) (by omega), hw, (hf _ 6 (fun q => by have := q.2; omega)).trans h4⟩
theorem TS.zero {σ : Sg} {A : Vec} {p : Nat} (h6 : A 0 ≤ 6) (h5 : A 1 ≤ 5) (hp : p < A 1) (h : RepC σ 4 A) : TS σ (bec 242 4 σ) A p (bitN (A 6) p) (pn A p) := by
  have hr := bec_rep (n := 242) h6 h5 h
  exact ⟨bec_fb, hr.1, (hr.2 p hp).1, (hr.2 p hp).2⟩
/-- a gate's kind, a gate's facing, fallen ones -/
def setK (A : Vec) (g s : Nat) : Vec := fun k => if k = 7 + 3 * g then s else A k
def setF (A : Vec) (g f : Nat) : Vec := fun k => if k = 9 + 3 * g then f else A k
def fallV (A : Vec) (s : Nat) : Vec := fun k => if k = 5 then A 5 ||| s else A k
def turnV (A : Vec) (s : Nat) : Vec := fun k => if 9 ≤ k ∧ k < 25 ∧ k % 3 = 0 ∧ (k - 9) / 3 < A 0 then A k ^^^ bitN s ((k - 9) / 3) else A k
theorem setK_WE {A : Vec} {g s : Nat} (h : WE A) (h1 : 1 ≤ s) (h2 : s ≤ 5) : WE (setK A g s) := by
  obtain ⟨a1, a2, a3, a4, a5, a6, a7, a8, a9⟩ := h
  have e : ∀ k, k < 7 → setK A g s k = A k := fun k hk => if_neg (by omega)
  unfold WE
  rw [e 0 (by omega), e 5 (by omega), e 2 (by omega), e 3 (by omega)]
  refine ⟨a1, a2, a3, a4, a5, a6, a7, a8, fun j hj => ?_⟩
  have h9 := a9 j hj
  rw [show setK A g s (8 + 3 * j) = A (8 + 3 * j) from if_neg (by omega), show setK A g s (9 + 3 * j) = A (9 + 3 * j) from if_neg (by omega)]
  unfold setK
  split <;> omega
theorem setF_WE {A : Vec} {g f : Nat} (h : WE A) (h2 : f ≤ 1) : WE (setF A g f) := by
  obtain ⟨a1, a2, a3, a4, a5, a6, a7, a8, a9⟩ := h
  have e : ∀ k, k < 7 → setF A g f k = A k := fun k hk => if_neg (by omega)
  unfold WE
  rw [e 0 (by omega), e 5 (by omega), e 2 (by omega), e 3 (by omega)]
  refine ⟨a1, a2, a3, a4, a5, a6, a7, a8, fun j hj => ?_⟩
  have h9 := a9 j hj
  rw [show setF A g f (8 + 3 * j) = A (8 + 3 * j) from if_neg (by omega), show setF A g f (7 + 3 * j) = A (7 + 3 * j) from if_neg (by omega)]
  unfold setF
  split <;> omega
theorem fallV_lo {A : Vec} {s k : Nat} (h : k ≠ 5) : fallV A s k = A k := if_neg h
theorem fallV_WE {A : Vec} {s : Nat} (h : WE A) (hs : s < 2 ^ A 0) : WE (fallV A s) := by
  obtain ⟨a1, a2, a3, a4, a5, a6, a7, a8, a9⟩ := h
  have h6 := pow6 a2
  have ho : A 5 ||| s < 2 ^ A 0 := or2 a4 hs
  unfold WE
  rw [fallV_lo (k := 0) (by omega), fallV_lo (k := 2) (by omega), fallV_lo (k := 3) (by omega), show fallV A s 5 = A 5 ||| s from if_pos rfl]
  refine ⟨a1, a2, by omega, ho, a5, a6, a7, a8, fun j hj => ?_⟩
  rw [fallV_lo (k := 7 + 3 * j) (by omega), fallV_lo (k := 8 + 3 * j) (by omega), fallV_lo (k := 9 + 3 * j) (by omega)]
  exact a9 j hj
theorem bitN_xor (x y i : Nat) : bitN (x ^^^ y) i = bitN x i ^^^ bitN y i := by
  rw [bitN_tb, bitN_tb, bitN_tb, Nat.testBit_xor]
  by_cases h1 : x.testBit i <;> by_cases h2 : y.testBit i <;> simp [h1, h2]
theorem xor1 : ∀ a, a ≤ 1 → ∀ b, b ≤ 1 → a ^^^ b ≤ 1 := by
  intro a ha b hb
  rcases (show a = 0 ∨ a = 1 by omega) with rfl | rfl <;> rcases (show b = 0 ∨ b = 1 by omega) with rfl | rfl <;> decide
theorem turnV_lo {A : Vec} {s k : Nat} (h : k < 9) : turnV A s k = A k := if_neg (by omega)
theorem turnV_k {A : Vec} {s g : Nat} : turnV A s (7 + 3 * g) = A (7 + 3 * g) := if_neg (by omega)
theorem turnV_l {A : Vec} {s g : Nat} : turnV A s (8 + 3 * g) = A (8 + 3 * g) := if_neg (by omega)
theorem turnV_f {A : Vec} {s g : Nat} (hg : g < A 0) (h6 : A 0 ≤ 6) : turnV A s (9 + 3 * g) = A (9 + 3 * g) ^^^ bitN s g := by
  unfold turnV
  rw [show (9 + 3 * g - 9) / 3 = g by omega, if_pos ⟨by omega, by omega, by omega, hg⟩]
theorem turnV_hi {A : Vec} {s k : Nat} (h : 25 ≤ k) : turnV A s k = A k := if_neg (by omega)
theorem turnV_WE {A : Vec} {s : Nat} (h : WE A) : WE (turnV A s) := by
  obtain ⟨a1, a2, a3, a4, a5, a6, a7, a8, a9⟩ := h
  unfold WE
  rw [turnV_lo (k := 0) (by omega), turnV_lo (k := 2) (by omega), turnV_lo (k := 3) (by omega), turnV_lo (k := 5) (by omega)]
  refine ⟨a1, a2, a3, a4, a5, a6, a7, a8, fun j hj => ?_⟩
  rw [turnV_k, turnV_l, turnV_f hj a2]
  have h9 := a9 j hj
  exact ⟨h9.1, h9.2.1, h9.2.2.1, h9.2.2.2.1, xor1 _ h9.2.2.2.2 _ (bitN_le _ _)⟩
theorem xor64 {a b : Nat} (ha : a < 64) (hb : b < 64) : a ^^^ b < 64 := Nat.xor_lt_two_pow (n := 6) ha hb
/-- the trial's environment under each change -/
theorem EnvC.turn {τ : Sg} {n s : Nat} {A : Vec} (h6 : A 0 ≤ 6) (hs : s < 64) (h : EnvC τ n A) {F : Nat} (hF : F < 64) (e5 : τ n 5 = nI F) : EnvC (up2 τ n 5 (nI (F ^^^ s))) n (turnV A s) := by
  obtain ⟨x0, x1, x2, x3, x4, x6, ⟨F', hF', x5, hFb⟩, xgs⟩ := h
  obtain rfl : F' = F := nq_eq (by omega) (by omega) (x5.symm.trans e5)
  unfold EnvC
  rw [turnV_lo (k := 0) (by omega), turnV_lo (k := 1) (by omega), turnV_lo (k := 2) (by omega), turnV_lo (k := 3) (by omega), turnV_lo (k := 4) (by omega), turnV_lo (k := 5) (by omega)]
  refine ⟨by simp [up2, x0], by simp [up2, x1], by simp [up2, x2], by simp [up2, x3], by simp [up2, x4], by simp [up2, x6], ⟨F' ^^^ s, xor64 hF hs, by simp [up2], fun g hg => ?_⟩, fun g hg => ?_⟩
  · rw [turnV_f hg h6, hFb g hg, bitN_xor]
  · rw [turnV_k, turnV_l, up2_ne (by omega), up2_ne (by omega)]
    exact xgs g hg
theorem EnvC.fall {τ : Sg} {n s : Nat} {A : Vec} (h : EnvC τ n A) : EnvC (up2 τ n 6 (nI (A 5 ||| s))) n (fallV A s) := by
  obtain ⟨x0, x1, x2, x3, x4, x6, ⟨F', hF', x5, hFb⟩, xgs⟩ := h
  unfold EnvC
  rw [fallV_lo (k := 0) (by omega), fallV_lo (k := 1) (by omega), fallV_lo (k := 2) (by omega), fallV_lo (k := 3) (by omega), fallV_lo (k := 4) (by omega), show fallV A s 5 = A 5 ||| s from if_pos rfl]
  refine ⟨by simp [up2, x0], by simp [up2, x1], by simp [up2, x2], by simp [up2, x3], by simp [up2, x4], by simp [up2], ⟨F', hF', by simp [up2, x5], fun g hg => ?_⟩, fun g hg => ?_⟩
  · rw [fallV_lo (by omega)]
    exact hFb g hg
  · rw [fallV_lo (by omega), fallV_lo (by omega), up2_ne (by omega), up2_ne (by omega)]
    exact xgs g hg
theorem EnvC.kind {τ : Sg} {n g s : Nat} {A : Vec} (hg : g < A 0) (h : EnvC τ n A) : EnvC (up2 τ (n + 1) g (nI s)) n (setK A g s) := by
  obtain ⟨x0, x1, x2, x3, x4, x6, ⟨F', hF', x5, hFb⟩, xgs⟩ := h
  have e : ∀ k, k < 7 → setK A g s k = A k := fun k hk => if_neg (by omega)
  have u : ∀ a k, a ≠ n + 1 → up2 τ (n + 1) g (nI s) a k = τ a k := fun a k ha => by rw [up2_ne ha]
  unfold EnvC
  rw [e 0 (by omega), e 1 (by omega), e 2 (by omega), e 3 (by omega), e 4 (by omega), e 5 (by omega), u _ _ (by omega), u _ _ (by omega), u _ _ (by omega), u _ _ (by omega), u _ _ (by omega), u _ _ (by omega), u _ _ (by omega)]
  refine ⟨x0, x1, x2, x3, x4, x6, ⟨F', hF', x5, fun j hj => ?_⟩, fun j hj => ?_⟩
  · rw [show setK A g s (9 + 3 * j) = A (9 + 3 * j) from if_neg (by omega)]
    exact hFb j hj
  · rw [show setK A g s (8 + 3 * j) = A (8 + 3 * j) from if_neg (by omega), u (n + 2) j (by omega)]
    refine ⟨?_, (xgs j hj).2⟩
    by_cases hjg : j = g
    · subst hjg
      rw [up2_at, show setK A j s (7 + 3 * j) = s from if_pos rfl]
    · rw [up2_k hjg, show setK A g s (7 + 3 * j) = A (7 + 3 * j) from if_neg (by omega)]
      exact (xgs j hj).1
theorem EnvC.face {τ : Sg} {n g f F' : Nat} {A : Vec} (h : EnvC τ n A) (hF' : F' < 64) (hb : ∀ j, j < A 0 → bitN F' j = if j = g then f else A (9 + 3 * j)) : EnvC (up2 τ n 5 (nI F')) n (setF A g f) := by
  obtain ⟨x0, x1, x2, x3, x4, x6, -, xgs⟩ := h
  have e : ∀ k, k < 7 → setF A g f k = A k := fun k hk => if_neg (by omega)
  unfold EnvC
  rw [e 0 (by omega), e 1 (by omega), e 2 (by omega), e 3 (by omega), e 4 (by omega), e 5 (by omega)]
  refine ⟨by simp [up2, x0], by simp [up2, x1], by simp [up2, x2], by simp [up2, x3], by simp [up2, x4], by simp [up2, x6], ⟨F', hF', by simp [up2], fun j hj => ?_⟩, fun j hj => ?_⟩
  · rw [hb j hj]
    unfold setF
    by_cases hj2 : j = g
    · rw [if_pos (by omega), if_pos hj2]
    · rw [if_neg (by omega), if_neg hj2]
  · rw [show setF A g f (8 + 3 * j) = A (8 + 3 * j) from if_neg (by omega), show setF A g f (7 + 3 * j) = A (7 + 3 * j) from if_neg (by omega), up2_ne (by omega), up2_ne (by omega)]
    exact xgs j hj
theorem dayPn_hu (B : Vec) (st : Nat) (q : Pn) : q.2.2.2.2.2 ≤ (dayPn B st q).2.2.2.2.2 := by
  have hc : ∀ r : Pn, (crossP B r).2.2.2.2.2 = r.2.2.2.2.2 := fun r => rfl
  have hw : ∀ r : Pn, (walkP B r).2.2.2.2.2 = r.2.2.2.2.2 := fun r => by unfold walkP; (repeat' split) <;> rfl
  have hg : (goP B st q).2.2.2.2.2 = q.2.2.2.2.2 := by
    unfold goP
    split
    · rw [hc, hw]
      split
      · rfl
      · rw [hc]
    · rfl
  have he : ∀ r : Pn, r.2.2.2.2.2 ≤ (eatP B r).2.2.2.2.2 := fun r => by
    unfold eatP
    (repeat' split) <;> dsimp only <;> omega
  unfold dayPn
  split
  · rw [hg]; exact Nat.le_refl _
  · rw [← hg]; exact he _
theorem pdays_hu {B : Vec} {st : Nat} {q : Pn} {i j : Nat} (h : i ≤ j) : (pdays B st q i).2.2.2.2.2 ≤ (pdays B st q j).2.2.2.2.2 := by
  induction j with
  | zero => rw [show i = 0 by omega]; exact Nat.le_refl _
  | succ j ih =>
    by_cases e : i = j + 1
    · rw [e]; exact Nat.le_refl _
    · exact Nat.le_trans (ih (by omega)) (dayPn_hu _ _ _)
theorem WP.days {A : Vec} {q : Pn} {st : Nat} (hG : 2 ≤ A 0) (h : WP A q) : ∀ i, WP A (pdays A st q i)
  | 0 => h
  | i + 1 => (WP.days hG h i).day hG
theorem WP.env {A B : Vec} {q : Pn} (e : B 0 = A 0) (h : WP A q) : WP B q := by unfold WP at h ⊢; rw [e]; exact h
/-- NONE, or a set -/
def ov (b : Option Nat) : Int32 := match b with | none => (-1000000) | some s => nI s
def fewr (x : Nat) (b : Option Nat) : Nat := match b with | none => 1 | some y => if cntN y ≤ cntN x then 0 else 1
def bestS (ok : Nat → Nat) : Nat → Option Nat
  | 0 => none
  | s + 1 => if fewr s (bestS ok s) = 0 then bestS ok s else if ok s = 0 then bestS ok s else some s
theorem bestS_lt {ok : Nat → Nat} : ∀ (n s : Nat), bestS ok n = some s → s < n
  | 0, s, h => by simp [bestS] at h
  | n + 1, s, h => by
    unfold bestS at h
    split at h
    · have := bestS_lt n s h; omega
    · split at h
      · have := bestS_lt n s h; omega
      · have := Option.some.inj h; omega

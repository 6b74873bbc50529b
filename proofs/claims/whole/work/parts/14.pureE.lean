theorem RepC.fb {σ τ : Sg} {n lo hi : Nat} {A : Vec} (h5 : A 1 ≤ 5) (h : RepC σ n A) (hf : Fb lo hi σ τ) (hd : hi ≤ n ∨ n + 9 ≤ lo) : RepC τ n A := by
  have e : ∀ a, n ≤ a → a < n + 9 → ∀ k, τ a k = σ a k := fun a h1 h2 k => hf a k (by omega)
  obtain ⟨h1, h2⟩ := h
  refine ⟨?_, fun p hp => ?_⟩
  · unfold EnvC at h1 ⊢
    simp only [e n (by omega) (by omega), e (n + 1) (by omega) (by omega), e (n + 2) (by omega) (by omega)]
    exact h1
  · rw [e _ (by omega) (by omega)]
    exact ⟨(h2 p hp).1.cg (fun k _ => e _ (by omega) (by omega) k), (h2 p hp).2⟩
theorem TS.env {σ τ : Sg} {A B : Vec} {p st a k : Nat} {x : Int32} {q : Pn} (h : TS σ τ A p st q) (h1 : 242 ≤ a) (h2 : a < 246) (hE : EnvC (up2 τ a k x) 242 B) : TS σ (up2 τ a k x) B p st q := by
  obtain ⟨a1, a2, a3, a4⟩ := h
  exact ⟨a1.up h1 (by omega), hE, a3.cg (fun j _ => by rw [up2_ne (by omega)]), by rw [up2_ne (by omega)]; exact a4⟩
def whenR (f : Nat → Nat) : Nat → Nat → Int32
  | 0, _ => (-1000000)
  | m + 1, i => if f i = 1 then nI i else whenR f m (i + 1)
theorem whenR_step {f : Nat → Nat} {i : Nat} (hi : i ≤ 60) (h : ¬ f i = 1) : whenR f (61 - i) i = whenR f (61 - (i + 1)) (i + 1) := by
  rw [show 61 - i = (61 - (i + 1)) + 1 by omega, whenR, if_neg h]
theorem whenR_hit {f : Nat → Nat} {i : Nat} (hi : i ≤ 60) (h : f i = 1) : whenR f (61 - i) i = nI i := by
  rw [show 61 - i = (61 - (i + 1)) + 1 by omega, whenR, if_pos h]
/-- what a person is, i days on, in B -/
def pds (A B : Vec) (p i : Nat) : Pn := pdays B (bitN (A 6) p) (pn A p) i
def otS (A : Vec) (p g n s : Nat) : Nat := bitN (pds A (turnV A s) p n).2.2.1 g
def fdS (A : Vec) (p n s : Nat) : Nat := if (pds A (fallV A s) p n).2.2.2.2.2 = A (30 + 6 * p) then 1 else 0
def afS (A : Vec) (n s : Nat) : Nat → Nat
  | 0 => 1
  | p + 1 => if afS A n s p = 0 then 0 else fdS A p n s
def okF (A : Vec) (n s : Nat) : Nat := if s &&& A 5 = 0 then afS A n s (A 1) else 0
def toldR (f : Nat → Nat) (d : Nat → Int32) : Nat → Nat → Nat
  | 0, _ => 1
  | m + 1, i => if nI (f i) = d i then toldR f d m (i + 1) else 0
theorem toldR_step {f : Nat → Nat} {d : Nat → Int32} {n i : Nat} (hi : i < n) (h : nI (f i) = d i) : toldR f d (n - i) i = toldR f d (n - (i + 1)) (i + 1) := by
  rw [show n - i = (n - (i + 1)) + 1 by omega, toldR, if_pos h]
theorem toldR_no {f : Nat → Nat} {d : Nat → Int32} {n i : Nat} (hi : i < n) (h : ¬ nI (f i) = d i) : toldR f d (n - i) i = 0 := by
  rw [show n - i = (n - (i + 1)) + 1 by omega, toldR, if_neg h]
theorem toldR_le {f : Nat → Nat} {d : Nat → Int32} : ∀ (n i : Nat), toldR f d n i ≤ 1
  | 0, i => Nat.le_refl _
  | n + 1, i => by unfold toldR; split; exact toldR_le n (i + 1); omega
theorem eatsP_le (A : Vec) (st : Nat) (q : Pn) : eatsP A st q ≤ 1 := by unfold eatsP; split; omega; exact fedP_le _ _
theorem afS_le (A : Vec) (n s : Nat) : ∀ p, afS A n s p ≤ 1
  | 0 => Nat.le_refl _
  | p + 1 => by unfold afS fdS; (repeat' split) <;> omega
theorem pds_WP {A B : Vec} {p i : Nat} (hF : WF A) (hp : p < A 1) (e : B 0 = A 0) : WP B (pds A B p i) := WP.days (by rw [e]; exact hF.1.1) ((hF.2.2.2.2.2 p hp).env e) i
theorem ov_lt {ok : Nat → Nat} {n G : Nat} (h : n ≤ 2 ^ G) (hG : G ≤ 6) : ∀ y, bestS ok n = some y → y < 64 := fun y hy => by
  have h1 := bestS_lt n y hy
  have h2 := pow6 hG
  omega
theorem fewr_le (x : Nat) (b : Option Nat) : fewr x b ≤ 1 := by unfold fewr; cases b <;> dsimp only <;> (try split) <;> omega

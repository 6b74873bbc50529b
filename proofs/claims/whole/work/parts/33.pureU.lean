theorem RepM.t {σ : Sg} {A B : Vec} (h : RepM σ 296 A) : RepM (stM σ 298 B) 296 A := fun k hk => (stM_ne (by decide)).trans (h k hk)
def F8 (σ τ : Sg) : Prop := ∀ a k, a ≠ 298 → τ a k = σ a k
theorem F8.rf {σ : Sg} : F8 σ σ := fun _ _ _ => rfl
theorem F8.st {σ τ : Sg} {B : Vec} (h : F8 σ τ) : F8 σ (stM τ 298 B) := fun a k ha => (stM_ne ha).trans (h a k ha)
theorem F8.rep {σ τ : Sg} {A : Vec} (h : F8 σ τ) (hM : RepM σ 296 A) : RepM τ 296 A := fun k hk => (h 296 k (by decide)).trans (hM k hk)
theorem Fm.f8 {σ τ ρ : Sg} (h : Fm σ τ) (h2 : F8 τ ρ) : Fm σ ρ := fun a k h1 h3 => (h2 a k h1).trans (h a k h1 h3)
theorem best_n0 {ok : Nat → Nat} {s : Nat} (hb : bestS ok s = none) (h : ok s = 0) : bestS ok (s + 1) = none := by rw [bestS, hb]; rw [if_neg (show ¬ fewr s none = 0 from (by show ¬ 1 = 0; decide)), if_pos h]
theorem best_n1 {ok : Nat → Nat} {s : Nat} (hb : bestS ok s = none) (h : ¬ ok s = 0) : bestS ok (s + 1) = some s := by rw [bestS, hb]; rw [if_neg (show ¬ fewr s none = 0 from (by show ¬ 1 = 0; decide)), if_neg h]
theorem best_sx {ok : Nat → Nat} {s y : Nat} (hb : bestS ok s = some y) (h : cntN y ≤ cntN s) : bestS ok (s + 1) = some y := by
  rw [bestS, hb, if_pos (show fewr s (some y) = 0 from if_pos h)]
theorem best_s0 {ok : Nat → Nat} {s y : Nat} (hb : bestS ok s = some y) (h : ok s = 0) : bestS ok (s + 1) = some y := by
  rw [bestS, hb]
  split
  · rfl
  · rfl
theorem best_s1 {ok : Nat → Nat} {s y : Nat} (hb : bestS ok s = some y) (h1 : ¬ cntN y ≤ cntN s) (h : ¬ ok s = 0) : bestS ok (s + 1) = some s := by
  rw [bestS, hb, if_neg (show ¬ fewr s (some y) = 0 from by show ¬ (if cntN y ≤ cntN s then 0 else 1) = 0; rw [if_neg h1]; decide), if_neg h]
theorem best_n0' {ok : Nat → Nat} {s : Nat} (hb : bestS ok s = none) (h : ok s = 0) : bestS ok (s + 1) = none := best_n0 hb h
theorem best_sk {ok : Nat → Nat} {s : Nat} (h : ok s = 0) : bestS ok (s + 1) = bestS ok s := by
  rw [bestS]
  split
  · rfl
  · rfl
/-- the facings turned, i gates on -/
def turnK (A : Vec) (s i : Nat) : Vec := fun k => if 9 ≤ k ∧ k < 25 ∧ k % 3 = 0 ∧ (k - 9) / 3 < i then A k ^^^ bitN s ((k - 9) / 3) else A k
theorem turnK_0 {A : Vec} {s : Nat} : turnK A s 0 = A := by funext k; exact if_neg (by omega)
theorem turnK_e {A : Vec} {s : Nat} : turnK A s (A 0) = turnV A s := rfl
theorem turnK_f {A : Vec} {s i : Nat} : turnK A s i (9 + 3 * i) = A (9 + 3 * i) := if_neg (by omega)
theorem turnK_step {A : Vec} {s i : Nat} (hi : i < 6) : updN (turnK A s i) (9 + 3 * i) (A (9 + 3 * i) ^^^ bitN s i) = turnK A s (i + 1) := by
  funext k
  unfold updN turnK
  by_cases h : k = 9 + 3 * i
  · subst h
    rw [if_pos rfl, show (9 + 3 * i - 9) / 3 = i by omega, if_pos ⟨by omega, by omega, by omega, by omega⟩]
  · rw [if_neg h]
    by_cases h2 : 9 ≤ k ∧ k < 25 ∧ k % 3 = 0 ∧ (k - 9) / 3 < i
    · rw [if_pos h2, if_pos ⟨h2.1, h2.2.1, h2.2.2.1, by omega⟩]
    · rw [if_neg h2, if_neg (by omega)]
/-- hunger of all after days, against each -/
theorem hung_days {B : Vec} {n : Nat} (hF : WF B) : hung (daysV B n) = sumN (fun m => (pds B B m n).2.2.2.2.2) (B 1) := by
  unfold hung
  rw [daysV_lo (by omega) (by omega)]
  have : ∀ p, p ≤ B 1 → sumN (fun m => daysV B n (30 + 6 * m)) p = sumN (fun m => (pds B B m n).2.2.2.2.2) p := by
    intro p
    induction p with
    | zero => intro _; rfl
    | succ p ih => intro hp; show _ + _ = _ + _; rw [ih (by omega)]; congr 1; exact (daysV_at hF (by omega)).2.2.2.2.2
  exact this (B 1) (Nat.le_refl _)
theorem fallV_pn {A : Vec} {s m : Nat} : pn (fallV A s) m = pn A m := by
  unfold pn
  rw [fallV_lo (by omega), fallV_lo (by omega), fallV_lo (by omega), fallV_lo (by omega), fallV_lo (by omega), fallV_lo (by omega)]
theorem WF.fall {A : Vec} {s : Nat} (h : WF A) (hs : s < 2 ^ A 0) : WF (fallV A s) := h.chg (fallV_WE h.1 hs) (fallV_lo (by omega)) (fallV_lo (by omega)) (fallV_lo (by omega)) (fun _ _ => fallV_pn)
theorem afS_sum {A : Vec} {n s : Nat} : ∀ p, (sumN (fun m => A (30 + 6 * m)) p ≤ sumN (fun m => (pds A (fallV A s) m n).2.2.2.2.2) p) ∧ (sumN (fun m => (pds A (fallV A s) m n).2.2.2.2.2) p = sumN (fun m => A (30 + 6 * m)) p ↔ ¬ afS A n s p = 0)
  | 0 => ⟨Nat.le_refl _, ⟨fun _ => by show ¬ 1 = 0; decide, fun _ => rfl⟩⟩
  | p + 1 => by
    obtain ⟨h1, h2⟩ := afS_sum (A := A) (n := n) (s := s) p
    have h3 : A (30 + 6 * p) ≤ (pds A (fallV A s) p n).2.2.2.2.2 := pdays_hu (B := fallV A s) (st := bitN (A 6) p) (q := pn A p) (i := 0) (j := n) (by omega)
    have e1 : sumN (fun m => (pds A (fallV A s) m n).2.2.2.2.2) (p + 1) = sumN (fun m => (pds A (fallV A s) m n).2.2.2.2.2) p + (pds A (fallV A s) p n).2.2.2.2.2 := rfl
    have e2 : sumN (fun m => A (30 + 6 * m)) (p + 1) = sumN (fun m => A (30 + 6 * m)) p + A (30 + 6 * p) := rfl
    have e3 : afS A n s (p + 1) = if afS A n s p = 0 then 0 else fdS A p n s := rfl
    rw [e1, e2, e3]
    refine ⟨by omega, ⟨fun h => ?_, fun h => ?_⟩⟩
    · have ha := h2.mp (by omega)
      rw [if_neg ha]
      unfold fdS
      rw [if_pos (by omega)]
      decide
    · by_cases ha : afS A n s p = 0
      · rw [if_pos ha] at h
        exact absurd rfl h
      · rw [if_neg ha] at h
        unfold fdS at h
        by_cases hq : (pds A (fallV A s) p n).2.2.2.2.2 = A (30 + 6 * p)
        · have := h2.mpr ha
          omega
        · rw [if_neg hq] at h
          exact absurd rfl h
theorem falls_ok {A : Vec} {n s : Nat} (hF : WF A) (hs : s < 2 ^ A 0) : hung (daysV (fallV A s) n) = hung A ↔ ¬ afS A n s (A 1) = 0 := by
  rw [hung_days (hF.fall hs)]
  have e : ∀ p, sumN (fun m => (pds (fallV A s) (fallV A s) m n).2.2.2.2.2) p = sumN (fun m => (pds A (fallV A s) m n).2.2.2.2.2) p := by
    intro p
    induction p with
    | zero => rfl
    | succ p ih => show _ + (pds (fallV A s) (fallV A s) p n).2.2.2.2.2 = _ + (pds A (fallV A s) p n).2.2.2.2.2; rw [ih, pds_chg (fallV_lo (by omega)) fallV_pn]
  rw [e, fallV_lo (by omega)]
  exact (afS_sum (A := A) (n := n) (s := s) (A 1)).2

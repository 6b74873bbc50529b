/-- what the reference's foretelling may change -/
def Fm (σ σ' : Sg) : Prop := ∀ a k, a ≠ 298 → ¬ (a = 292 ∧ k = 0) → σ' a k = σ a k
theorem Fm.rf {σ : Sg} : Fm σ σ := fun _ _ _ _ => rfl
theorem Fm.th {σ : Sg} : Fm σ (up2 σ 292 0 (nI 0)) := fun a k _ hk => by unfold up2; rw [if_neg hk]
theorem Fm.tr {σ τ ρ : Sg} (h1 : Fm σ τ) (h2 : Fm τ ρ) : Fm σ ρ := fun a k h h' => (h2 a k h h').trans (h1 a k h h')
theorem Fm.st {σ τ : Sg} {A : Vec} (h : Fm σ τ) : Fm σ (stM τ 298 A) := fun a k h1 h2 => (stM_ne h1).trans (h a k h1 h2)
theorem RepM.fm {σ τ : Sg} {A : Vec} {a : Nat} (h : RepM σ a A) (hf : Fm σ τ) (h1 : a ≠ 298) (h2 : a ≠ 292) : RepM τ a A := fun k hk => (hf a k h1 (fun q => h2 q.1)).trans (h k hk)
theorem stM_stM {σ : Sg} {a : Nat} {A B : Vec} : stM (stM σ a A) a B = stM σ a B := by
  funext b k
  unfold stM
  by_cases h : b = a ∧ k < 55
  · rw [if_pos h, if_pos h]
  · rw [if_neg h, if_neg h, if_neg h]
/-- days of all, day by day for each -/
theorem daysV_lo {A : Vec} {k : Nat} (h : k < 25) (h4 : k ≠ 4) : ∀ n, daysV A n k = A k
  | 0 => rfl
  | n + 1 => (dayV_lo h h4).trans (daysV_lo h h4 n)
theorem daysV_pn {A : Vec} {m : Nat} (hF : WF A) (hm : m < A 1) : ∀ n, pn (daysV A n) m = pds A A m n
  | 0 => rfl
  | n + 1 => by
    have h1 : (daysV A n) 1 = A 1 := daysV_lo (by omega) (by omega) n
    have h6 : (daysV A n) 6 = A 6 := daysV_lo (by omega) (by omega) n
    show pn (dayV (daysV A n)) m = _
    rw [pn_dayV (by omega), daysV_pn hF hm n, h6]
    exact dayPn_cg (fun k hk hk4 => daysV_lo hk hk4 n) hF.1 (pds_WP hF hm rfl)
theorem daysV_at {A : Vec} {m n : Nat} (hF : WF A) (hm : m < A 1) : daysV A n (25 + 6 * m) = (pds A A m n).1 ∧ daysV A n (26 + 6 * m) = (pds A A m n).2.1 ∧ daysV A n (27 + 6 * m) = (pds A A m n).2.2.1 ∧ daysV A n (28 + 6 * m) = (pds A A m n).2.2.2.1 ∧ daysV A n (29 + 6 * m) = (pds A A m n).2.2.2.2.1 ∧ daysV A n (30 + 6 * m) = (pds A A m n).2.2.2.2.2 := by
  rw [← daysV_pn hF hm n]
  exact ⟨rfl, rfl, rfl, rfl, rfl, rfl⟩
/-- the same, with a shore B that has A's people -/
theorem pds_chg {A B : Vec} {m n : Nat} (h6 : B 6 = A 6) (hp : pn B m = pn A m) : pds B B m n = pds A B m n := by unfold pds; rw [h6, hp]

/-! the first state -/
theorem rw_out : ∀ r : Nat, r ≤ 8 → ∀ a k : Nat, ¬ (258 ≤ a ∧ a < 274 ∧ k = 1 ∧ a % 2 = 0) → rwS r a k = 0
  | 0, _, _, _, _ => rfl
  | r + 1, hr, a, k, h => by
    show up2 (rwS r) (258 + 2 * r) 1 1 a k = 0
    unfold up2
    rw [if_neg (fun q => h (by omega))]
    exact rw_out r (by omega) a k h
theorem rw_in : ∀ r : Nat, r < 8 → rwS 8 (258 + 2 * r) 1 = nI 1 := by decide +kernel
theorem rw_01 : ∀ r a k : Nat, b01 (rwS r a k)
  | 0, _, _ => Or.inl rfl
  | r + 1, a, k => by
    show b01 (up2 (rwS r) (258 + 2 * r) 1 1 a k)
    unfold up2
    split
    · exact Or.inr rfl
    · exact rw_01 r a k
theorem ln_out : ∀ (r : Nat) (σ : Sg) (a k : Nat), ¬ a = 293 → lnS r σ a k = σ a k
  | 0, _, _, _, _ => rfl
  | r + 1, σ, a, k, h => by
    show up2 (lnS r σ) 293 r (-1) a k = σ a k
    rw [up2_ne h]
    exact ln_out r σ a k h
theorem ln_in : ∀ (r : Nat) (σ : Sg) (k : Nat), k < r → lnS r σ 293 k = -1
  | r + 1, σ, k, h => by
    show up2 (lnS r σ) 293 r (-1) 293 k = -1
    by_cases e : k = r
    · subst e
      exact up2_at
    · rw [up2_k e]
      exact ln_in r σ k (by omega)
def σ1 : Sg := lnS 8 (rwS 8)
def S1 : Ab := (fun _ => 0, (fun _ _ => 0, 0), (fun _ => 0, fun _ _ => 0), (fun _ => 0, fun _ => 0, fun _ _ => 0), (0, fun _ => 0), 0, 0, (0, fun _ => 0))
theorem s1_0 {a k : Nat} (h1 : ¬ a = 293) (h : ¬ (258 ≤ a ∧ a < 274 ∧ k = 1 ∧ a % 2 = 0)) : σ1 a k = nI 0 := (ln_out 8 _ a k h1).trans (rw_out 8 (Nat.le_refl _) a k h)
theorem BZ1 : BZ σ1 := by
  intro a k h
  by_cases e : a = 293
  · subst e
    simp [isZ, show kd 293 = 10 from rfl] at h
  · show b01 (lnS 8 (rwS 8) a k)
    rw [ln_out 8 _ a k e]
    exact rw_01 8 a k
theorem GD1 : GD (fun _ => 0) := ⟨Or.inl ⟨rfl, rfl, rfl⟩, fun p hp => absurd hp (Nat.not_lt_zero _), by decide⟩
theorem GS1 : GS S1 := ⟨GD1, ⟨by decide, fun j hj => absurd hj (Nat.not_lt_zero _)⟩, fun k _ => ⟨by show 0 ≤ 1; decide, fun h => absurd h (by show ¬ 0 = 1; decide)⟩, fun r _ => ⟨by show 0 ≤ 3; decide, by show 0 ≤ 40; decide⟩, ⟨by decide, fun j hj => absurd hj (Nat.not_lt_zero _)⟩, by decide, by decide, by decide⟩
theorem IC1 : IC σ1 S1 := by
  refine ⟨GS1, ⟨?_, fun p hp => absurd hp (Nat.not_lt_zero _)⟩, ⟨0, by decide, s1_0 (by decide) (by decide), s1_0 (by decide) (by decide), fun j hj => absurd hj (Nat.not_lt_zero _)⟩, ⟨s1_0 (by decide) (by decide), fun k _ h => absurd h (by show ¬ 0 = 1; decide)⟩, fun r hr => ⟨?_, fun h => absurd rfl h, s1_0 (by omega) (by omega), fun k _ => s1_0 (by omega) (by omega)⟩, ⟨s1_0 (by decide) (by decide), fun j hj => absurd hj (Nat.not_lt_zero _)⟩, s1_0 (by decide) (by decide), s1_0 (by decide) (by decide), ⟨s1_0 (by decide) (by decide), fun j hj => absurd hj (Nat.not_lt_zero _)⟩⟩
  · exact ⟨s1_0 (by decide) (by decide), s1_0 (by decide) (by decide), s1_0 (by decide) (by decide), s1_0 (by decide) (by decide), s1_0 (by decide) (by decide), s1_0 (by decide) (by decide), ⟨0, by decide, s1_0 (by decide) (by decide), fun g hg => absurd hg (Nat.not_lt_zero _)⟩, fun g hg => absurd hg (Nat.not_lt_zero _)⟩
  · exact (ln_out 8 _ _ _ (by omega)).trans (rw_in r hr)
theorem IM1 : IM σ1 S1 := by
  refine ⟨GS1, fun k _ => s1_0 (by decide) (by omega), ⟨s1_0 (by decide) (by decide), fun j hj => absurd hj (Nat.not_lt_zero _)⟩, fun k _ => ⟨s1_0 (by decide) (by omega), fun h => absurd h (by show ¬ 0 = 1; decide)⟩, fun r hr => ⟨?_, s1_0 (by decide) (by omega), fun k _ => s1_0 (by decide) (by omega)⟩, ⟨s1_0 (by decide) (by decide), fun j hj => absurd hj (Nat.not_lt_zero _)⟩, s1_0 (by decide) (by decide), s1_0 (by decide) (by decide), ⟨s1_0 (by decide) (by decide), fun j hj => absurd hj (Nat.not_lt_zero _)⟩⟩
  show lnS 8 (rwS 8) 293 r = nI 0 - nI 1
  rw [ln_in 8 _ r hr]
  decide
/-- all is laid: the growing world has become the whole one -/
theorem wg_full {E : En} {σ : Sg} {H : Heap} (hP : va_P (eD E) vwCl (wg E 307 [292, 0] σ) H) : va_P (eD E) vwCl (ws E σ) H := by
  intro k q hq
  obtain ⟨hk, rfl⟩ := ws_out hq
  have h := hP k _ (wg_at hk)
  have key : ∀ j, rr k j = true → lk 307 [292, 0] (rf k j) = true := fun j hj => by
    obtain ⟨-, h1, h2, h3⟩ := rr_pr hk hj
    exact lk_iff.mpr ⟨h2, nm2 h3 (by omega)⟩
  by_cases hc : kd k < 10
  · have e : cellg E σ 307 [292, 0] k = cell E σ k := by
      rw [cg_obj rfl hc, cell_obj rfl hc]
      congr 2
      apply List.map_congr_left
      intro j hj
      have hj := List.mem_range.mp hj
      unfold fvg fv
      by_cases hr : isR (kd k) j = true
      · rw [if_pos hr, if_pos hr, key j (by unfold rr; rw [if_pos hc, hr]; simp [hj])]
        rfl
      · rw [if_neg hr, if_neg hr]
    rw [e] at h
    exact h
  · by_cases hc2 : kd k < 12
    · have e : cellg E σ 307 [292, 0] k = cell E σ k := by rw [cg_arr rfl (by omega) hc2, cell_arr rfl (by omega) hc2]
      rw [e] at h
      exact h
    · rw [cg_ref rfl (by omega)] at h
      rw [cell_ref rfl (by omega)]
      have h : H[eB E + k]? = some (vp_cell _ _) := h
      show H[eB E + k]? = some (vp_cell _ _)
      rw [h, vp_cell_q, vp_cell_q]
      unfold arrV
      congr 3
      funext j
      unfold rfg
      have hj : j.val < ln k := j.isLt
      dsimp only
      rw [key j.val (by unfold rr; rw [if_neg hc]; simp [hj]; omega)]
      simp [hj]

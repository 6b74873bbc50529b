def lk (n : Nat) (un : List Nat) (t : Nat) : Bool := decide (t < n) && !(un.contains t)
def fvg (E : En) (σ : Sg) (n : Nat) (un : List Nat) (i k : Nat) : Value := if isR (kd i) k then (if lk n un (rf i k) then .ref (eB E + rf i k) else .null) else .int (σ i k)
def rfg (E : En) (n : Nat) (un : List Nat) (i : Nat) : Nat → Option Nat := fun j => if (decide (j < ln i) && lk n un (rf i j)) then some (eB E + rf i j) else none
def cellg (E : En) (σ : Sg) (n : Nat) (un : List Nat) (i : Nat) : va_E :=
  if kd i < 10 then .inr (kd i, (List.range (nf (kd i))).map (fvg E σ n un i))
  else if kd i < 12 then .inl (eA E (kd i), ln i, .inl (σ i))
  else .inl (eA E (kd i), ln i, .inr (.inr (.inr (.inr (rfg E n un i)))))
def wg (E : En) (n : Nat) (un : List Nat) (σ : Sg) : va_W := (List.range n).map (fun i => (eB E + i, cellg E σ n un i))
def rr (i k : Nat) : Bool := if kd i < 10 then (decide (k < nf (kd i)) && isR (kd i) k) else (decide (12 ≤ kd i) && decide (k < ln i))
def prL : List (Nat × Nat) := [(0, 0), (0, 0), (0, 1), (2, 0), (0, 2), (4, 7), (4, 8), (4, 9), (7, 0), (7, 1), (7, 2), (7, 3), (7, 4), (0, 3), (13, 7), (13, 8), (13, 9), (16, 0), (16, 1), (16, 2), (16, 3), (16, 4), (0, 4), (0, 5), (23, 0), (24, 0), (25, 7), (25, 8), (25, 9), (28, 0), (28, 1), (28, 2), (28, 3), (28, 4), (24, 1), (34, 7), (34, 8), (34, 9), (37, 0), (37, 1), (37, 2), (37, 3), (37, 4), (24, 2), (43, 7), (43, 8), (43, 9), (46, 0), (46, 1), (46, 2), (46, 3), (46, 4), (24, 3), (52, 7), (52, 8), (52, 9), (55, 0), (55, 1), (55, 2), (55, 3), (55, 4), (24, 4), (61, 7), (61, 8), (61, 9), (64, 0), (64, 1), (64, 2), (64, 3), (64, 4), (24, 5), (70, 7), (70, 8), (70, 9), (73, 0), (73, 1), (73, 2), (73, 3), (73, 4), (24, 6), (79, 7), (79, 8), (79, 9), (82, 0), (82, 1), (82, 2), (82, 3), (82, 4), (24, 7), (88, 7), (88, 8), (88, 9), (91, 0), (91, 1), (91, 2), (91, 3), (91, 4), (24, 8), (97, 7), (97, 8), (97, 9), (100, 0), (100, 1), (100, 2), (100, 3), (100, 4), (24, 9), (106, 7), (106, 8), (106, 9), (109, 0), (109, 1), (109, 2), (109, 3), (109, 4), (24, 10), (115, 7), (115, 8), (115, 9), (118, 0), (118, 1), (118, 2), (118, 3), (118, 4), (24, 11), (124, 7), (124, 8), (124, 9), (127, 0), (127, 1), (127, 2), (127, 3), (127, 4), (24, 12), (133, 7), (133, 8), (133, 9), (136, 0), (136, 1), (136, 2), (136, 3), (136, 4), (24, 13), (142, 7), (142, 8), (142, 9), (145, 0), (145, 1), (145, 2), (145, 3), (145, 4), (24, 14), (151, 7), (151, 8), (151, 9), (154, 0), (154, 1), (154, 2), (154, 3), (154, 4), (24, 15), (160, 7), (160, 8), (160, 9), (163, 0), (163, 1), (163, 2), (163, 3), (163, 4), (24, 16), (169, 7), (169, 8), (169, 9), (172, 0), (172, 1), (172, 2), (172, 3), (172, 4), (24, 17), (178, 7), (178, 8), (178, 9), (181, 0), (181, 1), (181, 2), (181, 3), (181, 4), (24, 18), (187, 7), (187, 8), (187, 9), (190, 0), (190, 1), (190, 2), (190, 3), (190, 4), (24, 19), (196, 7), (196, 8), (196, 9), (199, 0), (199, 1), (199, 2), (199, 3), (199, 4), (24, 20), (205, 7), (205, 8), (205, 9), (208, 0), (208, 1), (208, 2), (208, 3), (208, 4), (24, 21), (214, 7), (214, 8), (214, 9), (217, 0), (217, 1), (217, 2), (217, 3), (217, 4), (24, 22), (223, 7), (223, 8), (223, 9), (226, 0), (226, 1), (226, 2), (226, 3), (226, 4), (24, 23), (232, 7), (232, 8), (232, 9), (235, 0), (235, 1), (235, 2), (235, 3), (235, 4), (0, 6), (241, 0), (242, 7), (242, 8), (242, 9), (245, 0), (245, 1), (245, 2), (245, 3), (245, 4), (241, 1), (0, 7), (252, 0), (252, 1), (252, 2), (0, 8), (256, 0), (1, 0), (258, 0), (1, 1), (260, 0), (1, 2), (262, 0), (1, 3), (264, 0), (1, 4), (266, 0), (1, 5), (268, 0), (1, 6), (270, 0), (1, 7), (272, 0), (22, 0), (274, 7), (274, 8), (274, 9), (277, 0), (277, 1), (277, 2), (277, 3), (277, 4), (22, 1), (283, 7), (283, 8), (283, 9), (286, 0), (286, 1), (286, 2), (286, 3), (286, 4), (0, 0), (292, 2), (292, 3), (292, 4), (292, 5), (292, 6), (292, 7), (292, 8), (292, 10), (292, 19), (292, 20), (292, 21), (292, 22), (292, 23), (292, 24)]
def pr (t : Nat) : Nat × Nat := prL.getD t (0, 0)
theorem rr_all : ((List.range 307).all (fun i => (List.range 26).all (fun k => !rr i k || (decide (pr (rf i k) = (i, k)) && decide (i < rf i k) && decide (rf i k < 307) && decide (rf i k ≠ 292))))) = true := by decide +kernel
theorem rr_k : ((List.range 307).all (fun i => decide (kd i < 12) || decide (ln i ≤ 24))) = true := by decide +kernel
theorem ln_2000 (n : Nat) : ln n ≤ 2000 := by
  rcases Nat.lt_or_ge n 307 with q | q
  · exact (show ∀ n, n < 307 → ln n ≤ 2000 by decide +kernel) n q
  · have e : ln n = 0 := by
      unfold ln
      rw [List.getD_eq_getElem?_getD, List.getElem?_eq_none (Nat.le_trans (by decide +kernel) q)]
      rfl
    omega
theorem nf_26 : ∀ c, c < 10 → nf c ≤ 26 := by decide
theorem rr_pr {i k : Nat} (hi : i < 307) (h : rr i k = true) : pr (rf i k) = (i, k) ∧ i < rf i k ∧ rf i k < 307 ∧ rf i k ≠ 292 := by
  have hk : k < 26 := by
    unfold rr at h
    split at h
    · rename_i hc
      have := nf_26 _ hc
      rw [Bool.and_eq_true, decide_eq_true_eq] at h
      omega
    · rw [Bool.and_eq_true, decide_eq_true_eq, decide_eq_true_eq] at h
      have h1 := List.all_eq_true.mp rr_k i (List.mem_range.mpr hi)
      rw [Bool.or_eq_true, decide_eq_true_eq, decide_eq_true_eq] at h1
      omega
  have h1 := List.all_eq_true.mp rr_all i (List.mem_range.mpr hi)
  have h2 := List.all_eq_true.mp h1 k (List.mem_range.mpr hk)
  rw [h] at h2
  simpa [and_assoc] using h2
theorem lk_iff {n t : Nat} {un : List Nat} : lk n un t = true ↔ t < n ∧ t ∉ un := by
  unfold lk
  simp
theorem lk_new {n t : Nat} {un : List Nat} : lk (n + 1) (n :: un) t = lk n un t := by
  rw [Bool.eq_iff_iff, lk_iff, lk_iff, List.mem_cons]
  constructor
  · rintro ⟨h1, h2⟩
    exact ⟨by have : t ≠ n := fun e => h2 (Or.inl e)
              omega, fun e => h2 (Or.inr e)⟩
  · rintro ⟨h1, h2⟩
    exact ⟨by omega, fun e => e.elim (fun q => by omega) h2⟩
theorem lk_drop {n t u : Nat} {un : List Nat} (h : u ≠ t) : lk n (t :: un) u = lk n un u := by
  rw [Bool.eq_iff_iff, lk_iff, lk_iff, List.mem_cons]
  exact ⟨fun q => ⟨q.1, fun e => q.2 (Or.inr e)⟩, fun q => ⟨q.1, fun e => e.elim h q.2⟩⟩
section GW
variable {E : En} {σ : Sg} {n i : Nat} {un : List Nat}
theorem rfg_new : rfg E (n + 1) (n :: un) i = rfg E n un i := by funext j; unfold rfg; rw [lk_new]
theorem cellg_new : cellg E σ (n + 1) (n :: un) i = cellg E σ n un i := by
  have e : fvg E σ (n + 1) (n :: un) i = fvg E σ n un i := by funext k; unfold fvg; rw [lk_new]
  unfold cellg
  rw [e, rfg_new]
theorem wg_new : wg E n un σ ++ [(eB E + n, cellg E σ (n + 1) (n :: un) n)] = wg E (n + 1) (n :: un) σ := by
  unfold wg
  rw [List.range_succ, List.map_append]
  simp only [cellg_new]
  rfl
theorem wg_at (h : i < n) : (wg E n un σ)[i]? = some (eB E + i, cellg E σ n un i) := by
  unfold wg
  rw [List.getElem?_map, List.getElem?_range h]
  rfl
theorem wg_len : (wg E n un σ).length = n := by unfold wg; rw [List.length_map, List.length_range]
theorem wg_out {k : Nat} {q : Nat × va_E} (h : (wg E n un σ)[k]? = some q) : k < n ∧ q = (eB E + k, cellg E σ n un k) := by
  have hk := (List.getElem?_eq_some_iff.mp h).1
  rw [wg_len] at hk
  rw [wg_at hk] at h
  exact ⟨hk, (Option.some.inj h).symm⟩
theorem wg_D : va_D (fun q => eB E ≤ q) (wg E n un σ) := by
  refine ⟨fun i j p q hi hj he => ?_, fun k q hk => ?_⟩
  · obtain ⟨-, rfl⟩ := wg_out hi
    obtain ⟨-, rfl⟩ := wg_out hj
    have e : eB E + i = eB E + j := he
    omega
  · obtain ⟨-, rfl⟩ := wg_out hk
    exact Nat.le_add_right _ _
theorem wg_set {σ' : Sg} {un' : List Nat} {a : Nat} {e : va_E} (h : a < n) (hc : ∀ m, m < n → m ≠ a → cellg E σ' n un' m = cellg E σ n un m) (he : cellg E σ' n un' a = e) : (wg E n un σ).set a (eB E + a, e) = wg E n un' σ' := by
  apply List.ext_getElem?
  intro k
  rw [List.getElem?_set]
  by_cases hk : a = k
  · subst hk
    rw [if_pos rfl, wg_len, if_pos h, wg_at h, he]
  · rw [if_neg hk]
    rcases Nat.lt_or_ge k n with q | q
    · rw [wg_at q, wg_at q, hc k q (fun e => hk e.symm)]
    · rw [List.getElem?_eq_none (by rw [wg_len]; exact q), List.getElem?_eq_none (by rw [wg_len]; exact q)]
theorem cg_obj {ci : Nat} (hn : kd i = ci) (h : ci < 10) : cellg E σ n un i = .inr (ci, (List.range (nf ci)).map (fvg E σ n un i)) := by
  unfold cellg
  rw [hn, if_pos h]
theorem cg_arr {ci : Nat} (hn : kd i = ci) (h1 : 10 ≤ ci) (h2 : ci < 12) : cellg E σ n un i = .inl (eA E ci, ln i, .inl (σ i)) := by
  unfold cellg
  rw [hn, if_neg (by omega), if_pos h2]
theorem cg_ref {ci : Nat} (hn : kd i = ci) (h1 : 12 ≤ ci) : cellg E σ n un i = .inl (eA E ci, ln i, .inr (.inr (.inr (.inr (rfg E n un i))))) := by
  unfold cellg
  rw [hn, if_neg (by omega), if_neg (by omega)]
theorem fresh_lk {k : Nat} (hn : n < 307) (h : rr n k = true) : lk (n + 1) (n :: un) (rf n k) = false := by
  rw [← Bool.not_eq_true, lk_iff]
  rintro ⟨h1, h2⟩
  have := (rr_pr hn h).2.1
  exact h2 (by rw [show rf n k = n by omega]; exact List.mem_cons_self)
theorem fresh_obj {ci : Nat} (hn : kd n = ci) (h : ci < 10) (hz : ∀ k, σ n k = 0) : cellg E σ (n + 1) (n :: un) n = .inr (ci, (List.range (nf ci)).map (fun k => if isR ci k then Value.null else .int 0)) := by
  have hlt : n < 307 := kd_lt (by omega)
  rw [cg_obj hn h]
  congr 2
  apply List.map_congr_left
  intro k hk
  have hk := List.mem_range.mp hk
  unfold fvg
  rw [hn, hz]
  by_cases hr : isR ci k = true
  · rw [if_pos hr, if_pos hr, fresh_lk hlt (by unfold rr; rw [hn, if_pos h, hr]; simp [hk])]
    rfl
  · rw [if_neg hr, if_neg hr]
theorem fresh_ref (hn : n < 307) (h : 12 ≤ kd n) : rfg E (n + 1) (n :: un) n = fun _ => none := by
  funext j
  unfold rfg
  by_cases hj : j < ln n
  · rw [fresh_lk hn (by unfold rr; rw [if_neg (by omega)]; simp [hj, h])]
    simp
  · simp [hj]
/-- a reference is laid: its target leaves the list of those that hang loose -/
theorem fv_link {a k i' k' t : Nat} (ha : a < 307) (hi : i' < 307) (h1 : rr a k = true) (h2 : rr i' k' = true) (ht : rf a k = t) (hne : ¬ (i' = a ∧ k' = k)) : lk n (t :: un) (rf i' k') = lk n un (rf i' k') := by
  apply lk_drop
  intro e
  have p1 := (rr_pr ha h1).1
  have p2 := (rr_pr hi h2).1
  rw [ht] at p1
  rw [e, p1] at p2
  exact hne ⟨(congrArg Prod.fst p2).symm, (congrArg Prod.snd p2).symm⟩
theorem link_ne {a k t : Nat} (hn : n ≤ 307) (ha : a < n) (h1 : rr a k = true) (ht : rf a k = t) : ∀ m, m < n → m ≠ a → cellg E σ n un m = cellg E σ n (t :: un) m := by
  intro m hm hne
  have key : ∀ k', rr m k' = true → lk n (t :: un) (rf m k') = lk n un (rf m k') := fun k' h2 => fv_link (by omega) (by omega) h1 h2 ht (fun q => hne q.1)
  by_cases hc : kd m < 10
  · rw [cg_obj rfl hc, cg_obj rfl hc]
    congr 2
    apply List.map_congr_left
    intro k' hk'
    have hk' := List.mem_range.mp hk'
    unfold fvg
    by_cases hr : isR (kd m) k' = true
    · rw [if_pos hr, if_pos hr, key k' (by unfold rr; rw [if_pos hc, hr]; simp [hk'])]
    · rw [if_neg hr, if_neg hr]
  · by_cases hc2 : kd m < 12
    · rw [cg_arr rfl (by omega) hc2, cg_arr rfl (by omega) hc2]
    · rw [cg_ref rfl (by omega), cg_ref rfl (by omega)]
      have e : rfg E n un m = rfg E n (t :: un) m := by
        funext j
        unfold rfg
        by_cases hj : j < ln m
        · rw [key j (by unfold rr; rw [if_neg hc]; simp [hj]; omega)]
        · simp [hj]
      rw [e]
theorem link_obj {a k t ci : Nat} (hn : n ≤ 307) (ha : a < n) (hk : kd a = ci) (h : ci < 10) (hkn : k < nf ci) (hr : isR ci k = true) (ht : rf a k = t) (htn : t < n) (htu : t ∉ un) : cellg E σ n un a = .inr (ci, ((List.range (nf ci)).map (fvg E σ n (t :: un) a)).set k (.ref (eB E + t))) := by
  rw [cg_obj hk h]
  congr 2
  have hrr : rr a k = true := by unfold rr; rw [hk, if_pos h, hr]; simp [hkn]
  apply List.ext_getElem?
  intro j
  rw [List.getElem?_set, List.getElem?_map, List.length_map, List.length_range]
  by_cases hj : k = j
  · subst hj
    rw [if_pos rfl, if_pos hkn, List.getElem?_range hkn]
    have e : lk n un t = true := lk_iff.mpr ⟨htn, htu⟩
    simp [fvg, hk, hr, ht, e]
  · rw [if_neg hj, List.getElem?_map]
    rcases Nat.lt_or_ge j (nf ci) with q | q
    · rw [List.getElem?_range q]
      simp only [Option.map_some]
      congr 1
      unfold fvg
      by_cases hr2 : isR (kd a) j = true
      · rw [if_pos hr2, if_pos hr2, fv_link (by omega) (by omega) hrr (by unfold rr; rw [if_pos (by omega), hr2]; simp [hk, q]) ht (fun z => hj z.2.symm)]
      · rw [if_neg hr2, if_neg hr2]
    · rw [List.getElem?_eq_none (by rw [List.length_range]; exact q)]
      rfl
theorem link_arr {a k t : Nat} (hn : n ≤ 307) (ha : a < n) (hk : 12 ≤ kd a) (hkn : k < ln a) (ht : rf a k = t) (htn : t < n) (htu : t ∉ un) : rfg E n un a = va_up (rfg E n (t :: un) a) k (some (eB E + t)) := by
  have hrr : rr a k = true := by unfold rr; rw [if_neg (by omega)]; simp [hk, hkn]
  funext j
  unfold va_up rfg
  by_cases hj : j = k
  · subst hj
    have e : lk n un t = true := lk_iff.mpr ⟨htn, htu⟩
    rw [if_pos rfl, ht, e]
    simp [hkn]
  · rw [if_neg hj]
    by_cases hl : j < ln a
    · rw [fv_link (n := n) (un := un) (by omega) (by omega) hrr (by unfold rr; rw [if_neg (by omega)]; simp [hk, hl]) ht (fun z => hj z.2)]
    · simp [hl]
theorem cg_ne {a k b : Nat} {x : Int32} (h : b ≠ a) : cellg E (up2 σ a k x) n un b = cellg E σ n un b := by
  have e : fvg E (up2 σ a k x) n un b = fvg E σ n un b := by funext j; unfold fvg; rw [up2_ne h]
  unfold cellg
  rw [e, up2_ne h]
theorem cg_put {a ci k : Nat} {x : Int32} (hn : kd a = ci) (h : ci < 10) (hk : k < nf ci) (hr : isR ci k = false) : cellg E (up2 σ a k x) n un a = .inr (ci, ((List.range (nf ci)).map (fvg E σ n un a)).set k (.int x)) := by
  rw [cg_obj hn h]
  congr 2
  apply List.ext_getElem?
  intro j
  rw [List.getElem?_set, List.getElem?_map, List.length_map, List.length_range]
  by_cases hj : k = j
  · subst hj
    rw [if_pos rfl, if_pos hk, List.getElem?_range hk]
    simp [fvg, hn, hr, up2_at]
  · rw [if_neg hj, List.getElem?_map]
    rcases Nat.lt_or_ge j (nf ci) with q | q
    · rw [List.getElem?_range q]
      simp [fvg, up2_k (fun e => hj (Eq.symm e))]
    · rw [List.getElem?_eq_none (by rw [List.length_range]; exact q)]
      rfl
end GW
def GI (n0 n : Nat) (σ : Sg) : Prop := n0 ≤ n ∧ n ≤ 307 ∧ ∀ i, n ≤ i → ∀ k, σ i k = 0

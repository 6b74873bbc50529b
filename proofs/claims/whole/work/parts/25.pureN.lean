theorem WE.cg {A B : Vec} (h : WE A) (e : ∀ k, k < 25 → k ≠ 4 → B k = A k) : WE B := by
  obtain ⟨a1, a2, a3, a4, a5, a6, a7, a8, a9⟩ := h
  unfold WE
  rw [e 0 (by omega) (by omega), e 5 (by omega) (by omega), e 2 (by omega) (by omega), e 3 (by omega) (by omega)]
  refine ⟨a1, a2, a3, a4, a5, a6, a7, a8, fun g hg => ?_⟩
  rw [e (7 + 3 * g) (by omega) (by omega), e (8 + 3 * g) (by omega) (by omega), e (9 + 3 * g) (by omega) (by omega)]
  exact a9 g hg
theorem WE.setP {A : Vec} {m : Nat} {q : Pn} (h : WE A) : WE (setP A m q) := h.cg (fun k hk _ => setP_lo hk)
theorem thr_setP {A : Vec} {m g gi s : Nat} {q : Pn} (hg : g < 6) : thr (setP A m q) g gi s = thr A g gi s := thr_cg (fun k hk _ => setP_lo hk) hg
theorem fre_cg {A B : Vec} {g s : Nat} (h : ∀ k, k < 25 → k ≠ 4 → A k = B k) (hg : g < 6) : fre A g s = fre B g s := by
  unfold fre
  rw [h 5 (by omega) (by omega), h (7 + 3 * g) (by omega) (by omega)]
theorem crossP_cg {A B : Vec} {q : Pn} (h : ∀ k, k < 25 → k ≠ 4 → A k = B k) (hg : q.1 < 6) : crossP A q = crossP B q := by
  unfold crossP
  rw [thr_cg h hg]
theorem walkP_cg {A B : Vec} {q : Pn} (h : ∀ k, k < 25 → k ≠ 4 → A k = B k) : walkP A q = walkP B q := by
  unfold walkP
  rw [h 0 (by omega) (by omega)]
theorem eatP_cg {A B : Vec} {q : Pn} (h : ∀ k, k < 25 → k ≠ 4 → A k = B k) (hg : q.1 < 6) : eatP A q = eatP B q := by
  unfold eatP
  rw [fre_cg h hg, h 2 (by omega) (by omega), h 3 (by omega) (by omega)]
theorem fedP_cg {A B : Vec} {q : Pn} (h : ∀ k, k < 25 → k ≠ 4 → A k = B k) (hg : q.1 < 6) : fedP A q = fedP B q := by
  unfold fedP
  rw [fre_cg h hg, h 3 (by omega) (by omega)]
theorem goP_cg {A B : Vec} {st : Nat} {q : Pn} (h : ∀ k, k < 25 → k ≠ 4 → A k = B k) (hB : WE B) (hq : WP B q) : goP A st q = goP B st q := by
  have h6 := hB.2.1
  have e : (if q.2.1 = 0 then q else crossP A q) = (if q.2.1 = 0 then q else crossP B q) := by rw [crossP_cg h (by have := hq.1; omega)]
  unfold goP
  rw [e, walkP_cg h]
  have hw : WP B (walkP B (if q.2.1 = 0 then q else crossP B q)) := by
    split
    · exact hq.walk hB.1
    · exact hq.cross.walk hB.1
  rw [crossP_cg h (by have := hw.1; omega)]
theorem dayPn_cg {A B : Vec} {st : Nat} {q : Pn} (h : ∀ k, k < 25 → k ≠ 4 → A k = B k) (hB : WE B) (hq : WP B q) : dayPn A st q = dayPn B st q := by
  have hg := hq.go (st := st) hB.1
  have h6 := hB.2.1
  unfold dayPn
  rw [goP_cg h hB hq, eatP_cg h (by have := hg.1; omega)]
theorem eatsP_cg {A B : Vec} {st : Nat} {q : Pn} (h : ∀ k, k < 25 → k ≠ 4 → A k = B k) (hB : WE B) (hq : WP B q) : eatsP A st q = eatsP B st q := by
  have hg := hq.go (st := st) hB.1
  have h6 := hB.2.1
  unfold eatsP
  rw [goP_cg h hB hq, fedP_cg h (by have := hg.1; omega)]
/-- a day, p people on, in the reference -/
def dayW (A : Vec) (p : Nat) : Vec := fun k => if 25 ≤ k ∧ k < 25 + 6 * p then pget (dayPn A (bitN (A 6) ((k - 25) / 6)) (pn A ((k - 25) / 6))) ((k - 25) % 6) else A k
theorem dayW_lo {A : Vec} {p k : Nat} (h : k < 25) : dayW A p k = A k := if_neg (by omega)
theorem dayW_hi {A : Vec} {p k : Nat} (h : 25 + 6 * p ≤ k) : dayW A p k = A k := if_neg (by omega)
theorem dayW_pn {A : Vec} {p : Nat} : pn (dayW A p) p = pn A p := by
  unfold pn
  rw [dayW_hi (by omega), dayW_hi (by omega), dayW_hi (by omega), dayW_hi (by omega), dayW_hi (by omega), dayW_hi (by omega)]
theorem dayW_0 {A : Vec} : dayW A 0 = A := by funext k; exact if_neg (by omega)
theorem dayW_step {A : Vec} {p : Nat} : setP (dayW A p) p (dayPn A (bitN (A 6) p) (pn A p)) = dayW A (p + 1) := by
  have e : ∀ i, i < 6 → dayW A (p + 1) (25 + i + 6 * p) = pget (dayPn A (bitN (A 6) p) (pn A p)) i := by
    intro i hi
    unfold dayW
    rw [if_pos ⟨by omega, by omega⟩, show (25 + i + 6 * p - 25) / 6 = p by omega, show (25 + i + 6 * p - 25) % 6 = i by omega]
  funext k
  by_cases h : 25 + 6 * p ≤ k ∧ k < 31 + 6 * p
  · obtain ⟨i, hi, rfl⟩ : ∃ i, i < 6 ∧ k = 25 + i + 6 * p := ⟨k - 25 - 6 * p, by omega, by omega⟩
    rw [e i hi]
    rcases (show i = 0 ∨ i = 1 ∨ i = 2 ∨ i = 3 ∨ i = 4 ∨ i = 5 by omega) with rfl | rfl | rfl | rfl | rfl | rfl
    · exact setP_0
    · exact setP_1
    · exact setP_2
    · exact setP_3
    · exact setP_4
    · exact setP_5
  · unfold setP
    rw [if_neg (by omega), if_neg (by omega), if_neg (by omega), if_neg (by omega), if_neg (by omega), if_neg (by omega)]
    unfold dayW
    by_cases h2 : 25 ≤ k ∧ k < 25 + 6 * p
    · rw [if_pos h2, if_pos (by omega)]
    · rw [if_neg h2, if_neg (by omega)]
theorem dayW_end {A : Vec} : updN (dayW A (A 1)) 4 (A 4 + 1) = dayV A := by
  funext k
  unfold updN dayW dayV
  by_cases h4 : k = 4
  · rw [if_pos h4, if_neg (by omega), if_pos h4]
  · rw [if_neg h4]
    split
    · rfl
    · rfl

def xfall (A : Vec) (s : Nat) : Vec := fun k => if k = 5 then A 5 ^^^ s else A k
theorem xfall_5 {A : Vec} {s : Nat} : xfall A s 5 = A 5 ^^^ s := if_pos rfl
theorem xfall_lo {A : Vec} {s k : Nat} (h : k ≠ 5) : xfall A s k = A k := if_neg h
theorem xor2 {a b G : Nat} (ha : a < 2 ^ G) (hb : b < 2 ^ G) : a ^^^ b < 2 ^ G := Nat.xor_lt_two_pow ha hb
theorem xfall_WE {A : Vec} {s : Nat} (h : WE A) (hs : s < 2 ^ A 0) : WE (xfall A s) := by
  obtain ⟨a1, a2, a3, a4, a5, a6, a7, a8, a9⟩ := h
  have h6 := pow6 a2
  have ho : A 5 ^^^ s < 2 ^ A 0 := xor2 a4 hs
  unfold WE
  rw [xfall_lo (k := 0) (by omega), xfall_lo (k := 2) (by omega), xfall_lo (k := 3) (by omega), show xfall A s 5 = A 5 ^^^ s from if_pos rfl]
  refine ⟨a1, a2, by omega, ho, a5, a6, a7, a8, fun j hj => ?_⟩
  rw [xfall_lo (k := 7 + 3 * j) (by omega), xfall_lo (k := 8 + 3 * j) (by omega), xfall_lo (k := 9 + 3 * j) (by omega)]
  exact a9 j hj
theorem EnvC.xfall {τ : Sg} {n s : Nat} {A : Vec} (h : EnvC τ n A) : EnvC (up2 τ n 6 (nI (A 5 ^^^ s))) n (xfall A s) := by
  obtain ⟨x0, x1, x2, x3, x4, x6, ⟨F', hF', x5, hFb⟩, xgs⟩ := h
  unfold EnvC
  rw [xfall_lo (k := 0) (by omega), xfall_lo (k := 1) (by omega), xfall_lo (k := 2) (by omega), xfall_lo (k := 3) (by omega), xfall_lo (k := 4) (by omega), xfall_5]
  refine ⟨by simp [up2, x0], by simp [up2, x1], by simp [up2, x2], by simp [up2, x3], by simp [up2, x4], by simp [up2], ⟨F', hF', by simp [up2, x5], fun g hg => ?_⟩, fun g hg => ?_⟩
  · rw [xfall_lo (by omega)]
    exact hFb g hg
  · rw [xfall_lo (by omega), xfall_lo (by omega), up2_ne (by omega), up2_ne (by omega)]
    exact xgs g hg
/-- persons and counts are the same -/
theorem RepC.chg {τ : Sg} {A B : Vec} {n k : Nat} {x : Int32} (h5 : A 1 ≤ 5) (h : RepC τ n A) (hE : EnvC (up2 τ n k x) n B) (h1 : B 1 = A 1) (h6 : B 6 = A 6) (hp : ∀ m, m < A 1 → pn B m = pn A m) : RepC (up2 τ n k x) n B := by
  refine ⟨hE, fun p hp2 => ?_⟩
  rw [h1] at hp2
  rw [hp p hp2, h6, up2_ne (by omega)]
  exact ⟨(h.2 p hp2).1.cg (fun j _ => by rw [up2_ne (by omega)]), (h.2 p hp2).2⟩
theorem pn_turn {A : Vec} {s m : Nat} : pn (turnV A s) m = pn A m := by
  unfold pn
  rw [turnV_hi (by omega), turnV_hi (by omega), turnV_hi (by omega), turnV_hi (by omega), turnV_hi (by omega), turnV_hi (by omega)]
theorem pn_xfall {A : Vec} {s m : Nat} : pn (xfall A s) m = pn A m := by
  unfold pn
  rw [xfall_lo (by omega), xfall_lo (by omega), xfall_lo (by omega), xfall_lo (by omega), xfall_lo (by omega), xfall_lo (by omega)]
theorem WF.chg {A B : Vec} (h : WF A) (hE : WE B) (h0 : B 0 = A 0) (h1 : B 1 = A 1) (h6 : B 6 = A 6) (hp : ∀ m, m < A 1 → pn B m = pn A m) : WF B := by
  obtain ⟨a1, a2, a3, a4, a5, a6⟩ := h
  refine ⟨hE, by omega, by omega, by omega, by rw [h6, h1]; exact a5, fun p hp2 => ?_⟩
  rw [hp p (by omega)]
  exact (a6 p (by omega)).env h0
theorem WF.turn {A : Vec} {s : Nat} (h : WF A) : WF (turnV A s) := h.chg (turnV_WE h.1) (turnV_lo (by omega)) (turnV_lo (by omega)) (turnV_lo (by omega)) (fun _ _ => pn_turn)
theorem WF.xfall {A : Vec} {s : Nat} (h : WF A) (hs : s < 2 ^ A 0) : WF (xfall A s) := h.chg (xfall_WE h.1 hs) (xfall_lo (by omega)) (xfall_lo (by omega)) (xfall_lo (by omega)) (fun _ _ => pn_xfall)
/-- a year's day by a draw -/
def nxD (x : Nat) : Nat := x * 16807 % 2147483647
theorem nxD_lt (x : Nat) : nxD x < 2147483647 := Nat.mod_lt (x * 16807) (Nat.zero_lt_succ _)
def yrV (B : Vec) (y : Nat) : Vec := if y % 3 = 0 then turnV B (2 ^ (y % B 0)) else if y % 5 = 0 then xfall B (2 ^ (y % B 0)) else B
def yrs (A : Vec) (x : Nat) : Nat → Vec × Nat
  | 0 => (A, x)
  | k + 1 => (dayV (yrV (yrs A x k).1 (nxD (yrs A x k).2)), nxD (yrs A x k).2)
theorem WF.yr {B : Vec} {y : Nat} (h : WF B) : WF (yrV B y) := by
  have h0 := h.1.1
  have hm : y % B 0 < B 0 := Nat.mod_lt _ (by omega)
  have hp := pow_le6 hm
  have hp2 := Nat.two_pow_pos (y % B 0)
  unfold yrV
  split
  · exact h.turn
  · split
    · exact h.xfall (by omega)
    · exact h
theorem yrV_0 {B : Vec} {y : Nat} : yrV B y 0 = B 0 ∧ yrV B y 1 = B 1 := by
  unfold yrV
  split
  · exact ⟨turnV_lo (by omega), turnV_lo (by omega)⟩
  · split
    · exact ⟨xfall_lo (by omega), xfall_lo (by omega)⟩
    · exact ⟨rfl, rfl⟩
theorem yrs_ok {A : Vec} {x : Nat} (h : WF A) (hx : x < 2147483647) : ∀ k, WF (yrs A x k).1 ∧ (yrs A x k).2 < 2147483647 ∧ (yrs A x k).1 0 = A 0 ∧ (yrs A x k).1 1 = A 1
  | 0 => ⟨h, hx, rfl, rfl⟩
  | k + 1 => by
    obtain ⟨h1, h2, h3, h4⟩ := yrs_ok h hx k
    refine ⟨h1.yr.day, nxD_lt _, ?_, ?_⟩
    · show dayV (yrV (yrs A x k).1 (nxD (yrs A x k).2)) 0 = A 0
      rw [dayV_lo (by omega) (by omega), yrV_0.1, h3]
    · show dayV (yrV (yrs A x k).1 (nxD (yrs A x k).2)) 1 = A 1
      rw [dayV_lo (by omega) (by omega), yrV_0.2, h4]
theorem FdS.b {lo hi : Nat} {σ τ : Sg} {n : Nat} (h : FdS σ τ n) (h1 : lo ≤ n) (h2 : n + 9 ≤ hi) : Fb lo hi σ τ := fun a k hk => h a k (by omega) (by omega)


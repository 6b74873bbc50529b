/-! the class's hours: of each place its hours and its first move; the places in the order in which they were reached, how many, the farthest hour -/
abbrev PS : Type := (Nat → Option Nat) × (Nat → Option Nat) × (Nat → Nat) × Nat × Nat
def ffO (o : Option Nat) (m : Nat) : Nat := match o with
  | none => m
  | some a => a
def fmn (o : Option Nat) (f : Nat) : Option Nat := match o with
  | none => none
  | some a => some (min a f)
def rch (S : PS) (Q h f : Nat) : PS := match S.1 Q with
  | none => (updO S.1 Q (some h), updO S.2.1 Q (some f), updN S.2.2.1 S.2.2.2.1 Q, S.2.2.2.1 + 1, max S.2.2.2.2 h)
  | some x => if h < x then (updO S.1 Q (some h), updO S.2.1 Q (some f), S.2.2.1, S.2.2.2.1, max S.2.2.2.2 h) else if h = x then (S.1, updO S.2.1 Q (fmn (S.2.1 Q) f), S.2.2) else S
theorem rch_n {S : PS} {Q h f : Nat} (hq : S.1 Q = none) : rch S Q h f = (updO S.1 Q (some h), updO S.2.1 Q (some f), updN S.2.2.1 S.2.2.2.1 Q, S.2.2.2.1 + 1, max S.2.2.2.2 h) := by unfold rch; rw [hq]
theorem rch_l {S : PS} {Q h f x : Nat} (hq : S.1 Q = some x) (hx : h < x) : rch S Q h f = (updO S.1 Q (some h), updO S.2.1 Q (some f), S.2.2.1, S.2.2.2.1, max S.2.2.2.2 h) := by unfold rch; rw [hq]; exact if_pos hx
theorem rch_e {S : PS} {Q h f x : Nat} (hq : S.1 Q = some x) (hx : h = x) : rch S Q h f = (S.1, updO S.2.1 Q (fmn (S.2.1 Q) f), S.2.2) := by unfold rch; rw [hq]; exact (if_neg (by omega)).trans (if_pos hx)
theorem rch_g {S : PS} {Q h f x : Nat} (hq : S.1 Q = some x) (hx : x < h) : rch S Q h f = S := by unfold rch; rw [hq]; exact (if_neg (by omega)).trans (if_neg (by omega))
def PI (A : Vec) (P0 : Nat) (S : PS) : Prop := (∀ P h, S.1 P = some h → h ≤ S.2.2.2.2 ∧ P < 128 * A 0) ∧ (S.2.2.2.2 + 9 ≤ 9 * S.2.2.2.1) ∧ (S.2.2.2.1 = mC S.1) ∧ (∀ P a, S.2.1 P = some a → a < 3) ∧ (∀ P h, S.1 P = some h → ∃ i, i < S.2.2.2.1 ∧ S.2.2.1 i = P) ∧ (∀ i, i < S.2.2.2.1 → ∃ h, S.1 (S.2.2.1 i) = some h) ∧ (S.1 P0 = some 0 ∧ S.2.1 P0 = none) ∧ (∀ P h, S.1 P = some h → P ≠ P0 → (1 ≤ h ∧ ∃ a R k g, S.2.1 P = some a ∧ nxt A P0 a = some R ∧ pth A k R P g ∧ h = cst A P0 a + g))
theorem PI.n7 {A : Vec} {P0 : Nat} {S : PS} (h : PI A P0 S) : S.2.2.2.1 ≤ 768 := by rw [h.2.2.1]; exact mC_le _
theorem PI.rch {A : Vec} {P0 Q h f R0 k0 g0 : Nat} {S : PS} (hI : PI A P0 S) (h6 : A 0 ≤ 6) (hQ : Q < 128 * A 0) (h1 : 1 ≤ h) (h9 : h ≤ S.2.2.2.2 + 9) (hf : f < 3) (p1 : nxt A P0 f = some R0) (p2 : pth A k0 R0 Q g0) (p3 : h = cst A P0 f + g0) : PI A P0 (rch S Q h f) := by
  obtain ⟨i1, i2, i3, i4, i5, i6, ⟨i7, i7b⟩, i8⟩ := hI
  rcases hq : S.1 Q with _ | x
  · have hne : P0 ≠ Q := fun e => by rw [e, hq] at i7; cases i7
    rw [rch_n hq]
    have hm := mC_up (H := S.1) (P := Q) (v := h) (by omega)
    rw [hq] at hm
    have hm' : mC (updO S.1 Q (some h)) + 0 = mC S.1 + 1 := hm
    refine ⟨fun P g hg => ?_, ?_, ?_, fun P a ha => ?_, fun P g hg => ?_, fun i hi => ?_, ⟨?_, ?_⟩, fun P g hg hP => ?_⟩
    · dsimp only at hg ⊢
      by_cases e : P = Q
      · rw [e, updO_at] at hg
        have := Option.some.inj hg
        rw [e]
        omega
      · rw [updO_ne e] at hg
        have := i1 P g hg
        omega
    · dsimp only; omega
    · dsimp only; omega
    · dsimp only at ha
      by_cases e : P = Q
      · rw [e, updO_at] at ha
        have := Option.some.inj ha
        omega
      · rw [updO_ne e] at ha
        exact i4 P a ha
    · dsimp only at hg ⊢
      by_cases e : P = Q
      · exact ⟨S.2.2.2.1, by omega, by rw [e]; exact if_pos rfl⟩
      · rw [updO_ne e] at hg
        obtain ⟨i, a, b⟩ := i5 P g hg
        exact ⟨i, by omega, (if_neg (by omega)).trans b⟩
    · dsimp only at hi ⊢
      by_cases e : i = S.2.2.2.1
      · rw [show updN S.2.2.1 S.2.2.2.1 Q i = Q from if_pos e]
        exact ⟨h, updO_at⟩
      · rw [show updN S.2.2.1 S.2.2.2.1 Q i = S.2.2.1 i from if_neg e]
        by_cases e2 : S.2.2.1 i = Q
        · rw [e2]; exact ⟨h, updO_at⟩
        · rw [updO_ne e2]; exact i6 i (by omega)
    · dsimp only; rw [updO_ne hne]; exact i7
    · dsimp only; rw [updO_ne hne]; exact i7b
    · dsimp only at hg ⊢
      by_cases e : P = Q
      · rw [e, updO_at] at hg
        have e2 := Option.some.inj hg
        rw [e, updO_at, ← e2]
        exact ⟨h1, f, R0, k0, g0, rfl, p1, p2, p3⟩
      · rw [updO_ne e] at hg
        rw [updO_ne e]
        exact i8 P g hg hP
  · rcases Nat.lt_trichotomy h x with hx | hx | hx
    · have hne : P0 ≠ Q := fun e => by
        rw [e, hq] at i7
        have := Option.some.inj i7
        omega
      rw [rch_l hq hx]
      have hm := mC_up (H := S.1) (P := Q) (v := h) (by omega)
      rw [hq] at hm
      have hm' : mC (updO S.1 Q (some h)) + 1 = mC S.1 + 1 := hm
      have hxf := i1 Q x hq
      refine ⟨fun P g hg => ?_, ?_, ?_, fun P a ha => ?_, fun P g hg => ?_, fun i hi => ?_, ⟨?_, ?_⟩, fun P g hg hP => ?_⟩
      · dsimp only at hg ⊢
        by_cases e : P = Q
        · rw [e, updO_at] at hg
          have := Option.some.inj hg
          rw [e]
          omega
        · rw [updO_ne e] at hg
          have := i1 P g hg
          omega
      · dsimp only; omega
      · dsimp only; omega
      · dsimp only at ha
        by_cases e : P = Q
        · rw [e, updO_at] at ha
          have := Option.some.inj ha
          omega
        · rw [updO_ne e] at ha
          exact i4 P a ha
      · dsimp only at hg ⊢
        by_cases e : P = Q
        · rw [e]; exact i5 Q x hq
        · rw [updO_ne e] at hg
          exact i5 P g hg
      · dsimp only at hi ⊢
        by_cases e2 : S.2.2.1 i = Q
        · rw [e2]; exact ⟨h, updO_at⟩
        · rw [updO_ne e2]; exact i6 i hi
      · dsimp only; rw [updO_ne hne]; exact i7
      · dsimp only; rw [updO_ne hne]; exact i7b
      · dsimp only at hg ⊢
        by_cases e : P = Q
        · rw [e, updO_at] at hg
          have e2 := Option.some.inj hg
          rw [e, updO_at, ← e2]
          exact ⟨h1, f, R0, k0, g0, rfl, p1, p2, p3⟩
        · rw [updO_ne e] at hg
          rw [updO_ne e]
          exact i8 P g hg hP
    · have hne : Q ≠ P0 := fun e => by
        rw [← e, hq] at i7
        have := Option.some.inj i7
        omega
      rw [rch_e hq hx]
      obtain ⟨j1, a, R, k, g, j2, j3, j4, j5⟩ := i8 Q x hq hne
      have hfa : fmn (S.2.1 Q) f = some (min a f) := by rw [j2]; rfl
      refine ⟨i1, i2, i3, fun P b hb => ?_, i5, i6, ⟨i7, ?_⟩, fun P y hy hP => ?_⟩
      · dsimp only at hb
        by_cases e : P = Q
        · rw [e, updO_at, hfa] at hb
          have := Option.some.inj hb
          omega
        · rw [updO_ne e] at hb
          exact i4 P b hb
      · dsimp only; rw [updO_ne (fun e => hne e.symm)]; exact i7b
      · dsimp only at hy ⊢
        by_cases e : P = Q
        · rw [e] at hy ⊢
          rw [updO_at, hfa]
          rw [hq] at hy
          have e2 := Option.some.inj hy
          refine ⟨by omega, ?_⟩
          rcases Nat.lt_or_ge f a with q | q
          · exact ⟨f, R0, k0, g0, congrArg some (by omega), p1, p2, by omega⟩
          · exact ⟨a, R, k, g, congrArg some (by omega), j3, j4, by omega⟩
        · rw [updO_ne e]
          exact i8 P y hy hP
    · rw [rch_g hq hx]
      exact ⟨i1, i2, i3, i4, i5, i6, ⟨i7, i7b⟩, i8⟩
/-! what later calls leave -/
def lef (o p : Option Nat) : Prop := o = p ∨ ∃ a b, o = some a ∧ p = some b ∧ a ≤ b
theorem lef.tr {o p q : Option Nat} (h1 : lef o p) (h2 : lef p q) : lef o q := by
  rcases h1 with rfl | ⟨a, b, e1, e2, e3⟩
  · exact h2
  · rcases h2 with rfl | ⟨c, d, e4, e5, e6⟩
    · exact Or.inr ⟨a, b, e1, e2, e3⟩
    · rw [e2] at e4
      have := Option.some.inj e4
      exact Or.inr ⟨a, d, e1, e5, by omega⟩
def Mn (H : Nat) (S T : PS) : Prop := (∀ P x, S.1 P = some x → ∃ y, T.1 P = some y ∧ y ≤ x ∧ (y = x → lef (T.2.1 P) (S.2.1 P)) ∧ (x ≤ H → y = x ∧ T.2.1 P = S.2.1 P)) ∧ (∀ P y, T.1 P = some y → y ≤ H → S.1 P = some y) ∧ (∀ i, i < S.2.2.2.1 → T.2.2.1 i = S.2.2.1 i) ∧ S.2.2.2.1 ≤ T.2.2.2.1
theorem Mn.rf {H : Nat} {S : PS} : Mn H S S := ⟨fun P x hx => ⟨x, hx, Nat.le_refl _, fun _ => Or.inl rfl, fun _ => ⟨rfl, rfl⟩⟩, fun P y hy _ => hy, fun _ _ => rfl, Nat.le_refl _⟩
theorem Mn.tr {H : Nat} {S T U : PS} (h1 : Mn H S T) (h2 : Mn H T U) : Mn H S U := by
  obtain ⟨a1, a2, a3, a4⟩ := h1
  obtain ⟨b1, b2, b3, b4⟩ := h2
  refine ⟨fun P x hx => ?_, fun P y hy hH => a2 P y (b2 P y hy hH) hH, fun i hi => (b3 i (by omega)).trans (a3 i hi), Nat.le_trans a4 b4⟩
  obtain ⟨y, c1, c2, c3, c4⟩ := a1 P x hx
  obtain ⟨z, d1, d2, d3, d4⟩ := b1 P y c1
  refine ⟨z, d1, by omega, fun e => (d3 (by omega)).tr (c3 (by omega)), fun hH => ?_⟩
  obtain ⟨e1, e2⟩ := c4 hH
  obtain ⟨f1, f2⟩ := d4 (by omega)
  exact ⟨by omega, f2.trans e2⟩
theorem fmn_lef {o : Option Nat} {f : Nat} : lef (fmn o f) o := by
  cases o with
  | none => exact Or.inl rfl
  | some a => exact Or.inr ⟨min a f, a, rfl, rfl, Nat.min_le_left _ _⟩
theorem Mn.rch {H Q h f : Nat} {S : PS} (hH : H < h) : Mn H S (rch S Q h f) := by
  rcases hq : S.1 Q with _ | x
  · rw [rch_n hq]
    refine ⟨fun P y hy => ?_, fun P y hy hl => ?_, fun i hi => if_neg (by omega), Nat.le_succ _⟩
    · have e : P ≠ Q := fun e => by rw [e, hq] at hy; cases hy
      dsimp only
      rw [updO_ne e, updO_ne e]
      exact ⟨y, hy, Nat.le_refl _, fun _ => Or.inl rfl, fun _ => ⟨rfl, rfl⟩⟩
    · dsimp only at hy
      by_cases e : P = Q
      · rw [e, updO_at] at hy
        have := Option.some.inj hy
        omega
      · rw [updO_ne e] at hy
        exact hy
  · rcases Nat.lt_trichotomy h x with hx | hx | hx
    · rw [rch_l hq hx]
      refine ⟨fun P y hy => ?_, fun P y hy hl => ?_, fun i hi => rfl, Nat.le_refl _⟩
      · dsimp only
        by_cases e : P = Q
        · rw [e, hq] at hy
          have hyx := Option.some.inj hy
          rw [e, updO_at, updO_at]
          exact ⟨h, rfl, by omega, fun z => by omega, fun z => by omega⟩
        · rw [updO_ne e, updO_ne e]
          exact ⟨y, hy, Nat.le_refl _, fun _ => Or.inl rfl, fun _ => ⟨rfl, rfl⟩⟩
      · dsimp only at hy
        by_cases e : P = Q
        · rw [e, updO_at] at hy
          have := Option.some.inj hy
          omega
        · rw [updO_ne e] at hy
          exact hy
    · rw [rch_e hq hx]
      refine ⟨fun P y hy => ?_, fun P y hy hl => hy, fun i hi => rfl, Nat.le_refl _⟩
      dsimp only
      by_cases e : P = Q
      · rw [e] at hy ⊢
        rw [hq] at hy
        have hyx := Option.some.inj hy
        rw [updO_at]
        exact ⟨x, hq, by omega, fun _ => fmn_lef, fun z => by omega⟩
      · rw [updO_ne e]
        exact ⟨y, hy, Nat.le_refl _, fun _ => Or.inl rfl, fun _ => ⟨rfl, rfl⟩⟩
    · rw [rch_g hq hx]
      exact Mn.rf
/-! a place gone on from -/
def EX1 (A : Vec) (S : PS) (R m : Nat) : Prop := ∀ Q h, nxt A R m = some Q → S.1 R = some h → ∃ y, S.1 Q = some y ∧ y ≤ h + cst A R m ∧ (y = h + cst A R m → ∃ a, S.2.1 Q = some a ∧ a ≤ ffO (S.2.1 R) m)
def EXP (A : Vec) (S : PS) (R : Nat) : Prop := ∀ m, m < 3 → EX1 A S R m
theorem EX1.mono {A : Vec} {H R m x : Nat} {S T : PS} (hM : Mn H S T) (hR : S.1 R = some x) (hx : x ≤ H) (h : EX1 A S R m) : EX1 A T R m := by
  intro Q g hn hg
  obtain ⟨y, a1, a2, a3, a4⟩ := hM.1 R x hR
  obtain ⟨b1, b2⟩ := a4 hx
  rw [a1] at hg
  have e := Option.some.inj hg
  obtain ⟨z, c1, c2, c3⟩ := h Q x hn hR
  obtain ⟨u, d1, d2, d3, d4⟩ := hM.1 Q z c1
  refine ⟨u, d1, by omega, fun q => ?_⟩
  obtain ⟨a, f1, f2⟩ := c3 (by omega)
  rw [b2]
  rcases d3 (by omega) with g1 | ⟨p, q2, g1, g2, g3⟩
  · exact ⟨a, g1.trans f1, f2⟩
  · rw [f1] at g2
    have := Option.some.inj g2
    exact ⟨p, g1, by omega⟩
theorem EXP.mono {A : Vec} {H R x : Nat} {S T : PS} (hM : Mn H S T) (hR : S.1 R = some x) (hx : x ≤ H) (h : EXP A S R) : EXP A T R := fun m hm => (h m hm).mono hM hR hx
theorem EX1.rch {A : Vec} {P0 H R m Q : Nat} {S : PS} (hI : PI A P0 S) (hA : WE A) (hR : S.1 R = some H) (hn : nxt A R m = some Q) : EX1 A (rch S Q (H + cst A R m) (ffO (S.2.1 R) m)) R m := by
  have hc := cst_1 hA (hI.1 R H hR).2 hn
  obtain ⟨r, r1, r2, r3, r4⟩ := (Mn.rch (H := H) (Q := Q) (h := H + cst A R m) (f := ffO (S.2.1 R) m) (S := S) (by omega)).1 R H hR
  obtain ⟨r5, r6⟩ := r4 (Nat.le_refl _)
  intro Q2 g hn2 hg
  rw [hn] at hn2
  obtain rfl := Option.some.inj hn2
  rw [r1] at hg
  have eg := Option.some.inj hg
  rw [r6]
  rcases hq : S.1 Q with _ | x
  · rw [rch_n hq]
    exact ⟨H + cst A R m, updO_at, by omega, fun _ => ⟨_, updO_at, Nat.le_refl _⟩⟩
  · rcases Nat.lt_trichotomy (H + cst A R m) x with hx | hx | hx
    · rw [rch_l hq hx]
      exact ⟨H + cst A R m, updO_at, by omega, fun _ => ⟨_, updO_at, Nat.le_refl _⟩⟩
    · have hne : Q ≠ P0 := fun e => by
        have := hI.2.2.2.2.2.2.1.1
        rw [← e, hq] at this
        have := Option.some.inj this
        omega
      obtain ⟨j1, a, R', k, g', j2, j3, j4, j5⟩ := hI.2.2.2.2.2.2.2 Q x hq hne
      rw [rch_e hq hx]
      refine ⟨x, hq, by omega, fun _ => ⟨min a (ffO (S.2.1 R) m), ?_, Nat.min_le_right _ _⟩⟩
      dsimp only
      rw [updO_at, j2]
      rfl
    · rw [rch_g hq hx]
      exact ⟨x, hq, by omega, fun z => by omega⟩
theorem PI.pre {A : Vec} {P0 R H m Q : Nat} {S : PS} (hI : PI A P0 S) (hR : S.1 R = some H) (hm : m < 3) (hn : nxt A R m = some Q) : ffO (S.2.1 R) m < 3 ∧ ∃ R' k g, nxt A P0 (ffO (S.2.1 R) m) = some R' ∧ pth A k R' Q g ∧ H + cst A R m = cst A P0 (ffO (S.2.1 R) m) + g := by
  obtain ⟨i1, i2, i3, i4, i5, i6, ⟨i7, i7b⟩, i8⟩ := hI
  by_cases e : R = P0
  · rw [e] at hR hn ⊢
    rw [i7] at hR
    have := Option.some.inj hR
    rw [i7b]
    exact ⟨hm, Q, 0, 0, hn, ⟨rfl, rfl⟩, by show H + cst A P0 m = cst A P0 m + 0; omega⟩
  · obtain ⟨j1, a, R', k, g, j2, j3, j4, j5⟩ := i8 R H hR e
    rw [j2]
    exact ⟨i4 R a j2, R', k + 1, g + cst A R m, j3, pth_app k j4 hm hn, by show H + cst A R m = cst A P0 a + (g + cst A R m); omega⟩
/-! all hours before H are done -/
def DN (A : Vec) (s H : Nat) (S : PS) : Prop := ∀ R h, S.1 R = some h → h < H → ¬ R % 64 = s ∧ EXP A S R
theorem cl1 {A : Vec} {P0 s H : Nat} {S : PS} (hA : WE A) (hP0 : P0 < 128 * A 0) (hI : PI A P0 S) (hD : DN A s H S) : ∀ (k : Nat) {Q x : Nat}, pth A k P0 Q x → x ≤ H → ∃ h, S.1 Q = some h ∧ h ≤ x
  | 0, Q, x, hp, _ => ⟨0, by rw [← hp.1]; exact hI.2.2.2.2.2.2.1.1, Nat.zero_le _⟩
  | k + 1, Q, x, hp, hx => by
    obtain ⟨R, m, g, a1, a2, a3, a4⟩ := pth_snoc k hp
    have hc := cst_1 hA (pth_lt hA.2.1 k hP0 a2) a3
    obtain ⟨h, b1, b2⟩ := cl1 hA hP0 hI hD k a2 (by omega)
    obtain ⟨y, c1, c2, -⟩ := (hD R h b1 (by omega)).2 m a1 Q h a3 b1
    exact ⟨y, c1, by omega⟩
theorem cl2 {A : Vec} {P0 s H m0 R0 : Nat} {S : PS} (hA : WE A) (hP0 : P0 < 128 * A 0) (hI : PI A P0 S) (hD : DN A s H S) (hm0 : m0 < 3) (hn : nxt A P0 m0 = some R0) : ∀ (k : Nat) {Q x : Nat}, pth A k R0 Q x → cst A P0 m0 + x ≤ H → S.1 Q = some (cst A P0 m0 + x) → ∃ a, S.2.1 Q = some a ∧ a ≤ m0
  | 0, Q, x, hp, hx, hq => by
    have hc := cst_1 hA hP0 hn
    have h0 := hI.2.2.2.2.2.2.1
    obtain ⟨y, c1, c2, c3⟩ := (hD P0 0 h0.1 (by omega)).2 m0 hm0 R0 0 hn h0.1
    rw [hp.1] at c1 c3
    rw [hq] at c1
    have e := Option.some.inj c1
    have e2 := hp.2
    obtain ⟨a, d1, d2⟩ := c3 (by omega)
    rw [h0.2] at d2
    exact ⟨a, d1, d2⟩
  | k + 1, Q, x, hp, hx, hq => by
    obtain ⟨R, m, g, a1, a2, a3, a4⟩ := pth_snoc k hp
    have hR0 := nxt_lt hA.2.1 hP0 hn
    have hc := cst_1 hA (pth_lt hA.2.1 k hR0 a2) a3
    obtain ⟨h, b1, b2⟩ := cl1 hA hP0 hI hD (k + 1) (Q := R) (x := cst A P0 m0 + g) ⟨m0, R0, g, hm0, hn, a2, rfl⟩ (by omega)
    obtain ⟨y, c1, c2, c3⟩ := (hD R h b1 (by omega)).2 m a1 Q h a3 b1
    rw [hq] at c1
    have e := Option.some.inj c1
    have eh : h = cst A P0 m0 + g := by omega
    obtain ⟨a, d1, d2⟩ := cl2 hA hP0 hI hD hm0 hn k a2 (by omega) (by rw [b1, eh])
    obtain ⟨b, f1, f2⟩ := c3 (by omega)
    rw [d1] at f2
    have f3 : b ≤ a := f2
    exact ⟨b, f1, by omega⟩
theorem PI.path {A : Vec} {P0 P h : Nat} {S : PS} (hI : PI A P0 S) (hP : S.1 P = some h) : ∃ k, pth A k P0 P h := by
  by_cases e : P = P0
  · rw [e, hI.2.2.2.2.2.2.1.1] at hP
    exact ⟨0, e.symm, (Option.some.inj hP).symm⟩
  · obtain ⟨j1, a, R, k, g, j2, j3, j4, j5⟩ := hI.2.2.2.2.2.2.2 P h hP e
    exact ⟨k + 1, a, R, g, hI.2.2.2.1 P a j2, j3, j4, j5⟩
theorem LSq_cn {A : Vec} {P0 s w H : Nat} {S : PS} (hA : WE A) (hP0 : P0 < 128 * A 0) (hI : PI A P0 S) (hD : DN A s H S) (hf : S.2.2.2.2 < H) : LSq A P0 s w (-1000000) := by
  have all : ∀ (k : Nat) {Q x : Nat}, pth A k P0 Q x → ∃ h, S.1 Q = some h := by
    intro k
    induction k with
    | zero => intro Q x hp; exact ⟨0, by rw [← hp.1]; exact hI.2.2.2.2.2.2.1.1⟩
    | succ k ih =>
      intro Q x hp
      obtain ⟨R, m, g, a1, a2, a3, a4⟩ := pth_snoc k hp
      obtain ⟨h, b1⟩ := ih a2
      obtain ⟨y, c1, -, -⟩ := (hD R h b1 (by have := (hI.1 R h b1).1; omega)).2 m a1 Q h a3 b1
      exact ⟨y, c1⟩
  refine Or.inr ⟨fun g hg => ?_, rfl⟩
  obtain ⟨k, Q, h1, h2⟩ := hg
  obtain ⟨h, hh⟩ := all k h1
  exact (hD Q h hh (by have := (hI.1 Q h hh).1; omega)).1 h2
/-! the places of one hour, one after another -/
def ole (g o : Option Nat) : Prop := g = none ∨ ∃ a c, g = some a ∧ o = some c ∧ a ≤ c
def omn (g o : Option Nat) : Option Nat := match g with
  | none => none
  | some a => match o with
    | none => none
    | some c => some (min a c)
theorem omn_1 {a c : Nat} : omn (some a) (some c) = some (min a c) := rfl
theorem omn_2 {a : Nat} : omn (some a) none = none := rfl
theorem omn_3 {o : Option Nat} : omn none o = none := rfl
theorem ole_l {g o p : Option Nat} (h : ole g p) : ole (omn g o) p := by
  rcases h with rfl | ⟨a, c, rfl, rfl, h3⟩
  · exact Or.inl rfl
  · cases o with
    | none => exact Or.inl rfl
    | some d => exact Or.inr ⟨min a d, c, rfl, rfl, by omega⟩
theorem ole_r {g o : Option Nat} : ole (omn g o) o := by
  cases g with
  | none => exact Or.inl rfl
  | some a => cases o with
    | none => exact Or.inl rfl
    | some d => exact Or.inr ⟨min a d, d, rfl, rfl, by omega⟩
def SC (A : Vec) (P0 s H : Nat) (S : PS) (i b : Nat) (g : Option Nat) : Prop := PI A P0 S ∧ DN A s H S ∧ (∀ j, j < i → S.1 (S.2.2.1 j) = some H → (¬ S.2.2.1 j % 64 = s ∧ EXP A S (S.2.2.1 j)) ∨ (S.2.2.1 j % 64 = s ∧ b = 1 ∧ ole g (S.2.1 (S.2.2.1 j)))) ∧ (b = 1 → ∃ Q, S.1 Q = some H ∧ Q % 64 = s ∧ g = S.2.1 Q) ∧ (b = 0 → g = some 3) ∧ b ≤ 1
theorem SC.no {A : Vec} {P0 s H i b : Nat} {g : Option Nat} {S : PS} (h : SC A P0 s H S i b g) (hn : ¬ S.1 (S.2.2.1 i) = some H) : SC A P0 s H S (i + 1) b g := by
  obtain ⟨h1, h2, h3, h4, h5, h6⟩ := h
  refine ⟨h1, h2, fun j hj hh => ?_, h4, h5, h6⟩
  by_cases e : j = i
  · rw [e] at hh; exact absurd hh hn
  · exact h3 j (by omega) hh
theorem SC.tgt {A : Vec} {P0 s H i b : Nat} {g : Option Nat} {S : PS} (h : SC A P0 s H S i b g) (hn : S.1 (S.2.2.1 i) = some H) (ht : S.2.2.1 i % 64 = s) : SC A P0 s H S (i + 1) 1 (omn g (S.2.1 (S.2.2.1 i))) := by
  obtain ⟨h1, h2, h3, h4, h5, h6⟩ := h
  refine ⟨h1, h2, fun j hj hh => ?_, fun _ => ?_, fun z => absurd z (by decide), Nat.le_refl _⟩
  · by_cases e : j = i
    · rw [e]; exact Or.inr ⟨ht, rfl, ole_r⟩
    · rcases h3 j (by omega) hh with a | ⟨a, -, c⟩
      · exact Or.inl a
      · exact Or.inr ⟨a, rfl, ole_l c⟩
  · rcases (show b = 0 ∨ b = 1 by omega) with q | q
    · rw [h5 q]
      refine ⟨S.2.2.1 i, hn, ht, ?_⟩
      rcases hf : S.2.1 (S.2.2.1 i) with _ | c
      · rfl
      · have := h1.2.2.2.1 _ c hf
        rw [omn_1]
        exact congrArg some (by omega)
    · obtain ⟨Q, a1, a2, a3⟩ := h4 q
      rcases hf : S.2.1 (S.2.2.1 i) with _ | c
      · refine ⟨S.2.2.1 i, hn, ht, ?_⟩
        rw [hf]
        cases g <;> rfl
      · rcases hg : g with _ | d
        · exact ⟨Q, a1, a2, by rw [← a3, hg]; rfl⟩
        · rw [omn_1]
          rcases Nat.lt_or_ge c d with z | z
          · exact ⟨S.2.2.1 i, hn, ht, by rw [hf]; exact congrArg some (by omega)⟩
          · exact ⟨Q, a1, a2, by rw [← a3, hg]; exact congrArg some (by omega)⟩
theorem SC.go {A : Vec} {P0 s H i b : Nat} {g : Option Nat} {S T : PS} (h : SC A P0 s H S i b g) (hi : i < S.2.2.2.1) (hT : PI A P0 T) (hM : Mn H S T) (hn : S.1 (S.2.2.1 i) = some H) (ht : ¬ S.2.2.1 i % 64 = s) (hE : EXP A T (S.2.2.1 i)) : SC A P0 s H T (i + 1) b g := by
  obtain ⟨h1, h2, h3, h4, h5, h6⟩ := h
  refine ⟨hT, fun R x hx hl => ?_, fun j hj hh => ?_, fun q => ?_, h5, h6⟩
  · have hS := hM.2.1 R x hx (by omega)
    exact ⟨(h2 R x hS hl).1, (h2 R x hS hl).2.mono hM hS (by omega)⟩
  · have eL : T.2.2.1 j = S.2.2.1 j := hM.2.2.1 j (by omega)
    rw [eL] at hh ⊢
    have hS := hM.2.1 _ H hh (Nat.le_refl _)
    by_cases e : j = i
    · rw [e]; exact Or.inl ⟨ht, hE⟩
    · rcases h3 j (by omega) hS with ⟨a, c⟩ | ⟨a, c, d⟩
      · exact Or.inl ⟨a, c.mono hM hS (Nat.le_refl _)⟩
      · refine Or.inr ⟨a, c, ?_⟩
        obtain ⟨y, -, -, -, y4⟩ := hM.1 _ H hS
        rw [(y4 (Nat.le_refl _)).2]
        exact d
  · obtain ⟨Q, a1, a2, a3⟩ := h4 q
    obtain ⟨y, y1, y2, y3, y4⟩ := hM.1 Q H a1
    obtain ⟨z1, z2⟩ := y4 (Nat.le_refl _)
    exact ⟨Q, by rw [y1, z1], a2, by rw [a3, z2]⟩
theorem SC.next {A : Vec} {P0 s H i : Nat} {g : Option Nat} {S : PS} (h : SC A P0 s H S i 0 g) (hi : S.2.2.2.1 ≤ i) : DN A s (H + 1) S := by
  obtain ⟨h1, h2, h3, h4, h5, h6⟩ := h
  intro R x hx hl
  by_cases e : x = H
  · obtain ⟨j, j1, j2⟩ := h1.2.2.2.2.1 R x hx
    rcases h3 j (by omega) (by rw [j2, hx, e]) with a | ⟨-, a, -⟩
    · rw [j2] at a; exact a
    · exact absurd a (by decide)
  · exact h2 R x hx (by omega)
theorem LSq_cs {A : Vec} {P0 s w H i : Nat} {g : Option Nat} {S : PS} (hA : WE A) (hP0 : P0 < 128 * A 0) (h : SC A P0 s H S i 1 g) (hi : S.2.2.2.1 ≤ i) : LSq A P0 s w (if w = 0 then nI H else ov g) := by
  obtain ⟨h1, h2, h3, h4, h5, h6⟩ := h
  obtain ⟨Q, a1, a2, a3⟩ := h4 rfl
  obtain ⟨k, hk⟩ := h1.path a1
  refine Or.inl ⟨H, ⟨k, Q, hk, a2⟩, fun x hx ht => ?_, ?_⟩
  · obtain ⟨k2, Q2, b1, b2⟩ := ht
    obtain ⟨y, c1, c2⟩ := cl1 hA hP0 h1 h2 k2 b1 (by omega)
    exact (h2 Q2 y c1 (by omega)).1 b2
  · by_cases hw : w = 0
    · exact Or.inl ⟨hw, if_pos hw⟩
    · rw [if_neg hw]
      by_cases hH : H = 0
      · refine Or.inr (Or.inl ⟨hw, hH, ?_⟩)
        have e : Q = P0 := Decidable.byContradiction (fun z => by have := (h1.2.2.2.2.2.2.2 Q H a1 z).1; omega)
        rw [a3, e, h1.2.2.2.2.2.2.1.2]
        rfl
      · refine Or.inr (Or.inr ⟨hw, hH, ?_⟩)
        have e : Q ≠ P0 := fun z => by
          have := h1.2.2.2.2.2.2.1.1
          rw [← z, a1] at this
          have := Option.some.inj this
          omega
        obtain ⟨-, a, R, k3, y, j2, j3, j4, j5⟩ := h1.2.2.2.2.2.2.2 Q H a1 e
        refine ⟨a, h1.2.2.2.1 Q a j2, ⟨R, y, j3, ⟨k3, Q, j4, a2⟩, j5⟩, fun m' hm' hf => ?_, by rw [a3, j2]; rfl⟩
        obtain ⟨R2, y2, f1, ⟨k4, Q4, f2, f3⟩, f4⟩ := hf
        have ha3 := h1.2.2.2.1 Q a j2
        obtain ⟨x, x1, x2⟩ := cl1 hA hP0 h1 h2 (k4 + 1) (Q := Q4) (x := H) ⟨m', R2, y2, by omega, f1, f2, f4⟩ (Nat.le_refl _)
        have hxH : x = H := Decidable.byContradiction (fun z => (h2 Q4 x x1 (by omega)).1 f3)
        rw [hxH] at x1
        obtain ⟨b, b1, b2⟩ := cl2 hA hP0 h1 h2 (by omega) f1 k4 f2 (by omega) (by rw [x1, f4])
        obtain ⟨j, l1, l2⟩ := h1.2.2.2.2.1 Q4 H x1
        rcases h3 j (by omega) (by rw [l2]; exact x1) with ⟨z, -⟩ | ⟨-, -, z⟩
        · rw [l2] at z; exact z f3
        · rw [l2, a3, j2, b1] at z
          rcases z with z | ⟨c, d, z1, z2, z3⟩
          · cases z
          · have e1 := Option.some.inj z1
            have e2 := Option.some.inj z2
            omega
/-! the class's cells of them -/
def CPr (σ τ : Sg) (S : PS) : Prop := (∀ P, P < 1024 → τ 253 (cd P) = ov (S.1 P)) ∧ (∀ P h, P < 1024 → S.1 P = some h → τ 254 (cd P) = ov (S.2.1 P)) ∧ (∀ i, i < S.2.2.2.1 → τ 255 i = nI (cd (S.2.2.1 i))) ∧ τ 252 3 = nI S.2.2.2.1 ∧ τ 252 4 = nI S.2.2.2.2 ∧ ∀ a k, a ≠ 253 → a ≠ 254 → a ≠ 255 → ¬ (a = 252 ∧ (k = 3 ∨ k = 4)) → τ a k = σ a k
theorem CPr.rep {σ τ : Sg} {S : PS} {A : Vec} (h : CPr σ τ S) (h5 : A 1 ≤ 5) (hR : RepC σ 4 A) : RepC τ 4 A := hR.eq h5 (fun a h1 h2 k => h.2.2.2.2.2 a k (by omega) (by omega) (by omega) (by omega))
theorem cdr {P Q j : Nat} (hP : P < 1024) (hQ : Q < 1024) (hj : P ≠ Q) : cd P ≠ cd Q := fun e => hj (cd_inj hP hQ e)
theorem CPr.new {σ τ : Sg} {S : PS} {Q h f : Nat} (hC : CPr σ τ S) (hQ : Q < 1024) (hq : S.1 Q = none) : CPr σ (up2 (up2 (up2 (up2 (up2 τ 255 S.2.2.2.1 (nI (cd Q))) 252 3 (nI (S.2.2.2.1 + 1))) 253 (cd Q) (nI h)) 254 (cd Q) (nI f)) 252 4 (nI (max S.2.2.2.2 h))) (rch S Q h f) := by
  obtain ⟨h1, h2, h3, h4, h5, h6⟩ := hC
  rw [rch_n hq]
  refine ⟨fun P hP => ?_, fun P g hP hg => ?_, fun i hi => ?_, ?_, up2_at, fun a k a1 a2 a3 a4 => ?_⟩
  · rw [up2_ne (by decide), up2_ne (by decide)]
    dsimp only
    by_cases e : P = Q
    · rw [e, up2_at, updO_at]; rfl
    · rw [updO_ne e, up2_k (fun z => e (cd_inj hP hQ z)), up2_ne (by decide), up2_ne (by decide)]; exact h1 P hP
  · rw [up2_ne (by decide)]
    dsimp only at hg ⊢
    by_cases e : P = Q
    · rw [e, up2_at, updO_at]; rfl
    · rw [updO_ne e] at hg
      rw [updO_ne e, up2_k (fun z => e (cd_inj hP hQ z)), up2_ne (by decide), up2_ne (by decide), up2_ne (by decide)]; exact h2 P g hP hg
  · rw [up2_ne (by decide), up2_ne (by decide), up2_ne (by decide), up2_ne (by decide)]
    dsimp only at hi ⊢
    by_cases e : i = S.2.2.2.1
    · rw [e, up2_at, show updN S.2.2.1 S.2.2.2.1 Q S.2.2.2.1 = Q from if_pos rfl]
    · rw [up2_k e, show updN S.2.2.1 S.2.2.2.1 Q i = S.2.2.1 i from if_neg e]; exact h3 i (by omega)
  · rw [up2_k (by decide), up2_ne (by decide), up2_ne (by decide), up2_at]
  · unfold up2
    rw [if_neg (by omega), if_neg (by omega), if_neg (by omega), if_neg (by omega), if_neg (by omega)]
    exact h6 a k a1 a2 a3 a4
theorem CPr.low {σ τ : Sg} {S : PS} {Q h f x : Nat} (hC : CPr σ τ S) (hQ : Q < 1024) (hq : S.1 Q = some x) (hx : h < x) : CPr σ (up2 (up2 (up2 τ 253 (cd Q) (nI h)) 254 (cd Q) (nI f)) 252 4 (nI (max S.2.2.2.2 h))) (rch S Q h f) := by
  obtain ⟨h1, h2, h3, h4, h5, h6⟩ := hC
  rw [rch_l hq hx]
  refine ⟨fun P hP => ?_, fun P g hP hg => ?_, fun i hi => ?_, ?_, up2_at, fun a k a1 a2 a3 a4 => ?_⟩
  · rw [up2_ne (by decide), up2_ne (by decide)]
    dsimp only
    by_cases e : P = Q
    · rw [e, up2_at, updO_at]; rfl
    · rw [updO_ne e, up2_k (fun z => e (cd_inj hP hQ z))]; exact h1 P hP
  · rw [up2_ne (by decide)]
    dsimp only at hg ⊢
    by_cases e : P = Q
    · rw [e, up2_at, updO_at]; rfl
    · rw [updO_ne e] at hg
      rw [updO_ne e, up2_k (fun z => e (cd_inj hP hQ z)), up2_ne (by decide)]; exact h2 P g hP hg
  · rw [up2_ne (by decide), up2_ne (by decide), up2_ne (by decide)]; exact h3 i hi
  · rw [up2_k (by decide), up2_ne (by decide), up2_ne (by decide)]; exact h4
  · unfold up2
    rw [if_neg (by omega), if_neg (by omega), if_neg (by omega)]
    exact h6 a k a1 a2 a3 a4
theorem nlt_nn {f : Nat} (hf : f < 2 ^ 31) : ¬ nI f < (-1000000) := fun q => by
  have h1 := Int32.lt_iff_toInt_lt.mp q
  rw [nI_toInt hf] at h1
  have h2 : (-1000000 : Int32).toInt = -1000000 := by decide
  omega
theorem mn_nn {a : Nat} (ha : a < 2 ^ 31) : mn (nI a) (-1000000) = (-1000000) := by
  unfold mn
  rw [if_pos]
  refine Int32.lt_iff_toInt_lt.mpr ?_
  rw [nI_toInt ha]
  have h2 : (-1000000 : Int32).toInt = -1000000 := by decide
  omega
theorem mn_fmn {o : Option Nat} {f : Nat} (hf : f < 2 ^ 31) (ho : ∀ a, o = some a → a < 2 ^ 31) : mn (ov o) (nI f) = ov (fmn o f) := by
  cases o with
  | none => unfold mn; exact if_neg (nlt_nn hf)
  | some a => exact mnN (ho a rfl) hf
theorem mn_omn {g o : Option Nat} (hg : ∀ a, g = some a → a < 2 ^ 31) (ho : ∀ a, o = some a → a < 2 ^ 31) : mn (ov g) (ov o) = ov (omn g o) := by
  cases g with
  | none => cases o with
    | none => unfold mn; split <;> rfl
    | some c => unfold mn; exact if_neg (nlt_nn (ho c rfl))
  | some a => cases o with
    | none => exact mn_nn (hg a rfl)
    | some c => exact mnN (hg a rfl) (ho c rfl)
theorem CPr.eqh {σ τ : Sg} {S : PS} {Q h f x : Nat} (hC : CPr σ τ S) (hQ : Q < 1024) (hq : S.1 Q = some x) (hx : h = x) : CPr σ (up2 τ 254 (cd Q) (ov (fmn (S.2.1 Q) f))) (rch S Q h f) := by
  obtain ⟨h1, h2, h3, h4, h5, h6⟩ := hC
  rw [rch_e hq hx]
  refine ⟨fun P hP => ?_, fun P g hP hg => ?_, fun i hi => ?_, ?_, ?_, fun a k a1 a2 a3 a4 => ?_⟩
  · rw [up2_ne (by decide)]; exact h1 P hP
  · dsimp only at hg ⊢
    by_cases e : P = Q
    · rw [e, up2_at, updO_at]
    · rw [updO_ne e, up2_k (fun z => e (cd_inj hP hQ z))]; exact h2 P g hP hg
  · rw [up2_ne (by decide)]; exact h3 i hi
  · rw [up2_ne (by decide)]; exact h4
  · rw [up2_ne (by decide)]; exact h5
  · unfold up2
    rw [if_neg (by omega)]
    exact h6 a k a1 a2 a3 a4
/-- the beginning -/
def PS0 (P0 : Nat) : PS := (fun P => if P = P0 then some 0 else none, fun _ => none, fun _ => P0, 1, 0)
theorem PI0 {A : Vec} {P0 : Nat} (h6 : A 0 ≤ 6) (hP : P0 < 128 * A 0) : PI A P0 (PS0 P0) := by
  have hs : ∀ P h, (PS0 P0).1 P = some h → P = P0 ∧ h = 0 := fun P h hh => by
    unfold PS0 at hh
    dsimp only at hh
    split at hh
    · rename_i q; exact ⟨q, (Option.some.inj hh).symm⟩
    · cases hh
  refine ⟨fun P h hh => ?_, by show 0 + 9 ≤ 9 * 1; omega, ?_, fun P a ha => (by cases ha), fun P h hh => ⟨0, by show 0 < 1; omega, (hs P h hh).1.symm⟩, fun i hi => ⟨0, if_pos rfl⟩, ⟨if_pos rfl, rfl⟩, fun P h hh hP => absurd (hs P h hh).1 hP⟩
  · obtain ⟨a, b⟩ := hs P h hh
    rw [a, b]
    exact ⟨Nat.zero_le _, hP⟩
  · have h1 := sum_d0 (P := P0) (n := 768) (by omega)
    show 1 = mC (PS0 P0).1
    unfold mC
    rw [sum_cg (g := dlt P0) 768 (fun i _ => by show isO (if i = P0 then some 0 else none) = dlt P0 i; unfold dlt; split <;> rfl)]
    exact h1.symm
def layN (i : Nat) (σ : Sg) : Sg := fun b k => if b = 253 ∧ k < i then (-1000000) else σ b k
theorem layN_0 {σ : Sg} : layN 0 σ = σ := by funext b k; exact if_neg (by omega)
theorem layN_s {i : Nat} {σ : Sg} : up2 (layN i σ) 253 i (-1000000) = layN (i + 1) σ := by
  funext b k
  unfold up2 layN
  by_cases h : b = 253 ∧ k = i
  · rw [if_pos h, if_pos (by omega)]
  · rw [if_neg h]
    by_cases h2 : b = 253 ∧ k < i
    · rw [if_pos h2, if_pos (by omega)]
    · rw [if_neg h2, if_neg (by omega)]
theorem CPr.zero {σ : Sg} {P0 : Nat} (hP : P0 < 1024) : CPr σ (up2 (up2 (up2 (up2 (up2 (layN 1024 σ) 253 (cd P0) (nI 0)) 254 (cd P0) (-1000000)) 255 0 (nI (cd P0))) 252 3 (nI 1)) 252 4 (nI 0)) (PS0 P0) := by
  have hl : ∀ b k, b ≠ 253 → layN 1024 σ b k = σ b k := fun b k h => if_neg (fun q => h q.1)
  refine ⟨fun P h => ?_, fun P g h hg => ?_, fun i hi => ?_, ?_, up2_at, fun a k a1 a2 a3 a4 => ?_⟩
  · rw [up2_ne (by decide), up2_ne (by decide), up2_ne (by decide), up2_ne (by decide)]
    unfold PS0
    dsimp only
    by_cases e : P = P0
    · rw [e, up2_at, if_pos rfl]; rfl
    · rw [if_neg e, up2_k (fun z => e (cd_inj h hP z))]
      exact if_pos ⟨rfl, cd_lt h⟩
  · have e : P = P0 := by
      unfold PS0 at hg
      dsimp only at hg
      split at hg
      · assumption
      · cases hg
    rw [up2_ne (by decide), up2_ne (by decide), up2_ne (by decide), e, up2_at]
    rfl
  · have hi0 : i = 0 := by unfold PS0 at hi; dsimp only at hi; omega
    rw [hi0, up2_ne (by decide), up2_ne (by decide), up2_at]
    rfl
  · rw [up2_k (by decide), up2_at]; rfl
  · unfold up2
    rw [if_neg (by omega), if_neg (by omega), if_neg (by omega), if_neg (by omega), if_neg (by omega)]
    exact hl a k a1

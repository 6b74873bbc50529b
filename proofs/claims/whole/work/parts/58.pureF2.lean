/-! paths -/
def pth (A : Vec) : Nat → Nat → Nat → Nat → Prop
  | 0, P, Q, h => P = Q ∧ h = 0
  | k + 1, P, Q, h => ∃ m R h', m < 3 ∧ nxt A P m = some R ∧ pth A k R Q h' ∧ h = cst A P m + h'
theorem pth_snoc {A : Vec} : ∀ (k : Nat) {P Q h : Nat}, pth A (k + 1) P Q h → ∃ R m h', m < 3 ∧ pth A k P R h' ∧ nxt A R m = some Q ∧ h = h' + cst A R m
  | 0, P, Q, h, hp => by
    obtain ⟨m, R, h', h1, h2, ⟨h3, h4⟩, h5⟩ := hp
    exact ⟨P, m, 0, h1, ⟨rfl, rfl⟩, by rw [h2, h3], by omega⟩
  | k + 1, P, Q, h, hp => by
    obtain ⟨m, R, h', h1, h2, h3, h4⟩ := hp
    obtain ⟨R2, m2, h2', a1, a2, a3, a4⟩ := pth_snoc k h3
    exact ⟨R2, m2, cst A P m + h2', a1, ⟨m, R, h2', h1, h2, a2, rfl⟩, a3, by omega⟩
theorem pth_app {A : Vec} : ∀ (k : Nat) {P R Q h m : Nat}, pth A k P R h → m < 3 → nxt A R m = some Q → pth A (k + 1) P Q (h + cst A R m)
  | 0, P, R, Q, h, m, hp, hm, hn => by
    obtain ⟨h1, h2⟩ := hp
    rw [← h1] at hn ⊢
    exact ⟨m, Q, 0, hm, hn, ⟨rfl, rfl⟩, by omega⟩
  | k + 1, P, R, Q, h, m, hp, hm, hn => by
    obtain ⟨m1, R1, h', a1, a2, a3, a4⟩ := hp
    exact ⟨m1, R1, h' + cst A R m, a1, a2, pth_app k a3 hm hn, by omega⟩
theorem pth_lt {A : Vec} (h6 : A 0 ≤ 6) : ∀ (k : Nat) {P Q h : Nat}, P < 128 * A 0 → pth A k P Q h → Q < 128 * A 0
  | 0, P, Q, h, hP, hp => by rw [← hp.1]; exact hP
  | k + 1, P, Q, h, hP, hp => by
    obtain ⟨m, R, h', h1, h2, h3, h4⟩ := hp
    exact pth_lt h6 k (nxt_lt h6 hP h2) h3
def Tgt (A : Vec) (P s h : Nat) : Prop := ∃ k Q, pth A k P Q h ∧ Q % 64 = s
def Fst (A : Vec) (P s h m : Nat) : Prop := ∃ R h', nxt A P m = some R ∧ Tgt A R s h' ∧ h = cst A P m + h'
theorem Tgt.cons {A : Vec} {P R s g m : Nat} (hm : m < 3) (hn : nxt A P m = some R) (h : Tgt A R s g) : Tgt A P s (cst A P m + g) := by
  obtain ⟨k, Q, h1, h2⟩ := h
  exact ⟨k + 1, Q, ⟨m, R, g, hm, hn, h1, rfl⟩, h2⟩
theorem Tgt.cases {A : Vec} {P s h : Nat} (h1 : Tgt A P s h) : (h = 0 ∧ P % 64 = s) ∨ ∃ m, m < 3 ∧ Fst A P s h m := by
  obtain ⟨k, Q, hp, hq⟩ := h1
  cases k with
  | zero => exact Or.inl ⟨hp.2, by rw [hp.1]; exact hq⟩
  | succ k =>
    obtain ⟨m, R, h', a1, a2, a3, a4⟩ := hp
    exact Or.inr ⟨m, a1, R, h', a2, ⟨k, Q, a3, hq⟩, a4⟩
/-- the answer of least -/
def LSq (A : Vec) (P s w : Nat) (r : Int32) : Prop :=
  (∃ h, Tgt A P s h ∧ (∀ h', h' < h → ¬ Tgt A P s h') ∧ ((w = 0 ∧ r = nI h) ∨ (¬ w = 0 ∧ h = 0 ∧ r = (-1000000)) ∨ (¬ w = 0 ∧ ¬ h = 0 ∧ ∃ m, m < 3 ∧ Fst A P s h m ∧ (∀ m', m' < m → ¬ Fst A P s h m') ∧ r = nI m))) ∨ ((∀ h, ¬ Tgt A P s h) ∧ r = (-1000000))
theorem LSq_uniq {A : Vec} {P s w : Nat} {r r' : Int32} (h1 : LSq A P s w r) (h2 : LSq A P s w r') : r = r' := by
  rcases h1 with ⟨h, a1, a2, a3⟩ | ⟨a1, a2⟩
  · rcases h2 with ⟨g, b1, b2, b3⟩ | ⟨b1, b2⟩
    · have e : h = g := by
        rcases Nat.lt_trichotomy h g with q | q | q
        · exact absurd a1 (b2 h q)
        · exact q
        · exact absurd b1 (a2 g q)
      subst e
      rcases a3 with ⟨c1, c2⟩ | ⟨c1, c2, c3⟩ | ⟨c1, c2, m, c3, c4, c5, c6⟩
      · rcases b3 with ⟨d1, d2⟩ | ⟨d1, d2, d3⟩ | ⟨d1, d2, m', d3, d4, d5, d6⟩
        · rw [c2, d2]
        · exact absurd c1 d1
        · exact absurd c1 d1
      · rcases b3 with ⟨d1, d2⟩ | ⟨d1, d2, d3⟩ | ⟨d1, d2, m', d3, d4, d5, d6⟩
        · exact absurd d1 c1
        · rw [c3, d3]
        · exact absurd c2 d2
      · rcases b3 with ⟨d1, d2⟩ | ⟨d1, d2, d3⟩ | ⟨d1, d2, m', d3, d4, d5, d6⟩
        · exact absurd d1 c1
        · exact absurd d2 c2
        · rw [c6, d6]
          congr 1
          rcases Nat.lt_trichotomy m m' with q | q | q
          · exact absurd c4 (d5 m q)
          · exact q
          · exact absurd d4 (c5 m' q)
    · exact absurd a1 (b1 h)
  · rcases h2 with ⟨g, b1, b2, b3⟩ | ⟨b1, b2⟩
    · exact absurd b1 (a1 g)
    · rw [a2, b2]
noncomputable def lsV (A : Vec) (P s w : Nat) : Int32 := Classical.epsilon (fun r => LSq A P s w r)
theorem lsV_eq {A : Vec} {P s w : Nat} {r : Int32} (h : LSq A P s w r) : lsV A P s w = r := LSq_uniq (Classical.epsilon_spec (p := fun r => LSq A P s w r) ⟨r, h⟩) h
noncomputable def oLeast (S : Ab) (x y z : Int32) : Ab × Int32 := (S, if gIn x (S.1 1) = 0 then (-1000001) else if gIn y (2 ^ S.1 0) = 0 then (-1000001) else if wi z (nI 0) (nI 1) = 0 then (-1000001) else lsV S.1 (plO S.1 (ix x)) (ix y) (ix z))
/-! the reference's hours -/
def mvl (o : Option Nat) : Nat := match o with
  | none => 10000
  | some h => h
def isO (o : Option Nat) : Nat := match o with
  | none => 0
  | some _ => 1
def mM (H : Nat → Option Nat) : Nat := sumN (fun P => mvl (H P)) 768
def mC (H : Nat → Option Nat) : Nat := sumN (fun P => isO (H P)) 768
def updO (H : Nat → Option Nat) (i : Nat) (v : Option Nat) : Nat → Option Nat := fun k => if k = i then v else H k
theorem updO_at {H : Nat → Option Nat} {i : Nat} {v : Option Nat} : updO H i v i = v := if_pos rfl
theorem updO_ne {H : Nat → Option Nat} {i k : Nat} {v : Option Nat} (h : k ≠ i) : updO H i v k = H k := if_neg h
theorem mC_le (H : Nat → Option Nat) : mC H ≤ 768 := by
  have h := sum_le (f := fun P => isO (H P)) (c := 1) 768 (fun m _ => by show isO (H m) ≤ 1; unfold isO; split <;> omega)
  exact h
def HB (A : Vec) (s : Nat) (H : Nat → Option Nat) : Prop := (∀ P h, P < 128 * A 0 → H P = some h → Tgt A P s h) ∧ (∀ P, P < 128 * A 0 → P % 64 = s → H P = some 0) ∧ (∀ P h, P < 768 → H P = some h → h ≤ 9 * mC H)
def fx1 (A : Vec) (H : Nat → Option Nat) (P m : Nat) : Prop := ∀ Q h, nxt A P m = some Q → H Q = some h → ∃ x, H P = some x ∧ x ≤ h + cst A P m
def fxP (A : Vec) (H : Nat → Option Nat) (P : Nat) : Prop := ∀ m, m < 3 → fx1 A H P m
theorem mC_up {H : Nat → Option Nat} {P v : Nat} (hP : P < 768) : mC (updO H P (some v)) + isO (H P) = mC H + 1 := by
  have h := sum_ch (f := fun P => isO (H P)) (g := fun q => isO (updO H P (some v) q)) (i := P) 768 hP (fun j _ hj => by show isO (updO H P (some v) j) = isO (H j); rw [updO_ne hj])
  have e : isO (updO H P (some v) P) = 1 := by rw [updO_at]; rfl
  unfold mC
  rw [e] at h
  exact h
theorem mM_up {H : Nat → Option Nat} {P v : Nat} (hP : P < 768) : mM (updO H P (some v)) + mvl (H P) = mM H + v := by
  have h := sum_ch (f := fun P => mvl (H P)) (g := fun q => mvl (updO H P (some v) q)) (i := P) 768 hP (fun j _ hj => by show mvl (updO H P (some v) j) = mvl (H j); rw [updO_ne hj])
  have e : mvl (updO H P (some v) P) = v := by rw [updO_at]; rfl
  unfold mM
  rw [e] at h
  exact h
/-- a better way is found -/
theorem HB.up {A : Vec} {s P m Q y : Nat} {H : Nat → Option Nat} (hA : WE A) (h : HB A s H) (hP : P < 128 * A 0) (hm : m < 3) (hn : nxt A P m = some Q) (hQ : H Q = some y) (hb : ∀ x, H P = some x → y + cst A P m < x) : HB A s (updO H P (some (y + cst A P m))) ∧ mM (updO H P (some (y + cst A P m))) < mM H := by
  have h6 := hA.2.1
  have hc := cst_1 hA hP hn
  have hQl := nxt_lt h6 hP hn
  obtain ⟨h1, h2, h3⟩ := h
  have hy := h3 Q y (by omega) hQ
  have e1 := mC_up (H := H) (P := P) (v := y + cst A P m) (by omega)
  have e2 := mM_up (H := H) (P := P) (v := y + cst A P m) (by omega)
  have hcl := mC_le H
  refine ⟨⟨fun R g hR hg => ?_, fun R hR hs => ?_, fun R g hR hg => ?_⟩, ?_⟩
  · by_cases e : R = P
    · rw [e, updO_at] at hg
      have hg2 := Option.some.inj hg
      have ht := Tgt.cons hm hn (h1 Q y hQl hQ)
      rw [e, ← hg2, Nat.add_comm]
      exact ht
    · rw [updO_ne e] at hg
      exact h1 R g hR hg
  · by_cases e : R = P
    · have := hb 0 (h2 P hP (by rw [← e]; exact hs))
      omega
    · rw [updO_ne e]
      exact h2 R hR hs
  · rcases hPx : H P with _ | x
    · rw [hPx] at e1
      have e1' : mC (updO H P (some (y + cst A P m))) + 0 = mC H + 1 := e1
      by_cases e : R = P
      · rw [e, updO_at] at hg
        have hg2 := Option.some.inj hg
        omega
      · rw [updO_ne e] at hg
        have := h3 R g hR hg
        omega
    · rw [hPx] at e1
      have e1' : mC (updO H P (some (y + cst A P m))) + 1 = mC H + 1 := e1
      have hx := h3 P x (by omega) hPx
      have hb2 := hb x hPx
      by_cases e : R = P
      · rw [e, updO_at] at hg
        have hg2 := Option.some.inj hg
        omega
      · rw [updO_ne e] at hg
        have := h3 R g hR hg
        omega
  · rcases hPx : H P with _ | x
    · rw [hPx] at e2
      have e2' : mM (updO H P (some (y + cst A P m))) + 10000 = mM H + (y + cst A P m) := e2
      omega
    · rw [hPx] at e2
      have e2' : mM (updO H P (some (y + cst A P m))) + x = mM H + (y + cst A P m) := e2
      have hb2 := hb x hPx
      omega
theorem HB.all {A : Vec} {s : Nat} {H : Nat → Option Nat} (hA : WE A) (h : HB A s H) (hf : ∀ P, P < 128 * A 0 → fxP A H P) : ∀ (k : Nat) {P Q g : Nat}, P < 128 * A 0 → pth A k P Q g → Q % 64 = s → ∃ x, H P = some x ∧ x ≤ g
  | 0, P, Q, g, hP, hp, hq => ⟨0, h.2.1 P hP (by rw [hp.1]; exact hq), Nat.zero_le _⟩
  | k + 1, P, Q, g, hP, hp, hq => by
    obtain ⟨m, R, h', a1, a2, a3, a4⟩ := hp
    obtain ⟨y, hy, hy2⟩ := HB.all hA h hf k (nxt_lt hA.2.1 hP a2) a3 hq
    obtain ⟨x, hx, hx2⟩ := hf P hP m a1 R y a2 hy
    exact ⟨x, hx, by omega⟩
def FH (A : Vec) (H : Nat → Option Nat) (P x m : Nat) : Prop := ∃ Q y, nxt A P m = some Q ∧ H Q = some y ∧ y + cst A P m = x
/-- the moves from m on, looked at from above -/
def fs9 (A : Vec) (H : Nat → Option Nat) (P x m : Nat) (f : Option Nat) : Prop := (f = none ∧ ∀ m', m ≤ m' → m' < 3 → ¬ FH A H P x m') ∨ ∃ a, f = some a ∧ m ≤ a ∧ a < 3 ∧ FH A H P x a ∧ ∀ m', m ≤ m' → m' < a → ¬ FH A H P x m'
theorem fs9_no {A : Vec} {H : Nat → Option Nat} {P x m : Nat} {f : Option Nat} (h : fs9 A H P x (m + 1) f) (hn : ¬ FH A H P x m) : fs9 A H P x m f := by
  rcases h with ⟨h1, h2⟩ | ⟨a, h1, h2, h3, h4, h5⟩
  · refine Or.inl ⟨h1, fun m' a b => ?_⟩
    by_cases e : m' = m
    · rw [e]; exact hn
    · exact h2 m' (by omega) b
  · refine Or.inr ⟨a, h1, by omega, h3, h4, fun m' b c => ?_⟩
    by_cases e : m' = m
    · rw [e]; exact hn
    · exact h5 m' (by omega) c
theorem fs9_yes {A : Vec} {H : Nat → Option Nat} {P x m : Nat} (hm : m < 3) (hn : FH A H P x m) : fs9 A H P x m (some m) := Or.inr ⟨m, rfl, Nat.le_refl _, hm, hn, fun m' a b => by omega⟩
theorem LSq_none {A : Vec} {P s w : Nat} {H : Nat → Option Nat} (hA : WE A) (h : HB A s H) (hf : ∀ P, P < 128 * A 0 → fxP A H P) (hP : P < 128 * A 0) (hn : H P = none) : LSq A P s w (-1000000) := by
  refine Or.inr ⟨fun g hg => ?_, rfl⟩
  obtain ⟨k, Q, h1, h2⟩ := hg
  obtain ⟨x, hx, -⟩ := HB.all hA h hf k hP h1 h2
  rw [hn] at hx
  cases hx
theorem LSq_some {A : Vec} {P s w x : Nat} {f : Option Nat} {H : Nat → Option Nat} (hA : WE A) (h : HB A s H) (hf : ∀ P, P < 128 * A 0 → fxP A H P) (hP : P < 128 * A 0) (hn : H P = some x) (hf9 : ¬ x = 0 → fs9 A H P x 0 f) (hf0 : x = 0 → f = none) : LSq A P s w (if w = 0 then nI x else ov f) := by
  have ht := h.1 P x hP hn
  have hmin : ∀ g, Tgt A P s g → x ≤ g := fun g hg => by
    obtain ⟨k, Q, h1, h2⟩ := hg
    obtain ⟨y, hy, hy2⟩ := HB.all hA h hf k hP h1 h2
    rw [hn] at hy
    have := Option.some.inj hy
    omega
  refine Or.inl ⟨x, ht, fun g hg hg2 => by have := hmin g hg2; omega, ?_⟩
  by_cases hw : w = 0
  · exact Or.inl ⟨hw, if_pos hw⟩
  · rw [if_neg hw]
    by_cases hx : x = 0
    · exact Or.inr (Or.inl ⟨hw, hx, by rw [hf0 hx]; rfl⟩)
    · refine Or.inr (Or.inr ⟨hw, hx, ?_⟩)
      have h1 : ∀ m, m < 3 → (FH A H P x m ↔ Fst A P s x m) := fun m hm => by
        constructor
        · rintro ⟨Q, y, a1, a2, a3⟩
          exact ⟨Q, y, a1, h.1 Q y (nxt_lt hA.2.1 hP a1) a2, by omega⟩
        · rintro ⟨R, y, a1, a2, a3⟩
          obtain ⟨k, Q, b1, b2⟩ := id a2
          obtain ⟨z, hz, hz2⟩ := HB.all hA h hf k (nxt_lt hA.2.1 hP a1) b1 b2
          have hz3 := hmin _ (Tgt.cons hm a1 (h.1 R z (nxt_lt hA.2.1 hP a1) hz))
          exact ⟨R, z, a1, hz, by omega⟩
      rcases hf9 hx with ⟨c1, c2⟩ | ⟨a, c1, c2, c3, c4, c5⟩
      · rcases ht.cases with ⟨d1, -⟩ | ⟨m, d1, d2⟩
        · exact absurd d1 hx
        · exact absurd ((h1 m d1).mpr d2) (c2 m (Nat.zero_le _) d1)
      · exact ⟨a, c3, (h1 a c3).mp c4, fun m' hm' q => c5 m' (Nat.zero_le _) hm' ((h1 m' (by omega)).mpr q), by rw [c1]; rfl⟩
def layH (i : Nat) (H : Nat → Option Nat) (σ : Sg) : Sg := fun b k => if b = 301 ∧ k < i then ov (H k) else σ b k
def stH (σ : Sg) (H : Nat → Option Nat) : Sg := layH 768 H σ
theorem layH_0 {H : Nat → Option Nat} {σ : Sg} : layH 0 H σ = σ := by funext b k; exact if_neg (by omega)
theorem layH_s {i : Nat} {H : Nat → Option Nat} {σ : Sg} : up2 (layH i H σ) 301 i (ov (H i)) = layH (i + 1) H σ := by
  funext b k
  unfold up2 layH
  by_cases h : b = 301 ∧ k = i
  · rw [if_pos h, if_pos (by omega), h.2]
  · rw [if_neg h]
    by_cases h2 : b = 301 ∧ k < i
    · rw [if_pos h2, if_pos (by omega)]
    · rw [if_neg h2, if_neg (by omega)]
theorem layH_ne {i b k : Nat} {H : Nat → Option Nat} {σ : Sg} (h : b ≠ 301) : layH i H σ b k = σ b k := if_neg (fun q => h q.1)
theorem stH_at {k : Nat} {H : Nat → Option Nat} {σ : Sg} (h : k < 768) : stH σ H 301 k = ov (H k) := if_pos ⟨rfl, h⟩
theorem stH_up {i : Nat} {v : Option Nat} {H : Nat → Option Nat} {σ : Sg} (hi : i < 768) : up2 (stH σ H) 301 i (ov v) = stH σ (updO H i v) := by
  funext b k
  unfold up2 stH layH updO
  by_cases h : b = 301 ∧ k = i
  · rw [if_pos h, if_pos (by omega), if_pos h.2]
  · rw [if_neg h]
    by_cases h2 : b = 301 ∧ k < 768
    · rw [if_pos h2, if_pos h2, if_neg (by omega)]
    · rw [if_neg h2, if_neg h2]
theorem layH_M {i : Nat} {σ : Sg} {H : Nat → Option Nat} {A : Vec} (h : RepM σ 296 A) : RepM (layH i H σ) 296 A := fun k hk => (layH_ne (by decide)).trans (h k hk)
theorem stH_M {σ : Sg} {H : Nat → Option Nat} {A : Vec} (h : RepM σ 296 A) : RepM (stH σ H) 296 A := layH_M h
def H0 (A : Vec) (s q : Nat) : Option Nat := if q < 128 * A 0 then (if q % 64 = s then some 0 else none) else none
theorem HB0 {A : Vec} {s : Nat} : HB A s (H0 A s) := by
  have h1 : ∀ P h, H0 A s P = some h → h = 0 ∧ P % 64 = s := fun P h hh => by
    unfold H0 at hh
    split at hh
    · split at hh
      · rename_i q; exact ⟨(Option.some.inj hh).symm, q⟩
      · cases hh
    · cases hh
  refine ⟨fun P h _ hh => ?_, fun P hP hs => ?_, fun P h _ hh => ?_⟩
  · obtain ⟨a, b⟩ := h1 P h hh
    exact ⟨0, P, ⟨rfl, a⟩, b⟩
  · unfold H0; rw [if_pos hP, if_pos hs]
  · rw [(h1 P h hh).1]; exact Nat.zero_le _
theorem m1_sub (x : Int32) : x + (-1) = x - nI 1 := by rw [Int32.sub_eq_add_neg]; rfl

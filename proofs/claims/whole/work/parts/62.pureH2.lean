/-! the tape's tokens -/
abbrev Tp : Type := Nat × (Nat → Nat)
def dgN (x : Nat) : Nat := if 48 ≤ x ∧ x ≤ 57 then 1 else 0
def isTk (x : Nat) : Nat := if (97 ≤ x ∧ x ≤ 122) ∨ x = 44 ∨ x = 59 then 1 else 0
def rE (T : Tp) : Nat → Nat → Nat
  | 0, c => c
  | f + 1, c => if c < T.1 then (if dgN (T.2 c) = 0 then c else rE T f (c + 1)) else c
def en (T : Tp) (c : Nat) : Nat := rE T 101 c
def tok (T : Tp) (c : Nat) : Nat := if c < T.1 then (if dgN (T.2 c) = 0 then (if isTk (T.2 c) = 0 then 258 else T.2 c) else (if en T c - c ≤ 2 then 256 else 258)) else 257
def nx (T : Tp) (c : Nat) : Nat := if c < T.1 then (if dgN (T.2 c) = 0 then c + 1 else en T c) else c
def vl (T : Tp) (c : Nat) : Nat := if en T c - c = 1 then T.2 c - 48 else 10 * (T.2 c - 48) + (T.2 (c + 1) - 48)
theorem rE_ge {T : Tp} : ∀ f c, c ≤ rE T f c
  | 0, c => Nat.le_refl _
  | f + 1, c => by
    unfold rE
    split
    · split
      · exact Nat.le_refl _
      · have := rE_ge (T := T) f (c + 1); omega
    · exact Nat.le_refl _
theorem rE_le {T : Tp} : ∀ f c, c ≤ T.1 → rE T f c ≤ T.1
  | 0, c, h => h
  | f + 1, c, h => by
    unfold rE
    split
    · split
      · omega
      · exact rE_le f (c + 1) (by omega)
    · omega
theorem rE_st {T : Tp} {c e : Nat} (h1 : T.1 ≤ 100) (hc : c ≤ e) (he : e < T.1) (hd : ¬ dgN (T.2 e) = 0) : rE T (101 - (e - c)) e = rE T (101 - (e + 1 - c)) (e + 1) := by
  rw [show 101 - (e - c) = (101 - (e + 1 - c)) + 1 by omega, rE, if_pos he, if_neg hd]
theorem rE_z {T : Tp} {f e : Nat} (h : ¬ e < T.1 ∨ dgN (T.2 e) = 0) : rE T f e = e := by
  cases f with
  | zero => rfl
  | succ f =>
    unfold rE
    rcases h with h | h
    · rw [if_neg h]
    · rw [if_pos h]
      split <;> rfl
theorem en_c {T : Tp} {c : Nat} : en T c = rE T (101 - (c - c)) c := by rw [Nat.sub_self]; rfl
theorem nx_le {T : Tp} {c : Nat} (h : c ≤ T.1) : nx T c ≤ T.1 := by
  unfold nx
  split
  · split
    · omega
    · exact rE_le _ _ h
  · exact h
def srt (t : Nat) : Nat := if t = 106 then 1 else if t = 119 then 2 else if t = 116 then 3 else if t = 111 then 4 else if t = 109 then 5 else 0
theorem srt_le (t : Nat) : srt t ≤ 5 := by unfold srt; (repeat' split) <;> omega
theorem tok_lt {T : Tp} {c : Nat} (hT : ∀ j, j < T.1 → T.2 j < 256) : tok T c ≤ 258 := by
  unfold tok
  split
  · rename_i h
    have := hT c h
    split
    · split <;> omega
    · split <;> omega
  · omega
/-! reading: (fault, its place, place, what is told) -/
abbrev PX : Type := Nat × Nat × Nat × Vec
def pTake (T : Tp) (w : Nat) (X : PX) : PX := if X.1 = 0 then (if tok T X.2.2.1 = w then (0, X.2.1, nx T X.2.2.1, X.2.2.2) else (1, X.2.2.1, X.2.2.1, X.2.2.2)) else X
def pNum (T : Tp) (lo hi : Nat) (X : PX) : PX := if X.1 = 0 then (if tok T X.2.2.1 = 256 then (if lo ≤ vl T X.2.2.1 ∧ vl T X.2.2.1 ≤ hi then (0, X.2.1, nx T X.2.2.1, X.2.2.2) else (2, X.2.2.1, X.2.2.1, X.2.2.2)) else (1, X.2.2.1, X.2.2.1, X.2.2.2)) else X
def pMap (f : Vec → Vec) (X : PX) : PX := if X.1 = 0 then (0, X.2.1, X.2.2.1, f X.2.2.2) else X
def pBad (n : Nat) (X : PX) : PX := if X.1 = 0 then (n, X.2.2.1, X.2.2.1, X.2.2.2) else X
def gV (s l f : Nat) (A : Vec) : Vec := updN (updN (updN (updN A (7 + 3 * A 0) s) (7 + 3 * A 0 + 1) l) (7 + 3 * A 0 + 2) f) 0 (A 0 + 1)
def mV (a h f : Nat) (A : Vec) : Vec := updN (updN (updN (updN A (25 + 6 * A 1) a) (25 + 6 * A 1 + 3) h) (25 + 6 * A 1 + 4) f) 1 (A 1 + 1)
def pLaw (T : Tp) (X : PX) : PX :=
  pTake T 59 (pMap (fun A => updN A 3 (vl T (pTake T 44 (pMap (fun A => updN A 2 (vl T (pTake T 115 X).2.2.1)) (pNum T 1 9 (pTake T 115 X)))).2.2.1)) (pNum T 1 30 (pTake T 44 (pMap (fun A => updN A 2 (vl T (pTake T 115 X).2.2.1)) (pNum T 1 9 (pTake T 115 X))))))
def pGate (T : Tp) (X : PX) : PX := if X.1 = 0 then (if X.2.2.2 0 = 6 then (3, X.2.2.1, X.2.2.1, X.2.2.2) else
  pMap (gV (srt (tok T X.2.2.1)) (vl T (nx T X.2.2.1)) (vl T (pTake T 44 (pNum T 1 9 (0, X.2.1, nx T X.2.2.1, X.2.2.2))).2.2.1)) (pTake T 59 (pNum T 0 1 (pTake T 44 (pNum T 1 9 (0, X.2.1, nx T X.2.2.1, X.2.2.2)))))) else X
def pMan (T : Tp) (X : PX) : PX := if X.1 = 0 then (if X.2.2.2 1 = 5 then (3, X.2.2.1, X.2.2.1, X.2.2.2) else
  pMap (mV (vl T (nx T X.2.2.1)) (vl T (pTake T 44 (pNum T 0 (X.2.2.2 0 - 1) (0, X.2.1, nx T X.2.2.1, X.2.2.2))).2.2.1) (vl T (pTake T 44 (pNum T 0 1 (pTake T 44 (pNum T 0 (X.2.2.2 0 - 1) (0, X.2.1, nx T X.2.2.1, X.2.2.2))))).2.2.1)) (pTake T 59 (pNum T 0 99 (pTake T 44 (pNum T 0 1 (pTake T 44 (pNum T 0 (X.2.2.2 0 - 1) (0, X.2.1, nx T X.2.2.1, X.2.2.2)))))))) else X
def pGs (T : Tp) : Nat → PX → PX
  | 0, X => X
  | f + 1, X => if X.1 = 0 then (if srt (tok T X.2.2.1) = 0 then X else pGs T f (pGate T X)) else X
def pMs (T : Tp) : Nat → PX → PX
  | 0, X => X
  | f + 1, X => if X.1 = 0 then (if tok T X.2.2.1 = 122 then pMs T f (pMan T X) else X) else X
def pGe (X : PX) : PX := if X.1 = 0 then (if X.2.2.2 0 < 2 then (1, X.2.2.1, X.2.2.1, X.2.2.2) else X) else X
def pMe (X : PX) : PX := if X.1 = 0 then (if X.2.2.2 1 < 1 then (1, X.2.2.1, X.2.2.1, X.2.2.2) else X) else X
def X0 : PX := (0, 0, 0, fun _ => 0)
def pAll (T : Tp) : PX := pTake T 257 (pMe (pMs T 6 (pGe (pGs T 7 (pLaw T X0)))))
/-! what has been read is in its bounds -/
def PV (A : Vec) : Prop := A 0 ≤ 6 ∧ A 1 ≤ 5 ∧ (1 ≤ A 2 ∧ A 2 ≤ 9) ∧ (1 ≤ A 3 ∧ A 3 ≤ 30) ∧ A 4 = 0 ∧ A 5 = 0 ∧ A 6 = 0 ∧ (∀ g, g < A 0 → 1 ≤ A (7 + 3 * g) ∧ A (7 + 3 * g) ≤ 5 ∧ 1 ≤ A (8 + 3 * g) ∧ A (8 + 3 * g) ≤ 9 ∧ A (9 + 3 * g) ≤ 1) ∧ (∀ m, m < A 1 → A (25 + 6 * m) < A 0 ∧ A (28 + 6 * m) ≤ 1 ∧ A (29 + 6 * m) ≤ 99) ∧ ∀ m, m < 5 → A (26 + 6 * m) = 0 ∧ A (27 + 6 * m) = 0 ∧ A (30 + 6 * m) = 0
theorem gV_lo {s l f k : Nat} {A : Vec} (h : k ≠ 0) (h1 : k ≠ 7 + 3 * A 0) (h2 : k ≠ 8 + 3 * A 0) (h3 : k ≠ 9 + 3 * A 0) : gV s l f A k = A k := by
  unfold gV updN
  rw [if_neg h, if_neg (by omega), if_neg (by omega), if_neg h1]
theorem gV_0 {s l f : Nat} {A : Vec} : gV s l f A 0 = A 0 + 1 := by unfold gV updN; rw [if_pos rfl]
theorem gV_s {s l f : Nat} {A : Vec} : gV s l f A (7 + 3 * A 0) = s := by
  unfold gV updN
  rw [if_neg (by omega), if_neg (by omega), if_neg (by omega), if_pos rfl]
theorem gV_l {s l f : Nat} {A : Vec} : gV s l f A (8 + 3 * A 0) = l := by
  unfold gV updN
  rw [if_neg (by omega), if_neg (by omega), if_pos (by omega)]
theorem gV_f {s l f : Nat} {A : Vec} : gV s l f A (9 + 3 * A 0) = f := by
  unfold gV updN
  rw [if_neg (by omega), if_pos (by omega)]
theorem mV_lo {a h f k : Nat} {A : Vec} (h0 : k ≠ 1) (h1 : k ≠ 25 + 6 * A 1) (h2 : k ≠ 28 + 6 * A 1) (h3 : k ≠ 29 + 6 * A 1) : mV a h f A k = A k := by
  unfold mV updN
  rw [if_neg h0, if_neg (by omega), if_neg (by omega), if_neg h1]
theorem mV_1 {a h f : Nat} {A : Vec} : mV a h f A 1 = A 1 + 1 := by unfold mV updN; rw [if_pos rfl]
theorem mV_a {a h f : Nat} {A : Vec} : mV a h f A (25 + 6 * A 1) = a := by
  unfold mV updN
  rw [if_neg (by omega), if_neg (by omega), if_neg (by omega), if_pos rfl]
theorem mV_h {a h f : Nat} {A : Vec} : mV a h f A (28 + 6 * A 1) = h := by
  unfold mV updN
  rw [if_neg (by omega), if_neg (by omega), if_pos (by omega)]
theorem mV_f {a h f : Nat} {A : Vec} : mV a h f A (29 + 6 * A 1) = f := by
  unfold mV updN
  rw [if_neg (by omega), if_pos (by omega)]
theorem PV.g {s l f : Nat} {A : Vec} (hA : PV A) (h0 : A 0 < 6) (hs : 1 ≤ s) (hs5 : s ≤ 5) (hl : 1 ≤ l) (hl9 : l ≤ 9) (hf : f ≤ 1) : PV (gV s l f A) := by
  obtain ⟨a0, a1, a2, a3, a4, a5, a6, a7, a8, a9⟩ := hA
  refine ⟨by rw [gV_0]; omega, ?_, ?_, ?_, ?_, ?_, ?_, fun g hg => ?_, fun m hm => ?_, fun m hm => ?_⟩
  · rw [gV_lo (by omega) (by omega) (by omega) (by omega)]; exact a1
  · rw [gV_lo (by omega) (by omega) (by omega) (by omega)]; exact a2
  · rw [gV_lo (by omega) (by omega) (by omega) (by omega)]; exact a3
  · rw [gV_lo (by omega) (by omega) (by omega) (by omega)]; exact a4
  · rw [gV_lo (by omega) (by omega) (by omega) (by omega)]; exact a5
  · rw [gV_lo (by omega) (by omega) (by omega) (by omega)]; exact a6
  · rw [gV_0] at hg
    by_cases e : g = A 0
    · subst e
      rw [gV_s, gV_l, gV_f]
      exact ⟨hs, hs5, hl, hl9, hf⟩
    · rw [gV_lo (by omega) (by omega) (by omega) (by omega), gV_lo (by omega) (by omega) (by omega) (by omega), gV_lo (by omega) (by omega) (by omega) (by omega)]
      exact a7 g (by omega)
  · rw [gV_lo (by omega) (by omega) (by omega) (by omega)] at hm
    rw [gV_0, gV_lo (by omega) (by omega) (by omega) (by omega), gV_lo (by omega) (by omega) (by omega) (by omega), gV_lo (by omega) (by omega) (by omega) (by omega)]
    have := a8 m hm
    omega
  · rw [gV_lo (by omega) (by omega) (by omega) (by omega), gV_lo (by omega) (by omega) (by omega) (by omega), gV_lo (by omega) (by omega) (by omega) (by omega)]
    exact a9 m hm
theorem PV.m {a h f : Nat} {A : Vec} (hA : PV A) (h1 : A 1 < 5) (ha : a < A 0) (hh : h ≤ 1) (hf : f ≤ 99) : PV (mV a h f A) := by
  obtain ⟨a0, a1, a2, a3, a4, a5, a6, a7, a8, a9⟩ := hA
  refine ⟨?_, by rw [mV_1]; omega, ?_, ?_, ?_, ?_, ?_, fun g hg => ?_, fun m hm => ?_, fun m hm => ?_⟩
  · rw [mV_lo (by omega) (by omega) (by omega) (by omega)]; exact a0
  · rw [mV_lo (by omega) (by omega) (by omega) (by omega)]; exact a2
  · rw [mV_lo (by omega) (by omega) (by omega) (by omega)]; exact a3
  · rw [mV_lo (by omega) (by omega) (by omega) (by omega)]; exact a4
  · rw [mV_lo (by omega) (by omega) (by omega) (by omega)]; exact a5
  · rw [mV_lo (by omega) (by omega) (by omega) (by omega)]; exact a6
  · rw [mV_lo (by omega) (by omega) (by omega) (by omega)] at hg
    rw [mV_lo (by omega) (by omega) (by omega) (by omega), mV_lo (by omega) (by omega) (by omega) (by omega), mV_lo (by omega) (by omega) (by omega) (by omega)]
    exact a7 g hg
  · rw [mV_1] at hm
    rw [mV_lo (k := 0) (by omega) (by omega) (by omega) (by omega)]
    by_cases e : m = A 1
    · subst e
      rw [mV_a, mV_h, mV_f]
      exact ⟨ha, hh, hf⟩
    · rw [mV_lo (by omega) (by omega) (by omega) (by omega), mV_lo (by omega) (by omega) (by omega) (by omega), mV_lo (by omega) (by omega) (by omega) (by omega)]
      exact a8 m (by omega)
  · rw [mV_lo (by omega) (by omega) (by omega) (by omega), mV_lo (by omega) (by omega) (by omega) (by omega), mV_lo (by omega) (by omega) (by omega) (by omega)]
    exact a9 m hm
theorem PV.gd {A : Vec} (hA : PV A) (h0 : 2 ≤ A 0) (h1 : 1 ≤ A 1) : GD A := by
  obtain ⟨a0, a1, a2, a3, a4, a5, a6, a7, a8, a9⟩ := hA
  have hp := Nat.two_pow_pos (A 0)
  have hp1 := Nat.two_pow_pos (A 1)
  refine ⟨Or.inr ⟨⟨h0, a0, by omega, by omega, a2.1, a2.2, a3.1, a3.2, fun g hg => a7 g hg⟩, h1, a1, by omega, by omega, fun p hp => ?_⟩, fun p hp => ?_, by omega⟩
  · obtain ⟨b1, b2, b3⟩ := a8 p hp
    obtain ⟨c1, c2, c3⟩ := a9 p (by omega)
    refine ⟨b1, ?_, ?_, b2, b3⟩
    · show A (26 + 6 * p) ≤ 1; omega
    · show A (27 + 6 * p) < 2 ^ A 0; omega
  · rw [(a9 p (by omega)).2.2]; exact Nat.zero_le _
/-! steps -/
theorem pTake_y {T : Tp} {w q p : Nat} {A : Vec} (h : tok T p = w) : pTake T w (0, q, p, A) = (0, q, nx T p, A) := by unfold pTake; exact (if_pos rfl).trans (if_pos h)
theorem pTake_n {T : Tp} {w q p : Nat} {A : Vec} (h : ¬ tok T p = w) : pTake T w (0, q, p, A) = (1, p, p, A) := by unfold pTake; exact (if_pos rfl).trans (if_neg h)
theorem pTake_f {T : Tp} {w : Nat} {X : PX} (h : ¬ X.1 = 0) : pTake T w X = X := if_neg h
theorem pNum_y {T : Tp} {lo hi q p : Nat} {A : Vec} (h : tok T p = 256) (h2 : lo ≤ vl T p ∧ vl T p ≤ hi) : pNum T lo hi (0, q, p, A) = (0, q, nx T p, A) := by unfold pNum; exact (if_pos rfl).trans ((if_pos h).trans (if_pos h2))
theorem pNum_n {T : Tp} {lo hi q p : Nat} {A : Vec} (h : ¬ tok T p = 256) : pNum T lo hi (0, q, p, A) = (1, p, p, A) := by unfold pNum; exact (if_pos rfl).trans (if_neg h)
theorem pNum_r {T : Tp} {lo hi q p : Nat} {A : Vec} (h : tok T p = 256) (h2 : ¬ (lo ≤ vl T p ∧ vl T p ≤ hi)) : pNum T lo hi (0, q, p, A) = (2, p, p, A) := by unfold pNum; exact (if_pos rfl).trans ((if_pos h).trans (if_neg h2))
theorem pNum_f {T : Tp} {lo hi : Nat} {X : PX} (h : ¬ X.1 = 0) : pNum T lo hi X = X := if_neg h
theorem pMap_y {f : Vec → Vec} {q p : Nat} {A : Vec} : pMap f (0, q, p, A) = (0, q, p, f A) := if_pos rfl
theorem pMap_f {f : Vec → Vec} {X : PX} (h : ¬ X.1 = 0) : pMap f X = X := if_neg h
theorem pGate_f {T : Tp} {X : PX} (h : ¬ X.1 = 0) : pGate T X = X := if_neg h
theorem pMan_f {T : Tp} {X : PX} (h : ¬ X.1 = 0) : pMan T X = X := if_neg h
theorem pGs_f {T : Tp} {X : PX} (h : ¬ X.1 = 0) : ∀ f, pGs T f X = X
  | 0 => rfl
  | f + 1 => if_neg h
theorem pMs_f {T : Tp} {X : PX} (h : ¬ X.1 = 0) : ∀ f, pMs T f X = X
  | 0 => rfl
  | f + 1 => if_neg h
/-- the faults are 1, 2, 3; places are on the tape -/
def PK (T : Tp) (X : PX) : Prop := X.1 ≤ 3 ∧ X.2.1 ≤ T.1 ∧ X.2.2.1 ≤ T.1
theorem PK.take {T : Tp} {w : Nat} {X : PX} (h : PK T X) : PK T (pTake T w X) := by
  obtain ⟨h1, h2, h3⟩ := h
  have := nx_le h3
  unfold pTake
  split
  · split
    · exact ⟨Nat.zero_le _, h2, this⟩
    · exact ⟨by show 1 ≤ 3; omega, h3, h3⟩
  · exact ⟨h1, h2, h3⟩
theorem PK.num {T : Tp} {lo hi : Nat} {X : PX} (h : PK T X) : PK T (pNum T lo hi X) := by
  obtain ⟨h1, h2, h3⟩ := h
  have := nx_le h3
  unfold pNum
  split
  · split
    · split
      · exact ⟨Nat.zero_le _, h2, this⟩
      · exact ⟨by show 2 ≤ 3; omega, h3, h3⟩
    · exact ⟨by show 1 ≤ 3; omega, h3, h3⟩
  · exact ⟨h1, h2, h3⟩
theorem PK.map {T : Tp} {f : Vec → Vec} {X : PX} (h : PK T X) : PK T (pMap f X) := by
  obtain ⟨h1, h2, h3⟩ := h
  unfold pMap
  split
  · exact ⟨Nat.zero_le _, h2, h3⟩
  · exact ⟨h1, h2, h3⟩
theorem PK.gate {T : Tp} {X : PX} (h : PK T X) : PK T (pGate T X) := by
  have h0 : PK T (0, X.2.1, nx T X.2.2.1, X.2.2.2) := ⟨Nat.zero_le _, h.2.1, nx_le h.2.2⟩
  unfold pGate
  split
  · split
    · exact ⟨Nat.le_refl _, h.2.2, h.2.2⟩
    · exact h0.num.take.num.take.map
  · exact h
theorem PK.man {T : Tp} {X : PX} (h : PK T X) : PK T (pMan T X) := by
  have h0 : PK T (0, X.2.1, nx T X.2.2.1, X.2.2.2) := ⟨Nat.zero_le _, h.2.1, nx_le h.2.2⟩
  unfold pMan
  split
  · split
    · exact ⟨Nat.le_refl _, h.2.2, h.2.2⟩
    · exact h0.num.take.num.take.num.take.map
  · exact h
theorem PK.gs {T : Tp} : ∀ (f : Nat) {X : PX}, PK T X → PK T (pGs T f X)
  | 0, X, h => h
  | f + 1, X, h => by
    unfold pGs
    split
    · split
      · exact h
      · exact PK.gs f h.gate
    · exact h
theorem PK.ms {T : Tp} : ∀ (f : Nat) {X : PX}, PK T X → PK T (pMs T f X)
  | 0, X, h => h
  | f + 1, X, h => by
    unfold pMs
    split
    · split
      · exact PK.ms f h.man
      · exact h
    · exact h
theorem PK.ge {T : Tp} {X : PX} (h : PK T X) : PK T (pGe X) := by
  unfold pGe
  split
  · split
    · exact ⟨by show 1 ≤ 3; omega, h.2.2, h.2.2⟩
    · exact h
  · exact h
theorem PK.me {T : Tp} {X : PX} (h : PK T X) : PK T (pMe X) := by
  unfold pMe
  split
  · split
    · exact ⟨by show 1 ≤ 3; omega, h.2.2, h.2.2⟩
    · exact h
  · exact h
theorem PK.law {T : Tp} {X : PX} (h : PK T X) : PK T (pLaw T X) := by
  unfold pLaw
  exact h.take.num.map.take.num.map.take
theorem PK.all (T : Tp) : PK T (pAll T) := by
  have h0 : PK T X0 := ⟨Nat.zero_le _, Nat.zero_le _, Nat.zero_le _⟩
  exact ((PK.ms 6 (PK.gs 7 h0.law).ge).me).take
def oShore (S : Ab) : Ab × Int32 := if (pAll (aT S)).1 = 0 then (((pAll (aT S)).2.2.2, ((aH S).1, 0), aI S, aR S, (0, (aT S).2), aF S, aS S, aX S), nI ((pAll (aT S)).2.2.2 0)) else ((aA S, aH S, aI S, aR S, (0, (aT S).2), (pAll (aT S)).1, aS S, aX S), (-1000100) - nI (pAll (aT S)).2.1)

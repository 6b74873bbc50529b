/-! what the calls answer -/
def ix (x : Int32) : Nat := x.toNatClampNeg
theorem ixN {g : Nat} (h : g < 2 ^ 31) : ix (nI g) = g := nI_clamp h
def swx (y : Int32) (hi : Nat) : Nat := if y.toInt < 0 ∨ (hi : Int) < y.toInt then hi + 1 else y.toInt.toNat
def gIn (x : Int32) (G : Nat) : Int32 := wi x (nI 0) (nI G - nI 1)
def WN (A : Vec) : Prop := (A 0 = 0 ∧ A 1 = 0 ∧ A 5 = 0) ∨ WF A
theorem WN.wf {A : Vec} (h : WN A) (h0 : 0 < A 0 ∨ 0 < A 1) : WF A := by
  rcases h with h | h
  · omega
  · exact h
theorem WN.le {A : Vec} (h : WN A) : A 0 ≤ 6 ∧ A 1 ≤ 5 := by
  rcases h with h | h
  · omega
  · exact ⟨h.1.2.1, h.2.2.1⟩
/-- hunger, as far as days go -/
def HBd (A : Vec) : Prop := ∀ p, p < A 1 → A (30 + 6 * p) ≤ 1000000
theorem dayPn_hu1 (B : Vec) (st : Nat) (q : Pn) : (dayPn B st q).2.2.2.2.2 ≤ q.2.2.2.2.2 + 1 := by
  have hc : ∀ r : Pn, (crossP B r).2.2.2.2.2 = r.2.2.2.2.2 := fun r => rfl
  have hw : ∀ r : Pn, (walkP B r).2.2.2.2.2 = r.2.2.2.2.2 := fun r => by unfold walkP; (repeat' split) <;> rfl
  have hg : (goP B st q).2.2.2.2.2 = q.2.2.2.2.2 := by
    unfold goP
    split
    · rw [hc, hw]
      split
      · rfl
      · rw [hc]
    · rfl
  have he : ∀ r : Pn, (eatP B r).2.2.2.2.2 ≤ r.2.2.2.2.2 + 1 := fun r => by
    unfold eatP
    (repeat' split) <;> dsimp only <;> omega
  unfold dayPn
  split
  · rw [hg]; omega
  · rw [← hg]; exact he _
theorem pdays_hu1 {B : Vec} {st : Nat} {q : Pn} : ∀ i, (pdays B st q i).2.2.2.2.2 ≤ q.2.2.2.2.2 + i
  | 0 => Nat.le_refl _
  | i + 1 => by
    have h1 := pdays_hu1 (B := B) (st := st) (q := q) i
    have h2 := dayPn_hu1 B st (pdays B st q i)
    show (dayPn B st (pdays B st q i)).2.2.2.2.2 ≤ _
    omega
theorem HBd.b {A B : Vec} (h : HBd A) {p i : Nat} (hp : p < A 1) (hi : i ≤ 60) : (pds A B p i).2.2.2.2.2 < 2 ^ 31 := by
  have h1 := pdays_hu1 (B := B) (st := bitN (A 6) p) (q := pn A p) i
  have h2 := h p hp
  have h3 : (pn A p).2.2.2.2.2 = A (30 + 6 * p) := rfl
  unfold pds
  omega
def sGate (A : Vec) (x y : Int32) : Int32 := if gIn x (A 0) = 0 then (-1000001) else match swx y 4 with
  | 0 => nI (A (8 + 3 * ix x))
  | 1 => nI (A (9 + 3 * ix x))
  | 2 => nI (bitN (A 5) (ix x))
  | 3 => nI (mkN (atF A (ix x) 1) (A 1))
  | 4 => nI (mkN (atF A (ix x) 0) (A 1))
  | _ => (-1000001)
def sPerson (A : Vec) (x y : Int32) : Int32 := if gIn x (A 1) = 0 then (-1000001) else match swx y 6 with
  | 0 => nI (A (25 + 6 * ix x))
  | 1 => nI (A (26 + 6 * ix x))
  | 2 => nI (A (27 + 6 * ix x))
  | 3 => nI (A (28 + 6 * ix x))
  | 4 => nI (A (29 + 6 * ix x))
  | 5 => nI (A (30 + 6 * ix x))
  | 6 => nI (bitN (A 6) (ix x))
  | _ => (-1000001)
def sFellows (A : Vec) (x : Int32) : Int32 := if gIn x (A 1) = 0 then (-1000001) else nI (mkN (felF A (ix x)) (A 1))
def sHomes (A : Vec) (x : Int32) : Int32 := if gIn x (A 0) = 0 then (-1000001) else nI (mkN (ofF A (ix x)) (A 1))
def sShare (A : Vec) (x y : Int32) : Int32 := if gIn x (A 1) = 0 then (-1000001) else if wi y (nI 0) (nI 999) = 0 then (-1000001) else nI (shC A (ix x) (ix y))
def sKind (A : Vec) (x : Int32) : Int32 := if gIn x (A 0) = 0 then (-1000001) else nI (A (7 + 3 * ix x))
def sAhead (A : Vec) (x y z : Int32) : Int32 := if gIn x (A 1) = 0 then (-1000001) else if wi y (nI 0) (nI 60) = 0 then (-1000001) else match swx z 4 with
  | 0 => nI (pds A A (ix x) (ix y)).1
  | 1 => nI (pds A A (ix x) (ix y)).2.1
  | 2 => nI (pds A A (ix x) (ix y)).2.2.1
  | 3 => nI (pds A A (ix x) (ix y)).2.2.2.2.1
  | 4 => nI (pds A A (ix x) (ix y)).2.2.2.2.2
  | _ => (-1000001)
def sWhen (A : Vec) (x y : Int32) : Int32 := if gIn x (A 1) = 0 then (-1000001) else if gIn y (A 0) = 0 then (-1000001) else whenR (fun i => bitN (pds A A (ix x) i).2.2.1 (ix y)) 61 0
def sFirst (A : Vec) (x : Int32) : Int32 := if A 0 = 0 then (-1000002) else if wi x (nI 0) (nI 1) = 0 then (-1000001) else hfR A (ix x)
def sRounds (A : Vec) (x y z w : Int32) : Int32 := if gIn x (A 1) = 0 then (-1000001) else if gIn y (A 0) = 0 then (-1000001) else if wi z (nI 1) (nI 30) = 0 then (-1000001) else if wi w (nI 0) (nI 1) = 0 then (-1000001) else szs (ov (bestS (otS A (ix x) (ix y) (ix z)) (2 ^ A 0))) w
def sFalls (A : Vec) (x y : Int32) : Int32 := if A 0 = 0 then (-1000002) else if wi x (nI 1) (nI 30) = 0 then (-1000001) else if wi y (nI 0) (nI 1) = 0 then (-1000001) else szs (ov (bestS (okF A (ix x)) (2 ^ A 0))) y
def lkR (A : Vec) (p n pr w : Nat) : Int64 := if cdv 100 (lkS A p n pr (2 ^ A 0)) (10 ^ (A 0 - cntN (A 5))) = 0 then (-1000000) else if w = 0 then lN (lkS A p n pr (2 ^ A 0) / cdv 100 (lkS A p n pr (2 ^ A 0)) (10 ^ (A 0 - cntN (A 5)))) else lN (10 ^ (A 0 - cntN (A 5)) / cdv 100 (lkS A p n pr (2 ^ A 0)) (10 ^ (A 0 - cntN (A 5))))
def sFed (A : Vec) (x y z w : Int32) : Int64 := if gIn x (A 1) = 0 then (-1000001) else if wi y (nI 0) (nI 30) = 0 then (-1000001) else if wi z (nI 0) (nI 10) = 0 then (-1000001) else if wi w (nI 0) (nI 1) = 0 then (-1000001) else lkR A (ix x) (ix y) (ix z) (ix w)
def drR (A : Vec) (n x w : Nat) : Int32 := if w = 0 then nI (hung (yrs A x n).1) - nI (hung A) else nI (fishs (yrs A x n).1)
def sDrawn (A : Vec) (x y z : Int32) : Int32 := if A 0 = 0 then (-1000002) else if wi x (nI 0) (nI 60) = 0 then (-1000001) else if wi y (nI 1) (nI 999999) = 0 then (-1000001) else if wi z (nI 0) (nI 1) = 0 then (-1000001) else drR A (ix x) (ix y) (ix z)

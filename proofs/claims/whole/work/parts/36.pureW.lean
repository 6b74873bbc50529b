/-! acts -/
abbrev AbT : Type := ((Nat → Vec) × Nat) × ((Nat → Nat) × (Nat → Vec)) × ((Nat → Nat) × (Nat → Nat) × (Nat → Nat → Int32)) × (Nat × (Nat → Nat)) × Nat × Nat × (Nat × (Nat → Nat))
def keepH (A : Vec) (H : (Nat → Vec) × Nat) : (Nat → Vec) × Nat := if H.2 < 24 then (fun j => if j = H.2 then A else H.1 j, H.2 + 1) else (fun j => if j = 23 then A else H.1 (j + 1), H.2)
def keepS (S : Ab) : Ab := wH S (keepH S.1 S.2.1)
def dayS (S : Ab) : Ab := wA (keepS S) (dayV S.1)
def daysK (S : Ab) : Nat → Ab
  | 0 => S
  | n + 1 => dayS (daysK S n)
theorem daysK_1 {S : Ab} : ∀ n, (daysK S n).1 = daysV S.1 n
  | 0 => rfl
  | n + 1 => by show dayV (daysK S n).1 = dayV (daysV S.1 n); rw [daysK_1 n]
theorem keepH_ok {A : Vec} {H : (Nat → Vec) × Nat} (hA : GD A) (h : H.2 ≤ 24 ∧ ∀ j, j < H.2 → GD (H.1 j)) : (keepH A H).2 ≤ 24 ∧ ∀ j, j < (keepH A H).2 → GD ((keepH A H).1 j) := by
  unfold keepH
  by_cases q : H.2 < 24
  · rw [if_pos q]
    refine ⟨q, fun j hj => ?_⟩
    dsimp only at hj ⊢
    by_cases e : j = H.2
    · rw [if_pos e]; exact hA
    · rw [if_neg e]; exact h.2 j (by omega)
  · rw [if_neg q]
    refine ⟨h.1, fun j hj => ?_⟩
    dsimp only at hj ⊢
    by_cases e : j = 23
    · rw [if_pos e]; exact hA
    · rw [if_neg e]; exact h.2 (j + 1) (by omega)
theorem GS.keep {S : Ab} (h : GS S) : GS (keepS S) := h.wH (keepH_ok h.1 h.2.1)
theorem CH.keep {σ : Sg} {A : Vec} {H : (Nat → Vec) × Nat} {O : Nat} (hA : GD A) (hR : RepC σ 4 A) (hG : H.2 ≤ 24 ∧ ∀ j, j < H.2 → GD (H.1 j)) (hO : O < 24) (h1 : σ 23 1 = nI O) (h2 : σ 23 2 = nI H.2) (h3 : ∀ j, j < H.2 → RepC σ (25 + 9 * ((O + j) % 24)) (H.1 j)) : CH (actK O H.2 σ) (keepH A H) ∧ Fb 23 241 σ (actK O H.2 σ) := by
  unfold actK keepH
  by_cases q : H.2 < 24
  · rw [if_pos q, if_pos q]
    have hb : ∀ a k, a ≠ 23 → ¬ (25 + 9 * ((O + H.2) % 24) ≤ a ∧ a < 25 + 9 * ((O + H.2) % 24) + 9) → up2 (bec (25 + 9 * ((O + H.2) % 24)) 4 σ) 23 2 (nI (H.2 + 1)) a k = σ a k := fun a k ha hk => by
      rw [up2_ne ha]; exact bec_fb a k hk
    refine ⟨⟨O, hO, ?_, ?_, fun j hj => ?_⟩, fun a k hk => hb a k (by omega) (by omega)⟩
    · rw [up2_k (by omega), bec_fb 23 1 (by omega)]; exact h1
    · rw [up2_at]
    · dsimp only at hj ⊢
      by_cases e : j = H.2
      · rw [if_pos e, e]
        exact (bec_rep hA.g6 hA.p5 hR).eq hA.p5 (fun a ha hb k => congrFun (up2_ne (by omega)) k)
      · rw [if_neg e]
        exact (h3 j (by omega)).eq (hG.2 j (by omega)).p5 (fun a ha hb2 k => hb a k (by omega) (by omega))
  · rw [if_neg q, if_neg q]
    have h24 : H.2 = 24 := by omega
    have hb : ∀ a k, a ≠ 23 → ¬ (25 + 9 * ((O + H.2) % 24) ≤ a ∧ a < 25 + 9 * ((O + H.2) % 24) + 9) → up2 (bec (25 + 9 * ((O + H.2) % 24)) 4 σ) 23 1 (nI ((O + 1) % 24)) a k = σ a k := fun a k ha hk => by
      rw [up2_ne ha]; exact bec_fb a k hk
    refine ⟨⟨(O + 1) % 24, by omega, ?_, ?_, fun j hj => ?_⟩, fun a k hk => hb a k (by omega) (by omega)⟩
    · rw [up2_at]
    · rw [up2_k (by omega), bec_fb 23 2 (by omega)]; exact h2
    · dsimp only at hj ⊢
      by_cases e : j = 23
      · rw [if_pos e, show ((O + 1) % 24 + j) % 24 = (O + H.2) % 24 by omega]
        exact (bec_rep hA.g6 hA.p5 hR).eq hA.p5 (fun a ha hb k => congrFun (up2_ne (by omega)) k)
      · rw [if_neg e, show ((O + 1) % 24 + j) % 24 = (O + (j + 1)) % 24 by omega]
        exact (h3 (j + 1) (by omega)).eq (hG.2 (j + 1) (by omega)).p5 (fun a ha hb2 k => hb a k (by omega) (by omega))
theorem c8_keep (E : En) (S : Ab) (σ : Sg) (hI : IC σ S) : Cn E m_X0_keep 3 [.ref (eB E + 23), .ref (eB E + 4)] σ (pV (fun σ' => Fb 23 241 σ σ' ∧ IC σ' (keepS S))) := by
  obtain ⟨O, hO, h1, h2, h3⟩ := id hI.2.2.1
  obtain ⟨k1, k2⟩ := CH.keep hI.1.1 hI.2.1 hI.1.2.1 hO h1 h2 h3
  refine (c_X0_keep E O (aH S).2 σ h1 h2 hO hI.1.2.1.1).mono (fun σ' v hv => ⟨hv.1, ?_⟩)
  rw [hv.2]
  exact ⟨k2, hI.wH (keepH_ok hI.1.1 hI.1.2.1) k1 k2⟩
/-! changes of the shore -/
theorem pn_setP {A : Vec} {p m : Nat} {q : Pn} : pn (setP A p q) m = if m = p then q else pn A m := by
  by_cases h : m = p
  · rw [if_pos h, h]
    unfold pn
    rw [setP_0, setP_1, setP_2, setP_3, setP_4, setP_5]
  · rw [if_neg h]
    have e : ∀ k i, i < 6 → k = 25 + 6 * m + i → setP A p q k = A k := fun k i hi hk => by
      unfold setP
      rw [if_neg (by omega), if_neg (by omega), if_neg (by omega), if_neg (by omega), if_neg (by omega), if_neg (by omega)]
    unfold pn
    rw [e _ 0 (by omega) (by omega), e _ 1 (by omega) (by omega), e _ 2 (by omega) (by omega), e _ 3 (by omega) (by omega), e _ 4 (by omega) (by omega), e _ 5 (by omega) (by omega)]
theorem WF.sP {A : Vec} {p : Nat} {q : Pn} (h : WF A) (hq : WP A q) : WF (setP A p q) := by
  obtain ⟨a1, a2, a3, a4, a5, a6⟩ := h
  have e0 : setP A p q 0 = A 0 := setP_lo (by omega)
  have e1 : setP A p q 1 = A 1 := setP_lo (by omega)
  have e6 : setP A p q 6 = A 6 := setP_lo (by omega)
  refine ⟨a1.setP, by omega, by omega, by omega, by rw [e6, e1]; exact a5, fun m hm => ?_⟩
  rw [pn_setP]
  split
  · exact hq.env e0
  · exact (a6 m (by omega)).env e0
theorem GD.sP {A : Vec} {p : Nat} {q : Pn} (h : GD A) (hF : WF A) (hq : WP A q) (hh : q.2.2.2.2.2 ≤ A 4) : GD (setP A p q) := by
  refine ⟨Or.inr (hF.sP hq), fun m hm => ?_, ?_⟩
  · rw [setP_lo (by omega)] at hm
    have e : setP A p q (30 + 6 * m) = (pn (setP A p q) m).2.2.2.2.2 := rfl
    rw [e, pn_setP, setP_lo (by omega)]
    split
    · exact hh
    · exact h.2.1 m hm
  · rw [setP_lo (by omega)]; exact h.2.2
theorem RepC.sP {σ τ : Sg} {A : Vec} {n p : Nat} {q : Pn} (h6 : A 0 ≤ 6) (h5 : A 1 ≤ 5) (h : RepC σ n A) (hp : p < A 1) (hw : Wk τ (n + 4 + p) q) (hf : Fw σ τ (n + 4 + p)) : RepC τ n (setP A p q) := by
  obtain ⟨h1, h2⟩ := h
  refine ⟨?_, fun m hm => ?_⟩
  · have hE := h1.fw hf (by omega) (by omega) (by omega)
    obtain ⟨x0, x1, x2, x3, x4, x6, ⟨F', hF', x5, hFb⟩, xgs⟩ := hE
    unfold EnvC
    rw [setP_lo (k := 0) (by omega), setP_lo (k := 1) (by omega), setP_lo (k := 2) (by omega), setP_lo (k := 3) (by omega), setP_lo (k := 4) (by omega), setP_lo (k := 5) (by omega)]
    refine ⟨x0, x1, x2, x3, x4, x6, ⟨F', hF', x5, fun g hg => ?_⟩, fun g hg => ?_⟩
    · rw [setP_lo (by omega)]; exact hFb g hg
    · rw [setP_lo (by omega), setP_lo (by omega)]; exact xgs g hg
  · rw [setP_lo (by omega)] at hm
    rw [pn_setP, setP_lo (k := 6) (by omega)]
    refine ⟨?_, (hf _ 6 (by omega)).trans (h2 m hm).2⟩
    by_cases e : m = p
    · rw [if_pos e, e]; exact hw
    · rw [if_neg e]
      exact (h2 m hm).1.cg (fun k _ => hf _ _ (fun q => e (by have := q.1; omega)))
theorem GD.day {A : Vec} (h : GD A) (hF : WF A) (h9 : A 4 + 1 ≤ 999) : GD (dayV A) := by
  refine ⟨Or.inr hF.day, fun p hp => ?_, by rw [dayV_4]; exact h9⟩
  rw [dayV_lo (by omega) (by omega)] at hp
  have e : dayV A (30 + 6 * p) = (pn (dayV A) p).2.2.2.2.2 := rfl
  rw [e, pn_dayV hp, dayV_4]
  have h1 := dayPn_hu1 A (bitN (A 6) p) (pn A p)
  have h2 := h.2.1 p hp
  have h3 : (pn A p).2.2.2.2.2 = A (30 + 6 * p) := rfl
  omega
theorem GD.turn {A : Vec} {s : Nat} (h : GD A) (hF : WF A) : GD (turnV A s) := by
  refine ⟨Or.inr hF.turn, fun p hp => ?_, by rw [turnV_lo (by omega)]; exact h.2.2⟩
  rw [turnV_lo (by omega)] at hp
  rw [turnV_hi (by omega), turnV_lo (by omega)]
  exact h.2.1 p hp
theorem GD.xfall {A : Vec} {s : Nat} (h : GD A) (hF : WF A) (hs : s < 2 ^ A 0) : GD (xfall A s) := by
  refine ⟨Or.inr (hF.xfall hs), fun p hp => ?_, by rw [xfall_lo (by omega)]; exact h.2.2⟩
  rw [xfall_lo (by omega)] at hp
  rw [xfall_lo (by omega), xfall_lo (by omega)]
  exact h.2.1 p hp
/-! who stays -/
theorem stx : ∀ s, s < 32 → ∀ p, p < 5 → s ^^^ 2 ^ p < 32 ∧ ∀ m, m < 5 → bitN (s ^^^ 2 ^ p) m = if m = p then 1 - bitN s p else bitN s m := by decide +kernel
theorem stw : ∀ n, n < 6 → ∀ s, s < 2 ^ n → mkN (fun m => if bitN s m = 0 then 0 else 2 ^ m) n = s := by decide +kernel
def stayV (A : Vec) (p : Nat) : Vec := updN A 6 (A 6 ^^^ 2 ^ p)
theorem stayV_ne {A : Vec} {p k : Nat} (h : k ≠ 6) : stayV A p k = A k := if_neg h
theorem stayV_6 {A : Vec} {p : Nat} : stayV A p 6 = A 6 ^^^ 2 ^ p := by unfold stayV updN; rw [if_pos rfl]
theorem pn_stay {A : Vec} {p m : Nat} : pn (stayV A p) m = pn A m := by
  unfold pn
  rw [stayV_ne (by omega), stayV_ne (by omega), stayV_ne (by omega), stayV_ne (by omega), stayV_ne (by omega), stayV_ne (by omega)]
theorem WF.stay {A : Vec} {p : Nat} (h : WF A) (hp : p < A 1) : WF (stayV A p) := by
  obtain ⟨a1, a2, a3, a4, a5, a6⟩ := h
  have e0 : stayV A p 0 = A 0 := stayV_ne (by omega)
  have e1 : stayV A p 1 = A 1 := stayV_ne (by omega)
  have hpw := pow_le6 hp
  refine ⟨?_, by omega, by omega, by rw [stayV_6]; exact (stx _ a4 p (by omega)).1, ?_, fun m hm => ?_⟩
  · unfold WE
    obtain ⟨b1, b2, b3, b4, b5, b6, b7, b8, b9⟩ := a1
    rw [stayV_ne (k := 0) (by omega), stayV_ne (k := 5) (by omega), stayV_ne (k := 2) (by omega), stayV_ne (k := 3) (by omega)]
    refine ⟨b1, b2, b3, b4, b5, b6, b7, b8, fun g hg => ?_⟩
    rw [stayV_ne (by omega), stayV_ne (by omega), stayV_ne (by omega)]
    exact b9 g hg
  · rw [stayV_6, e1]
    have := Nat.two_pow_pos p
    exact xor2 a5 (by omega)
  · rw [pn_stay]
    exact (a6 m (by omega)).env e0
theorem GD.stay {A : Vec} {p : Nat} (h : GD A) (hF : WF A) (hp : p < A 1) : GD (stayV A p) := by
  refine ⟨Or.inr (hF.stay hp), fun m hm => ?_, by rw [stayV_ne (by omega)]; exact h.2.2⟩
  rw [stayV_ne (by omega)] at hm
  rw [stayV_ne (by omega), stayV_ne (by omega)]
  exact h.2.1 m hm
theorem RepC.stay {σ : Sg} {A : Vec} {n p y : Nat} (hF : WF A) (h : RepC σ n A) (hp : p < A 1) (hy : y = 1 - bitN (A 6) p) : RepC (up2 σ (n + 4 + p) 6 (nI y)) n (stayV A p) := by
  have h5 := hF.2.2.1
  obtain ⟨h1, h2⟩ := h
  have u : ∀ a k, a ≠ n + 4 + p → up2 σ (n + 4 + p) 6 (nI y) a k = σ a k := fun a k ha => by rw [up2_ne ha]
  refine ⟨?_, fun m hm => ?_⟩
  · unfold EnvC at h1 ⊢
    rw [stayV_ne (k := 0) (by omega), stayV_ne (k := 1) (by omega), stayV_ne (k := 2) (by omega), stayV_ne (k := 3) (by omega), stayV_ne (k := 4) (by omega), stayV_ne (k := 5) (by omega)]
    obtain ⟨x0, x1, x2, x3, x4, x6, ⟨F', hF', x5, hFb⟩, xgs⟩ := h1
    refine ⟨(u _ _ (by omega)).trans x0, (u _ _ (by omega)).trans x1, (u _ _ (by omega)).trans x2, (u _ _ (by omega)).trans x3, (u _ _ (by omega)).trans x4, (u _ _ (by omega)).trans x6, ⟨F', hF', (u _ _ (by omega)).trans x5, fun g hg => ?_⟩, fun g hg => ?_⟩
    · rw [stayV_ne (by omega)]; exact hFb g hg
    · rw [stayV_ne (by omega), stayV_ne (by omega)]; exact ⟨(u _ _ (by omega)).trans (xgs g hg).1, (u _ _ (by omega)).trans (xgs g hg).2⟩
  · rw [stayV_ne (by omega)] at hm
    rw [pn_stay, stayV_6, (stx _ hF.2.2.2.1 p (by omega)).2 m (by omega)]
    by_cases e : m = p
    · rw [if_pos e, e]
      refine ⟨(h2 p hp).1.cg (fun k hk => by rw [up2_k (by omega)]), ?_⟩
      rw [up2_at, hy]
    · rw [if_neg e]
      exact ⟨(h2 m hm).1.cg (fun k _ => u _ _ (by omega)), (u _ _ (by omega)).trans (h2 m hm).2⟩
/-! fallen ones -/
theorem flx : ∀ s, s < 64 → ∀ g, g < 6 → (bitN s g = 0 → s ||| 2 ^ g = s ^^^ 2 ^ g) ∧ (bitN s g = 1 → bclr s g = s ^^^ 2 ^ g) ∧ bitN (s ^^^ 2 ^ g) g = 1 - bitN s g := by decide +kernel
def setHdg (A : Vec) (p : Nat) : Vec := setP A p (A (25 + 6 * p), A (26 + 6 * p), A (27 + 6 * p), 1 - A (28 + 6 * p), A (29 + 6 * p), A (30 + 6 * p))
/-! what the acts answer -/
def oUndo (S : Ab) : Ab × Int32 := if S.2.1.2 = 0 then (S, (-1000002)) else ((S.2.1.1 (S.2.1.2 - 1), (S.2.1.1, S.2.1.2 - 1), S.2.2), nI (S.2.1.2 - 1))
def oDays (S : Ab) (x : Int32) : Ab × Int32 := if S.1 0 = 0 then (S, (-1000002)) else if wi x (nI 1) (nI 24) = 0 then (S, (-1000001)) else if 999 < S.1 4 + ix x then (S, (-1000003)) else (daysK S (ix x), nI (hung (daysV S.1 (ix x))))
def oCross (S : Ab) (x : Int32) : Ab × Int32 := if gIn x (S.1 1) = 0 then (S, (-1000001)) else (wA (keepS S) (setP S.1 (ix x) (crossP S.1 (pn S.1 (ix x)))), nI (crossP S.1 (pn S.1 (ix x))).2.2.1)
def oTurn (S : Ab) (x : Int32) : Ab × Int32 := if gIn x (S.1 1) = 0 then (S, (-1000001)) else (wA (keepS S) (setHdg S.1 (ix x)), nI (1 - S.1 (28 + 6 * ix x)))
def oStay (S : Ab) (x y : Int32) : Ab × Int32 := if gIn x (S.1 1) = 0 then (S, (-1000001)) else if wi y (nI 0) (nI 1) = 0 then (S, (-1000001)) else if bitN (S.1 6) (ix x) = ix y then (S, (-1000002)) else (wA (keepS S) (stayV S.1 (ix x)), nI (S.1 6 ^^^ 2 ^ ix x))
def oRound (S : Ab) (x : Int32) : Ab × Int32 := if gIn x (S.1 0) = 0 then (S, (-1000001)) else (wA (keepS S) (turnV S.1 (2 ^ ix x)), nI (1 - S.1 (9 + 3 * ix x)))
def oFall (S : Ab) (x : Int32) (to : Nat) : Ab × Int32 := if gIn x (S.1 0) = 0 then (S, (-1000001)) else if bitN (S.1 5) (ix x) = to then (S, (-1000002)) else (wA (keepS S) (xfall S.1 (2 ^ ix x)), nI (S.1 5 ^^^ 2 ^ ix x))
def oImage (S : Ab) (x : Int32) : Ab × Int32 := if wi x (nI 0) (nI 1) = 0 then (S, (-1000001)) else if S.1 0 = 0 then (S, (-1000002)) else (wI S (fun k => if k = ix x then 1 else S.2.2.1.1 k, fun k => if k = ix x then S.1 else S.2.2.1.2 k), nI 1)
def oRestore (S : Ab) (x : Int32) : Ab × Int32 := if wi x (nI 0) (nI 1) = 0 then (S, (-1000001)) else if S.2.2.1.1 (ix x) = 0 then (S, (-1000002)) else ((S.2.2.1.2 (ix x), (S.2.1.1, 0), S.2.2), nI 1)

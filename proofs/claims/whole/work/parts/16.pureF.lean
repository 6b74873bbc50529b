/-- by dinners -/
def tld (B : Vec) (st : Nat) (q : Pn) (d : Nat → Int32) (n : Nat) : Nat := toldR (fun i => eatsP B st (pdays B st q i)) d n 0
theorem tld_le (B : Vec) (st : Nat) (q : Pn) (d : Nat → Int32) (n : Nat) : tld B st q d n ≤ 1 := toldR_le _ _
def fitK (f : Nat → Nat) (lo : Nat) : Nat → Nat
  | 0 => 0
  | k + 1 => fitK f lo k ||| (if f (lo + k) = 0 then 0 else 2 ^ (lo + k))
def ffS (A : Vec) (f0 : Nat) (f : Nat → Nat) : Nat → Nat
  | 0 => if f0 = 0 then 0 else 64
  | g + 1 => ffS A f0 f g ||| (if bitN (A 5) g = 0 then (if f g = 0 then 0 else 2 ^ g) else 0)
theorem faceB : ∀ F, F < 64 → ∀ g, g < 6 → ∀ f, f < 2 → (bclr F g ||| f * 2 ^ g) < 64 ∧ ∀ j, j < 6 → bitN (bclr F g ||| f * 2 ^ g) j = if j = g then f else bitN F j := by decide +kernel
def setHd (q : Pn) (h : Nat) : Pn := (q.1, q.2.1, q.2.2.1, h, q.2.2.2.2)
def setFi (q : Pn) (f : Nat) : Pn := (q.1, q.2.1, q.2.2.1, q.2.2.2.1, f, q.2.2.2.2.2)
theorem Wk.hd {τ : Sg} {w h : Nat} {q : Pn} (hq : Wk τ w q) : Wk (up2 τ w 2 (nI h)) w (setHd q h) := by
  obtain ⟨a0, a5, a1, a2, a3, a4⟩ := hq
  refine ⟨?_, ?_, ?_, ?_, ?_, ?_⟩ <;> simp [up2, setHd, a0, a1, a3, a4, a5]
theorem Wk.fi {τ : Sg} {w f : Nat} {q : Pn} (hq : Wk τ w q) : Wk (up2 τ w 3 (nI f)) w (setFi q f) := by
  obtain ⟨a0, a5, a1, a2, a3, a4⟩ := hq
  refine ⟨?_, ?_, ?_, ?_, ?_, ?_⟩ <;> simp [up2, setFi, a0, a1, a2, a4, a5]
theorem EnvC.wk {τ : Sg} {n w k : Nat} {x : Int32} {A : Vec} (h : EnvC τ n A) (hk : k < 6) (h1 : n ≠ w) (h2 : n + 1 ≠ w) (h3 : n + 2 ≠ w) : EnvC (up2 τ w k x) n A := h.fw (Fw.rf.up hk) h1 h2 h3
/-- all persons of the trial, each some days on -/
def AP (σ τ : Sg) (A : Vec) (c : Nat → Nat) : Prop := Fb 242 251 σ τ ∧ EnvC τ 242 A ∧ ∀ m, m < A 1 → Wk τ (246 + m) (pds A A m (c m)) ∧ τ (246 + m) 6 = nI (bitN (A 6) m)
theorem AP.zero {σ : Sg} {A : Vec} (h6 : A 0 ≤ 6) (h5 : A 1 ≤ 5) (h : RepC σ 4 A) : AP σ (bec 242 4 σ) A (fun _ => 0) := by
  have hr := bec_rep (n := 242) h6 h5 h
  exact ⟨bec_fb, hr.1, fun m hm => hr.2 m hm⟩
theorem AP.step {σ τ τ' : Sg} {A : Vec} {c c' : Nat → Nat} {p : Nat} (h5 : A 1 ≤ 5) (hp : p < A 1) (h : AP σ τ A c) (hw : Wk τ' (246 + p) (pds A A p (c' p))) (hf : Fw τ τ' (246 + p)) (hc : ∀ m, m < A 1 → m ≠ p → c' m = c m) : AP σ τ' A c' := by
  obtain ⟨h1, h2, h3⟩ := h
  refine ⟨h1.tr (hf.b (by omega) (by omega)), h2.fw hf (by omega) (by omega) (by omega), fun m hm => ?_⟩
  by_cases e : m = p
  · subst e
    exact ⟨hw, (hf _ 6 (fun q => by have := q.2; omega)).trans (h3 m hm).2⟩
  · rw [hc m hm e]
    have u : ∀ k, τ' (246 + m) k = τ (246 + m) k := fun k => hf _ _ (fun q => e (by have := q.1; omega))
    exact ⟨(h3 m hm).1.cg (fun k _ => u k), (u 6).trans (h3 m hm).2⟩
theorem AP.cg {σ τ : Sg} {A : Vec} {c c' : Nat → Nat} (h : AP σ τ A c) (hc : ∀ m, m < A 1 → c' m = c m) : AP σ τ A c' := ⟨h.1, h.2.1, fun m hm => by rw [hc m hm]; exact h.2.2 m hm⟩
/-- who is hungry first -/
def hfp (A : Vec) (n : Nat) : Nat → Nat → Option Nat
  | 0, _ => none
  | k + 1, p => if (pds A A p n).2.2.2.2.2 ≤ A (30 + 6 * p) then hfp A n k (p + 1) else some p
def hfn (A : Vec) : Nat → Nat → Option (Nat × Nat)
  | 0, _ => none
  | k + 1, n => match hfp A n (A 1) 0 with
    | some p => some (p, n)
    | none => hfn A k (n + 1)
def hfR (A : Vec) (w : Nat) : Int32 := match hfn A 60 1 with
  | none => (-1000000)
  | some q => if w = 0 then nI q.1 else nI q.2
theorem hfp_no {A : Vec} {n p : Nat} (hp : p < A 1) (h : (pds A A p n).2.2.2.2.2 ≤ A (30 + 6 * p)) : hfp A n (A 1 - p) p = hfp A n (A 1 - (p + 1)) (p + 1) := by
  rw [show A 1 - p = (A 1 - (p + 1)) + 1 by omega, hfp, if_pos h]
theorem hfp_yes {A : Vec} {n p : Nat} (hp : p < A 1) (h : ¬ (pds A A p n).2.2.2.2.2 ≤ A (30 + 6 * p)) : hfp A n (A 1 - p) p = some p := by
  rw [show A 1 - p = (A 1 - (p + 1)) + 1 by omega, hfp, if_neg h]
theorem hfn_no {A : Vec} {n : Nat} (hn : n ≤ 60) (h : hfp A n (A 1) 0 = none) : hfn A (61 - n) n = hfn A (61 - (n + 1)) (n + 1) := by
  rw [show 61 - n = (61 - (n + 1)) + 1 by omega, hfn, h]
theorem hfn_yes {A : Vec} {n p : Nat} (hn : n ≤ 60) (h : hfp A n (A 1) 0 = some p) : hfn A (61 - n) n = some (p, n) := by
  rw [show 61 - n = (61 - (n + 1)) + 1 by omega, hfn, h]
theorem hfR_of {A : Vec} {w p n : Nat} (h : hfn A 60 1 = some (p, n)) : hfR A w = if w = 0 then nI p else nI n := by unfold hfR; rw [h]
theorem hfR_no {A : Vec} {w : Nat} (h : hfn A 60 1 = none) : hfR A w = (-1000000) := by unfold hfR; rw [h]
/-! longs -/
theorem lc_eq {a b : Nat} (ha : a < 2 ^ 63) (hb : b < 2 ^ 63) (h : lg_cmp (lN a) (lN b) = 0) : a = b := by
  unfold lg_cmp at h
  split at h
  · exact absurd h (by decide)
  · split at h
    · rename_i q
      exact (pk_lEQ ha hb).mp q
    · exact absurd h (by decide)
theorem lc_ne {a b : Nat} (ha : a < 2 ^ 63) (hb : b < 2 ^ 63) (h : ¬ lg_cmp (lN a) (lN b) = 0) : ¬ a = b := by
  intro e
  subst e
  apply h
  unfold lg_cmp
  have h1 : ¬ lN a < lN a := fun q => by have := (pk_lLT ha ha).mp q; omega
  simp [h1]
section VXL
variable {E : En} {M : Mi} {K : Kk} {pc nx : Nat} {L L' : List (Option Value)} {st : List Value} {σ : Sg}
theorem V_laddN {x y z : Int64} (h : dq M pc (.ladd) 1 nx) (hz : x + y = z) (k : V E M K nx L (.long z :: st) σ) : V E M K pc L (.long y :: .long x :: st) σ := by
  subst hz
  exact V_ladd h k
theorem V_lsubN {x y z : Int64} (h : dq M pc (.lsub) 1 nx) (hz : x - y = z) (k : V E M K nx L (.long z :: st) σ) : V E M K pc L (.long y :: .long x :: st) σ := by
  subst hz
  exact V_lsub h k
theorem V_lmulN {x y z : Int64} (h : dq M pc (.lmul) 1 nx) (hz : x * y = z) (k : V E M K nx L (.long z :: st) σ) : V E M K pc L (.long y :: .long x :: st) σ := by
  subst hz
  exact V_lmul h k
theorem V_ldivN {x y z : Int64} (h : dq M pc (.ldiv) 1 nx) (hne : ¬ y = 0) (hz : x / y = z) (k : V E M K nx L (.long z :: st) σ) : V E M K pc L (.long y :: .long x :: st) σ := by
  subst hz
  exact V_ldiv h hne k
theorem V_lremN {x y z : Int64} (h : dq M pc (.lrem) 1 nx) (hne : ¬ y = 0) (hz : x - x / y * y = z) (k : V E M K nx L (.long z :: st) σ) : V E M K pc L (.long y :: .long x :: st) σ := by
  subst hz
  exact V_lrem h hne k
theorem V_idivN {x y z : Int32} (h : dq M pc (.idiv) 1 nx) (hne : ¬ y = 0) (hz : x / y = z) (k : V E M K nx L (.int z :: st) σ) : V E M K pc L (.int y :: .int x :: st) σ := by
  subst hz
  exact V_idiv h hne k
theorem V_iremN {x y z : Int32} (h : dq M pc (.irem) 1 nx) (hne : ¬ y = 0) (hz : x - x / y * y = z) (k : V E M K nx L (.int z :: st) σ) : V E M K pc L (.int y :: .int x :: st) σ := by
  subst hz
  exact V_irem h hne k
theorem V_i2lN {x : Int32} {z : Int64} (h : dq M pc (.i2l) 1 nx) (hz : x.toInt64 = z) (k : V E M K nx L (.long z :: st) σ) : V E M K pc L (.int x :: st) σ := by
  subst hz
  exact V_i2l h k
theorem V_l2iN {x : Int64} {z : Int32} (h : dq M pc (.l2i) 1 nx) (hz : x.toInt32 = z) (k : V E M K nx L (.int z :: st) σ) : V E M K pc L (.long x :: st) σ := by
  subst hz
  exact V_l2i h k
end VXL
theorem lN0 {b : Nat} (h : 0 < b) (hb : b < 2 ^ 63) : ¬ lN b = 0 := fun q => by
  have := (pk_lEQ hb (show 0 < 2 ^ 63 by decide)).mp (q.trans (show (0 : Int64) = lN 0 by decide))
  omega
theorem lrN {a b : Nat} (ha : a < 2 ^ 63) (h0 : 0 < b) (hb : b < 2 ^ 63) : lN a - lN a / lN b * lN b = lN (a % b) := pk_lRem ha h0 hb
theorem V_forget {E : En} {M : Mi} {K : Kk} {pc : Nat} {L : List (Option Value)} {st : List Value} {σ : Sg} (i : Nat) (k : V E M K pc (L.set i none) st σ) : V E M K pc L st σ := by
  intro p l e s m args below meth c H locs ls C hZ hP hS hl
  refine k p l e s m args below meth c H locs ls C hZ hP hS ⟨hl.1, hl.2.1, fun j w hj => hl.2.2 j w ?_⟩
  rw [List.getElem?_set] at hj
  split at hj
  · split at hj
    · cases hj
    · cases hj
  · exact hj

/-! rows -/
theorem g_acs : Cond.static arraycopyName ∈ gw := tg_in 346 (by decide +kernel) rfl
theorem g_acn : Cond.native arraycopyName ∈ gw := tg_in 347 (by decide +kernel) rfl
theorem g_aci : Cond.initialized "java/lang/System" ∈ gw := tg_in 11 (by decide +kernel) rfl
def cpS (σ : Sg) (n0 sp n1 dp n : Nat) : Sg := fun b k => if b = n1 ∧ dp ≤ k ∧ k < dp + n then σ n0 (sp + (k - dp)) else σ b k
theorem cpS_cell {E : En} {σ : Sg} {n0 sp n1 dp n m : Nat} (hm : m ≠ n1) : cell E (cpS σ n0 sp n1 dp n) m = cell E σ m := by
  have e : cpS σ n0 sp n1 dp n m = σ m := by funext k; exact if_neg (fun q => hm q.1)
  have e2 : fv E (cpS σ n0 sp n1 dp n) m = fv E σ m := by funext k; unfold fv; rw [e]
  unfold cell
  rw [e, e2]
section VXC
variable {E : En} {M : Mi} {K : Kk} {pc nx : Nat} {L L' : List (Option Value)} {st : List Value} {σ : Sg}
theorem V_acopy {n0 n1 idx sp dp nn : Nat} (h : dq M pc (.invokestatic idx) 3 nx) (hL : Cond.methodLink M.1.cls idx arraycopyName ∈ gw) (hn0 : kd n0 = 10) (hn1 : kd n1 = 10) (h40 : ln n0 = 40) (h41 : ln n1 = 40) (h4 : sp + nn ≤ 40) (h5 : dp + nn ≤ 40) (hfr : 1 ≤ K.1.frames) (hloc : (st.map fun v => v.category).sum + (nativeFrameWords "java/lang/System" "arraycopy" 5 + 11) ≤ K.1.locals) (k : V E M K nx L st (cpS σ n0 sp n1 dp nn)) : V E M K pc L (.int (nI nn) :: .int (nI dp) :: .ref (eB E + n1) :: .int (nI sp) :: .ref (eB E + n0) :: st) σ := by
  obtain ⟨h1, rfl⟩ := h
  intro p l e s m args below meth c H locs ls C hZ hP hS hl
  have hlt : n1 < 307 := kd_lt (by omega)
  have he0 : (ws E σ)[n0]? = some (eB E + n0, .inl (eA E 10, ln n0, .inl (σ n0))) := by rw [ws_at (kd_lt (by omega)), cell_arr hn0 (by omega) (by omega)]
  have he1 : (ws E σ)[n1]? = some (eB E + n1, .inl (eA E 10, ln n1, .inl (σ n1))) := by rw [ws_at hlt, cell_arr hn1 (by omega) (by omega)]
  have g := C.2.2.2.2.1
  have c0 : (nI sp).toNatClampNeg = sp := nI_clamp (by omega)
  have c1 : (nI dp).toNatClampNeg = dp := nI_clamp (by omega)
  have c2 : (nI nn).toNatClampNeg = nn := nI_clamp (by omega)
  refine va_copyi C.1 C.2.1 (C.2.2.1.trans hl.1.symm) C.2.2.2.1 (g _ hL) (g _ g_acn) (g _ g_acs) (g _ g_aci) C.2.2.2.2.2.2.2.1.1 hP (ws_D E σ) hS n0 n1 0 0 he0 he1 rfl rfl rfl (nI_pos (by omega)) (nI_pos (by omega)) (nI_pos (by omega)) (by rw [c0, c2, h40]; exact h4) (by rw [c1, c2, h41]; exact h5) (fun i _ => rfl) hfr hloc h1 (fun H1 locs1 hP1 hD1 hS1 => ?_)
  rw [c0, c1, c2, ws_set (σ' := cpS σ n0 sp n1 dp nn) hlt (fun m hm => cpS_cell hm) (by rw [cell_arr hn1 (by omega) (by omega)]; congr 4; funext j; unfold cpS va_cpy; by_cases q : dp ≤ j ∧ j < dp + nn <;> simp [q])] at hP1
  refine k p l e s m args below meth c H1 locs1 ls C (fun a j hj => ?_) hP1 hS1 hl
  unfold cpS
  rw [if_neg (fun q => by rw [q.1, hn1] at hj; simp [isZ] at hj)]
  exact hZ a j hj
end VXC
abbrev Rw : Type := (Nat → Nat) × (Nat → Nat) × (Nat → Nat → Int32)
/-- n items from i on lie in a row of s -/
def plOk (s : Nat) (i n : Int32) : Prop := 0 ≤ i.toInt ∧ 0 ≤ n.toInt ∧ i.toInt + n.toInt ≤ (s : Int)
theorem plOk.nat {s : Nat} {i n : Int32} (h : plOk s i n) : ∃ a b, i = nI a ∧ n = nI b ∧ a + b ≤ s ∧ a < 2 ^ 31 ∧ b < 2 ^ 31 := by
  obtain ⟨h1, h2, h3⟩ := h
  have b1 := i.toInt_lt
  have b2 := n.toInt_lt
  refine ⟨i.toInt.toNat, n.toInt.toNat, ?_, ?_, by omega, by omega, by omega⟩
  · apply Int32.toInt_inj.mp
    rw [nI_toInt (by omega)]; omega
  · apply Int32.toInt_inj.mp
    rw [nI_toInt (by omega)]; omega
theorem plOk_n {s a b : Nat} (ha : a < 2 ^ 31) (hb : b < 2 ^ 31) : plOk s (nI a) (nI b) ↔ a + b ≤ s := by
  unfold plOk
  rw [nI_toInt ha, nI_toInt hb]
  omega
theorem i_0 {x : Int32} : x < 0 ↔ x.toInt < 0 := by rw [Int32.lt_iff_toInt_lt]; rfl
theorem fnd_ok {s : Nat} {i n : Int32} (hs : s ≤ 40) (h : plOk s i n) : fnd (nI 0) (nI s) i n = nI 0 := by
  obtain ⟨a, b, rfl, rfl, h1, h2, h3⟩ := h.nat
  unfold fnd
  rw [if_pos nI_0, if_neg (nI_pos h3), if_neg (fun q => by have := nq_lt (by omega) h3 q; omega), if_neg (nI_pos h2), pk_sub (by omega), if_neg (fun q => by have := nq_lt (by omega) h2 q; omega)]
theorem fnd_no {s : Nat} {i n : Int32} (hs : s ≤ 40) (h : ¬ plOk s i n) : fnd (nI 0) (nI s) i n = nI 2 := by
  unfold fnd
  rw [if_pos nI_0]
  by_cases q1 : n < 0
  · rw [if_pos q1]
  · rw [if_neg q1]
    by_cases q2 : nI s < n
    · rw [if_pos q2]
    · rw [if_neg q2]
      by_cases q3 : i < 0
      · rw [if_pos q3]
      · rw [if_neg q3]
        rw [i_0] at q1 q3
        have b1 := i.toInt_lt
        have b2 := n.toInt_lt
        have e2 : n = nI n.toInt.toNat := by apply Int32.toInt_inj.mp; rw [nI_toInt (by omega)]; omega
        have e1 : i = nI i.toInt.toNat := by apply Int32.toInt_inj.mp; rw [nI_toInt (by omega)]; omega
        rw [e2] at q2 ⊢
        have q2' := nq_nlt (by omega) (by omega) q2
        rw [pk_sub (by omega), if_pos]
        rw [e1]
        refine (nI_ltI (by omega) (by omega)).mpr ?_
        unfold plOk at h
        omega
theorem fnd_1 {x i n : Int32} : fnd (nI 1) x i n = nI 1 := by unfold fnd; rw [if_neg ne10]
def plB (s : Nat) (i n : Int32) : Bool := decide (0 ≤ i.toInt) && decide (0 ≤ n.toInt) && decide (i.toInt + n.toInt ≤ (s : Int))
theorem plB_t {s : Nat} {i n : Int32} : plB s i n = true ↔ plOk s i n := by unfold plB plOk; simp [Bool.and_eq_true, decide_eq_true_eq, and_assoc]
/-- what is found where n items are wanted from i on -/
def fndS (l s : Nat) (i n : Int32) : Nat := if l = 0 then 1 else if plB s i n = true then 0 else 2
theorem fndS_le (l s : Nat) (i n : Int32) : fndS l s i n ≤ 2 := by unfold fndS; (repeat' split) <;> omega
theorem fnd_S {l s : Nat} {i n : Int32} (hs : s ≤ 40) : fnd (nI (if l = 0 then 1 else 0)) (nI s) i n = nI (fndS l s i n) := by
  unfold fndS
  by_cases q : l = 0
  · rw [if_pos q, if_pos q]; exact fnd_1
  · rw [if_neg q, if_neg q]
    by_cases h : plOk s i n
    · rw [if_pos (plB_t.mpr h)]; exact fnd_ok hs h
    · rw [if_neg (fun z => h (plB_t.mp z))]; exact fnd_no hs h
theorem fndS_0 {l s : Nat} {i n : Int32} (h : fndS l s i n = 0) : ¬ l = 0 ∧ plOk s i n := by
  unfold fndS at h
  by_cases q : l = 0
  · rw [if_pos q] at h; omega
  · rw [if_neg q] at h
    refine ⟨q, ?_⟩
    by_cases z : plB s i n = true
    · exact plB_t.mp z
    · rw [if_neg z] at h; omega
def begR (R : Rw) (r l n : Nat) : Rw := (fun k => if k = r then l + 1 else R.1 k, fun k => if k = r then n else R.2.1 k, fun k j => if k = r then 0 else R.2.2 k j)
def putR (R : Rw) (r i : Nat) (v : Int32) : Rw := (R.1, R.2.1, fun k j => if k = r ∧ j = i then v else R.2.2 k j)
def cpyR (R : Rw) (a i b j n : Nat) : Rw := (R.1, R.2.1, fun k q => if k = b ∧ j ≤ q ∧ q < j + n then R.2.2 a (i + (q - j)) else R.2.2 k q)
def dropR (R : Rw) (r : Nat) : Rw := (fun k => if k = r then 0 else R.1 k, R.2.1, R.2.2)
def oRow (S : Ab) (x y z : Int32) : Ab × Int32 := if wi x (nI 0) (nI 7) = 0 then (S, (-1000001)) else if wi y (nI 0) (nI 2) = 0 then (S, (-1000001)) else if nI 40 < z then (S, (-1000001)) else if z < 0 then (wS S 4, (-1000010) - nI 4) else (wS (wR S (begR (aR S) (ix x) (ix y) (ix z))) 0, z)
def oSet (S : Ab) (x y z : Int32) : Ab × Int32 := if wi x (nI 0) (nI 7) = 0 then (S, (-1000001)) else if fndS ((aR S).1 (ix x)) ((aR S).2.1 (ix x)) y (nI 1) = 0 then (wS (wR S (putR (aR S) (ix x) (ix y) (put3 (nI ((aR S).1 (ix x) - 1)) z))) 0, put3 (nI ((aR S).1 (ix x) - 1)) z) else (wS S (fndS ((aR S).1 (ix x)) ((aR S).2.1 (ix x)) y (nI 1)), (-1000010) - nI (fndS ((aR S).1 (ix x)) ((aR S).2.1 (ix x)) y (nI 1)))
def oCopy (S : Ab) (x y z w v : Int32) : Ab × Int32 := if wi x (nI 0) (nI 7) = 0 then (S, (-1000001)) else if wi z (nI 0) (nI 7) = 0 then (S, (-1000001)) else if (aR S).1 (ix x) = 0 then (wS S 1, (-1000010) - nI 1) else if (aR S).1 (ix z) = 0 then (wS S 1, (-1000010) - nI 1) else if (aR S).1 (ix x) = (aR S).1 (ix z) then (if fndS ((aR S).1 (ix x)) ((aR S).2.1 (ix x)) y v = 0 then (if fndS ((aR S).1 (ix z)) ((aR S).2.1 (ix z)) w v = 0 then (wS (wR S (cpyR (aR S) (ix x) (ix y) (ix z) (ix w) (ix v))) 0, v) else (wS S 2, (-1000010) - nI 2)) else (wS S 2, (-1000010) - nI 2)) else (wS S 5, (-1000010) - nI 5)
def oDrop (S : Ab) (x : Int32) : Ab × Int32 := if wi x (nI 0) (nI 7) = 0 then (S, (-1000001)) else if (aR S).1 (ix x) = 0 then (wS S 1, (-1000010) - nI 1) else (wS (wR S (dropR (aR S) (ix x))) 0, nI ((aR S).2.1 (ix x)))
theorem CR.beg {σ τ : Sg} {R : Rw} {r l n : Nat} (h : CR σ R) (hr : r < 8) (e : ∀ a k, a ≠ 258 + 2 * r → a ≠ 259 + 2 * r → τ a k = σ a k) (e1 : τ (258 + 2 * r) 1 = nI 0) (e2 : τ (258 + 2 * r) 2 = nI l) (e3 : τ (258 + 2 * r) 3 = nI n) (e4 : ∀ k, k < 40 → τ (259 + 2 * r) k = 0) : CR τ (begR R r l n) := fun k hk => by
  unfold begR
  dsimp only
  by_cases q : k = r
  · subst q
    simp only [if_true]
    rw [if_neg (by omega)]
    exact ⟨e1, fun _ => e2, e3, e4⟩
  · simp only [if_neg q]
    obtain ⟨h1, h2, h3, h4⟩ := h k hk
    exact ⟨(e _ _ (by omega) (by omega)).trans h1, fun z => (e _ _ (by omega) (by omega)).trans (h2 z), (e _ _ (by omega) (by omega)).trans h3, fun j hj => (e _ _ (by omega) (by omega)).trans (h4 j hj)⟩
theorem CR.put {σ : Sg} {R : Rw} {r i : Nat} {v : Int32} (h : CR σ R) : CR (up2 σ (259 + 2 * r) i v) (putR R r i v) := fun k hk => by
  obtain ⟨h1, h2, h3, h4⟩ := h k hk
  have u : ∀ j, up2 σ (259 + 2 * r) i v (258 + 2 * k) j = σ (258 + 2 * k) j := fun j => congrFun (up2_ne (by omega)) j
  refine ⟨(u _).trans h1, fun z => (u _).trans (h2 z), (u _).trans h3, fun j hj => ?_⟩
  unfold putR up2
  dsimp only
  by_cases q : k = r ∧ j = i
  · rw [if_pos q, if_pos (by omega)]
  · rw [if_neg q, if_neg (by omega)]; exact h4 j hj
theorem CR.cpy {σ : Sg} {R : Rw} {a i b j n : Nat} (h : CR σ R) (ha : a < 8) (hi : i + n ≤ 40) : CR (cpS σ (259 + 2 * a) i (259 + 2 * b) j n) (cpyR R a i b j n) := fun k hk => by
  obtain ⟨h1, h2, h3, h4⟩ := h k hk
  have u : ∀ q, cpS σ (259 + 2 * a) i (259 + 2 * b) j n (258 + 2 * k) q = σ (258 + 2 * k) q := fun q => if_neg (by omega)
  refine ⟨(u _).trans h1, fun z => (u _).trans (h2 z), (u _).trans h3, fun q hq => ?_⟩
  unfold cpyR cpS
  dsimp only
  by_cases z : k = b ∧ j ≤ q ∧ q < j + n
  · rw [if_pos z, if_pos (by omega)]; exact (h a ha).2.2.2 _ (by omega)
  · rw [if_neg z, if_neg (by omega)]; exact h4 q hq
theorem CR.drop {σ : Sg} {R : Rw} {r : Nat} (h : CR σ R) : CR (up2 σ (258 + 2 * r) 1 (nI 1)) (dropR R r) := fun k hk => by
  obtain ⟨h1, h2, h3, h4⟩ := h k hk
  unfold dropR
  dsimp only
  by_cases q : k = r
  · subst q
    simp only [if_true]
    exact ⟨up2_at, fun z => (z trivial).elim, (up2_k (by omega)).trans h3, fun j hj => (congrFun (up2_ne (by omega)) j).trans (h4 j hj)⟩
  · simp only [if_neg q]
    have u : ∀ j, up2 σ (258 + 2 * r) 1 (nI 1) (258 + 2 * k) j = σ (258 + 2 * k) j := fun j => congrFun (up2_ne (by omega)) j
    exact ⟨(u _).trans h1, fun z => (u _).trans (h2 z), (u _).trans h3, fun j hj => (congrFun (up2_ne (by omega)) j).trans (h4 j hj)⟩
theorem GS.rows {S : Ab} (h : GS S) : ∀ r, r < 8 → (aR S).1 r ≤ 3 ∧ (aR S).2.1 r ≤ 40 := h.2.2.2.1
theorem begR_ok {R : Rw} {r l n : Nat} (h : ∀ r, r < 8 → R.1 r ≤ 3 ∧ R.2.1 r ≤ 40) (hl : l ≤ 2) (hn : n ≤ 40) : ∀ k, k < 8 → (begR R r l n).1 k ≤ 3 ∧ (begR R r l n).2.1 k ≤ 40 := fun k hk => by
  have := h k hk
  unfold begR
  dsimp only
  split <;> omega
theorem dropR_ok {R : Rw} {r : Nat} (h : ∀ r, r < 8 → R.1 r ≤ 3 ∧ R.2.1 r ≤ 40) : ∀ k, k < 8 → (dropR R r).1 k ≤ 3 ∧ (dropR R r).2.1 k ≤ 40 := fun k hk => by
  have := h k hk
  unfold dropR
  dsimp only
  split <;> omega
/-! tape, asks, counts -/
def oFeed (S : Ab) (x : Int32) : Ab × Int32 := if wi x (nI 0) (nI 255) = 0 then (S, (-1000001)) else if (aT S).1 = 100 then (S, (-1000003)) else (wT S ((aT S).1 + 1, fun j => if j = (aT S).1 then ix x else (aT S).2 j), nI ((aT S).1 + 1))
def oAs (S : Ab) (x y : Int32) : Ab × Int32 := if gIn x (S.1 0) = 0 then (S, (-1000001)) else if wi y (nI 0) (nI 5) = 0 then (S, (-1000001)) else if bitN (kiN (S.1 (7 + 3 * ix x))) (ix y) = 0 then (wS S 3, (-1000010) - nI 3) else (wS S 0, x)
def hoF (A : Vec) (g : Nat) : Nat := cntN (mkN (ofF A g) (A 1))
def askT (k w : Nat) : List Nat := if w = 0 then (if k = 1 then [11, 10, 21, 20] else if k = 2 then [12, 11, 10, 24, 21, 20] else if k = 3 then [11, 10, 22, 21, 20] else if k = 4 then [13, 10] else [14, 13, 10]) else (if k = 1 then [21, 20] else if k = 2 then [24, 21, 20] else if k = 3 then [22, 21, 20] else if k = 4 then [23, 20, 13, 10] else [23, 20, 14, 13, 10])
def askV (A : Vec) (g w : Nat) : Int32 := if w = 0 then (if A (7 + 3 * g) = 1 then nI (A (8 + 3 * g)) + (nI g + nI (hoF A g)) else if A (7 + 3 * g) = 2 then -(nI (A (8 + 3 * g)) + ((nI g + nI (hoF A g)) * nI 2)) else if A (7 + 3 * g) = 3 then nI (A (8 + 3 * g)) + ((nI g + nI (hoF A g)) - nI 1000) else if A (7 + 3 * g) = 4 then nI (A (8 + 3 * g)) - nI 100 else (nI (A (8 + 3 * g)) - nI 100) * nI 2) else (if A (7 + 3 * g) = 1 then nI g + nI (hoF A g) else if A (7 + 3 * g) = 2 then (nI g + nI (hoF A g)) * nI 2 else if A (7 + 3 * g) = 3 then (nI g + nI (hoF A g)) - nI 1000 else if A (7 + 3 * g) = 4 then nI g - (nI (A (8 + 3 * g)) - nI 100) else nI g - ((nI (A (8 + 3 * g)) - nI 100) * nI 2))
def lX (l : List Nat) : Nat × (Nat → Nat) := (l.length, fun j => l.getD j 0)
def oAsk (S : Ab) (x y : Int32) : Ab × Int32 := if gIn x (S.1 0) = 0 then (S, (-1000001)) else if wi y (nI 0) (nI 1) = 0 then (S, (-1000001)) else (wX S (lX (askT (S.1 (7 + 3 * ix x)) (ix y))), askV S.1 (ix x) (ix y))
def oTrace (S : Ab) (x : Int32) : Ab × Int32 := if gIn x (aX S).1 = 0 then (S, (-1000000)) else (S, nI ((aX S).2 (ix x)))
def rwF (R : Rw) (r : Nat) : Nat := if R.1 r = 0 then 0 else 1
def oCount (S : Ab) (x : Int32) : Ab × Int32 := (S, match swx x 7 with
  | 0 => nI (sumN (rwF (aR S)) 8)
  | 1 => nI (S.1 0)
  | 2 => nI (S.1 1)
  | 3 => nI (S.1 4)
  | 4 => nI (S.1 5)
  | 5 => nI (hung S.1)
  | 6 => nI (aH S).2
  | 7 => nI (aT S).1
  | _ => (-1000001))
theorem trL_sz : ∀ (l : List Nat) (t : Nat) (σ : Sg), σ 256 1 = nI t → trL t l σ 256 1 = nI (t + l.length)
  | [], _, _, h => h
  | b :: bs, t, σ, _ => by
    have h1 := trL_sz bs (t + 1) (tr1 t b σ) tr1_sz
    rw [show t + (b :: bs).length = t + 1 + bs.length by rw [List.length_cons]; omega]
    exact h1
theorem trL_lo : ∀ (l : List Nat) (t : Nat) (σ : Sg) (j : Nat), j < t → trL t l σ 257 j = σ 257 j
  | [], _, _, _, _ => rfl
  | b :: bs, t, σ, j, h => (trL_lo bs (t + 1) (tr1 t b σ) j (by omega)).trans (by unfold tr1; rw [up2_ne (by omega), up2_k (by omega)])
theorem trL_v : ∀ (l : List Nat) (t : Nat) (σ : Sg) (j : Nat), j < l.length → trL t l σ 257 (t + j) = nI (l.getD j 0)
  | [], _, _, _, h => absurd h (by simp)
  | b :: bs, t, σ, 0, _ => (trL_lo bs (t + 1) (tr1 t b σ) t (by omega)).trans (by unfold tr1; rw [up2_ne (by omega)]; exact up2_at)
  | b :: bs, t, σ, j + 1, h => by
    have h1 := trL_v bs (t + 1) (tr1 t b σ) j (by rw [List.length_cons] at h; omega)
    rw [show t + (j + 1) = t + 1 + j by omega]
    exact h1
theorem CX.tr {σ : Sg} {l : List Nat} : CX (trL 0 l (up2 σ 256 1 (nI 0))) (lX l) := ⟨by have h := trL_sz l 0 (up2 σ 256 1 (nI 0)) up2_at; rw [Nat.zero_add] at h; exact h, fun j hj => by have h := trL_v l 0 (up2 σ 256 1 (nI 0)) j hj; rw [Nat.zero_add] at h; exact h⟩
theorem askT_le (k w : Nat) : (lX (askT k w)).1 ≤ 16 := by
  unfold lX askT
  dsimp only
  (repeat' split) <;> decide

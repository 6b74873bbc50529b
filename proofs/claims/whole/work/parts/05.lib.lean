/-! more rows of V, and the layout -/
section VX
variable {E : En} {M : Mi} {K : Kk} {pc nx : Nat} {L L' : List (Option Value)} {st : List Value} {σ : Sg}
theorem V_iaddN {x y z : Int32} (h : dq M pc (.iadd) 1 nx) (hz : x + y = z) (k : V E M K nx L (.int z :: st) σ) : V E M K pc L (.int y :: .int x :: st) σ := by
  subst hz
  exact V_iadd h k
theorem V_imulN {x y z : Int32} (h : dq M pc (.imul) 1 nx) (hz : x * y = z) (k : V E M K nx L (.int z :: st) σ) : V E M K pc L (.int y :: .int x :: st) σ := by
  subst hz
  exact V_imul h k
theorem V_isubN {x y z : Int32} (h : dq M pc (.isub) 1 nx) (hz : x - y = z) (k : V E M K nx L (.int z :: st) σ) : V E M K pc L (.int y :: .int x :: st) σ := by
  subst hz
  exact V_isub h k
theorem V_iandN {x y z : Int32} (h : dq M pc (.iand) 1 nx) (hz : x &&& y = z) (k : V E M K nx L (.int z :: st) σ) : V E M K pc L (.int y :: .int x :: st) σ := by
  subst hz
  exact V_iand h k
theorem V_iorN {x y z : Int32} (h : dq M pc (.ior) 1 nx) (hz : x ||| y = z) (k : V E M K nx L (.int z :: st) σ) : V E M K pc L (.int y :: .int x :: st) σ := by
  subst hz
  exact V_ior h k
theorem V_ixorN {x y z : Int32} (h : dq M pc (.ixor) 1 nx) (hz : x ^^^ y = z) (k : V E M K nx L (.int z :: st) σ) : V E M K pc L (.int y :: .int x :: st) σ := by
  subst hz
  exact V_ixor h k
theorem V_ishlN {x y z : Int32} (h : dq M pc (.ishl) 1 nx) (hz : x <<< (y &&& 31) = z) (k : V E M K nx L (.int z :: st) σ) : V E M K pc L (.int y :: .int x :: st) σ := by
  subst hz
  exact V_ishl h k
theorem V_ishrN {x y z : Int32} (h : dq M pc (.ishr) 1 nx) (hz : x >>> (y &&& 31) = z) (k : V E M K nx L (.int z :: st) σ) : V E M K pc L (.int y :: .int x :: st) σ := by
  subst hz
  exact V_ishr h k
theorem V_getiv {n k idx ci : Nat} {C nm ds : String} {fin : Bool} {v : Int32} (h : dq M pc (.getfield idx) 3 nx) (hF : fd ci k C nm ds false fin) (hf : Cond.fieldLink M.1.cls idx C nm ds ∈ gw) (hn : kd n = ci) (hv : σ n k = v) (k : V E M K nx L (.int v :: st) σ) : V E M K pc L (.ref (eB E + n) :: st) σ := by
  subst hv
  exact V_geti h hF hf hn k
theorem V_ialdv {n j : Nat} {x v : Int32} (h : dq M pc .iaload 1 nx) (hn : kd n = 10) (hx : x = nI j) (hj : j < ln n) (hv : σ n j = v) (k : V E M K nx L (.int v :: st) σ) : V E M K pc L (.int x :: .ref (eB E + n) :: st) σ := by
  subst hv
  exact V_iald h hn hx hj k
theorem V_zaldv {n j : Nat} {x v : Int32} (h : dq M pc .baload 1 nx) (hn : kd n = 11) (hx : x = nI j) (hj : j < ln n) (hv : σ n j = v) (k : V E M K nx L (.int v :: st) σ) : V E M K pc L (.int x :: .ref (eB E + n) :: st) σ := by
  subst hv
  exact V_zald h hn hx hj k
theorem V_topi {x y : Int32} (hz : x = y) (k : V E M K pc L (.int y :: st) σ) : V E M K pc L (.int x :: st) σ := by
  subst hz
  exact k
theorem V_topl {x y : Int64} (hz : x = y) (k : V E M K pc L (.long y :: st) σ) : V E M K pc L (.long x :: st) σ := by
  subst hz
  exact k
theorem V_sig {σ' : Sg} (hz : σ = σ') (k : V E M K pc L st σ') : V E M K pc L st σ := by
  subst hz
  exact k
def swt (pc : Nat) (lo hi : Int) (offs : Array Int) (j : Nat) : Option Nat := if lo ≤ (j : Int) ∧ (j : Int) ≤ hi then (match offs[((j : Int) - lo).toNat]? with | some o => if 0 ≤ (pc : Int) + o then some ((pc : Int) + o).toNat else none | none => none) else none
theorem V_tab {dflt lo hi : Int} {offs : Array Int} {len j : Nat} {x : Int32} {tgt : Nat} (h : dq M pc (.tableswitch dflt lo hi offs) len nx) (hx : x = nI j) (hj : j < 2 ^ 31) (ho : swt pc lo hi offs j = some tgt) (k : V E M K tgt L st σ) : V E M K pc L (.int x :: st) σ := by
  subst hx
  unfold swt at ho
  split at ho
  · rename_i hc
    split at ho
    · rename_i o hq
      split at ho
      · rename_i h0
        have ht := Option.some.inj ho
        refine V_tableIn h (off := o) (tgt := tgt) ?_ ?_ ?_ ?_ k
        · rw [nI_toInt hj]; omega
        · rw [nI_toInt hj]; omega
        · rw [nI_toInt hj]; exact hq
        · omega
      · cases ho
    · cases ho
  · cases ho
theorem V_tabo {dflt lo hi : Int} {offs : Array Int} {len : Nat} {x : Int32} {tgt : Nat} (h : dq M pc (.tableswitch dflt lo hi offs) len nx) (a : x.toInt < lo ∨ hi < x.toInt) (ht : (pc : Int) + dflt = (tgt : Int)) (k : V E M K tgt L st σ) : V E M K pc L (.int x :: st) σ := V_tableOut h a ht k
theorem V_mmin {idx : Nat} {x y : Int32} (h : dq M pc (.invokestatic idx) 3 nx) (hl2 : Cond.methodLink M.1.cls idx yJ9_min_7cf53 ∈ gw) (hR : rmok K 2 0) (hw : (st.map fun v => v.category).sum ≤ 8) (k : V E M K nx L (.int (if y < x then y else x) :: st) σ) : V E M K pc L (.int y :: .int x :: st) σ := by
  obtain ⟨h1, rfl⟩ := h
  intro p l e s m args below meth c H locs ls C hZ hP hS hl
  have h2 : 8 + (2 + 11) + 0 ≤ K.1.locals := hR.2.1
  exact va_mmin C.1 C.2.1 (C.2.2.1.trans hl.1.symm) C.2.2.2.1 (C.2.2.2.2.1 _ hl2) (C.2.2.2.2.1 _ w_J9_min_7cf53_s) (C.2.2.2.2.1 _ in_J9_i) (C.2.2.2.2.1 _ w_J9_min_7cf53_c) hR.1 (by omega) hR.2.2.1 hR.2.2.2 h1 (k p l e s m args below meth c H locs ls C hZ hP hS hl)
theorem V_mmax {idx : Nat} {x y : Int32} (h : dq M pc (.invokestatic idx) 3 nx) (hl2 : Cond.methodLink M.1.cls idx yJ9_max_7cf53 ∈ gw) (hR : rmok K 2 0) (hw : (st.map fun v => v.category).sum ≤ 8) (k : V E M K nx L (.int (if x < y then y else x) :: st) σ) : V E M K pc L (.int y :: .int x :: st) σ := by
  obtain ⟨h1, rfl⟩ := h
  intro p l e s m args below meth c H locs ls C hZ hP hS hl
  have h2 : 8 + (2 + 11) + 0 ≤ K.1.locals := hR.2.1
  exact va_mmax C.1 C.2.1 (C.2.2.1.trans hl.1.symm) C.2.2.2.1 (C.2.2.2.2.1 _ hl2) (C.2.2.2.2.1 _ w_J9_max_7cf53_s) (C.2.2.2.2.1 _ in_J9_i) (C.2.2.2.2.1 _ w_J9_max_7cf53_c) hR.1 (by omega) hR.2.2.1 hR.2.2.2 h1 (k p l e s m args below meth c H locs ls C hZ hP hS hl)
end VX
def mn (x y : Int32) : Int32 := if y < x then y else x
def mx (x y : Int32) : Int32 := if x < y then y else x
theorem sw_c (x : Int32) (lo hi : Nat) (h : hi < 2 ^ 31 := by decide) : (∃ j, lo ≤ j ∧ j ≤ hi ∧ x = nI j) ∨ (x.toInt < (lo : Int) ∨ (hi : Int) < x.toInt) := by
  by_cases h1 : x.toInt < (lo : Int)
  · exact Or.inr (Or.inl h1)
  · by_cases h2 : (hi : Int) < x.toInt
    · exact Or.inr (Or.inr h2)
    · refine Or.inl ⟨x.toInt.toNat, by omega, by omega, ?_⟩
      apply Int32.toInt_inj.mp
      rw [nI_toInt (by omega)]
      omega
def ush (x y : Int32) : Int32 := (x.toUInt32 >>> (y.toUInt32 &&& Int32.toUInt32 31)).toInt32
/-! the layout -/
theorem rf5_7 {n : Nat} (h : kd n = 5) : rf n 7 = n + 1 := by unfold rf; rw [h]; rfl
theorem rf5_8 {n : Nat} (h : kd n = 5) : rf n 8 = n + 2 := by unfold rf; rw [h]; rfl
theorem rf5_9 {n : Nat} (h : kd n = 5) : rf n 9 = n + 3 := by unfold rf; rw [h]; rfl
theorem rf3_0 {n : Nat} (h : kd n = 3) : rf n 0 = n + 1 := by unfold rf; rw [h]; rfl
set_option maxRecDepth 100000 in
theorem lay5 : ∀ n, n < 307 → kd n = 5 → (kd (n + 1) = 10 ∧ kd (n + 2) = 10 ∧ kd (n + 3) = 14 ∧ ln (n + 1) = 6 ∧ ln (n + 2) = 6 ∧ ln (n + 3) = 5) ∧ ∀ j, j < 5 → kd (n + 4 + j) = 7 := by decide +kernel
set_option maxRecDepth 100000 in
theorem lay3 : ∀ n, n < 307 → kd n = 3 → kd (n + 1) = 10 ∧ ln (n + 1) = 40 := by decide +kernel
theorem kd5_1 {n : Nat} (h : kd n = 5) : kd (n + 1) = 10 := (lay5 n (kd_lt (by omega)) h).1.1
theorem kd5_2 {n : Nat} (h : kd n = 5) : kd (n + 2) = 10 := (lay5 n (kd_lt (by omega)) h).1.2.1
theorem kd5_3 {n : Nat} (h : kd n = 5) : kd (n + 3) = 14 := (lay5 n (kd_lt (by omega)) h).1.2.2.1
theorem ln5_1 {n : Nat} (h : kd n = 5) : ln (n + 1) = 6 := (lay5 n (kd_lt (by omega)) h).1.2.2.2.1
theorem ln5_2 {n : Nat} (h : kd n = 5) : ln (n + 2) = 6 := (lay5 n (kd_lt (by omega)) h).1.2.2.2.2.1
theorem ln5_3 {n : Nat} (h : kd n = 5) : ln (n + 3) = 5 := (lay5 n (kd_lt (by omega)) h).1.2.2.2.2.2
theorem kd5_w {n j : Nat} (h : kd n = 5) (hj : j < ln (n + 3)) : kd (n + 4 + j) = 7 := (lay5 n (kd_lt (by omega)) h).2 j (by rw [ln5_3 h] at hj; exact hj)
theorem kd3_1 {n : Nat} (h : kd n = 3) : kd (n + 1) = 10 := (lay3 n (kd_lt (by omega)) h).1
theorem ln3_1 {n : Nat} (h : kd n = 3) : ln (n + 1) = 40 := (lay3 n (kd_lt (by omega)) h).2
theorem rf14 {n j : Nat} (h : kd n = 5) : rf (n + 3) j = n + 4 + j := by unfold rf; rw [kd5_3 h]; show n + 3 + 1 + j = n + 4 + j; omega
theorem kd_row (j : Nat) (h : j < ln 1) : kd (258 + 2 * j) = 3 := (show ∀ j, j < 8 → kd (258 + 2 * j) = 3 by decide +kernel) j h
theorem kd_img (j : Nat) (h : j < ln 22) : kd (274 + 9 * j) = 5 := (show ∀ j, j < 2 → kd (274 + 9 * j) = 5 by decide +kernel) j h
theorem kd_kept (j : Nat) (h : j < ln 24) : kd (25 + 9 * j) = 5 := (show ∀ j, j < 24 → kd (25 + 9 * j) = 5 by decide +kernel) j h
theorem kd_wk7 (j : Nat) (h : j < ln 7) : kd (8 + j) = 7 := (show ∀ j, j < 5 → kd (8 + j) = 7 by decide +kernel) j h
theorem kd_wk16 (j : Nat) (h : j < ln 16) : kd (17 + j) = 7 := (show ∀ j, j < 5 → kd (17 + j) = 7 by decide +kernel) j h
theorem kd_wk245 (j : Nat) (h : j < ln 245) : kd (246 + j) = 7 := (show ∀ j, j < 5 → kd (246 + j) = 7 by decide +kernel) j h
/-! small numbers -/
theorem BZ.wk {σ : Sg} (h : BZ σ) {a : Nat} (ha : kd a = 7) : b01 (σ a 5) ∧ b01 (σ a 6) := ⟨h a 5 (by rw [ha]; rfl), h a 6 (by rw [ha]; rfl)⟩
theorem BZ.row {σ : Sg} (h : BZ σ) {a : Nat} (ha : kd a = 3) : b01 (σ a 1) := h a 1 (by rw [ha]; rfl)
theorem b01_0 : b01 (nI 0) := Or.inl (by decide)
theorem b01_1 : b01 (nI 1) := Or.inr (by decide)
theorem b01_if {c : Prop} [Decidable c] {x y : Int32} (hx : b01 x) (hy : b01 y) : b01 (if c then x else y) := by split; exact hx; exact hy
def wi (x lo hi : Int32) : Int32 := if x < lo then nI 0 else if hi < x then nI 0 else nI 1
theorem wi01 (x lo hi : Int32) : b01 (wi x lo hi) := b01_if b01_0 (b01_if b01_0 b01_1)
def bt (x y : Int32) : Int32 := (x >>> (y &&& 31)) &&& nI 1
theorem nI1 : nI 1 = 1 := by decide
theorem ne10 : ¬ nI 1 = 0 := by decide
theorem wi_one {x lo hi : Int32} : ¬ wi x lo hi = 0 ↔ (¬ x < lo ∧ ¬ hi < x) := by
  unfold wi
  constructor
  · intro h
    split at h
    · exact absurd nI_0 h
    · rename_i h1
      split at h
      · exact absurd nI_0 h
      · rename_i h2
        exact ⟨h1, h2⟩
  · rintro ⟨h1, h2⟩
    rw [if_neg h1, if_neg h2]
    exact ne10
theorem wi_t {x lo hi : Int32} (h1 : ¬ x < lo) (h2 : ¬ hi < x) : wi x lo hi = nI 1 := by unfold wi; rw [if_neg h1, if_neg h2]
/-- within 0 .. n - 1: a place -/
theorem wi_nat {x : Int32} {n : Nat} (hn : n < 2 ^ 30) : ¬ wi x (nI 0) (nI n - nI 1) = 0 ↔ ∃ j, j < n ∧ x = nI j := by
  rw [wi_one]
  have h2 : (nI n - nI 1).toInt = (n : Int) - 1 := pk_sub_toInt (by omega) (by omega)
  rw [Int32.lt_iff_toInt_lt, Int32.lt_iff_toInt_lt, h2, nI_toInt (by omega)]
  constructor
  · rintro ⟨a, b⟩
    refine ⟨x.toInt.toNat, by omega, ?_⟩
    apply Int32.toInt_inj.mp
    rw [nI_toInt (by omega)]
    omega
  · rintro ⟨j, hj, rfl⟩
    rw [nI_toInt (by omega)]
    omega
theorem wi_le {x : Int32} {a b : Nat} (ha : a < 2 ^ 31) (hb : b < 2 ^ 31) : ¬ wi x (nI a) (nI b) = 0 ↔ ∃ j, a ≤ j ∧ j ≤ b ∧ x = nI j := by
  rw [wi_one, Int32.lt_iff_toInt_lt, Int32.lt_iff_toInt_lt, nI_toInt ha, nI_toInt hb]
  constructor
  · rintro ⟨h1, h2⟩
    refine ⟨x.toInt.toNat, by omega, by omega, ?_⟩
    apply Int32.toInt_inj.mp
    rw [nI_toInt (by omega)]
    omega
  · rintro ⟨j, h1, h2, rfl⟩
    rw [nI_toInt (by omega)]
    omega
/-! numbers: Nat forms -/
def bitN (x i : Nat) : Nat := x / 2 ^ i % 2
theorem bitN_le (x i : Nat) : bitN x i ≤ 1 := by unfold bitN; omega
theorem nq_eq {a b : Nat} (ha : a < 2 ^ 31) (hb : b < 2 ^ 31) (h : nI a = nI b) : a = b := (nI_eq ha hb).mp h
theorem nq_ne {a b : Nat} (ha : a < 2 ^ 31) (hb : b < 2 ^ 31) (h : ¬ nI a = nI b) : ¬ a = b := fun q => h ((nI_eq ha hb).mpr q)
theorem nq_lt {a b : Nat} (ha : a < 2 ^ 31) (hb : b < 2 ^ 31) (h : nI a < nI b) : a < b := (nI_ltI ha hb).mp h
theorem nq_nlt {a b : Nat} (ha : a < 2 ^ 31) (hb : b < 2 ^ 31) (h : ¬ nI a < nI b) : ¬ a < b := fun q => h ((nI_ltI ha hb).mpr q)
theorem nq_le {a b : Nat} (ha : a < 2 ^ 31) (hb : b < 2 ^ 31) (h : nI a ≤ nI b) : a ≤ b := (nI_leI ha hb).mp h
theorem nq_nle {a b : Nat} (ha : a < 2 ^ 31) (hb : b < 2 ^ 31) (h : ¬ nI a ≤ nI b) : ¬ a ≤ b := fun q => h ((nI_leI ha hb).mpr q)
theorem bvI {x y : Int32} (h : x.toBitVec = y.toBitVec) : x = y := Int32.toBitVec_inj.mp h
theorem nI_bv (a : Nat) : (nI a).toBitVec = BitVec.ofNat 32 a := rfl
theorem lorI (a b : Nat) : nI a ||| nI b = nI (a ||| b) := by
  apply bvI
  rw [Int32.toBitVec_or, nI_bv, nI_bv, nI_bv]
  apply BitVec.eq_of_getLsbD_eq
  intro i hi
  simp [BitVec.getLsbD_ofNat, Nat.testBit_or, hi]
theorem andI (a b : Nat) : nI a &&& nI b = nI (a &&& b) := by
  apply bvI
  rw [Int32.toBitVec_and, nI_bv, nI_bv, nI_bv]
  apply BitVec.eq_of_getLsbD_eq
  intro i hi
  simp [BitVec.getLsbD_ofNat, Nat.testBit_and, hi]
theorem xorI (a b : Nat) : nI a ^^^ nI b = nI (a ^^^ b) := by
  apply bvI
  rw [Int32.toBitVec_xor, nI_bv, nI_bv, nI_bv]
  apply BitVec.eq_of_getLsbD_eq
  intro i hi
  simp [BitVec.getLsbD_ofNat, Nat.testBit_xor, hi]
theorem sm31 : ∀ g, g < 31 → ((nI g &&& 31).toBitVec.smod 32).toNat = g := by decide +kernel
theorem shlN {a g : Nat} (h : a * 2 ^ g < 2 ^ 31 ∧ g < 31) : nI a <<< (nI g &&& 31) = nI (a * 2 ^ g) := pk_shlN _ g (sm31 g h.2) (by omega)
theorem shl1 {g : Nat} (h : g < 31) : nI 1 <<< (nI g &&& 31) = nI (2 ^ g) := by
  have := pk_shlN (n := 1) (nI g &&& 31) g (sm31 g h) (by rw [Nat.one_mul]; exact Nat.pow_lt_pow_right (by omega) (by omega))
  rw [Nat.one_mul] at this
  exact this
theorem shrN {a g : Nat} (h : a < 2 ^ 31) (hg : g < 31) : nI a >>> (nI g &&& 31) = nI (a / 2 ^ g) := pk_shrN h _ g (sm31 g hg)
theorem btN {a g : Nat} (h : a < 2 ^ 31) (hg : g < 31) : bt (nI a) (nI g) = nI (bitN a g) := by
  unfold bt bitN
  rw [shrN h hg, pk_andN (n := a / 2 ^ g) (Nat.lt_of_le_of_lt (Nat.div_le_self _ _) (by omega)) 1 (by decide)]
theorem mnN {a b : Nat} (ha : a < 2 ^ 31) (hb : b < 2 ^ 31) : mn (nI a) (nI b) = nI (min a b) := by
  unfold mn
  by_cases h : b < a
  · rw [if_pos (nI_lt h ha), Nat.min_eq_right (by omega)]
  · rw [if_neg (nI_nlt (by omega) hb), Nat.min_eq_left (by omega)]
theorem mxN {a b : Nat} (ha : a < 2 ^ 31) (hb : b < 2 ^ 31) : mx (nI a) (nI b) = nI (max a b) := by
  unfold mx
  by_cases h : a < b
  · rw [if_pos (nI_lt h hb), Nat.max_eq_right (by omega)]
  · rw [if_neg (nI_nlt (by omega) ha), Nat.max_eq_left (by omega)]

def aoG (U : State) : Prop := va_AO RX3 U ∧ va_AO RX5 U ∧ va_AO RX7 U
theorem aoG.moved {u U : State} (hvm : u.vm.Alike U.vm) (h : aoG u) : aoG U := ⟨h.1.moved hvm, h.2.1.moved hvm, h.2.2.moved hvm⟩
/-- THE JUDGEMENT over a world that grows: G = how many cells there are, which of them hang loose, the numbers -/
def VG (E : En) (M : Mi) (K : Kk) (pc : Nat) (L : List (Option Value)) (st : List Value) (G : Nat × List Nat × Sg) : Prop :=
  ∀ (p : Program) (l : Launch) (e : Env) (s : State) (m : MethodId) (args : Array Value) (below : List Frame) (meth : Method) (c : Code) (H : Heap) (locs : List Loc) (ls : Array Slot),
    Cx E M K p s m args meth c → ((M.1.name = "<init>" → meth.name = "<init>") ∧ aoG s) → eB E ≤ s.heap.size → GI K.2.1 G.1 G.2.2 → H.size = eB E + G.1 → va_P (eD E) vwCl (wg E G.1 G.2.1 G.2.2) H → va_S (fun q => eB E ≤ q) s.heap H locs → lo ls M.2.2.1 L →
    W p l e K.1 s m args below meth c H locs (G.1 - K.2.1) (2000 * (G.1 - K.2.1)) (K.2.2.2.1 below args s) (F0 m pc ls st)
section GR
variable {E : En} {M : Mi} {K : Kk} {pc nx : Nat} {L L' : List (Option Value)} {st : List Value} {G : Nat × List Nat × Sg}
theorem VG_iconst {n : Int} {v : Int32} (h : dq M pc (.iconst n) 1 nx) (hv : Int32.ofInt n = v) (k : VG E M K nx L (.int v :: st) G) : VG E M K pc L (st) G := by
  obtain ⟨h1, rfl⟩ := h
  intro p l e s m args below meth c H locs ls C hN hB hG hz hP hS hl
  exact lv_iconst C.1 C.2.1 h1 hv (k p l e s m args below meth c H locs ls C hN hB hG hz hP hS hl)
theorem VG_bipush {n : Int} {v : Int32} (h : dq M pc (.bipush n) 2 nx) (hv : (Int8.ofInt n).toInt32 = v) (k : VG E M K nx L (.int v :: st) G) : VG E M K pc L (st) G := by
  obtain ⟨h1, rfl⟩ := h
  intro p l e s m args below meth c H locs ls C hN hB hG hz hP hS hl
  exact lv_bipush C.1 C.2.1 h1 hv (k p l e s m args below meth c H locs ls C hN hB hG hz hP hS hl)
theorem VG_sipush {n : Int} {v : Int32} (h : dq M pc (.sipush n) 3 nx) (hv : (Int16.ofInt n).toInt32 = v) (k : VG E M K nx L (.int v :: st) G) : VG E M K pc L (st) G := by
  obtain ⟨h1, rfl⟩ := h
  intro p l e s m args below meth c H locs ls C hN hB hG hz hP hS hl
  exact lv_sipush C.1 C.2.1 h1 hv (k p l e s m args below meth c H locs ls C hN hB hG hz hP hS hl)
theorem VG_dup {a : Value} (h : dq M pc (.dup) 1 nx) (ha : a.category = 1) (k : VG E M K nx L (a :: a :: st) G) : VG E M K pc L (a :: st) G := by
  obtain ⟨h1, rfl⟩ := h
  intro p l e s m args below meth c H locs ls C hN hB hG hz hP hS hl
  exact lv_dup C.1 C.2.1 h1 ha (k p l e s m args below meth c H locs ls C hN hB hG hz hP hS hl)
theorem VG_iload_n {j : Fin 4} {i : Nat} {x : Int32} (h : dq M pc (.iload_n j) 1 nx) (hi : (j : Nat) = i) (hx : L[i]? = some (some (.int x))) (k : VG E M K nx L (.int x :: st) G) : VG E M K pc L (st) G := by
  obtain ⟨h1, rfl⟩ := h
  intro p l e s m args below meth c H locs ls C hN hB hG hz hP hS hl
  exact lv_iload_n C.1 C.2.1 h1 hi (hl.2.2 i _ hx) (k p l e s m args below meth c H locs ls C hN hB hG hz hP hS hl)
theorem VG_aload_n {j : Fin 4} {i : Nat} {x : Nat} (h : dq M pc (.aload_n j) 1 nx) (hi : (j : Nat) = i) (hx : L[i]? = some (some (.ref x))) (k : VG E M K nx L (.ref x :: st) G) : VG E M K pc L (st) G := by
  obtain ⟨h1, rfl⟩ := h
  intro p l e s m args below meth c H locs ls C hN hB hG hz hP hS hl
  exact lv_aload_n C.1 C.2.1 h1 hi (hl.2.2 i _ hx) (k p l e s m args below meth c H locs ls C hN hB hG hz hP hS hl)
theorem VG_istore_n {j : Fin 4} {i : Nat} {x : Int32} (h : dq M pc (.istore_n j) 1 nx) (hi : (j : Nat) = i) (hL : lset1 M.2.2.1 L i (.int x) = some L') (k : VG E M K nx L' st G) : VG E M K pc L (.int x :: st) G := by
  obtain ⟨h1, rfl⟩ := h
  intro p l e s m args below meth c H locs ls C hN hB hG hz hP hS hl
  exact lv_istore_n C.1 C.2.1 h1 hi hl.has (lset1_lt hL) rfl (fun ls2 h2 => k p l e s m args below meth c H locs ls2 C hN hB hG hz hP hS (lo.set1 (ls := ls) hL h2))
theorem VG_astore_n {j : Fin 4} {i : Nat} {x : Nat} (h : dq M pc (.astore_n j) 1 nx) (hi : (j : Nat) = i) (hL : lset1 M.2.2.1 L i (.ref x) = some L') (k : VG E M K nx L' st G) : VG E M K pc L (.ref x :: st) G := by
  obtain ⟨h1, rfl⟩ := h
  intro p l e s m args below meth c H locs ls C hN hB hG hz hP hS hl
  exact lv_astore_n C.1 C.2.1 h1 hi hl.has (lset1_lt hL) rfl (fun ls2 h2 => k p l e s m args below meth c H locs ls2 C hN hB hG hz hP hS (lo.set1 (ls := ls) hL h2))
theorem VG_iinc {i : Nat} {n : Int} {x v : Int32} (h : dq M pc (.iinc i n) 3 nx) (hx : L[i]? = some (some (.int x))) (hv : x + Int32.ofInt n = v) (hL : lset1 M.2.2.1 L i (.int v) = some L') (k : VG E M K nx L' st G) : VG E M K pc L st G := by
  obtain ⟨h1, rfl⟩ := h
  intro p l e s m args below meth c H locs ls C hN hB hG hz hP hS hl
  have hm := lvl_in L 0 i _ hx
  rw [Nat.zero_add] at hm
  obtain ⟨kk, hkk⟩ := List.getElem?_of_mem hm
  exact lv_iinc C.1 C.2.1 h1 hl.has hkk hv (lset1_lt hL) rfl (fun ls2 h2 => k p l e s m args below meth c H locs ls2 C hN hB hG hz hP hS (lo.set1 (ls := ls) hL h2))
theorem VG_goto {off : Int} {tgt : Nat} (h : dq M pc (.goto off) 3 nx) (ht : (pc : Int) + off = (tgt : Int)) (k : VG E M K tgt L st G) : VG E M K pc L st G := by
  obtain ⟨h1, rfl⟩ := h
  intro p l e s m args below meth c H locs ls C hN hB hG hz hP hS hl
  exact lv_goto C.1 C.2.1 h1 ht (k p l e s m args below meth c H locs ls C hN hB hG hz hP hS hl)
theorem VG_icmp_ge {x y : Int32} {off : Int} {tgt : Nat} (h : dq M pc (.if_icmp .ge off) 3 nx) (ht : (pc : Int) + off = (tgt : Int)) (kt : y ≤ x → VG E M K tgt L st G) (kf : ¬ y ≤ x → VG E M K nx L st G) : VG E M K pc L (.int y :: .int x :: st) G := by
  obtain ⟨h1, rfl⟩ := h
  intro p l e s m args below meth c H locs ls C hN hB hG hz hP hS hl
  exact lv_icmp_ge C.1 C.2.1 h1 ht (fun z => kt z p l e s m args below meth c H locs ls C hN hB hG hz hP hS hl) (fun z => kf z p l e s m args below meth c H locs ls C hN hB hG hz hP hS hl)
end GR
def nd (ci : Nat) (C : String) (N : Nat) : Prop := ∃ (T : u_T) (ty0 : Nat → FieldType), vwCl[ci]? = some (C, T, N) ∧ (∀ w ∈ u_ws C T N, w ∈ gw) ∧ (∀ k, k < N → parseFieldDescriptor (T k).2.2.1 = some (ty0 k)) ∧ nf ci = N ∧ ci < 10 ∧ Cond.instantiable C N ∈ gw ∧ Cond.initialized C ∈ gw ∧ ∀ j, j < N → defaultValue (ty0 j) = (if isR ci j then Value.null else .int 0)
theorem nd_0 : nd 0 RX0 3 := ⟨TX0, tyX0, rfl, in_X0, tyX0_ok, rfl, by decide, tg_in 172 (by decide +kernel) rfl, in_X0_i, fun j hj => by rcases (show j = 0 ∨ j = 1 ∨ j = 2 by omega) with rfl | rfl | rfl <;> rfl⟩
theorem nd_1 : nd 1 RX1 2 := ⟨TX1, tyX1, rfl, in_X1, tyX1_ok, rfl, by decide, tg_in 231 (by decide +kernel) rfl, in_X1_i, fun j hj => by rcases (show j = 0 ∨ j = 1 by omega) with rfl | rfl <;> rfl⟩
theorem nd_2 : nd 2 RX2 5 := ⟨TX2, tyX2, rfl, in_X2, tyX2_ok, rfl, by decide, tg_in 209 (by decide +kernel) rfl, in_X2_i, fun j hj => by rcases (show j = 0 ∨ j = 1 ∨ j = 2 ∨ j = 3 ∨ j = 4 by omega) with rfl | rfl | rfl | rfl | rfl <;> rfl⟩
theorem nd_3 : nd 3 RX3 4 := ⟨TX3, tyX3, rfl, in_X3, tyX3_ok, rfl, by decide, tg_in 245 (by decide +kernel) rfl, in_X3_i, fun j hj => by rcases (show j = 0 ∨ j = 1 ∨ j = 2 ∨ j = 3 by omega) with rfl | rfl | rfl | rfl <;> rfl⟩
theorem nd_4 : nd 4 RX4 3 := ⟨TX4, tyX4, rfl, in_X4, tyX4_ok, rfl, by decide, tg_in 191 (by decide +kernel) rfl, in_X4_i, fun j hj => by rcases (show j = 0 ∨ j = 1 ∨ j = 2 by omega) with rfl | rfl | rfl <;> rfl⟩
theorem nd_5 : nd 5 RX5 10 := ⟨TX5, tyX5, rfl, in_X5, tyX5_ok, rfl, by decide, tg_in 63 (by decide +kernel) rfl, in_X5_i, fun j hj => by rcases (show j = 0 ∨ j = 1 ∨ j = 2 ∨ j = 3 ∨ j = 4 ∨ j = 5 ∨ j = 6 ∨ j = 7 ∨ j = 8 ∨ j = 9 by omega) with rfl | rfl | rfl | rfl | rfl | rfl | rfl | rfl | rfl | rfl <;> rfl⟩
theorem nd_6 : nd 6 RX6 9 := ⟨TX6, tyX6, rfl, in_X6, tyX6_ok, rfl, by decide, tg_in 25 (by decide +kernel) rfl, in_X6_i, fun j hj => by rcases (show j = 0 ∨ j = 1 ∨ j = 2 ∨ j = 3 ∨ j = 4 ∨ j = 5 ∨ j = 6 ∨ j = 7 ∨ j = 8 by omega) with rfl | rfl | rfl | rfl | rfl | rfl | rfl | rfl | rfl <;> rfl⟩
theorem nd_7 : nd 7 RX7 7 := ⟨TX7, tyX7, rfl, in_X7, tyX7_ok, rfl, by decide, tg_in 70 (by decide +kernel) rfl, in_X7_i, fun j hj => by rcases (show j = 0 ∨ j = 1 ∨ j = 2 ∨ j = 3 ∨ j = 4 ∨ j = 5 ∨ j = 6 by omega) with rfl | rfl | rfl | rfl | rfl | rfl | rfl <;> rfl⟩
theorem nd_8 : nd 8 RX8 12 := ⟨TX8, tyX8, rfl, in_X8, tyX8_ok, rfl, by decide, tg_in 15 (by decide +kernel) rfl, in_X8_i, fun j hj => by rcases (show j = 0 ∨ j = 1 ∨ j = 2 ∨ j = 3 ∨ j = 4 ∨ j = 5 ∨ j = 6 ∨ j = 7 ∨ j = 8 ∨ j = 9 ∨ j = 10 ∨ j = 11 by omega) with rfl | rfl | rfl | rfl | rfl | rfl | rfl | rfl | rfl | rfl | rfl | rfl <;> rfl⟩
theorem nd_9 : nd 9 RX9 26 := ⟨TX9, tyX9, rfl, in_X9, tyX9_ok, rfl, by decide, tg_in 839 (by decide +kernel) rfl, in_X9_i, fun j hj => by rcases (show j = 0 ∨ j = 1 ∨ j = 2 ∨ j = 3 ∨ j = 4 ∨ j = 5 ∨ j = 6 ∨ j = 7 ∨ j = 8 ∨ j = 9 ∨ j = 10 ∨ j = 11 ∨ j = 12 ∨ j = 13 ∨ j = 14 ∨ j = 15 ∨ j = 16 ∨ j = 17 ∨ j = 18 ∨ j = 19 ∨ j = 20 ∨ j = 21 ∨ j = 22 ∨ j = 23 ∨ j = 24 ∨ j = 25 by omega) with rfl | rfl | rfl | rfl | rfl | rfl | rfl | rfl | rfl | rfl | rfl | rfl | rfl | rfl | rfl | rfl | rfl | rfl | rfl | rfl | rfl | rfl | rfl | rfl | rfl | rfl <;> rfl⟩
theorem oi_n : Cond.instanceMethod objectInit ∈ gw := tg_in 20 (by decide +kernel) rfl
theorem oi_c : Cond.code objectInit ⟨#[0xb1]⟩ 1 none ∈ gw := tg_in 21 (by decide +kernel) rfl
theorem ac_i : Cond.arrayClass .int ∈ gw := tg_in 61 (by decide +kernel) rfl
theorem ac_z : Cond.arrayClass .boolean ∈ gw := tg_in 923 (by decide +kernel) rfl
def rmG (K : Kk) (n : Nat) : Prop := n - K.2.1 ≤ K.1.cells ∧ 2000 * (n - K.2.1) ≤ K.1.slots
theorem GI.new {n0 n : Nat} {σ : Sg} (h : GI n0 n σ) (hn : n < 307) : GI n0 (n + 1) σ := ⟨Nat.le_succ_of_le h.1, hn, fun i hi k => h.2.2 i (by omega) k⟩
theorem GI.put {n0 n a k : Nat} {σ : Sg} {x : Int32} (h : GI n0 n σ) (ha : a < n) : GI n0 n (up2 σ a k x) := ⟨h.1, h.2.1, fun i hi j => by rw [up2_ne (by omega)]; exact h.2.2 i hi j⟩
section GS
variable {E : En} {M : Mi} {K : Kk} {pc nx n : Nat} {un : List Nat} {L L' : List (Option Value)} {st : List Value} {σ : Sg}
theorem VG_obj {idx : Nat} {x : Nat} (h : dq M pc (.invokespecial idx) 3 nx) (hL : Cond.methodLink M.1.cls idx objectInit ∈ gw) (hf : 1 ≤ K.1.frames) (hlo : (st.map fun v => v.category).sum + 12 ≤ K.1.locals) (k : VG E M K nx L st (n, un, σ)) : VG E M K pc L (.ref x :: st) (n, un, σ) := by
  obtain ⟨h1, rfl⟩ := h
  intro p l e s m args below meth c H locs ls C hN hB hG hz hP hS hl
  exact W.objInit C.1 C.2.1 C.2.2.2.1 (C.2.2.2.2.1 _ hL) (C.2.2.2.2.1 _ oi_n) (C.2.2.2.2.1 _ oi_c) rfl (by rw [C.2.2.1]; exact hl.1) rfl h1 hf (by show 2 * 0 + _ + 12 ≤ _; omega) (k p l e s m args below meth c H locs ls C hN hB hG hz hP hS hl)
/-- a fresh cell at the end -/
theorem push_P {H H1 : Heap} (hz : H.size = eB E + n) (hP : va_P (eD E) vwCl (wg E n un σ) H) (o1 : ∀ q, q < eB E + n → H1[q]? = H[q]?) (hc : va_at (eD E) vwCl (eB E + n, cellg E σ (n + 1) (n :: un) n) H1) : va_P (eD E) vwCl (wg E (n + 1) (n :: un) σ) H1 := by
  rw [← wg_new]
  refine va_P.app (hP.kept (fun k x hx => ?_)) (fun k x hx => ?_)
  · obtain ⟨h1, rfl⟩ := wg_out hx
    exact o1 _ (Nat.add_lt_add_left h1 _)
  · have hz : k < 1 := (List.getElem?_eq_some_iff.mp hx).1
    rw [show k = 0 by omega] at hx
    cases hx
    exact hc
theorem push_S {H0 H H1 : Heap} {locs : List Loc} (hS : va_S (fun q => eB E ≤ q) H0 H locs) (hz : H.size = eB E + n) (z1 : H1.size = eB E + n + 1) (o1 : ∀ q, q < eB E + n → H1[q]? = H[q]?) : va_S (fun q => eB E ≤ q) H0 H1 locs :=
  ⟨by have := hS.1; omega, fun x h1 h2 => (o1 x (by have := hS.1; omega)).trans (hS.2.1 x h1 h2), hS.2.2⟩
theorem VG_new {ci idx N : Nat} {C : String} (h : dq M pc (.new idx) 3 nx) (hd : nd ci C N) (hL : Cond.classLink M.1.cls idx C ∈ gw) (hn : kd n = ci) (hR : rmG K (n + 1)) (k : VG E M K nx L (.ref (eB E + n) :: st) (n + 1, n :: un, σ)) : VG E M K pc L st (n, un, σ) := by
  obtain ⟨h1, rfl⟩ := h
  obtain ⟨T, ty0, hc, hin, hty, hnf, h10, hi1, hi2, hdv⟩ := hd
  intro p l e s m args below meth c H locs ls C hN hB hG hz hP hS hl
  have hlt : n < 307 := kd_lt (by omega)
  have hKn := C.2.2.2.2.2.2.2.1.1.1 ci _ hc
  have hg1 : K.2.1 ≤ n := hG.1
  have hN26 := nf_26 ci h10
  have hR1 : n + 1 - K.2.1 ≤ K.1.cells := hR.1
  have hR2 : 2000 * (n + 1 - K.2.1) ≤ K.1.slots := hR.2
  refine W.newcK C.1 C.2.1 C.2.2.2.1 (C.2.2.2.2.1 _ hL) (C.2.2.2.2.1 _ hi1) (C.2.2.2.2.1 _ hi2) rfl h1 (by show n - K.2.1 + 1 ≤ _; omega) (by show 2000 * (n - K.2.1) + N ≤ _; omega) hKn.2.1 hz fun H1 kC hkC e1 z1 o1 => ?_
  refine W.widen (k := n + 1 - K.2.1) (n := 2000 * (n + 1 - K.2.1)) (by show n - K.2.1 + 1 ≤ _; omega) (by show 2000 * (n - K.2.1) + N ≤ _; omega) ?_
  refine k p l e s m args below meth c H1 locs ls C hN hB (hG.new hlt) z1 (push_P hz hP o1 ?_) (push_S hS hz z1 o1) hl
  rw [fresh_obj hn h10 (fun k => hG.2.2 n (Nat.le_refl _) k)]
  refine ⟨_, hc, (u_born ty0 C.2.2.2.2.1 hin hKn hkC e1 hty).to (fun j hj => ?_)⟩
  have hj : j < N := hj
  subst hnf
  simp only [hdv j hj]
  unfold vp_V
  rw [List.getD_eq_getElem?_getD, List.getElem?_map, List.getElem?_range hj]
  rfl
theorem VG_newi {x : Int32} (h : dq M pc (.newarray .int) 2 nx) (hn : kd n = 10) (hx : x = nI (ln n)) (hR : rmG K (n + 1)) (k : VG E M K nx L (.ref (eB E + n) :: st) (n + 1, n :: un, σ)) : VG E M K pc L (.int x :: st) (n, un, σ) := by
  obtain ⟨h1, rfl⟩ := h
  subst hx
  intro p l e s m args below meth c H locs ls C hN hB hG hz hP hS hl
  have hlt : n < 307 := kd_lt (by omega)
  have hg1 : K.2.1 ≤ n := hG.1
  have hl2 := ln_2000 n
  have hR1 : n + 1 - K.2.1 ≤ K.1.cells := hR.1
  have hR2 : 2000 * (n + 1 - K.2.1) ≤ K.1.slots := hR.2
  have hcl : (nI (ln n)).toNatClampNeg = ln n := nI_clamp (ln_lt n)
  refine va_newaK (atype := .int) C.1 C.2.1 (C.2.2.2.2.1 _ ac_i) rfl h1 rfl (nI_pos (ln_lt n)) hcl (by show ln n * _ ≤ _; exact Nat.le_trans (Nat.mul_le_mul hl2 (show componentBytes .int ≤ 8 by decide)) (by decide)) (by show n - K.2.1 + 1 ≤ _; omega) (by show 2000 * (n - K.2.1) + ln n ≤ _; omega) hz fun H1 cA e1 z1 o1 hAr hNm => ?_
  have hA : cA = eA E 10 := Option.some.inj (hNm.symm.trans (C.2.2.2.2.2.2.2.1.1.2 0 _ rfl).2)
  subst hA
  refine W.widen (k := n + 1 - K.2.1) (n := 2000 * (n + 1 - K.2.1)) (by show n - K.2.1 + 1 ≤ _; omega) (by show 2000 * (n - K.2.1) + ln n ≤ _; omega) ?_
  refine k p l e s m args below meth c H1 locs ls C hN hB (hG.new hlt) z1 (push_P hz hP o1 ?_) (push_S hS hz z1 o1) hl
  rw [cg_arr hn (by omega) (by omega)]
  show H1[eB E + n]? = some (vp_cell _ _)
  rw [vp_cell_i, e1]
  congr 2
  funext j
  rw [hG.2.2 n (Nat.le_refl _) j]
  rfl
theorem VG_newz {x : Int32} (h : dq M pc (.newarray .boolean) 2 nx) (hn : kd n = 11) (hx : x = nI (ln n)) (hR : rmG K (n + 1)) (k : VG E M K nx L (.ref (eB E + n) :: st) (n + 1, n :: un, σ)) : VG E M K pc L (.int x :: st) (n, un, σ) := by
  obtain ⟨h1, rfl⟩ := h
  subst hx
  intro p l e s m args below meth c H locs ls C hN hB hG hz hP hS hl
  have hlt : n < 307 := kd_lt (by omega)
  have hg1 : K.2.1 ≤ n := hG.1
  have hl2 := ln_2000 n
  have hR1 : n + 1 - K.2.1 ≤ K.1.cells := hR.1
  have hR2 : 2000 * (n + 1 - K.2.1) ≤ K.1.slots := hR.2
  have hcl : (nI (ln n)).toNatClampNeg = ln n := nI_clamp (ln_lt n)
  refine va_newaK (atype := .boolean) C.1 C.2.1 (C.2.2.2.2.1 _ ac_z) rfl h1 rfl (nI_pos (ln_lt n)) hcl (by show ln n * _ ≤ _; exact Nat.le_trans (Nat.mul_le_mul hl2 (show componentBytes .boolean ≤ 8 by decide)) (by decide)) (by show n - K.2.1 + 1 ≤ _; omega) (by show 2000 * (n - K.2.1) + ln n ≤ _; omega) hz fun H1 cA e1 z1 o1 hAr hNm => ?_
  have hA : cA = eA E 11 := Option.some.inj (hNm.symm.trans (C.2.2.2.2.2.2.2.1.1.2 1 _ rfl).2)
  subst hA
  refine W.widen (k := n + 1 - K.2.1) (n := 2000 * (n + 1 - K.2.1)) (by show n - K.2.1 + 1 ≤ _; omega) (by show 2000 * (n - K.2.1) + ln n ≤ _; omega) ?_
  refine k p l e s m args below meth c H1 locs ls C hN hB (hG.new hlt) z1 (push_P hz hP o1 ?_) (push_S hS hz z1 o1) hl
  rw [cg_arr hn (by omega) (by omega)]
  show H1[eB E + n]? = some (vp_cell _ _)
  rw [vp_cell_i, e1]
  congr 2
  funext j
  rw [hG.2.2 n (Nat.le_refl _) j]
  rfl
theorem VG_newq12 {x : Int32} {idx : Nat} (h : dq M pc (.anewarray idx) 3 nx) (hL : Cond.classLink M.1.cls idx RX3 ∈ gw) (hn : kd n = 12) (hx : x = nI (ln n)) (hR : rmG K (n + 1)) (k : VG E M K nx L (.ref (eB E + n) :: st) (n + 1, n :: un, σ)) : VG E M K pc L (.int x :: st) (n, un, σ) := by
  obtain ⟨h1, rfl⟩ := h
  subst hx
  intro p l e s m args below meth c H locs ls C hN hB hG hz hP hS hl
  have hlt : n < 307 := kd_lt (by omega)
  have hg1 : K.2.1 ≤ n := hG.1
  have hl2 := ln_2000 n
  have hR1 : n + 1 - K.2.1 ≤ K.1.cells := hR.1
  have hR2 : 2000 * (n + 1 - K.2.1) ≤ K.1.slots := hR.2
  have hcl : (nI (ln n)).toNatClampNeg = ln n := nI_clamp (ln_lt n)
  refine W.anew C.1 C.2.1 C.2.2.2.1 (C.2.2.2.2.1 _ hL) (va_AO.use hN.2.1) rfl h1 rfl (nI_pos (ln_lt n)) (by rw [hcl]; exact Nat.le_trans (Nat.mul_le_mul hl2 (Nat.le_refl 4)) (by decide)) (by show n - K.2.1 + 1 ≤ _; omega) (by rw [hcl]; show 2000 * (n - K.2.1) + ln n ≤ _; omega) fun cA kA comp f1 f2 f3 f4 => ?_
  rw [hcl, hz]
  have hA : cA = eA E 12 := by
    obtain ⟨kA2, comp2, a1, a2, a3, a4⟩ := (C.2.2.2.2.2.2.2.1.1.2 2 _ rfl).2
    exact Option.some.inj (f1.symm.trans a4)
  subst hA
  generalize hH1 : H.push ({ cls := eA E 12, slots := Array.replicate (ln n) .null, vm := .none } : Cell) = H1
  have z1 : H1.size = eB E + n + 1 := by rw [← hH1, Array.size_push, hz]
  have e1 : H1[eB E + n]? = some (arrV (eA E 12) (ln n) (fun _ => .null)) := by rw [← hz, ← hH1, Array.getElem?_push_size, ← arrV_new]
  have o1 : ∀ q : Nat, q < eB E + n → H1[q]? = H[q]? := fun q hq => by rw [← hH1, Array.getElem?_push, if_neg (by omega)]
  refine W.widen (k := n + 1 - K.2.1) (n := 2000 * (n + 1 - K.2.1)) (by show n - K.2.1 + 1 ≤ _; omega) (by show 2000 * (n - K.2.1) + ln n ≤ _; omega) ?_
  refine k p l e s m args below meth c H1 locs ls C hN hB (hG.new hlt) z1 (push_P hz hP o1 ?_) (push_S hS hz z1 o1) hl
  rw [cg_ref hn (by omega), fresh_ref hlt (by omega)]
  show H1[eB E + n]? = some (vp_cell _ _)
  rw [vp_cell_q, e1]
  rfl
theorem VG_newq13 {x : Int32} {idx : Nat} (h : dq M pc (.anewarray idx) 3 nx) (hL : Cond.classLink M.1.cls idx RX5 ∈ gw) (hn : kd n = 13) (hx : x = nI (ln n)) (hR : rmG K (n + 1)) (k : VG E M K nx L (.ref (eB E + n) :: st) (n + 1, n :: un, σ)) : VG E M K pc L (.int x :: st) (n, un, σ) := by
  obtain ⟨h1, rfl⟩ := h
  subst hx
  intro p l e s m args below meth c H locs ls C hN hB hG hz hP hS hl
  have hlt : n < 307 := kd_lt (by omega)
  have hg1 : K.2.1 ≤ n := hG.1
  have hl2 := ln_2000 n
  have hR1 : n + 1 - K.2.1 ≤ K.1.cells := hR.1
  have hR2 : 2000 * (n + 1 - K.2.1) ≤ K.1.slots := hR.2
  have hcl : (nI (ln n)).toNatClampNeg = ln n := nI_clamp (ln_lt n)
  refine W.anew C.1 C.2.1 C.2.2.2.1 (C.2.2.2.2.1 _ hL) (va_AO.use hN.2.2.1) rfl h1 rfl (nI_pos (ln_lt n)) (by rw [hcl]; exact Nat.le_trans (Nat.mul_le_mul hl2 (Nat.le_refl 4)) (by decide)) (by show n - K.2.1 + 1 ≤ _; omega) (by rw [hcl]; show 2000 * (n - K.2.1) + ln n ≤ _; omega) fun cA kA comp f1 f2 f3 f4 => ?_
  rw [hcl, hz]
  have hA : cA = eA E 13 := by
    obtain ⟨kA2, comp2, a1, a2, a3, a4⟩ := (C.2.2.2.2.2.2.2.1.1.2 3 _ rfl).2
    exact Option.some.inj (f1.symm.trans a4)
  subst hA
  generalize hH1 : H.push ({ cls := eA E 13, slots := Array.replicate (ln n) .null, vm := .none } : Cell) = H1
  have z1 : H1.size = eB E + n + 1 := by rw [← hH1, Array.size_push, hz]
  have e1 : H1[eB E + n]? = some (arrV (eA E 13) (ln n) (fun _ => .null)) := by rw [← hz, ← hH1, Array.getElem?_push_size, ← arrV_new]
  have o1 : ∀ q : Nat, q < eB E + n → H1[q]? = H[q]? := fun q hq => by rw [← hH1, Array.getElem?_push, if_neg (by omega)]
  refine W.widen (k := n + 1 - K.2.1) (n := 2000 * (n + 1 - K.2.1)) (by show n - K.2.1 + 1 ≤ _; omega) (by show 2000 * (n - K.2.1) + ln n ≤ _; omega) ?_
  refine k p l e s m args below meth c H1 locs ls C hN hB (hG.new hlt) z1 (push_P hz hP o1 ?_) (push_S hS hz z1 o1) hl
  rw [cg_ref hn (by omega), fresh_ref hlt (by omega)]
  show H1[eB E + n]? = some (vp_cell _ _)
  rw [vp_cell_q, e1]
  rfl
theorem VG_newq14 {x : Int32} {idx : Nat} (h : dq M pc (.anewarray idx) 3 nx) (hL : Cond.classLink M.1.cls idx RX7 ∈ gw) (hn : kd n = 14) (hx : x = nI (ln n)) (hR : rmG K (n + 1)) (k : VG E M K nx L (.ref (eB E + n) :: st) (n + 1, n :: un, σ)) : VG E M K pc L (.int x :: st) (n, un, σ) := by
  obtain ⟨h1, rfl⟩ := h
  subst hx
  intro p l e s m args below meth c H locs ls C hN hB hG hz hP hS hl
  have hlt : n < 307 := kd_lt (by omega)
  have hg1 : K.2.1 ≤ n := hG.1
  have hl2 := ln_2000 n
  have hR1 : n + 1 - K.2.1 ≤ K.1.cells := hR.1
  have hR2 : 2000 * (n + 1 - K.2.1) ≤ K.1.slots := hR.2
  have hcl : (nI (ln n)).toNatClampNeg = ln n := nI_clamp (ln_lt n)
  refine W.anew C.1 C.2.1 C.2.2.2.1 (C.2.2.2.2.1 _ hL) (va_AO.use hN.2.2.2) rfl h1 rfl (nI_pos (ln_lt n)) (by rw [hcl]; exact Nat.le_trans (Nat.mul_le_mul hl2 (Nat.le_refl 4)) (by decide)) (by show n - K.2.1 + 1 ≤ _; omega) (by rw [hcl]; show 2000 * (n - K.2.1) + ln n ≤ _; omega) fun cA kA comp f1 f2 f3 f4 => ?_
  rw [hcl, hz]
  have hA : cA = eA E 14 := by
    obtain ⟨kA2, comp2, a1, a2, a3, a4⟩ := (C.2.2.2.2.2.2.2.1.1.2 4 _ rfl).2
    exact Option.some.inj (f1.symm.trans a4)
  subst hA
  generalize hH1 : H.push ({ cls := eA E 14, slots := Array.replicate (ln n) .null, vm := .none } : Cell) = H1
  have z1 : H1.size = eB E + n + 1 := by rw [← hH1, Array.size_push, hz]
  have e1 : H1[eB E + n]? = some (arrV (eA E 14) (ln n) (fun _ => .null)) := by rw [← hz, ← hH1, Array.getElem?_push_size, ← arrV_new]
  have o1 : ∀ q : Nat, q < eB E + n → H1[q]? = H[q]? := fun q hq => by rw [← hH1, Array.getElem?_push, if_neg (by omega)]
  refine W.widen (k := n + 1 - K.2.1) (n := 2000 * (n + 1 - K.2.1)) (by show n - K.2.1 + 1 ≤ _; omega) (by show 2000 * (n - K.2.1) + ln n ≤ _; omega) ?_
  refine k p l e s m args below meth c H1 locs ls C hN hB (hG.new hlt) z1 (push_P hz hP o1 ?_) (push_S hS hz z1 o1) hl
  rw [cg_ref hn (by omega), fresh_ref hlt (by omega)]
  show H1[eB E + n]? = some (vp_cell _ _)
  rw [vp_cell_q, e1]
  rfl
end GS

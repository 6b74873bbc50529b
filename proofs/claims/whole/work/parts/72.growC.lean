section GH
variable {E : En} {M : Mi} {K : Kk} {pc nx n : Nat} {un : List Nat} {L L' : List (Option Value)} {st : List Value} {σ : Sg}
theorem VG_link {a k t idx ci : Nat} {C nm ds : String} {ty : FieldType} (h : dq M pc (.putfield idx) 3 nx) (hF : fd ci k C nm ds true true) (hf : Cond.fieldLink M.1.cls idx C nm ds ∈ gw) (hC : C = M.1.cls) (hi : M.1.name = "<init>") (ha : a < n) (hn : kd a = ci) (ht : rf a k = t) (htn : t < n) (htu : t ∉ un) (hd : parseFieldDescriptor ds = some ty) (hna : ∀ x : Nat, narrow ty (.ref x) = .ref x) (hfi : ∀ x : Nat, fits ty (.ref x) = true) (kk : VG E M K nx L st (n, un, σ)) : VG E M K pc L (.ref (eB E + t) :: .ref (eB E + a) :: st) (n, t :: un, σ) := by
  obtain ⟨h1, rfl⟩ := h
  obtain ⟨T, N, ty0, hc, hin, hT, hkN, hr, hty, hnm, hnf, h10, hzf⟩ := hF
  intro p l e s m args below meth c H locs ls C hN hB hG hz hP hS hl
  have h307 : n ≤ 307 := hG.2.1
  have he : (wg E n (t :: un) σ)[a]? = some (eB E + a, .inr (ci, (List.range N).map (fvg E σ n (t :: un) a))) := by rw [wg_at ha, cg_obj hn h10, hnf]
  have hK := C.2.2.2.2.2.2.2.1.1
  have hts := C.2.2.2.2.1
  have hown := C.2.2.2.1
  have hap := va_apart (own := M.1.cls) hts hin ty0 hty hnm hK hc
  obtain ⟨r, g1, cell, q1, q2, q3, q4⟩ := hP a _ he
  have hr2 : r = (_, T, N) := Option.some.inj (g1.symm.trans hc)
  subst hr2
  obtain ⟨hS2, hfc, kC, hkC, hkind⟩ := hK.1 ci _ hc
  obtain ⟨cf, kf, fi, f, hi2, hsl⟩ := hS2 _ hkN
  have hlay := hts _ (hin _ (u_in_lay hkN))
  unfold u_lay at hlay
  rw [if_pos (by rw [hT])] at hlay
  have hst := (u_facts hfc hkC (u_lays hts hin hkN) hi2).1
  have hcf : m.cls = cf := by
    obtain ⟨_, _, c', _, _, _, -, -, hf', -, -, -, hown2, -⟩ := Cond.laysFinal_spec hlay
    have e1 : c' = cf := by have := hi2.symm.trans hf'; simp at this; exact this.1.symm
    rw [hT] at hown2
    rw [← e1]; exact Option.some.inj (hown.symm.trans (by rw [← hC]; exact hown2))
  have h6 := u_fits hfc hkC hkind (Or.inr hlay) hi2 (ty := ty) (by rw [hT]; exact hd) (hna (eB E + t)) (hfi (eB E + t))
  have hi3 := hi2
  dsimp only at hi3
  rw [hT] at hi3
  refine W.putFinK C.1 C.2.1 hown (C.2.2.2.2.1 _ hf) hi3 hst hcf (hN.1 hi) (by rw [q2]; exact h6) q1 q3 (by rw [hsl]; exact k2_hasslot (q4 _ hkN)) rfl rfl h1 fun H' e1 e2 e3 => ?_
  rw [hsl] at e1 ⊢
  have hP1 : va_P (eD E) vwCl ((wg E n (t :: un) σ).set a (eB E + a, .inr (ci, ((List.range N).map (fvg E σ n (t :: un) a)).set k (.ref (eB E + t))))) H' := hP.set wg_D he ⟨_, hc, t_OB.to (V := updV (vp_V ((List.range N).map (fvg E σ n (t :: un) a))) k (.ref (eB E + t))) ⟨_, e1, q2, q3, t_set q4 hap hkN _⟩ (fun j _ => vp_updV_set (by rw [List.length_map, List.length_range]; exact hkN) _ j)⟩ e3
  subst hnf
  rw [wg_set ha (link_ne h307 ha (by unfold rr; rw [hn, if_pos h10, hr]; simp [hkN]) ht) (link_obj h307 ha hn h10 hkN hr ht htn htu)] at hP1
  exact kk p l e s m args below meth c H' _ ls C hN hB hG (by rw [e2]; exact hz) hP1 (hS.put e2 e3 (Nat.le_add_right _ _)) hl
theorem VG_putz {a k idx ci : Nat} {C nm : String} {x : Int32} (h : dq M pc (.putfield idx) 3 nx) (hF : fd ci k C nm "Z" false false) (hf : Cond.fieldLink M.1.cls idx C nm "Z" ∈ gw) (ha : a < n) (hn : kd a = ci) (hx : x = 0 ∨ x = 1) (kk : VG E M K nx L st (n, un, up2 σ a k x)) : VG E M K pc L (.int x :: .ref (eB E + a) :: st) (n, un, σ) := by
  obtain ⟨h1, rfl⟩ := h
  obtain ⟨T, N, ty0, hc, hin, hT, hkN, hr, hty, hnm, hnf, h10, hzf⟩ := hF
  intro p l e s m args below meth c H locs ls C hN hB hG hz hP hS hl
  have he : (wg E n un σ)[a]? = some (eB E + a, .inr (ci, (List.range N).map (fvg E σ n un a))) := by rw [wg_at ha, cg_obj hn h10, hnf]
  have hK := C.2.2.2.2.2.2.2.1.1
  have hts := C.2.2.2.2.1
  have hown := C.2.2.2.1
  have hap := va_apart (own := M.1.cls) hts hin ty0 hty hnm hK hc
  obtain ⟨r, g1, cell, q1, q2, q3, q4⟩ := hP a _ he
  have hr2 : r = (_, T, N) := Option.some.inj (g1.symm.trans hc)
  subst hr2
  obtain ⟨hS2, hfc, kC, hkC, hkind⟩ := hK.1 ci _ hc
  obtain ⟨cf, kf, fi, f, hi2, hsl⟩ := hS2 _ hkN
  have hlay := hts _ (hin _ (u_in_lay hkN))
  unfold u_lay at hlay
  rw [if_neg (by rw [hT]; exact Bool.false_ne_true)] at hlay
  have hst := (u_facts hfc hkC (u_lays hts hin hkN) hi2).1
  have h6 := u_store (v := .int x) hfc hkC hkind hlay hi2 (ty := .boolean) (by rw [hT]; show parseFieldDescriptor "Z" = _; decide +kernel) (by rcases hx with rfl | rfl <;> rfl) (by rcases hx with rfl | rfl <;> rfl)
  have hi3 := hi2
  dsimp only at hi3
  rw [hT] at hi3
  refine W.putK C.1 C.2.1 (f := f) ⟨hown, C.2.2.2.2.1 _ hf, ⟨_, _, _, hi3⟩, hst⟩ (by rw [q2]; exact h6) q1 q3 (by rw [hsl]; exact k2_hasslot (q4 _ hkN)) rfl rfl h1 fun H' e1 e2 e3 => ?_
  rw [hsl] at e1 ⊢
  have hP1 : va_P (eD E) vwCl ((wg E n un σ).set a (eB E + a, .inr (ci, ((List.range N).map (fvg E σ n un a)).set k (.int x)))) H' := hP.set wg_D he ⟨_, hc, t_OB.to (V := updV (vp_V ((List.range N).map (fvg E σ n un a))) k (.int x)) ⟨_, e1, q2, q3, t_set q4 hap hkN _⟩ (fun j _ => vp_updV_set (by rw [List.length_map, List.length_range]; exact hkN) _ j)⟩ e3
  subst hnf
  rw [wg_set ha (fun m _ hm => cg_ne hm) (cg_put hn h10 hkN hr)] at hP1
  exact kk p l e s m args below meth c H' _ ls C hN hB (hG.put ha) (by rw [e2]; exact hz) hP1 (hS.put e2 e3 (Nat.le_add_right _ _)) hl
theorem VG_iast {a j : Nat} {x v : Int32} (h : dq M pc .iastore 1 nx) (ha : a < n) (hn : kd a = 10) (hx : x = nI j) (hj : j < ln a) (k : VG E M K nx L st (n, un, up2 σ a j v)) : VG E M K pc L (.int v :: .int x :: .ref (eB E + a) :: st) (n, un, σ) := by
  obtain ⟨h1, rfl⟩ := h
  subst hx
  intro p l e s m args below meth c H locs ls C hN hB hG hz hP hS hl
  have he : (wg E n un σ)[a]? = some (eB E + a, .inl (eA E 10, ln a, .inl (σ a))) := by rw [wg_at ha, cg_arr hn (by omega) (by omega)]
  have hin := vp_in_nI hj (ln_lt a)
  refine W.iast C.1 C.2.1 (hP a _ he) ((C.2.2.2.2.2.2.2.1.1.2 0 _ rfl).1 (ln a) (fun j => .int (σ a j))) (fun q => by cases q) (by show ¬ (nI j < 0 ∨ (arrV _ _ _).slots.size ≤ _); rw [arrV_size]; exact hin) rfl rfl h1 fun H1 e z oq => ?_
  have hP1 : va_P (eD E) vwCl ((wg E n un σ).set a (eB E + a, .inl (eA E 10, ln a, .inl (upd (σ a) j v)))) H1 := by
    refine hP.set wg_D he ?_ oq
    show H1[eB E + a]? = some (vp_cell _ _)
    rw [e]
    rw [vp_cell_i, vp_cell_i, arrV_store, nI_cl hj]
    congr 2
    funext q
    by_cases hq : q = j
    · subst hq
      simp [updV, upd]
    · simp [updV, upd, hq]
  rw [wg_set ha (fun m _ hm => cg_ne hm) (by rw [cg_arr hn (by omega) (by omega), up2_self])] at hP1
  exact k p l _ s m args below meth c H1 _ ls C hN hB (hG.put ha) (by rw [z]; exact hz) hP1 (hS.put z oq (Nat.le_add_right _ _)) hl
theorem VG_getr {a k idx ci r : Nat} {C nm ds : String} {fin : Bool} (h : dq M pc (.getfield idx) 3 nx) (hF : fd ci k C nm ds true fin) (hf : Cond.fieldLink M.1.cls idx C nm ds ∈ gw) (ha : a < n) (hn : kd a = ci) (hr2 : rf a k = r) (hrn : r < n) (hru : r ∉ un) (k : VG E M K nx L (.ref (eB E + r) :: st) (n, un, σ)) : VG E M K pc L (.ref (eB E + a) :: st) (n, un, σ) := by
  obtain ⟨h1, rfl⟩ := h
  obtain ⟨T, N, ty0, hc, hin, hT, hkN, hr, hty, hnm, hnf, h10, hzf⟩ := hF
  intro p l e s m args below meth c H locs ls C hN hB hG hz hP hS hl
  have he : (wg E n un σ)[a]? = some (eB E + a, .inr (ci, (List.range N).map (fvg E σ n un a))) := by rw [wg_at ha, cg_obj hn h10, hnf]
  refine va_get C.1 C.2.1 (own := M.1.cls) C.2.2.2.2.1 hin C.2.2.2.1 C.2.2.2.2.2.2.2.1.1 hP a he hc _ hkN (ref := (T _).1) (by rw [hT]; exact C.2.2.2.2.1 _ hf) (fun x hx => hx) ?_ h1 (k p l e s m args below meth c H locs ls C hN hB hG hz hP hS hl)
  rw [List.getElem?_map, List.getElem?_range hkN]
  have e2 : lk n un r = true := lk_iff.mpr ⟨hrn, hru⟩
  simp [fvg, hn, hr, hr2, e2]
theorem VG_aast12 {a j t : Nat} {x : Int32} (h : dq M pc .aastore 1 nx) (ha : a < n) (hn : kd a = 12) (hx : x = nI j) (hj : j < ln a) (ht : rf a j = t) (htk : kd t = 3) (htn : t < n) (htu : t ∉ un) (k : VG E M K nx L st (n, un, σ)) : VG E M K pc L (.ref (eB E + t) :: .int x :: .ref (eB E + a) :: st) (n, t :: un, σ) := by
  obtain ⟨h1, rfl⟩ := h
  subst hx
  intro p l e s m args below meth c H locs ls C hN hB hG hz hP hS hl
  have h307 : n ≤ 307 := hG.2.1
  have hK := C.2.2.2.2.2.2.2.1.1
  have he : (wg E n (t :: un) σ)[a]? = some (eB E + a, .inl (eA E 12, ln a, .inr (.inr (.inr (.inr (rfg E n (t :: un) a)))))) := by rw [wg_at ha, cg_ref hn (by omega)]
  have hv : (wg E n (t :: un) σ)[t]? = some (eB E + t, .inr (3, (List.range (nf 3)).map (fvg E σ n (t :: un) t))) := by rw [wg_at htn, cg_obj htk (by omega)]
  have hin := vp_in_nI hj (ln_lt a)
  have hlt : (nI j).toNatClampNeg < ln a := Nat.not_le.mp fun q => hin (Or.inr q)
  have h0 : ¬ nI j < 0 := fun q => hin (Or.inl q)
  obtain ⟨r', hr', cellV, g1, g2, g3, -⟩ := hP t _ hv
  have hcls := (hK.1 3 _ rfl).2
  obtain ⟨kA, comp, k1, k2, k3, -⟩ := (hK.2 2 _ rfl).2
  have hcomp : comp = (eD E).1 3 := Option.some.inj (k3.symm.trans hcls.1)
  subst hcomp
  obtain ⟨kC, hkC, -⟩ := hcls.2
  refine W.aast C.1 C.2.1 (hP a _ he) (fun q h => by cases h) (fun h => by cases h) k1 k2 rfl hkC ⟨h0, by show _ < (arrV _ _ _).slots.size; rw [arrV_size]; exact hlt⟩ g1 (fun q h => by rw [g3] at h; cases h) (by rw [g2]; exact hkC) (by rw [g2]; exact va_assign hcls) rfl rfl h1 fun H1 e z oq => ?_
  have hP1 : va_P (eD E) vwCl ((wg E n (t :: un) σ).set a (eB E + a, .inl (eA E 12, ln a, .inr (.inr (.inr (.inr (va_up (rfg E n (t :: un) a) j (some (eB E + t))))))))) H1 := by
    refine hP.set wg_D he ?_ oq
    show H1[eB E + a]? = some (vp_cell _ _)
    rw [e]
    rw [vp_cell_q, vp_cell_q, arrV_store, nI_cl hj]
    congr 2
    funext q
    by_cases hq : q = j
    · subst hq
      simp [updV, va_up, va_rf]
    · simp [updV, va_up, hq]
  rw [wg_set ha (link_ne h307 ha (by unfold rr; rw [if_neg (by omega)]; simp [hj]; omega) ht) (by rw [cg_ref hn (by omega), link_arr h307 ha (by omega) hj ht htn htu])] at hP1
  exact k p l _ s m args below meth c H1 _ ls C hN hB hG (by rw [z]; exact hz) hP1 (hS.put z oq (Nat.le_add_right _ _)) hl
theorem VG_aast13 {a j t : Nat} {x : Int32} (h : dq M pc .aastore 1 nx) (ha : a < n) (hn : kd a = 13) (hx : x = nI j) (hj : j < ln a) (ht : rf a j = t) (htk : kd t = 5) (htn : t < n) (htu : t ∉ un) (k : VG E M K nx L st (n, un, σ)) : VG E M K pc L (.ref (eB E + t) :: .int x :: .ref (eB E + a) :: st) (n, t :: un, σ) := by
  obtain ⟨h1, rfl⟩ := h
  subst hx
  intro p l e s m args below meth c H locs ls C hN hB hG hz hP hS hl
  have h307 : n ≤ 307 := hG.2.1
  have hK := C.2.2.2.2.2.2.2.1.1
  have he : (wg E n (t :: un) σ)[a]? = some (eB E + a, .inl (eA E 13, ln a, .inr (.inr (.inr (.inr (rfg E n (t :: un) a)))))) := by rw [wg_at ha, cg_ref hn (by omega)]
  have hv : (wg E n (t :: un) σ)[t]? = some (eB E + t, .inr (5, (List.range (nf 5)).map (fvg E σ n (t :: un) t))) := by rw [wg_at htn, cg_obj htk (by omega)]
  have hin := vp_in_nI hj (ln_lt a)
  have hlt : (nI j).toNatClampNeg < ln a := Nat.not_le.mp fun q => hin (Or.inr q)
  have h0 : ¬ nI j < 0 := fun q => hin (Or.inl q)
  obtain ⟨r', hr', cellV, g1, g2, g3, -⟩ := hP t _ hv
  have hcls := (hK.1 5 _ rfl).2
  obtain ⟨kA, comp, k1, k2, k3, -⟩ := (hK.2 3 _ rfl).2
  have hcomp : comp = (eD E).1 5 := Option.some.inj (k3.symm.trans hcls.1)
  subst hcomp
  obtain ⟨kC, hkC, -⟩ := hcls.2
  refine W.aast C.1 C.2.1 (hP a _ he) (fun q h => by cases h) (fun h => by cases h) k1 k2 rfl hkC ⟨h0, by show _ < (arrV _ _ _).slots.size; rw [arrV_size]; exact hlt⟩ g1 (fun q h => by rw [g3] at h; cases h) (by rw [g2]; exact hkC) (by rw [g2]; exact va_assign hcls) rfl rfl h1 fun H1 e z oq => ?_
  have hP1 : va_P (eD E) vwCl ((wg E n (t :: un) σ).set a (eB E + a, .inl (eA E 13, ln a, .inr (.inr (.inr (.inr (va_up (rfg E n (t :: un) a) j (some (eB E + t))))))))) H1 := by
    refine hP.set wg_D he ?_ oq
    show H1[eB E + a]? = some (vp_cell _ _)
    rw [e]
    rw [vp_cell_q, vp_cell_q, arrV_store, nI_cl hj]
    congr 2
    funext q
    by_cases hq : q = j
    · subst hq
      simp [updV, va_up, va_rf]
    · simp [updV, va_up, hq]
  rw [wg_set ha (link_ne h307 ha (by unfold rr; rw [if_neg (by omega)]; simp [hj]; omega) ht) (by rw [cg_ref hn (by omega), link_arr h307 ha (by omega) hj ht htn htu])] at hP1
  exact k p l _ s m args below meth c H1 _ ls C hN hB hG (by rw [z]; exact hz) hP1 (hS.put z oq (Nat.le_add_right _ _)) hl
theorem VG_aast14 {a j t : Nat} {x : Int32} (h : dq M pc .aastore 1 nx) (ha : a < n) (hn : kd a = 14) (hx : x = nI j) (hj : j < ln a) (ht : rf a j = t) (htk : kd t = 7) (htn : t < n) (htu : t ∉ un) (k : VG E M K nx L st (n, un, σ)) : VG E M K pc L (.ref (eB E + t) :: .int x :: .ref (eB E + a) :: st) (n, t :: un, σ) := by
  obtain ⟨h1, rfl⟩ := h
  subst hx
  intro p l e s m args below meth c H locs ls C hN hB hG hz hP hS hl
  have h307 : n ≤ 307 := hG.2.1
  have hK := C.2.2.2.2.2.2.2.1.1
  have he : (wg E n (t :: un) σ)[a]? = some (eB E + a, .inl (eA E 14, ln a, .inr (.inr (.inr (.inr (rfg E n (t :: un) a)))))) := by rw [wg_at ha, cg_ref hn (by omega)]
  have hv : (wg E n (t :: un) σ)[t]? = some (eB E + t, .inr (7, (List.range (nf 7)).map (fvg E σ n (t :: un) t))) := by rw [wg_at htn, cg_obj htk (by omega)]
  have hin := vp_in_nI hj (ln_lt a)
  have hlt : (nI j).toNatClampNeg < ln a := Nat.not_le.mp fun q => hin (Or.inr q)
  have h0 : ¬ nI j < 0 := fun q => hin (Or.inl q)
  obtain ⟨r', hr', cellV, g1, g2, g3, -⟩ := hP t _ hv
  have hcls := (hK.1 7 _ rfl).2
  obtain ⟨kA, comp, k1, k2, k3, -⟩ := (hK.2 4 _ rfl).2
  have hcomp : comp = (eD E).1 7 := Option.some.inj (k3.symm.trans hcls.1)
  subst hcomp
  obtain ⟨kC, hkC, -⟩ := hcls.2
  refine W.aast C.1 C.2.1 (hP a _ he) (fun q h => by cases h) (fun h => by cases h) k1 k2 rfl hkC ⟨h0, by show _ < (arrV _ _ _).slots.size; rw [arrV_size]; exact hlt⟩ g1 (fun q h => by rw [g3] at h; cases h) (by rw [g2]; exact hkC) (by rw [g2]; exact va_assign hcls) rfl rfl h1 fun H1 e z oq => ?_
  have hP1 : va_P (eD E) vwCl ((wg E n (t :: un) σ).set a (eB E + a, .inl (eA E 14, ln a, .inr (.inr (.inr (.inr (va_up (rfg E n (t :: un) a) j (some (eB E + t))))))))) H1 := by
    refine hP.set wg_D he ?_ oq
    show H1[eB E + a]? = some (vp_cell _ _)
    rw [e]
    rw [vp_cell_q, vp_cell_q, arrV_store, nI_cl hj]
    congr 2
    funext q
    by_cases hq : q = j
    · subst hq
      simp [updV, va_up, va_rf]
    · simp [updV, va_up, hq]
  rw [wg_set ha (link_ne h307 ha (by unfold rr; rw [if_neg (by omega)]; simp [hj]; omega) ht) (by rw [cg_ref hn (by omega), link_arr h307 ha (by omega) hj ht htn htu])] at hP1
  exact k p l _ s m args below meth c H1 _ ls C hN hB hG (by rw [z]; exact hz) hP1 (hS.put z oq (Nat.le_add_right _ _)) hl
/-! calls of constructors -/
def wdG (E : En) (n : Nat) (un : List Nat) (σ : Sg) (U : State) : Prop := U.heap.size = eB E + n ∧ GI 0 n σ ∧ va_P (eD E) vwCl (wg E n un σ) U.heap ∧ cx E U ∧ aoG U
def QG (E : En) (n : Nat) (un : List Nat) (σ : Sg) : Array Value → State → Outcome → State → Prop := fun _ st o t => (o = .returned none ∧ wdG E n un σ t) ∧ va_F (fun q => eB E ≤ q) st t
def rmI (d k : Nat) : Room := { frames := d, cells := k, slots := 2000 * k, locals := 64 * d }
def CnG (E : En) (M : Mi) (d a n n1 : Nat) (un : List Nat) (σ σ1 : Sg) : Prop :=
  ∀ l : Launch, Met l M.1 (Cond.code M.1 M.2.1 M.2.2.1 M.2.2.2 :: gw) (rmI d (n1 - n)) (va_Pc [.ref (eB E + a)] (fun U => wdG E n un σ U)) (QG E n1 un σ1) (n1 - n) (2000 * (n1 - n)) (fun q => eB E ≤ q)
def kG (E : En) (d n n1 : Nat) (un : List Nat) (σ1 : Sg) : Kk := (rmI d (n1 - n), n, 0, fun below args s => MQ below (QG E n1 un σ1) args s (n1 - n) (2000 * (n1 - n)) (fun q => eB E ≤ q), fun _ _ => True)
theorem kG_ok {d n0 n1 : Nat} {σ1 : Sg} (h : n ≤ n1) : rmG (kG E d n0 n1 un σ1) n := ⟨by show n - n0 ≤ n1 - n0; omega, by show 2000 * (n - n0) ≤ 2000 * (n1 - n0); omega⟩
theorem blindG {av : List Value} : FrameBlind (va_Pc av (fun U => wdG E n un σ U)) := fun a U g mk h => ⟨h.1, h.2.1, h.2.2.1, h.2.2.2.1, cx_same rfl rfl h.2.2.2.2.1, aoG.moved (u := U) (U := U.calling g mk a) (Vm.Alike.refl U.vm) h.2.2.2.2.2⟩
def sI (M' : Mi) : Prop := Cond.code M'.1 M'.2.1 M'.2.2.1 M'.2.2.2 ∈ gw ∧ Cond.instanceMethod M'.1 ∈ gw ∧ Cond.initialized M'.1.cls ∈ gw ∧ M'.1.name = "<init>" ∧ M'.2.2.2 = none ∧ (M'.1.cls ≠ "java/lang/invoke/MethodHandle" ∧ M'.1.cls ≠ "java/lang/invoke/VarHandle" ∧ (parseMethodDescriptor M'.1.desc).map (fun d => d.parameters.length) = some 0)
def rmC (K : Kk) (nL d n1 : Nat) : Prop := d + 1 ≤ K.1.frames ∧ 8 + (nL + 11) + 64 * d ≤ K.1.locals ∧ rmG K n1
theorem kG_okC {d d' n0 n1 m nL : Nat} {σ1 : Sg} (h : d + 1 ≤ d') (hn : nL ≤ 40) (hm : m ≤ n1) : rmC (kG E d' n0 n1 un σ1) nL d m := by
  refine ⟨h, ?_, kG_ok hm⟩
  show 8 + (nL + 11) + 64 * d ≤ 64 * d'
  omega
theorem gw_cons {w : Cond} (h : w ∈ gw) : GoodIn gw (w :: gw) := fun v hv => by
  rcases List.mem_cons.mp hv with rfl | hv
  · exact gw_good _ h
  · exact gw_good v hv
theorem VG_run {n1 : Nat} {un1 : List Nat} {σ1 : Sg} {st0 : List Value} {av : Array Value} (hnn : n ≤ n1)
    (hr : ∀ (p : Program) (l : Launch) (e : Env) (s : State) (m : MethodId) (args : Array Value) (below : List Frame) (meth : Method) (c : Code) (H : Heap) (locs : List Loc) (ls : Array Slot), Cx E M K p s m args meth c → aoG s → GI K.2.1 n σ → H.size = eB E + n → va_P (eD E) vwCl (wg E n un σ) H → va_S (fun q => eB E ≤ q) s.heap H locs → lo ls M.2.2.1 L →
      va_Run p l e K.1 s m args below meth c H locs (n - K.2.1) (2000 * (n - K.2.1)) (n1 - n) (2000 * (n1 - n)) (F0 m pc ls st0) st (QG E n1 un1 σ1 av) (fun q => eB E ≤ q))
    (k : VG E M K (pc + 3) L st (n1, un1, σ1)) : VG E M K pc L st0 (n, un, σ) := by
  intro p l e s m args below meth c H locs ls C hN hB hG hz0 hP hS hl
  intro T hT X
  obtain ⟨v, st₀, t, T', Ll, h0, X', hL, e1, e2, ⟨⟨hv, hw⟩, hz, hk⟩, sg⟩ := hr p l e s m args below meth c H locs ls C hN.2 hG hz0 hP hS hl T hT X
  cases hv
  rw [h0] at hz hk
  have hS' : va_S (fun q => eB E ≤ q) s.heap T'.heap (locs ++ Ll) := by
    refine ⟨Nat.le_trans hS.1 (by rw [e1]; exact hz), fun q h1 h2 => ?_, fun q hq => ?_⟩
    · rw [e1, hk q (Nat.lt_of_lt_of_le h1 hS.1) h2]
      exact hS.2.1 q h1 h2
    · rcases List.mem_append.mp hq with h | h
      · exact hS.2.2 q h
      · exact hL q h
  have hg1 : K.2.1 ≤ n := hG.1
  have ec : n - K.2.1 + (n1 - n) = n1 - K.2.1 := by omega
  have es : 2000 * (n - K.2.1) + 2000 * (n1 - n) = 2000 * (n1 - K.2.1) := by omega
  rw [ec, es] at X'
  obtain ⟨t2, a1, b1⟩ := k p l e s m args below meth c T'.heap (locs ++ Ll) ls C hN hB ⟨Nat.le_trans hg1 hnn, hw.2.1.2⟩ (by rw [e1]; exact hw.1) (by rw [e1]; exact hw.2.2.1) hS' hl T' rfl X'
  exact ⟨t2, sg t2 a1, b1⟩
theorem VG_init {M' : Mi} {d idx a n1 : Nat} {σ1 : Sg} (h : dq M pc (.invokespecial idx) 3 nx) (hC : CnG E M' d a n n1 un σ σ1) (hL : Cond.methodLink M.1.cls idx M'.1 ∈ gw) (hs : sI M') (hnn : n ≤ n1) (hR : rmC K M'.2.2.1 d n1) (hw : (st.map fun v => v.category).sum ≤ 8) (k : VG E M K nx L st (n1, un, σ1)) : VG E M K pc L (.ref (eB E + a) :: st) (n, un, σ) := by
  obtain ⟨h1, rfl⟩ := h
  obtain ⟨s1, s2, s3, s4, s5, s6⟩ := hs
  refine VG_run (av := #[.ref (eB E + a)]) hnn ?_ k
  intro p l e s m args below meth c H locs ls C hA hG hz hP hS hl
  have hM := hC l
  rw [s5] at s1 hM
  have hg1 : K.2.1 ≤ n := hG.1
  have hR1 : n1 - K.2.1 ≤ K.1.cells := hR.2.2.1
  have hR2 : 2000 * (n1 - K.2.1) ≤ K.1.slots := hR.2.2.2
  exact va_runI (As := []) (rest := st) (Ts := gw) (own := M.1.cls) ⟨C.1, C.2.1, C.2.2.1, C.2.2.2.1, C.2.2.2.2.1⟩ hM (cwI 0 C.2.2.2.2.1 (gw_cons s1) rfl rfl rfl (C.2.2.2.2.1 _ s3) (C.2.2.2.2.1 _ hL) (C.2.2.2.2.1 _ s2) s4 s6 ⟨hR.1, hR.2.1⟩)
    ⟨blindG, fun U hU hW => ⟨rfl, by rw [hU]; exact hz, ⟨Nat.zero_le _, hG.2⟩, by rw [hU]; exact hP, cx_moved hW (by rw [hU]; exact hS) C.2.2.2.2.2.2.2.1, hA.moved hW.alike⟩⟩ rfl rfl hl.1 rfl (lv_room hw) h1 ⟨by show n - K.2.1 + (n1 - n) ≤ _; omega, by show 2000 * (n - K.2.1) + 2000 * (n1 - n) ≤ _; omega⟩
theorem VG_initN {M' : Mi} {d idx a n1 : Nat} {host : String} {σ1 : Sg} (h : dq M pc (.invokespecial idx) 3 nx) (hC : CnG E M' d a n n1 un σ σ1) (hL : Cond.methodLinkNest M.1.cls idx M'.1 host ∈ lw_tbl) (hs : sI M') (hnn : n ≤ n1) (hR : rmC K M'.2.2.1 d n1) (hw : (st.map fun v => v.category).sum ≤ 8) (k : VG E M K nx L st (n1, un, σ1)) : VG E M K pc L (.ref (eB E + a) :: st) (n, un, σ) := by
  obtain ⟨h1, rfl⟩ := h
  obtain ⟨s1, s2, s3, s4, s5, s6⟩ := hs
  refine VG_run (av := #[.ref (eB E + a)]) hnn ?_ k
  intro p l e s m args below meth c H locs ls C hA hG hz hP hS hl
  have hM := hC l
  rw [s5] at s1 hM
  have hg1 : K.2.1 ≤ n := hG.1
  have hR1 : n1 - K.2.1 ≤ K.1.cells := hR.2.2.1
  have hR2 : 2000 * (n1 - K.2.1) ≤ K.1.slots := hR.2.2.2
  exact va_runIN (As := []) (rest := st) (Ts := gw) (own := M.1.cls) ⟨C.1, C.2.1, C.2.2.1, C.2.2.2.1, C.2.2.2.2.1⟩ hM ⟨va_cnB 0 C.2.2.2.2.1 (gw_cons s1) rfl rfl rfl (C.2.2.2.2.2.2.2.1.2.1 _ _ _ _ hL) (C.2.2.2.2.1 _ s3) s6 ⟨hR.1, hR.2.1⟩, s4, C.2.2.2.2.1 _ s2⟩
    ⟨blindG, fun U hU hW => ⟨rfl, by rw [hU]; exact hz, ⟨Nat.zero_le _, hG.2⟩, by rw [hU]; exact hP, cx_moved hW (by rw [hU]; exact hS) C.2.2.2.2.2.2.2.1, hA.moved hW.alike⟩⟩ rfl rfl hl.1 rfl (lv_room hw) h1 ⟨by show n - K.2.1 + (n1 - n) ≤ _; omega, by show 2000 * (n - K.2.1) + 2000 * (n1 - n) ≤ _; omega⟩
theorem VG_ret {d n0 n1 : Nat} {σ1 : Sg} (h : dq M pc .return_ 1 nx) (hr : M.2.2.2 = none) : VG E M (kG E d n0 n1 un σ1) pc L [] (n1, un, σ1) := by
  obtain ⟨h1, rfl⟩ := h
  intro p l e s m args below meth c H locs ls C hN hB hG hz hP hS hl
  exact W.vret C.1 C.2.1 (C.2.2.2.2.2.1.trans hr) (fun t ht hW => ⟨⟨rfl, by rw [ht]; exact hz, ⟨Nat.zero_le _, hG.2⟩, by rw [ht]; exact hP, cx_moved hW (by rw [ht]; exact hS) C.2.2.2.2.2.2.2.1, hN.2.moved hW.alike⟩, hS.F ht⟩) hS.2.2 h1 (hlocks := C.2.2.2.2.2.2.1)
theorem CnG.of {d a n1 : Nat} {σ1 : Sg} (L : List (Option Value)) (hp : plainName M.1.cls = true) (hn : 1 ≤ M.2.2.1) (hL : lvl 0 L = [(0, .ref (eB E + a))]) (h : VG E M (kG E d n n1 un σ1) 0 L [] (n, un, σ)) : CnG E M d a n n1 un σ σ1 := by
  intro l
  refine Met.ofW (cc := M.2.1) (maxL := M.2.2.1) (ret := M.2.2.2) hp rfl ?_
  intro p e s m args below meth c s₁ B hml hv
  obtain ⟨rfl, hw⟩ := hv
  have hts := atoms_spec (ws := Cond.code M.1 M.2.1 M.2.2.1 M.2.2.2 :: gw) B.pre
  have hV := h p l e s m _ below meth c s.heap [] _ ⟨B.exec, B.bytes, hml, findClass_of_methodNamed B.named, fun w hw => hts w (List.mem_cons_of_mem _ hw), B.returns, B.notSynchronized, hw.2.2.2.1, trivial⟩ ⟨fun hi => ((name_of_methodNamed B.named B.method).1).trans hi, hw.2.2.2.2⟩ (by rw [hw.1]; exact Nat.le_add_right _ _) ⟨Nat.le_refl _, hw.2.1.2⟩ hw.1 hw.2.2.1 va_S.rf (lo.of (lv_entry [.ref (eB E + a)] (by exact hn)) hL)
  rw [lg_entry_eq]
  have e1 : ((n, un, σ) : Nat × List Nat × Sg).1 - (kG E d n n1 un σ1).2.1 = 0 := Nat.sub_self _
  rw [e1] at hV
  exact hV
end GH

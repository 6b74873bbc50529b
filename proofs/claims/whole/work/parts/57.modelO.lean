theorem c_X9_throughR (E : En) (a g gi s : Nat) (A : Vec) (σ : Sg) (ha : kd a = 10) (hl : ln a = 55) (hM : RepM σ a A) (hA : WE A) (hg : g < A 0) (hgi : gi ≤ 1) (hs : s < 64) : Cn E m_X9_through 2 [.ref (eB E + a), .int (nI g), .int (nI gi), .int (nI s)] σ (pI (fun σ' r => σ' = σ ∧ r = nI (thr A g gi s))) := by
  have h := c_X9_through E a g gi s A σ ha hl hA hg hgi hs
  rwa [hM.st] at h
def dlt (P q : Nat) : Nat := if q = P then 1 else 0
theorem sum_add {R w : Nat → Nat} {Q v n : Nat} (hQ : Q < n) : sumN (fun x => updN R Q (R Q + v) x * w x) n = sumN (fun x => R x * w x) n + v * w Q := by
  have h := sum_ch (f := fun x => R x * w x) (g := fun x => updN R Q (R Q + v) x * w x) (i := Q) n hQ (fun j _ hj => by show updN R Q (R Q + v) j * w j = R j * w j; rw [show updN R Q (R Q + v) j = R j from if_neg hj])
  have e : updN R Q (R Q + v) Q = R Q + v := if_pos rfl
  rw [e, Nat.add_mul] at h
  omega
theorem sum_ad1 {R : Nat → Nat} {Q v n : Nat} (hQ : Q < n) : sumN (updN R Q (R Q + v)) n = sumN R n + v := by
  have h := sum_ch (f := R) (g := updN R Q (R Q + v)) (i := Q) n hQ (fun j _ hj => if_neg hj)
  have e : updN R Q (R Q + v) Q = R Q + v := if_pos rfl
  rw [e] at h
  omega
theorem sum_d1 {P : Nat} {w : Nat → Nat} : ∀ n, P < n → sumN (fun q => dlt P q * w q) n = w P
  | 0, h => absurd h (Nat.not_lt_zero P)
  | n + 1, h => by
    show sumN _ n + dlt P n * w n = w P
    by_cases q : n = P
    · rw [show dlt P n = 1 from if_pos q, q, sum_z P (fun i hi => by show dlt P i * w i = 0; rw [show dlt P i = 0 from if_neg (by omega), Nat.zero_mul])]
      omega
    · rw [sum_d1 n (by omega), show dlt P n = 0 from if_neg q, Nat.zero_mul, Nat.add_zero]
theorem sum_d0 {P n : Nat} (h : P < n) : sumN (dlt P) n = 1 := by
  have h1 := sum_d1 (P := P) (w := fun _ => 1) n h
  rw [sum_cg (g := dlt P) n (fun i _ => Nat.mul_one _)] at h1
  exact h1
set_option maxRecDepth 100000 in
set_option maxHeartbeats 4000000 in
theorem c_X9_leads_0 (E : En) (P : Nat) (A : Vec) (σ : Sg) (hM : RepM σ 296 A) (hA : WE A) (hP : P < 128 * A 0) : Cn E m_X9_leads 3 [.ref (eB E + 292), .int (nI P), .int (nI 0)] σ (pI (fun σ' r => σ' = σ ∧ r = ov (nxt A P 0))) := by
  have hA6 := hA.2.1
  have hg : P / 128 < A 0 := by omega
  refine Cn.of [some (.ref (eB E + 292)), some (.int (nI P)), some (.int (nI 0)), none, none, none, none] (by decide) (Nat.le_of_ble_eq_true rfl) rfl ?_
  refine V_iload_n e_X9_leads_0 rfl rfl ?_
  refine V_sipush (v := nI 128) e_X9_leads_1 (by decide) ?_
  refine V_idivN (z := nI (P / 128)) e_X9_leads_4 (nI_ne0 (by omega) (by omega)) (pk_div (by omega) (by omega) (by omega)) ?_
  refine V_istore_n (L' := [some (.ref (eB E + 292)), some (.int (nI P)), some (.int (nI 0)), some (.int (nI (P / 128))), none, none, none]) e_X9_leads_5 rfl rfl ?_
  refine V_iload_n e_X9_leads_6 rfl rfl ?_
  refine V_bipush (v := nI 6) e_X9_leads_7 (by decide) ?_
  refine V_csIe (av := [.int (nI P), .int (nI 6)]) (st := []) e_X9_leads_9 (c_X9_has E P 6 σ (by omega) (by omega)) l_X9_158 S_X9_has (rm_ok (by decide) (by decide)) rfl rfl (Nat.le_of_ble_eq_true rfl) ?_
  refine V_topi (y := nI (P / 64 % 2)) (rfl) ?_
  refine V_istore (L' := [some (.ref (eB E + 292)), some (.int (nI P)), some (.int (nI 0)), some (.int (nI (P / 128))), some (.int (nI (P / 64 % 2))), none, none]) e_X9_leads_12 rfl ?_
  refine V_iload_n e_X9_leads_14 rfl rfl ?_
  refine V_bipush (v := nI 63) e_X9_leads_15 (by decide) ?_
  refine V_iandN (z := nI (P &&& 63)) e_X9_leads_17 (andI _ _) ?_
  refine V_topi (y := nI (P % 64)) (congrArg nI (and63 P)) ?_
  refine V_istore (L' := [some (.ref (eB E + 292)), some (.int (nI P)), some (.int (nI 0)), some (.int (nI (P / 128))), some (.int (nI (P / 64 % 2))), some (.int (nI (P % 64))), none]) e_X9_leads_18 rfl ?_
  refine V_iload_n e_X9_leads_20 rfl rfl ?_
  refine V_if_ne (tgt := 63) e_X9_leads_21 (by decide) (fun c1 => absurd c1 (by decide)) (fun c1 => ?_)
  refine V_sipush (v := nI 128) e_X9_leads_24 (by decide) ?_
  refine V_iload_n e_X9_leads_27 rfl rfl ?_
  refine V_imulN (z := nI (128 * (P / 128))) e_X9_leads_28 (pk_mul _ _) ?_
  refine V_iload e_X9_leads_29 rfl ?_
  refine V_if_eq (tgt := 38) e_X9_leads_31 (by decide) (fun c2 => ?_) (fun c2 => ?_)
  · have d2 : P / 64 % 2 = 0 := nq_eq (by omega) (by omega) c2
    refine V_bipush (v := nI 64) e_X9_leads_38 (by decide) ?_
    refine V_iaddN (z := nI (128 * (P / 128) + 64)) e_X9_leads_40 (nI_add _ _) ?_
    refine V_aload_n e_X9_leads_41 rfl rfl ?_
    refine V_getr (r := 296) e_X9_leads_42 F_X9_shore f_X9_19 rfl rfl ?_
    refine V_iload_n e_X9_leads_45 rfl rfl ?_
    refine V_iload e_X9_leads_46 rfl ?_
    refine V_if_ne (tgt := 55) e_X9_leads_48 (by decide) (fun c3 => ?_) (fun c3 => ?_)
    · have d3 : ¬ P / 64 % 2 = 0 := nq_ne (by omega) (by omega) c3
      refine V_iconst (v := nI 0) e_X9_leads_55 (by decide) ?_
      refine V_iload e_X9_leads_56 rfl ?_
      refine V_csIe (av := [.ref (eB E + 296), .int (nI (P / 128)), .int (nI 0), .int (nI (P % 64))]) (st := [.int (nI (128 * (P / 128) + 64))]) e_X9_leads_58 (c_X9_throughR E 296 (P / 128) 0 (P % 64) A σ rfl rfl hM hA hg (by omega) (by omega)) l_X9_169 S_X9_through (rm_ok (by decide) (by decide)) rfl rfl (Nat.le_of_ble_eq_true rfl) ?_
      refine V_iaddN (z := nI (128 * (P / 128) + 64 + (thr A (P / 128) 0 (P % 64)))) e_X9_leads_61 (nI_add _ _) ?_
      exact V_iret e_X9_leads_62 rfl (⟨rfl, by first | (exfalso; omega) | (have he : 1 - P / 64 % 2 = 0 := (by omega); rw [show nxt A P 0 = some (128 * (P / 128) + 64 * 0 + thr A (P / 128) 0 (P % 64)) from (by unfold nxt; rw [if_pos rfl, he])]; rfl)⟩)
    · have d3 : P / 64 % 2 = 0 := nq_eq (by omega) (by omega) c3
      refine V_iconst (v := nI 1) e_X9_leads_51 (by decide) ?_
      refine V_goto (tgt := 56) e_X9_leads_52 (by decide) ?_
      refine V_iload e_X9_leads_56 rfl ?_
      refine V_csIe (av := [.ref (eB E + 296), .int (nI (P / 128)), .int (nI 1), .int (nI (P % 64))]) (st := [.int (nI (128 * (P / 128) + 64))]) e_X9_leads_58 (c_X9_throughR E 296 (P / 128) 1 (P % 64) A σ rfl rfl hM hA hg (by omega) (by omega)) l_X9_169 S_X9_through (rm_ok (by decide) (by decide)) rfl rfl (Nat.le_of_ble_eq_true rfl) ?_
      refine V_iaddN (z := nI (128 * (P / 128) + 64 + (thr A (P / 128) 1 (P % 64)))) e_X9_leads_61 (nI_add _ _) ?_
      exact V_iret e_X9_leads_62 rfl (⟨rfl, by first | (exfalso; omega) | (have he : 1 - P / 64 % 2 = 1 := (by omega); rw [show nxt A P 0 = some (128 * (P / 128) + 64 * 1 + thr A (P / 128) 1 (P % 64)) from (by unfold nxt; rw [if_pos rfl, he])]; rfl)⟩)
  · have d2 : ¬ P / 64 % 2 = 0 := nq_ne (by omega) (by omega) c2
    refine V_iconst (v := nI 0) e_X9_leads_34 (by decide) ?_
    refine V_goto (tgt := 40) e_X9_leads_35 (by decide) ?_
    refine V_iaddN (z := nI (128 * (P / 128) + 0)) e_X9_leads_40 (nI_add _ _) ?_
    refine V_aload_n e_X9_leads_41 rfl rfl ?_
    refine V_getr (r := 296) e_X9_leads_42 F_X9_shore f_X9_19 rfl rfl ?_
    refine V_iload_n e_X9_leads_45 rfl rfl ?_
    refine V_iload e_X9_leads_46 rfl ?_
    refine V_if_ne (tgt := 55) e_X9_leads_48 (by decide) (fun c4 => ?_) (fun c4 => ?_)
    · have d4 : ¬ P / 64 % 2 = 0 := nq_ne (by omega) (by omega) c4
      refine V_iconst (v := nI 0) e_X9_leads_55 (by decide) ?_
      refine V_iload e_X9_leads_56 rfl ?_
      refine V_csIe (av := [.ref (eB E + 296), .int (nI (P / 128)), .int (nI 0), .int (nI (P % 64))]) (st := [.int (nI (128 * (P / 128) + 0))]) e_X9_leads_58 (c_X9_throughR E 296 (P / 128) 0 (P % 64) A σ rfl rfl hM hA hg (by omega) (by omega)) l_X9_169 S_X9_through (rm_ok (by decide) (by decide)) rfl rfl (Nat.le_of_ble_eq_true rfl) ?_
      refine V_iaddN (z := nI (128 * (P / 128) + 0 + (thr A (P / 128) 0 (P % 64)))) e_X9_leads_61 (nI_add _ _) ?_
      exact V_iret e_X9_leads_62 rfl (⟨rfl, by first | (exfalso; omega) | (have he : 1 - P / 64 % 2 = 0 := (by omega); rw [show nxt A P 0 = some (128 * (P / 128) + 64 * 0 + thr A (P / 128) 0 (P % 64)) from (by unfold nxt; rw [if_pos rfl, he])]; rfl)⟩)
    · have d4 : P / 64 % 2 = 0 := nq_eq (by omega) (by omega) c4
      refine V_iconst (v := nI 1) e_X9_leads_51 (by decide) ?_
      refine V_goto (tgt := 56) e_X9_leads_52 (by decide) ?_
      refine V_iload e_X9_leads_56 rfl ?_
      refine V_csIe (av := [.ref (eB E + 296), .int (nI (P / 128)), .int (nI 1), .int (nI (P % 64))]) (st := [.int (nI (128 * (P / 128) + 0))]) e_X9_leads_58 (c_X9_throughR E 296 (P / 128) 1 (P % 64) A σ rfl rfl hM hA hg (by omega) (by omega)) l_X9_169 S_X9_through (rm_ok (by decide) (by decide)) rfl rfl (Nat.le_of_ble_eq_true rfl) ?_
      refine V_iaddN (z := nI (128 * (P / 128) + 0 + (thr A (P / 128) 1 (P % 64)))) e_X9_leads_61 (nI_add _ _) ?_
      exact V_iret e_X9_leads_62 rfl (⟨rfl, by first | (exfalso; omega) | (have he : 1 - P / 64 % 2 = 1 := (by omega); rw [show nxt A P 0 = some (128 * (P / 128) + 64 * 1 + thr A (P / 128) 1 (P % 64)) from (by unfold nxt; rw [if_pos rfl, he])]; rfl)⟩)
set_option maxRecDepth 100000 in
set_option maxHeartbeats 4000000 in
theorem c_X9_leads_1 (E : En) (P : Nat) (A : Vec) (σ : Sg) (hM : RepM σ 296 A) (hA : WE A) (hP : P < 128 * A 0) : Cn E m_X9_leads 3 [.ref (eB E + 292), .int (nI P), .int (nI 1)] σ (pI (fun σ' r => σ' = σ ∧ r = ov (nxt A P 1))) := by
  have hA6 := hA.2.1
  have hg : P / 128 < A 0 := by omega
  refine Cn.of [some (.ref (eB E + 292)), some (.int (nI P)), some (.int (nI 1)), none, none, none, none] (by decide) (Nat.le_of_ble_eq_true rfl) rfl ?_
  refine V_iload_n e_X9_leads_0 rfl rfl ?_
  refine V_sipush (v := nI 128) e_X9_leads_1 (by decide) ?_
  refine V_idivN (z := nI (P / 128)) e_X9_leads_4 (nI_ne0 (by omega) (by first | omega | (split <;> omega))) (pk_div (by first | omega | (split <;> omega)) (by omega) (by first | omega | (split <;> omega))) ?_
  refine V_istore_n (L' := [some (.ref (eB E + 292)), some (.int (nI P)), some (.int (nI 1)), some (.int (nI (P / 128))), none, none, none]) e_X9_leads_5 rfl rfl ?_
  refine V_iload_n e_X9_leads_6 rfl rfl ?_
  refine V_bipush (v := nI 6) e_X9_leads_7 (by decide) ?_
  refine V_csIe (av := [.int (nI P), .int (nI 6)]) (st := []) e_X9_leads_9 (c_X9_has E P 6 σ (by omega) (by omega)) l_X9_158 S_X9_has (rm_ok (by decide) (by decide)) rfl rfl (Nat.le_of_ble_eq_true rfl) ?_
  refine V_topi (y := nI (P / 64 % 2)) (rfl) ?_
  refine V_istore (L' := [some (.ref (eB E + 292)), some (.int (nI P)), some (.int (nI 1)), some (.int (nI (P / 128))), some (.int (nI (P / 64 % 2))), none, none]) e_X9_leads_12 rfl ?_
  refine V_iload_n e_X9_leads_14 rfl rfl ?_
  refine V_bipush (v := nI 63) e_X9_leads_15 (by decide) ?_
  refine V_iandN (z := nI (P &&& 63)) e_X9_leads_17 (andI _ _) ?_
  refine V_topi (y := nI (P % 64)) (congrArg nI (and63 P)) ?_
  refine V_istore (L' := [some (.ref (eB E + 292)), some (.int (nI P)), some (.int (nI 1)), some (.int (nI (P / 128))), some (.int (nI (P / 64 % 2))), some (.int (nI (P % 64))), none]) e_X9_leads_18 rfl ?_
  refine V_iload_n e_X9_leads_20 rfl rfl ?_
  refine V_if_ne (tgt := 63) e_X9_leads_21 (by decide) (fun c1 => ?_) (fun c1 => absurd c1 (by decide))
  refine V_iload_n e_X9_leads_63 rfl rfl ?_
  refine V_iconst (v := nI 1) e_X9_leads_64 (by decide) ?_
  refine V_icmp_ne (tgt := 74) e_X9_leads_65 (by decide) (fun c2 => absurd c2 (by decide)) (fun c2 => ?_)
  refine V_iload_n e_X9_leads_68 rfl rfl ?_
  refine V_iconst (v := nI 1) e_X9_leads_69 (by decide) ?_
  refine V_iaddN (z := nI (P / 128 + 1)) e_X9_leads_70 (nI_add _ _) ?_
  refine V_goto (tgt := 77) e_X9_leads_71 (by decide) ?_
  refine V_istore (L' := [some (.ref (eB E + 292)), some (.int (nI P)), some (.int (nI 1)), some (.int (nI (P / 128))), some (.int (nI (P / 64 % 2))), some (.int (nI (P % 64))), some (.int (nI (P / 128 + 1)))]) e_X9_leads_77 rfl ?_
  refine V_iload e_X9_leads_79 rfl ?_
  refine V_if_ne (tgt := 93) e_X9_leads_81 (by decide) (fun c3 => ?_) (fun c3 => ?_)
  · have d3 : ¬ P / 64 % 2 = 0 := nq_ne (by first | omega | (split <;> omega)) (by first | omega | (split <;> omega)) c3
    refine V_ldc (v := (-1000000)) e_X9_leads_93 k_X9_96 ?_
    refine V_goto (tgt := 107) e_X9_leads_95 (by decide) ?_
    exact V_iret e_X9_leads_107 rfl (⟨rfl, by rw [show nxt A P 1 = none from (by unfold nxt; rw [if_neg (by decide), if_pos (by omega)])]; rfl⟩)
  · have d3 : P / 64 % 2 = 0 := nq_eq (by first | omega | (split <;> omega)) (by first | omega | (split <;> omega)) c3
    refine V_aload_n e_X9_leads_84 rfl rfl ?_
    refine V_iload e_X9_leads_85 rfl ?_
    refine V_cvIe (av := [.int (nI (P / 128 + 1))]) (st := []) e_X9_leads_87 (c_X9_isGate E (nI (P / 128 + 1)) A σ hM) l_X9_207 S_X9_isGate rfl (rm_ok (by decide) (by decide)) rfl rfl (Nat.le_of_ble_eq_true rfl) ?_
    refine V_topi (y := nI (if P / 128 + 1 < A 0 then 1 else 0)) (gup (A 0) (by omega) (P / 128) hg) ?_
    refine V_if_ne (tgt := 98) e_X9_leads_90 (by decide) (fun c4 => ?_) (fun c4 => ?_)
    · have d4 : ¬ (if P / 128 + 1 < A 0 then 1 else 0) = 0 := nq_ne (by first | omega | (split <;> omega)) (by first | omega | (split <;> omega)) c4
      have hq : P / 128 + 1 < A 0 := Decidable.byContradiction (fun z => by rw [if_neg z] at d4; exact d4 rfl)
      refine V_sipush (v := nI 128) e_X9_leads_98 (by decide) ?_
      refine V_iload e_X9_leads_101 rfl ?_
      refine V_imulN (z := nI (128 * (P / 128 + 1))) e_X9_leads_103 (pk_mul _ _) ?_
      refine V_iload e_X9_leads_104 rfl ?_
      refine V_iaddN (z := nI (128 * (P / 128 + 1) + (P % 64))) e_X9_leads_106 (nI_add _ _) ?_
      exact V_iret e_X9_leads_107 rfl (⟨rfl, by rw [show nxt A P 1 = some (128 * (P / 128 + 1) + P % 64) from (by unfold nxt; rw [if_neg (by decide), if_neg (by omega), if_pos rfl, if_pos hq])]; rfl⟩)
    · have d4 : (if P / 128 + 1 < A 0 then 1 else 0) = 0 := nq_eq (by first | omega | (split <;> omega)) (by first | omega | (split <;> omega)) c4
      have hq : ¬ P / 128 + 1 < A 0 := fun z => by rw [if_pos z] at d4; exact absurd d4 (by decide)
      refine V_ldc (v := (-1000000)) e_X9_leads_93 k_X9_96 ?_
      refine V_goto (tgt := 107) e_X9_leads_95 (by decide) ?_
      exact V_iret e_X9_leads_107 rfl (⟨rfl, by rw [show nxt A P 1 = none from (by unfold nxt; rw [if_neg (by decide), if_neg (by omega), if_pos rfl, if_neg hq])]; rfl⟩)
set_option maxRecDepth 100000 in
set_option maxHeartbeats 4000000 in
theorem c_X9_leads_2 (E : En) (P : Nat) (A : Vec) (σ : Sg) (hM : RepM σ 296 A) (hA : WE A) (hP : P < 128 * A 0) : Cn E m_X9_leads 3 [.ref (eB E + 292), .int (nI P), .int (nI 2)] σ (pI (fun σ' r => σ' = σ ∧ r = ov (nxt A P 2))) := by
  have hA6 := hA.2.1
  have hg : P / 128 < A 0 := by omega
  refine Cn.of [some (.ref (eB E + 292)), some (.int (nI P)), some (.int (nI 2)), none, none, none, none] (by decide) (Nat.le_of_ble_eq_true rfl) rfl ?_
  refine V_iload_n e_X9_leads_0 rfl rfl ?_
  refine V_sipush (v := nI 128) e_X9_leads_1 (by decide) ?_
  refine V_idivN (z := nI (P / 128)) e_X9_leads_4 (nI_ne0 (by omega) (by omega)) (pk_div (by omega) (by omega) (by omega)) ?_
  refine V_istore_n (L' := [some (.ref (eB E + 292)), some (.int (nI P)), some (.int (nI 2)), some (.int (nI (P / 128))), none, none, none]) e_X9_leads_5 rfl rfl ?_
  refine V_iload_n e_X9_leads_6 rfl rfl ?_
  refine V_bipush (v := nI 6) e_X9_leads_7 (by decide) ?_
  refine V_csIe (av := [.int (nI P), .int (nI 6)]) (st := []) e_X9_leads_9 (c_X9_has E P 6 σ (by omega) (by omega)) l_X9_158 S_X9_has (rm_ok (by decide) (by decide)) rfl rfl (Nat.le_of_ble_eq_true rfl) ?_
  refine V_topi (y := nI (P / 64 % 2)) (rfl) ?_
  refine V_istore (L' := [some (.ref (eB E + 292)), some (.int (nI P)), some (.int (nI 2)), some (.int (nI (P / 128))), some (.int (nI (P / 64 % 2))), none, none]) e_X9_leads_12 rfl ?_
  refine V_iload_n e_X9_leads_14 rfl rfl ?_
  refine V_bipush (v := nI 63) e_X9_leads_15 (by decide) ?_
  refine V_iandN (z := nI (P &&& 63)) e_X9_leads_17 (andI _ _) ?_
  refine V_topi (y := nI (P % 64)) (congrArg nI (and63 P)) ?_
  refine V_istore (L' := [some (.ref (eB E + 292)), some (.int (nI P)), some (.int (nI 2)), some (.int (nI (P / 128))), some (.int (nI (P / 64 % 2))), some (.int (nI (P % 64))), none]) e_X9_leads_18 rfl ?_
  refine V_iload_n e_X9_leads_20 rfl rfl ?_
  refine V_if_ne (tgt := 63) e_X9_leads_21 (by decide) (fun c1 => ?_) (fun c1 => absurd c1 (by decide))
  refine V_iload_n e_X9_leads_63 rfl rfl ?_
  refine V_iconst (v := nI 1) e_X9_leads_64 (by decide) ?_
  refine V_icmp_ne (tgt := 74) e_X9_leads_65 (by decide) (fun c2 => ?_) (fun c2 => absurd c2 (by decide))
  rcases Decidable.em (P / 128 = 0) with hz | hz
  · skip
    refine V_iload_n e_X9_leads_74 rfl rfl ?_
    refine V_iconst (v := nI 1) e_X9_leads_75 (by decide) ?_
    refine V_isub e_X9_leads_76 ?_
    refine V_topi (y := nI 0 - nI 1) (by rw [hz]) ?_
    refine V_istore (L' := [some (.ref (eB E + 292)), some (.int (nI P)), some (.int (nI 2)), some (.int (nI (P / 128))), some (.int (nI (P / 64 % 2))), some (.int (nI (P % 64))), some (.int (nI 0 - nI 1))]) e_X9_leads_77 rfl ?_
    refine V_iload e_X9_leads_79 rfl ?_
    refine V_if_ne (tgt := 93) e_X9_leads_81 (by decide) (fun c3 => ?_) (fun c3 => ?_)
    · have d3 : ¬ P / 64 % 2 = 0 := nq_ne (by omega) (by omega) c3
      refine V_ldc (v := (-1000000)) e_X9_leads_93 k_X9_96 ?_
      refine V_goto (tgt := 107) e_X9_leads_95 (by decide) ?_
      exact V_iret e_X9_leads_107 rfl (⟨rfl, by rw [show nxt A P 2 = none from (by unfold nxt; rw [if_neg (by decide), if_pos (by omega)])]; rfl⟩)
    · have d3 : P / 64 % 2 = 0 := nq_eq (by omega) (by omega) c3
      refine V_aload_n e_X9_leads_84 rfl rfl ?_
      refine V_iload e_X9_leads_85 rfl ?_
      refine V_cvIe (av := [.int (nI 0 - nI 1)]) (st := []) e_X9_leads_87 (c_X9_isGate E (nI 0 - nI 1) A σ hM) l_X9_207 S_X9_isGate rfl (rm_ok (by decide) (by decide)) rfl rfl (Nat.le_of_ble_eq_true rfl) ?_
      refine V_topi (y := nI 0) (gm1 (A 0) (by omega)) ?_
      refine V_if_ne (tgt := 98) e_X9_leads_90 (by decide) (fun c4 => absurd c4 (by decide)) (fun c4 => ?_)
      refine V_ldc (v := (-1000000)) e_X9_leads_93 k_X9_96 ?_
      refine V_goto (tgt := 107) e_X9_leads_95 (by decide) ?_
      exact V_iret e_X9_leads_107 rfl (⟨rfl, by rw [show nxt A P 2 = none from (by unfold nxt; rw [if_neg (by decide), if_neg (by omega), if_neg (by decide), if_pos hz])]; rfl⟩)
  · skip
    refine V_iload_n e_X9_leads_74 rfl rfl ?_
    refine V_iconst (v := nI 1) e_X9_leads_75 (by decide) ?_
    refine V_isubN (z := nI (P / 128 - 1)) e_X9_leads_76 (pk_sub (by omega)) ?_
    refine V_istore (L' := [some (.ref (eB E + 292)), some (.int (nI P)), some (.int (nI 2)), some (.int (nI (P / 128))), some (.int (nI (P / 64 % 2))), some (.int (nI (P % 64))), some (.int (nI (P / 128 - 1)))]) e_X9_leads_77 rfl ?_
    refine V_iload e_X9_leads_79 rfl ?_
    refine V_if_ne (tgt := 93) e_X9_leads_81 (by decide) (fun c5 => ?_) (fun c5 => ?_)
    · have d5 : ¬ P / 64 % 2 = 0 := nq_ne (by omega) (by omega) c5
      refine V_ldc (v := (-1000000)) e_X9_leads_93 k_X9_96 ?_
      refine V_goto (tgt := 107) e_X9_leads_95 (by decide) ?_
      exact V_iret e_X9_leads_107 rfl (⟨rfl, by rw [show nxt A P 2 = none from (by unfold nxt; rw [if_neg (by decide), if_pos (by omega)])]; rfl⟩)
    · have d5 : P / 64 % 2 = 0 := nq_eq (by omega) (by omega) c5
      refine V_aload_n e_X9_leads_84 rfl rfl ?_
      refine V_iload e_X9_leads_85 rfl ?_
      refine V_cvIe (av := [.int (nI (P / 128 - 1))]) (st := []) e_X9_leads_87 (c_X9_isGate E (nI (P / 128 - 1)) A σ hM) l_X9_207 S_X9_isGate rfl (rm_ok (by decide) (by decide)) rfl rfl (Nat.le_of_ble_eq_true rfl) ?_
      refine V_topi (y := nI 1) (gdn (A 0) (by omega) (P / 128 - 1) (by omega)) ?_
      refine V_if_ne (tgt := 98) e_X9_leads_90 (by decide) (fun c6 => ?_) (fun c6 => absurd c6 (by decide))
      refine V_sipush (v := nI 128) e_X9_leads_98 (by decide) ?_
      refine V_iload e_X9_leads_101 rfl ?_
      refine V_imulN (z := nI (128 * (P / 128 - 1))) e_X9_leads_103 (pk_mul _ _) ?_
      refine V_iload e_X9_leads_104 rfl ?_
      refine V_iaddN (z := nI (128 * (P / 128 - 1) + (P % 64))) e_X9_leads_106 (nI_add _ _) ?_
      exact V_iret e_X9_leads_107 rfl (⟨rfl, by rw [show nxt A P 2 = some (128 * (P / 128 - 1) + P % 64) from (by unfold nxt; rw [if_neg (by decide), if_neg (by omega), if_neg (by decide), if_neg hz])]; rfl⟩)
theorem c_X9_leads (E : En) (P m : Nat) (A : Vec) (σ : Sg) (hM : RepM σ 296 A) (hA : WE A) (hP : P < 128 * A 0) (hm : m ≤ 2) : Cn E m_X9_leads 3 [.ref (eB E + 292), .int (nI P), .int (nI m)] σ (pI (fun σ' r => σ' = σ ∧ r = ov (nxt A P m))) := by
  rcases (show m = 0 ∨ m = 1 ∨ m = 2 by omega) with rfl | rfl | rfl
  · exact c_X9_leads_0 E P A σ hM hA hP
  · exact c_X9_leads_1 E P A σ hM hA hP
  · exact c_X9_leads_2 E P A σ hM hA hP
set_option maxRecDepth 100000 in
set_option maxHeartbeats 4000000 in
theorem c_X9_costs_0 (E : En) (P : Nat) (A : Vec) (σ : Sg) (hM : RepM σ 296 A) (hA : WE A) (hP : P < 128 * A 0) : Cn E m_X9_costs 2 [.ref (eB E + 292), .int (nI P), .int (nI 0)] σ (pI (fun σ' r => σ' = σ ∧ r = nI (cst A P 0))) := by
  have hA6 := hA.2.1
  have hg : P / 128 < A 0 := by omega
  refine Cn.of [some (.ref (eB E + 292)), some (.int (nI P)), some (.int (nI 0)), none] (by decide) (Nat.le_of_ble_eq_true rfl) rfl ?_
  refine V_iload_n e_X9_costs_0 rfl rfl ?_
  refine V_sipush (v := nI 128) e_X9_costs_1 (by decide) ?_
  refine V_idivN (z := nI (P / 128)) e_X9_costs_4 (nI_ne0 (by omega) (by omega)) (pk_div (by omega) (by omega) (by omega)) ?_
  refine V_istore_n (L' := [some (.ref (eB E + 292)), some (.int (nI P)), some (.int (nI 0)), some (.int (nI (P / 128)))]) e_X9_costs_5 rfl rfl ?_
  refine V_iload_n e_X9_costs_6 rfl rfl ?_
  refine V_if_ne (tgt := 14) e_X9_costs_7 (by decide) (fun c1 => absurd c1 (by decide)) (fun c1 => ?_)
  refine V_iconst (v := nI 1) e_X9_costs_10 (by decide) ?_
  refine V_goto (tgt := 34) e_X9_costs_11 (by decide) ?_
  exact V_iret e_X9_costs_34 rfl (⟨rfl, rfl⟩)
set_option maxRecDepth 100000 in
set_option maxHeartbeats 4000000 in
theorem c_X9_costs_1 (E : En) (P : Nat) (A : Vec) (σ : Sg) (hM : RepM σ 296 A) (hA : WE A) (hP : P < 128 * A 0) : Cn E m_X9_costs 2 [.ref (eB E + 292), .int (nI P), .int (nI 1)] σ (pI (fun σ' r => σ' = σ ∧ r = nI (cst A P 1))) := by
  have hA6 := hA.2.1
  have hg : P / 128 < A 0 := by omega
  refine Cn.of [some (.ref (eB E + 292)), some (.int (nI P)), some (.int (nI 1)), none] (by decide) (Nat.le_of_ble_eq_true rfl) rfl ?_
  refine V_iload_n e_X9_costs_0 rfl rfl ?_
  refine V_sipush (v := nI 128) e_X9_costs_1 (by decide) ?_
  refine V_idivN (z := nI (P / 128)) e_X9_costs_4 (nI_ne0 (by omega) (by omega)) (pk_div (by omega) (by omega) (by omega)) ?_
  refine V_istore_n (L' := [some (.ref (eB E + 292)), some (.int (nI P)), some (.int (nI 1)), some (.int (nI (P / 128)))]) e_X9_costs_5 rfl rfl ?_
  refine V_iload_n e_X9_costs_6 rfl rfl ?_
  refine V_if_ne (tgt := 14) e_X9_costs_7 (by decide) (fun c1 => ?_) (fun c1 => absurd c1 (by decide))
  refine V_aload_n e_X9_costs_14 rfl rfl ?_
  refine V_getr (r := 296) e_X9_costs_15 F_X9_shore f_X9_19 rfl rfl ?_
  refine V_iload_n e_X9_costs_18 rfl rfl ?_
  refine V_iconst (v := nI 1) e_X9_costs_19 (by decide) ?_
  refine V_icmp_ne (tgt := 27) e_X9_costs_20 (by decide) (fun c2 => absurd c2 (by decide)) (fun c2 => ?_)
  refine V_iload_n e_X9_costs_23 rfl rfl ?_
  refine V_goto (tgt := 30) e_X9_costs_24 (by decide) ?_
  refine V_iconst (v := nI 1) e_X9_costs_30 (by decide) ?_
  refine V_csIe (av := [.ref (eB E + 296), .int (nI (P / 128)), .int (nI 1)]) (st := []) e_X9_costs_31 (c_X9_ofR_1 E 296 (P / 128) A σ rfl rfl hM (by omega)) l_X9_162 S_X9_of (rm_ok (by decide) (by decide)) rfl rfl (Nat.le_of_ble_eq_true rfl) ?_
  exact V_iret e_X9_costs_34 rfl (⟨rfl, rfl⟩)
set_option maxRecDepth 100000 in
set_option maxHeartbeats 4000000 in
theorem c_X9_costs_2 (E : En) (P : Nat) (A : Vec) (σ : Sg) (hM : RepM σ 296 A) (hA : WE A) (hP : P < 128 * A 0) (h1 : ¬ P / 128 = 0) : Cn E m_X9_costs 2 [.ref (eB E + 292), .int (nI P), .int (nI 2)] σ (pI (fun σ' r => σ' = σ ∧ r = nI (cst A P 2))) := by
  have hA6 := hA.2.1
  have hg : P / 128 < A 0 := by omega
  refine Cn.of [some (.ref (eB E + 292)), some (.int (nI P)), some (.int (nI 2)), none] (by decide) (Nat.le_of_ble_eq_true rfl) rfl ?_
  refine V_iload_n e_X9_costs_0 rfl rfl ?_
  refine V_sipush (v := nI 128) e_X9_costs_1 (by decide) ?_
  refine V_idivN (z := nI (P / 128)) e_X9_costs_4 (nI_ne0 (by omega) (by omega)) (pk_div (by omega) (by omega) (by omega)) ?_
  refine V_istore_n (L' := [some (.ref (eB E + 292)), some (.int (nI P)), some (.int (nI 2)), some (.int (nI (P / 128)))]) e_X9_costs_5 rfl rfl ?_
  refine V_iload_n e_X9_costs_6 rfl rfl ?_
  refine V_if_ne (tgt := 14) e_X9_costs_7 (by decide) (fun c1 => ?_) (fun c1 => absurd c1 (by decide))
  refine V_aload_n e_X9_costs_14 rfl rfl ?_
  refine V_getr (r := 296) e_X9_costs_15 F_X9_shore f_X9_19 rfl rfl ?_
  refine V_iload_n e_X9_costs_18 rfl rfl ?_
  refine V_iconst (v := nI 1) e_X9_costs_19 (by decide) ?_
  refine V_icmp_ne (tgt := 27) e_X9_costs_20 (by decide) (fun c2 => ?_) (fun c2 => absurd c2 (by decide))
  refine V_iload_n e_X9_costs_27 rfl rfl ?_
  refine V_iconst (v := nI 1) e_X9_costs_28 (by decide) ?_
  refine V_isubN (z := nI (P / 128 - 1)) e_X9_costs_29 (pk_sub (by omega)) ?_
  refine V_iconst (v := nI 1) e_X9_costs_30 (by decide) ?_
  refine V_csIe (av := [.ref (eB E + 296), .int (nI (P / 128 - 1)), .int (nI 1)]) (st := []) e_X9_costs_31 (c_X9_ofR_1 E 296 (P / 128 - 1) A σ rfl rfl hM (by omega)) l_X9_162 S_X9_of (rm_ok (by decide) (by decide)) rfl rfl (Nat.le_of_ble_eq_true rfl) ?_
  exact V_iret e_X9_costs_34 rfl (⟨rfl, rfl⟩)
theorem c_X9_costs (E : En) (P m Q : Nat) (A : Vec) (σ : Sg) (hM : RepM σ 296 A) (hA : WE A) (hP : P < 128 * A 0) (hm : m ≤ 2) (h : nxt A P m = some Q) : Cn E m_X9_costs 2 [.ref (eB E + 292), .int (nI P), .int (nI m)] σ (pI (fun σ' r => σ' = σ ∧ r = nI (cst A P m))) := by
  rcases (show m = 0 ∨ m = 1 ∨ m = 2 by omega) with rfl | rfl | rfl
  · exact c_X9_costs_0 E P A σ hM hA hP
  · exact c_X9_costs_1 E P A σ hM hA hP
  · refine c_X9_costs_2 E P A σ hM hA hP (fun z => ?_)
    unfold nxt at h
    rw [if_neg (by decide)] at h
    split at h
    · cases h
    · rw [if_neg (by decide)] at h
      (try rw [if_pos z] at h)
      cases h
set_option maxRecDepth 100000 in
set_option maxHeartbeats 4000000 in
theorem c_X9_placeOf (E : En) (p : Nat) (A : Vec) (σ : Sg) (hM : RepM σ 296 A) (hp : p < 5) : Cn E m_X9_placeOf 2 [.ref (eB E + 292), .int (nI p)] σ (pI (fun σ' r => σ' = σ ∧ r = nI (plO A p))) := by
  refine Cn.of [some (.ref (eB E + 292)), some (.int (nI p))] (by decide) (Nat.le_of_ble_eq_true rfl) rfl ?_
  refine V_sipush (v := nI 128) e_X9_placeOf_0 (by decide) ?_
  refine V_aload_n e_X9_placeOf_3 rfl rfl ?_
  refine V_getr (r := 296) e_X9_placeOf_4 F_X9_shore f_X9_19 rfl rfl ?_
  refine V_iload_n e_X9_placeOf_7 rfl rfl ?_
  refine V_iconst (v := nI 0) e_X9_placeOf_8 (by decide) ?_
  refine V_csIe (av := [.ref (eB E + 296), .int (nI p), .int (nI 0)]) (st := [.int (nI 128)]) e_X9_placeOf_9 (c_X9_hisR_0 E 296 p A σ rfl rfl hM (by omega)) l_X9_166 S_X9_his (rm_ok (by decide) (by decide)) rfl rfl (Nat.le_of_ble_eq_true rfl) ?_
  refine V_imulN (z := nI (128 * (A (25 + 6 * p)))) e_X9_placeOf_12 (pk_mul _ _) ?_
  refine V_bipush (v := nI 64) e_X9_placeOf_13 (by decide) ?_
  refine V_aload_n e_X9_placeOf_15 rfl rfl ?_
  refine V_getr (r := 296) e_X9_placeOf_16 F_X9_shore f_X9_19 rfl rfl ?_
  refine V_iload_n e_X9_placeOf_19 rfl rfl ?_
  refine V_iconst (v := nI 1) e_X9_placeOf_20 (by decide) ?_
  refine V_csIe (av := [.ref (eB E + 296), .int (nI p), .int (nI 1)]) (st := [.int (nI 64), .int (nI (128 * (A (25 + 6 * p))))]) e_X9_placeOf_21 (c_X9_hisR_1 E 296 p A σ rfl rfl hM (by omega)) l_X9_166 S_X9_his (rm_ok (by decide) (by decide)) rfl rfl (Nat.le_of_ble_eq_true rfl) ?_
  refine V_imulN (z := nI (64 * (A (26 + 6 * p)))) e_X9_placeOf_24 (pk_mul _ _) ?_
  refine V_iaddN (z := nI (128 * (A (25 + 6 * p)) + (64 * (A (26 + 6 * p))))) e_X9_placeOf_25 (nI_add _ _) ?_
  refine V_aload_n e_X9_placeOf_26 rfl rfl ?_
  refine V_getr (r := 296) e_X9_placeOf_27 F_X9_shore f_X9_19 rfl rfl ?_
  refine V_iload_n e_X9_placeOf_30 rfl rfl ?_
  refine V_iconst (v := nI 2) e_X9_placeOf_31 (by decide) ?_
  refine V_csIe (av := [.ref (eB E + 296), .int (nI p), .int (nI 2)]) (st := [.int (nI (128 * (A (25 + 6 * p)) + (64 * (A (26 + 6 * p)))))]) e_X9_placeOf_32 (c_X9_hisR_2 E 296 p A σ rfl rfl hM (by omega)) l_X9_166 S_X9_his (rm_ok (by decide) (by decide)) rfl rfl (Nat.le_of_ble_eq_true rfl) ?_
  refine V_iaddN (z := nI (128 * (A (25 + 6 * p)) + (64 * (A (26 + 6 * p))) + (A (27 + 6 * p)))) e_X9_placeOf_35 (nI_add _ _) ?_
  exact V_iret e_X9_placeOf_36 rfl (⟨rfl, rfl⟩)
set_option maxRecDepth 100000 in
set_option maxHeartbeats 4000000 in
theorem c_X9_areGates (E : En) (x : Int32) (A : Vec) (σ : Sg) (hM : RepM σ 296 A) (h6 : A 0 ≤ 6) : Cn E m_X9_areGates 2 [.ref (eB E + 292), .int x] σ (pI (fun σ' r => σ' = σ ∧ r = wi x (nI 0) (nI (2 ^ A 0) - nI 1))) := by
  refine Cn.of [some (.ref (eB E + 292)), some (.int x)] (by decide) (Nat.le_of_ble_eq_true rfl) rfl ?_
  refine V_iload_n e_X9_areGates_0 rfl rfl ?_
  refine V_i2l e_X9_areGates_1 ?_
  refine V_lconst (v := lN 0) e_X9_areGates_2 (by decide) ?_
  refine V_iconst (v := nI 1) e_X9_areGates_3 (by decide) ?_
  refine V_aload_n e_X9_areGates_4 rfl rfl ?_
  refine V_getr (r := 296) e_X9_areGates_5 F_X9_shore f_X9_19 rfl rfl ?_
  refine V_iconst (v := nI 0) e_X9_areGates_8 (by decide) ?_
  refine V_ialdv (v := nI (A 0)) (j := 0) e_X9_areGates_9 rfl rfl (by decide) (hM 0 (by omega)) ?_
  refine V_ishlN (z := nI (2 ^ (A 0))) e_X9_areGates_10 (shl1 (by omega)) ?_
  refine V_iconst (v := nI 1) e_X9_areGates_11 (by decide) ?_
  refine V_isub e_X9_areGates_12 ?_
  refine V_i2l e_X9_areGates_13 ?_
  refine V_csIe (av := [.long x.toInt64, .long (lN 0), .long (((nI (2 ^ (A 0))) - (nI 1)).toInt64)]) (st := []) e_X9_areGates_14 (c_X9_inN E x (nI 0) (nI (2 ^ A 0) - nI 1) (lN 0) _ σ (by decide) rfl) l_X9_63 S_X9_in (rm_ok (by decide) (by decide)) rfl rfl (Nat.le_of_ble_eq_true rfl) ?_
  exact V_zret e_X9_areGates_17 rfl (wi01 _ _ _) (⟨rfl, rfl⟩)
set_option maxRecDepth 100000 in
set_option maxHeartbeats 4000000 in
theorem lp_X9_ways_f (E : En) (p s k : Nat) (A : Vec) (F R : Nat → Nat) (Q : Sg → Int32 → Prop) (σ : Sg) (hQ : Q (stF σ F R) (nI (sumN (fun x => if x % 64 = s then F x else 0) 768))) (hs : s < 64) : ∀ (mm : Nat) (q : Nat), 768 - q = mm → (q ≤ 768) → V E m_X9_ways (kM E 12 (pI Q)) 235 [some (.ref (eB E + 292)), some (.int (nI p)), some (.int (nI s)), some (.int (nI k)), some (.int (nI (sumN (fun x => if x % 64 = s then F x else 0) q))), some (.int (nI q)), none, none] [] (stF σ F R) := by
  intro mm
  induction mm using Nat.strongRecOn with
  | ind mm ih =>
    intro q hmm hq
    refine V_iload e_X9_ways_235 rfl ?_
    refine V_sipush (v := nI 768) e_X9_ways_237 (by decide) ?_
    refine V_icmp_ge (tgt := 274) e_X9_ways_240 (by decide) (fun c1 => ?_) (fun c1 => ?_)
    · have d1 : 768 ≤ q := nq_le (by omega) (by omega) c1
      refine V_iload e_X9_ways_274 rfl ?_
      exact V_iret e_X9_ways_276 rfl (by rw [show q = 768 by omega]; exact hQ)
    · have d1 : ¬ 768 ≤ q := nq_nle (by omega) (by omega) c1
      refine V_iload e_X9_ways_243 rfl ?_
      refine V_iload e_X9_ways_245 rfl ?_
      refine V_bipush (v := nI 63) e_X9_ways_247 (by decide) ?_
      refine V_iandN (z := nI (q &&& 63)) e_X9_ways_249 (andI _ _) ?_
      refine V_topi (y := nI (q % 64)) (congrArg nI (and63 q)) ?_
      refine V_iload_n e_X9_ways_250 rfl rfl ?_
      refine V_icmp_ne (tgt := 264) e_X9_ways_251 (by decide) (fun c2 => ?_) (fun c2 => ?_)
      · have d2 : ¬ q % 64 = s := nq_ne (by omega) (by omega) c2
        refine V_iconst (v := nI 0) e_X9_ways_264 (by decide) ?_
        refine V_iaddN (z := nI (sumN (fun x => if x % 64 = s then F x else 0) q + 0)) e_X9_ways_265 (nI_add _ _) ?_
        refine V_istore (L' := [some (.ref (eB E + 292)), some (.int (nI p)), some (.int (nI s)), some (.int (nI k)), some (.int (nI (sumN (fun x => if x % 64 = s then F x else 0) q + 0))), some (.int (nI q)), none, none]) e_X9_ways_266 rfl ?_
        refine V_iinc (v := nI (q + 1)) (L' := [some (.ref (eB E + 292)), some (.int (nI p)), some (.int (nI s)), some (.int (nI k)), some (.int (nI (sumN (fun x => if x % 64 = s then F x else 0) q + 0))), some (.int (nI (q + 1))), none, none]) e_X9_ways_268 rfl (nI_add _ 1) rfl ?_
        refine V_goto (tgt := 235) e_X9_ways_271 (by decide) ?_
        rw [show sumN (fun x => if x % 64 = s then F x else 0) q + 0 = sumN (fun x => if x % 64 = s then F x else 0) (q + 1) from (show sumN (fun x => if x % 64 = s then F x else 0) q + 0 = sumN (fun x => if x % 64 = s then F x else 0) q + (if q % 64 = s then F q else 0) from (by (first | rw [if_pos d2] | rw [if_neg d2])))]; exact ih (768 - (q + 1)) (by omega) (q + 1) rfl (by omega)
      · have d2 : q % 64 = s := nq_eq (by omega) (by omega) c2
        refine V_aload_n e_X9_ways_254 rfl rfl ?_
        refine V_getr (r := 302) e_X9_ways_255 F_X9_rowsTo f_X9_37 rfl rfl ?_
        refine V_iload e_X9_ways_258 rfl ?_
        refine V_ialdv (v := nI (F q)) (j := q) e_X9_ways_260 rfl rfl (by have q : ln 302 = 768 := rfl; omega) (stF_2 (by omega)) ?_
        refine V_goto (tgt := 265) e_X9_ways_261 (by decide) ?_
        refine V_iaddN (z := nI (sumN (fun x => if x % 64 = s then F x else 0) q + (F q))) e_X9_ways_265 (nI_add _ _) ?_
        refine V_istore (L' := [some (.ref (eB E + 292)), some (.int (nI p)), some (.int (nI s)), some (.int (nI k)), some (.int (nI (sumN (fun x => if x % 64 = s then F x else 0) q + (F q)))), some (.int (nI q)), none, none]) e_X9_ways_266 rfl ?_
        refine V_iinc (v := nI (q + 1)) (L' := [some (.ref (eB E + 292)), some (.int (nI p)), some (.int (nI s)), some (.int (nI k)), some (.int (nI (sumN (fun x => if x % 64 = s then F x else 0) q + (F q)))), some (.int (nI (q + 1))), none, none]) e_X9_ways_268 rfl (nI_add _ 1) rfl ?_
        refine V_goto (tgt := 235) e_X9_ways_271 (by decide) ?_
        rw [show sumN (fun x => if x % 64 = s then F x else 0) q + (F q) = sumN (fun x => if x % 64 = s then F x else 0) (q + 1) from (show sumN (fun x => if x % 64 = s then F x else 0) q + (F q) = sumN (fun x => if x % 64 = s then F x else 0) q + (if q % 64 = s then F q else 0) from (by (first | rw [if_pos d2] | rw [if_neg d2])))]; exact ih (768 - (q + 1)) (by omega) (q + 1) rfl (by omega)
set_option maxRecDepth 100000 in
set_option maxHeartbeats 4000000 in
theorem lp_X9_ways_z (E : En) (p s k : Nat) (A : Vec) (j : Nat) (F R : Nat → Nat) (Q : Sg → Int32 → Prop) (σ : Sg) (hout : V E m_X9_ways (kM E 12 (pI Q)) 109 [some (.ref (eB E + 292)), some (.int (nI p)), some (.int (nI s)), some (.int (nI k)), some (.int (nI j)), some (.int (nI 768)), none, none] [] (stF σ F (fun _ => 0))) : ∀ (mm : Nat) (i : Nat), 768 - i = mm → (i ≤ 768) → V E m_X9_ways (kM E 12 (pI Q)) 87 [some (.ref (eB E + 292)), some (.int (nI p)), some (.int (nI s)), some (.int (nI k)), some (.int (nI j)), some (.int (nI i)), none, none] [] (stF σ F (mixF (fun _ => 0) R i)) := by
  intro mm
  induction mm using Nat.strongRecOn with
  | ind mm ih =>
    intro i hmm hi
    refine V_iload e_X9_ways_87 rfl ?_
    refine V_sipush (v := nI 768) e_X9_ways_89 (by decide) ?_
    refine V_icmp_ge (tgt := 109) e_X9_ways_92 (by decide) (fun c1 => ?_) (fun c1 => ?_)
    · have d1 : 768 ≤ i := nq_le (by omega) (by omega) c1
      obtain rfl : i = 768 := (by omega); rw [stF_m3]; exact hout
    · have d1 : ¬ 768 ≤ i := nq_nle (by omega) (by omega) c1
      refine V_aload_n e_X9_ways_95 rfl rfl ?_
      refine V_getr (r := 303) e_X9_ways_96 F_X9_rowsNext f_X9_40 rfl rfl ?_
      refine V_iload e_X9_ways_99 rfl ?_
      refine V_iconst (v := nI 0) e_X9_ways_101 (by decide) ?_
      refine V_iast (j := i) e_X9_ways_102 rfl rfl (by have q : ln 303 = 768 := rfl; omega) ?_
      rw [show up2 (stF σ F (mixF (fun _ => 0) R i)) 303 i (nI 0) = stF σ F (mixF (fun _ => 0) R (i + 1)) from (by rw [stF_u3 (by omega)]; exact congrArg (stF σ F) (mixF_s (f := (fun _ => 0))))]
      refine V_iinc (v := nI (i + 1)) (L' := [some (.ref (eB E + 292)), some (.int (nI p)), some (.int (nI s)), some (.int (nI k)), some (.int (nI j)), some (.int (nI (i + 1))), none, none]) e_X9_ways_103 rfl (nI_add _ 1) rfl ?_
      refine V_goto (tgt := 87) e_X9_ways_106 (by decide) ?_
      exact ih (768 - (i + 1)) (by omega) (i + 1) rfl (by omega)
set_option maxRecDepth 100000 in
set_option maxHeartbeats 4000000 in
theorem lp_X9_ways_c (E : En) (p s k : Nat) (A : Vec) (j : Nat) (F R : Nat → Nat) (Q : Sg → Int32 → Prop) (σ : Sg) (hout : V E m_X9_ways (kM E 12 (pI Q)) 223 [some (.ref (eB E + 292)), some (.int (nI p)), some (.int (nI s)), some (.int (nI k)), some (.int (nI j)), some (.int (nI 768)), none, none] [] (stF σ R R)) : ∀ (mm : Nat) (i : Nat), 768 - i = mm → (i ≤ 768) → V E m_X9_ways (kM E 12 (pI Q)) 195 [some (.ref (eB E + 292)), some (.int (nI p)), some (.int (nI s)), some (.int (nI k)), some (.int (nI j)), some (.int (nI i)), none, none] [] (stF σ (mixF R F i) R) := by
  intro mm
  induction mm using Nat.strongRecOn with
  | ind mm ih =>
    intro i hmm hi
    refine V_iload e_X9_ways_195 rfl ?_
    refine V_sipush (v := nI 768) e_X9_ways_197 (by decide) ?_
    refine V_icmp_ge (tgt := 223) e_X9_ways_200 (by decide) (fun c1 => ?_) (fun c1 => ?_)
    · have d1 : 768 ≤ i := nq_le (by omega) (by omega) c1
      obtain rfl : i = 768 := (by omega); rw [stF_m2]; exact hout
    · have d1 : ¬ 768 ≤ i := nq_nle (by omega) (by omega) c1
      refine V_aload_n e_X9_ways_203 rfl rfl ?_
      refine V_getr (r := 302) e_X9_ways_204 F_X9_rowsTo f_X9_37 rfl rfl ?_
      refine V_iload e_X9_ways_207 rfl ?_
      refine V_aload_n e_X9_ways_209 rfl rfl ?_
      refine V_getr (r := 303) e_X9_ways_210 F_X9_rowsNext f_X9_40 rfl rfl ?_
      refine V_iload e_X9_ways_213 rfl ?_
      refine V_ialdv (v := nI (R i)) (j := i) e_X9_ways_215 rfl rfl (by have q : ln 303 = 768 := rfl; omega) (stF_3 (by omega)) ?_
      refine V_iast (j := i) e_X9_ways_216 rfl rfl (by have q : ln 302 = 768 := rfl; omega) ?_
      rw [show up2 (stF σ (mixF R F i) R) 302 i (nI (R i)) = stF σ (mixF R F (i + 1)) R from (by rw [stF_u2 (by omega), mixF_s])]
      refine V_iinc (v := nI (i + 1)) (L' := [some (.ref (eB E + 292)), some (.int (nI p)), some (.int (nI s)), some (.int (nI k)), some (.int (nI j)), some (.int (nI (i + 1))), none, none]) e_X9_ways_217 rfl (nI_add _ 1) rfl ?_
      refine V_goto (tgt := 195) e_X9_ways_220 (by decide) ?_
      exact ih (768 - (i + 1)) (by omega) (i + 1) rfl (by omega)
set_option maxRecDepth 100000 in
set_option maxHeartbeats 4000000 in
theorem lp_X9_ways_m (E : En) (p s k : Nat) (A : Vec) (j r q B1 B2 : Nat) (F : Nat → Nat) (Q : Sg → Int32 → Prop) (σ : Sg) (hM : RepM σ 296 A) (hA : WE A) (hA6 : A 0 ≤ 6) (hq : q < 128 * A 0) (hFq : F q ≤ 6561) (hout : ∀ R : Nat → Nat, sumN (fun x => R x * wy A s r x) 768 = B1 + F q * wy A s (r + 1) q → sumN R 768 ≤ B2 + 3 * F q → (∀ x, 128 * A 0 ≤ x → x < 768 → R x = 0) → V E m_X9_ways (kM E 12 (pI Q)) 186 [some (.ref (eB E + 292)), some (.int (nI p)), some (.int (nI s)), some (.int (nI k)), some (.int (nI j)), some (.int (nI q)), none, none] [] (stF σ F R)) : ∀ (mm : Nat) (m : Nat) (R : Nat → Nat), 3 - m = mm → (m ≤ 3) → (sumN (fun x => R x * wy A s r x) 768 = B1 + F q * sumN (fun m => og (wy A s r) (nxt A q m)) m) → (sumN R 768 ≤ B2 + m * F q) → (∀ x, 128 * A 0 ≤ x → x < 768 → R x = 0) → V E m_X9_ways (kM E 12 (pI Q)) 130 [some (.ref (eB E + 292)), some (.int (nI p)), some (.int (nI s)), some (.int (nI k)), some (.int (nI j)), some (.int (nI q)), some (.int (nI m)), none] [] (stF σ F R) := by
  intro mm
  induction mm using Nat.strongRecOn with
  | ind mm ih =>
    intro m R hmm hm h1 h2 hsR
    refine V_iload e_X9_ways_130 rfl ?_
    refine V_iconst (v := nI 3) e_X9_ways_132 (by decide) ?_
    refine V_icmp_ge (tgt := 186) e_X9_ways_133 (by decide) (fun c1 => ?_) (fun c1 => ?_)
    · have d1 : 3 ≤ m := nq_le (by omega) (by omega) c1
      obtain rfl : m = 3 := (by omega); exact V_forget 6 (hout R h1 h2 hsR)
    · have d1 : ¬ 3 ≤ m := nq_nle (by omega) (by omega) c1
      refine V_aload_n e_X9_ways_136 rfl rfl ?_
      refine V_getr (r := 302) e_X9_ways_137 F_X9_rowsTo f_X9_37 rfl rfl ?_
      refine V_iload e_X9_ways_140 rfl ?_
      refine V_ialdv (v := nI (F q)) (j := q) e_X9_ways_142 rfl rfl (by have q : ln 302 = 768 := rfl; omega) (stF_2 (by omega)) ?_
      refine V_if_le (tgt := 186) e_X9_ways_143 (by decide) (fun c2 => ?_) (fun c2 => ?_)
      · have d2 : F q ≤ 0 := nq_le (by omega) (by omega) c2
        have hz : F q = 0 := (by omega); exact V_forget 6 (hout R (by rw [h1, hz, Nat.zero_mul, Nat.zero_mul]) (by rw [hz] at h2 ⊢; omega) hsR)
      · have d2 : ¬ F q ≤ 0 := nq_nle (by omega) (by omega) c2
        refine V_aload_n e_X9_ways_146 rfl rfl ?_
        refine V_iload e_X9_ways_147 rfl ?_
        refine V_iload e_X9_ways_149 rfl ?_
        refine V_cvIe (av := [.int (nI q), .int (nI m)]) (st := []) e_X9_ways_151 (c_X9_leads E q m A (stF σ F R) (stF_M hM) hA hq (by omega)) l_X9_229 S_X9_leads rfl (rm_ok (by decide) (by decide)) rfl rfl (Nat.le_of_ble_eq_true rfl) ?_
        rcases hnx : nxt A q m with _ | Q1
        · have hoc := hnx
          refine V_topi (y := (-1000000)) rfl ?_
          refine V_istore (L' := [some (.ref (eB E + 292)), some (.int (nI p)), some (.int (nI s)), some (.int (nI k)), some (.int (nI j)), some (.int (nI q)), some (.int (nI m)), some (.int (-1000000))]) e_X9_ways_154 rfl ?_
          refine V_iload e_X9_ways_156 rfl ?_
          refine V_ldc (v := (-1000000)) e_X9_ways_158 k_X9_96 ?_
          refine V_icmp_eq (tgt := 180) e_X9_ways_160 (by decide) (fun c3 => ?_) (fun c3 => absurd c3 (fun q => q rfl))
          refine V_iinc (v := nI (m + 1)) (L' := [some (.ref (eB E + 292)), some (.int (nI p)), some (.int (nI s)), some (.int (nI k)), some (.int (nI j)), some (.int (nI q)), some (.int (nI (m + 1))), some (.int (-1000000))]) e_X9_ways_180 rfl (nI_add _ 1) rfl ?_
          refine V_goto (tgt := 130) e_X9_ways_183 (by decide) ?_
          refine V_forget 7 ?_; exact ih (3 - (m + 1)) (by omega) (m + 1) R rfl (by omega) (by rw [h1]; show _ = B1 + F q * (sumN (fun m => og (wy A s r) (nxt A q m)) m + og (wy A s r) (nxt A q m)); rw [hnx]; rfl) (Nat.le_trans h2 (by rw [Nat.succ_mul]; omega)) hsR
        · have hQ1 := nxt_lt hA6 hq hnx
          refine V_topi (y := nI Q1) rfl ?_
          refine V_istore (L' := [some (.ref (eB E + 292)), some (.int (nI p)), some (.int (nI s)), some (.int (nI k)), some (.int (nI j)), some (.int (nI q)), some (.int (nI m)), some (.int (nI Q1))]) e_X9_ways_154 rfl ?_
          refine V_iload e_X9_ways_156 rfl ?_
          refine V_ldc (v := (-1000000)) e_X9_ways_158 k_X9_96 ?_
          refine V_icmp_eq (tgt := 180) e_X9_ways_160 (by decide) (fun c4 => ((nI_nn (by omega) c4 : False)).elim) (fun c4 => ?_)
          refine V_aload_n e_X9_ways_163 rfl rfl ?_
          refine V_getr (r := 303) e_X9_ways_164 F_X9_rowsNext f_X9_40 rfl rfl ?_
          refine V_iload e_X9_ways_167 rfl ?_
          refine V_dup2 e_X9_ways_169 rfl rfl ?_
          refine V_ialdv (v := nI (R Q1)) (j := Q1) e_X9_ways_170 rfl rfl (by have q : ln 303 = 768 := rfl; omega) (stF_3 (by omega)) ?_
          refine V_aload_n e_X9_ways_171 rfl rfl ?_
          refine V_getr (r := 302) e_X9_ways_172 F_X9_rowsTo f_X9_37 rfl rfl ?_
          refine V_iload e_X9_ways_175 rfl ?_
          refine V_ialdv (v := nI (F q)) (j := q) e_X9_ways_177 rfl rfl (by have q : ln 302 = 768 := rfl; omega) (stF_2 (by omega)) ?_
          refine V_iaddN (z := nI (R Q1 + (F q))) e_X9_ways_178 (nI_add _ _) ?_
          refine V_iast (j := Q1) e_X9_ways_179 rfl rfl (by have q : ln 303 = 768 := rfl; omega) ?_
          rw [show up2 (stF σ F R) 303 Q1 (nI (R Q1 + (F q))) = stF σ F (updN R Q1 (R Q1 + F q)) from (stF_u3 (by omega))]
          refine V_iinc (v := nI (m + 1)) (L' := [some (.ref (eB E + 292)), some (.int (nI p)), some (.int (nI s)), some (.int (nI k)), some (.int (nI j)), some (.int (nI q)), some (.int (nI (m + 1))), some (.int (nI Q1))]) e_X9_ways_180 rfl (nI_add _ 1) rfl ?_
          refine V_goto (tgt := 130) e_X9_ways_183 (by decide) ?_
          refine V_forget 7 ?_; exact ih (3 - (m + 1)) (by omega) (m + 1) (updN R Q1 (R Q1 + F q)) rfl (by omega) (by rw [sum_add (by omega), h1]; show _ = B1 + F q * (sumN (fun m => og (wy A s r) (nxt A q m)) m + og (wy A s r) (nxt A q m)); rw [hnx, Nat.mul_add, Nat.add_assoc]; rfl) (by rw [sum_ad1 (by omega), Nat.succ_mul]; omega) (fun x hx hx2 => by rw [show updN R Q1 (R Q1 + F q) x = R x from if_neg (by omega)]; exact hsR x hx hx2)
set_option maxRecDepth 100000 in
set_option maxHeartbeats 4000000 in
theorem lp_X9_ways_q (E : En) (p s k : Nat) (A : Vec) (j r : Nat) (F : Nat → Nat) (Q : Sg → Int32 → Prop) (σ : Sg) (hM : RepM σ 296 A) (hA : WE A) (hA6 : A 0 ≤ 6) (hFb : ∀ x, x < 768 → F x ≤ 6561) (hout : ∀ R : Nat → Nat, sumN (fun x => R x * wy A s r x) 768 = sumN (fun x => F x * wy A s (r + 1) x) (128 * A 0) → sumN R 768 ≤ 3 * sumN F (128 * A 0) → (∀ x, 128 * A 0 ≤ x → x < 768 → R x = 0) → V E m_X9_ways (kM E 12 (pI Q)) 192 [some (.ref (eB E + 292)), some (.int (nI p)), some (.int (nI s)), some (.int (nI k)), some (.int (nI j)), some (.int (nI (128 * A 0))), none, none] [] (stF σ F R)) : ∀ (mm : Nat) (q : Nat) (R : Nat → Nat), 128 * A 0 - q = mm → (q ≤ 128 * A 0) → (sumN (fun x => R x * wy A s r x) 768 = sumN (fun x => F x * wy A s (r + 1) x) q) → (sumN R 768 ≤ 3 * sumN F q) → (∀ x, 128 * A 0 ≤ x → x < 768 → R x = 0) → V E m_X9_ways (kM E 12 (pI Q)) 112 [some (.ref (eB E + 292)), some (.int (nI p)), some (.int (nI s)), some (.int (nI k)), some (.int (nI j)), some (.int (nI q)), none, none] [] (stF σ F R) := by
  intro mm
  induction mm using Nat.strongRecOn with
  | ind mm ih =>
    intro q R hmm hq h1 h2 hsR
    refine V_iload e_X9_ways_112 rfl ?_
    refine V_sipush (v := nI 128) e_X9_ways_114 (by decide) ?_
    refine V_aload_n e_X9_ways_117 rfl rfl ?_
    refine V_getr (r := 296) e_X9_ways_118 F_X9_shore f_X9_19 rfl rfl ?_
    refine V_iconst (v := nI 0) e_X9_ways_121 (by decide) ?_
    refine V_ialdv (v := nI (A 0)) (j := 0) e_X9_ways_122 rfl rfl (by decide) ((stF_M hM) 0 (by omega)) ?_
    refine V_imulN (z := nI (128 * (A 0))) e_X9_ways_123 (pk_mul _ _) ?_
    refine V_icmp_ge (tgt := 192) e_X9_ways_124 (by decide) (fun c1 => ?_) (fun c1 => ?_)
    · have d1 : 128 * (A 0) ≤ q := nq_le (by omega) (by omega) c1
      obtain rfl : q = 128 * A 0 := (by omega); exact hout R h1 h2 hsR
    · have d1 : ¬ 128 * (A 0) ≤ q := nq_nle (by omega) (by omega) c1
      refine V_iconst (v := nI 0) e_X9_ways_127 (by decide) ?_
      refine V_istore (L' := [some (.ref (eB E + 292)), some (.int (nI p)), some (.int (nI s)), some (.int (nI k)), some (.int (nI j)), some (.int (nI q)), some (.int (nI 0)), none]) e_X9_ways_128 rfl ?_
      refine lp_X9_ways_m E p s k A j r q (sumN (fun x => F x * wy A s (r + 1) x) q) (3 * sumN F q) F Q σ hM hA hA6 (by omega) (hFb q (by omega)) (fun R1 e1 e2 e3 => ?_) 3 0 R rfl (by omega) (by rw [h1]; rfl) (by omega) hsR
      refine V_iinc (v := nI (q + 1)) (L' := [some (.ref (eB E + 292)), some (.int (nI p)), some (.int (nI s)), some (.int (nI k)), some (.int (nI j)), some (.int (nI (q + 1))), none, none]) e_X9_ways_186 rfl (nI_add _ 1) rfl ?_
      refine V_goto (tgt := 112) e_X9_ways_189 (by decide) ?_
      exact ih (128 * A 0 - (q + 1)) (by omega) (q + 1) R1 rfl (by omega) e1 (by show _ ≤ 3 * (sumN F q + F q); omega) e3
set_option maxRecDepth 100000 in
set_option maxHeartbeats 4000000 in
theorem lp_X9_ways_j (E : En) (p s k : Nat) (A : Vec) (Q : Sg → Int32 → Prop) (σ : Sg) (hM : RepM σ 296 A) (hA : WE A) (hA6 : A 0 ≤ 6) (hs : s < 64) (hk8 : k ≤ 8) (hQ : ∀ F R, Q (stF σ F R) (nI (wy A s k (plO A p)))) : ∀ (mm : Nat) (j : Nat) (F : Nat → Nat) (R : Nat → Nat), k - j = mm → (j ≤ k) → (∀ x, 128 * A 0 ≤ x → x < 768 → F x = 0) → (sumN F 768 ≤ 3 ^ j) → (sumN (fun x => F x * wy A s (k - j) x) 768 = wy A s k (plO A p)) → V E m_X9_ways (kM E 12 (pI Q)) 78 [some (.ref (eB E + 292)), some (.int (nI p)), some (.int (nI s)), some (.int (nI k)), some (.int (nI j)), none, none, none] [] (stF σ F R) := by
  intro mm
  induction mm using Nat.strongRecOn with
  | ind mm ih =>
    intro j F R hmm hj hsF hsum hpot
    refine V_iload e_X9_ways_78 rfl ?_
    refine V_iload_n e_X9_ways_80 rfl rfl ?_
    refine V_icmp_ge (tgt := 229) e_X9_ways_81 (by decide) (fun c1 => ?_) (fun c1 => ?_)
    · have d1 : k ≤ j := nq_le (by omega) (by omega) c1
      have hjk : k - j = 0 := by omega
      rw [hjk] at hpot
      refine V_iconst (v := nI 0) e_X9_ways_229 (by decide) ?_
      refine V_istore (L' := [some (.ref (eB E + 292)), some (.int (nI p)), some (.int (nI s)), some (.int (nI k)), some (.int (nI 0)), none, none, none]) e_X9_ways_230 rfl ?_
      refine V_iconst (v := nI 0) e_X9_ways_232 (by decide) ?_
      refine V_istore (L' := [some (.ref (eB E + 292)), some (.int (nI p)), some (.int (nI s)), some (.int (nI k)), some (.int (nI 0)), some (.int (nI 0)), none, none]) e_X9_ways_233 rfl ?_
      have hX := lp_X9_ways_f E p s k A F R Q σ (by have hq := hQ F R; rw [← hpot] at hq; rw [sum_cg (g := fun x => F x * wy A s 0 x) 768 (fun i _ => by show (if i % 64 = s then F i else 0) = F i * (if i % 64 = s then 1 else 0); split <;> omega)]; exact hq) hs 768 0 rfl (by omega); exact hX
    · have d1 : ¬ k ≤ j := nq_nle (by omega) (by omega) c1
      refine V_iconst (v := nI 0) e_X9_ways_84 (by decide) ?_
      refine V_istore (L' := [some (.ref (eB E + 292)), some (.int (nI p)), some (.int (nI s)), some (.int (nI k)), some (.int (nI j)), some (.int (nI 0)), none, none]) e_X9_ways_85 rfl ?_
      obtain ⟨r, hr⟩ : ∃ r, k - j = r + 1 := ⟨k - j - 1, by omega⟩
      have hFb : ∀ x, x < 768 → F x ≤ 6561 := fun x hx => Nat.le_trans (sum_ge 768 hx) (Nat.le_trans hsum (pow38 (by omega)))
      refine V_sig (show stF σ F R = stF σ F (mixF (fun _ => 0) R 0) by rw [mixF_0]) ?_
      refine lp_X9_ways_z E p s k A j F R Q σ ?_ 768 0 rfl (by omega)
      refine V_iconst (v := nI 0) e_X9_ways_109 (by decide) ?_
      refine V_istore (L' := [some (.ref (eB E + 292)), some (.int (nI p)), some (.int (nI s)), some (.int (nI k)), some (.int (nI j)), some (.int (nI 0)), none, none]) e_X9_ways_110 rfl ?_
      refine lp_X9_ways_q E p s k A j r F Q σ hM hA hA6 hFb (fun R1 e1 e2 e3 => ?_) (128 * A 0) 0 (fun _ => 0) rfl (by omega) (sum_z 768 (fun i _ => Nat.zero_mul _)) (by rw [sum_z 768 (fun i _ => rfl)]; omega) (fun _ _ _ => rfl)
      refine V_iconst (v := nI 0) e_X9_ways_192 (by decide) ?_
      refine V_istore (L' := [some (.ref (eB E + 292)), some (.int (nI p)), some (.int (nI s)), some (.int (nI k)), some (.int (nI j)), some (.int (nI 0)), none, none]) e_X9_ways_193 rfl ?_
      refine V_sig (show stF σ F R1 = stF σ (mixF R1 F 0) R1 by rw [mixF_0]) ?_
      refine lp_X9_ways_c E p s k A j F R1 Q σ ?_ 768 0 rfl (by omega)
      refine V_iinc (v := nI (j + 1)) (L' := [some (.ref (eB E + 292)), some (.int (nI p)), some (.int (nI s)), some (.int (nI k)), some (.int (nI (j + 1))), some (.int (nI 768)), none, none]) e_X9_ways_223 rfl (nI_add _ 1) rfl ?_
      refine V_goto (tgt := 78) e_X9_ways_226 (by decide) ?_
      refine V_forget 5 ?_; exact ih (k - (j + 1)) (by omega) (j + 1) R1 R1 rfl (by omega) e3 (by rw [Nat.pow_succ]; have hz9 : sumN F (128 * A 0) ≤ sumN F 768 := sumN_mono (by omega); omega) (by rw [show k - (j + 1) = r by omega, e1, ← hpot, hr]; have hz9 := sum_tail0 (f := fun x => F x * wy A s (r + 1) x) (n := 128 * A 0) (768 - 128 * A 0) (fun i h1 h2 => by show F i * _ = 0; rw [hsF i h1 (by omega), Nat.zero_mul]); rw [show 128 * A 0 + (768 - 128 * A 0) = 768 by omega] at hz9; exact hz9.symm)
set_option maxRecDepth 100000 in
set_option maxHeartbeats 4000000 in
theorem lp_X9_ways_i (E : En) (p s k : Nat) (A : Vec) (F R : Nat → Nat) (Q : Sg → Int32 → Prop) (σ : Sg) (hM : RepM σ 296 A) (hp : p < 5) (hpl : plO A p < 768) (hout : V E m_X9_ways (kM E 12 (pI Q)) 75 [some (.ref (eB E + 292)), some (.int (nI p)), some (.int (nI s)), some (.int (nI k)), some (.int (nI 768)), none, none, none] [] (stF σ (dlt (plO A p)) R)) : ∀ (mm : Nat) (i : Nat), 768 - i = mm → (i ≤ 768) → V E m_X9_ways (kM E 12 (pI Q)) 39 [some (.ref (eB E + 292)), some (.int (nI p)), some (.int (nI s)), some (.int (nI k)), some (.int (nI i)), none, none, none] [] (stF σ (mixF (dlt (plO A p)) F i) R) := by
  intro mm
  induction mm using Nat.strongRecOn with
  | ind mm ih =>
    intro i hmm hi
    refine V_iload e_X9_ways_39 rfl ?_
    refine V_sipush (v := nI 768) e_X9_ways_41 (by decide) ?_
    refine V_icmp_ge (tgt := 75) e_X9_ways_44 (by decide) (fun c1 => ?_) (fun c1 => ?_)
    · have d1 : 768 ≤ i := nq_le (by omega) (by omega) c1
      obtain rfl : i = 768 := (by omega); rw [stF_m2]; exact hout
    · have d1 : ¬ 768 ≤ i := nq_nle (by omega) (by omega) c1
      refine V_aload_n e_X9_ways_47 rfl rfl ?_
      refine V_getr (r := 302) e_X9_ways_48 F_X9_rowsTo f_X9_37 rfl rfl ?_
      refine V_iload e_X9_ways_51 rfl ?_
      refine V_iload e_X9_ways_53 rfl ?_
      refine V_aload_n e_X9_ways_55 rfl rfl ?_
      refine V_iload_n e_X9_ways_56 rfl rfl ?_
      refine V_cvIe (av := [.int (nI p)]) (st := [.int (nI i), .int (nI i), .ref (eB E + 302)]) e_X9_ways_57 (c_X9_placeOf E p A (stF σ (mixF (dlt (plO A p)) F i) R) (stF_M hM) hp) l_X9_241 S_X9_placeOf rfl (rm_ok (by decide) (by decide)) rfl rfl (Nat.le_of_ble_eq_true rfl) ?_
      refine V_icmp_ne (tgt := 67) e_X9_ways_60 (by decide) (fun c2 => ?_) (fun c2 => ?_)
      · have d2 : ¬ i = plO A p := nq_ne (by omega) (by omega) c2
        refine V_iconst (v := nI 0) e_X9_ways_67 (by decide) ?_
        refine V_topi (y := nI (dlt (plO A p) i)) (congrArg nI (by unfold dlt; (first | rw [if_pos d2] | rw [if_neg d2]))) ?_
        refine V_iast (j := i) e_X9_ways_68 rfl rfl (by have q : ln 302 = 768 := rfl; omega) ?_
        rw [show up2 (stF σ (mixF (dlt (plO A p)) F i) R) 302 i (nI (dlt (plO A p) i)) = stF σ (mixF (dlt (plO A p)) F (i + 1)) R from (by rw [stF_u2 (by omega), mixF_s])]
        refine V_iinc (v := nI (i + 1)) (L' := [some (.ref (eB E + 292)), some (.int (nI p)), some (.int (nI s)), some (.int (nI k)), some (.int (nI (i + 1))), none, none, none]) e_X9_ways_69 rfl (nI_add _ 1) rfl ?_
        refine V_goto (tgt := 39) e_X9_ways_72 (by decide) ?_
        exact ih (768 - (i + 1)) (by omega) (i + 1) rfl (by omega)
      · have d2 : i = plO A p := nq_eq (by omega) (by omega) c2
        refine V_iconst (v := nI 1) e_X9_ways_63 (by decide) ?_
        refine V_goto (tgt := 68) e_X9_ways_64 (by decide) ?_
        refine V_topi (y := nI (dlt (plO A p) i)) (congrArg nI (by unfold dlt; (first | rw [if_pos d2] | rw [if_neg d2]))) ?_
        refine V_iast (j := i) e_X9_ways_68 rfl rfl (by have q : ln 302 = 768 := rfl; omega) ?_
        rw [show up2 (stF σ (mixF (dlt (plO A p)) F i) R) 302 i (nI (dlt (plO A p) i)) = stF σ (mixF (dlt (plO A p)) F (i + 1)) R from (by rw [stF_u2 (by omega), mixF_s])]
        refine V_iinc (v := nI (i + 1)) (L' := [some (.ref (eB E + 292)), some (.int (nI p)), some (.int (nI s)), some (.int (nI k)), some (.int (nI (i + 1))), none, none, none]) e_X9_ways_69 rfl (nI_add _ 1) rfl ?_
        refine V_goto (tgt := 39) e_X9_ways_72 (by decide) ?_
        exact ih (768 - (i + 1)) (by omega) (i + 1) rfl (by omega)
theorem IM.sF {σ : Sg} {S : Ab} {F R : Nat → Nat} (h : IM σ S) : IM (stF σ F R) S := h.fr (fun a k hk => stF_ne (fun q => by rw [q] at hk; exact absurd hk (by show ¬ 0 < 0; decide)) (fun q => by rw [q] at hk; exact absurd hk (by show ¬ 0 < 0; decide)))
theorem sF_fb {σ : Sg} {F R : Nat → Nat} : Fb 292 307 σ (stF σ F R) := fun a k hk => stF_ne (by omega) (by omega)
set_option maxRecDepth 100000 in
set_option maxHeartbeats 4000000 in
theorem c9_ways (E : En) (x y z : Int32) (A : Vec) (T : AbT) (σ : Sg) (hJ0 : IM σ (A, T)) : Cn E m_X9_ways 12 [.ref (eB E + 292), .int x, .int y, .int z] σ (pM σ (oWays (A, T) x y z)) := by
  have hGD : GD A := hJ0.1.1
  have hN : WN A := hGD.1
  have hNl := hN.le
  have hA4 : A 4 ≤ 999 := hGD.2.2
  have hG := hJ0.1
  have h2G := pow6 hNl.1
  refine Cn.of [some (.ref (eB E + 292)), some (.int x), some (.int y), some (.int z), none, none, none, none] (by decide) (Nat.le_of_ble_eq_true rfl) rfl ?_
  refine V_aload_n e_X9_ways_0 rfl rfl ?_
  refine V_iconst (v := nI 0) e_X9_ways_1 (by decide) ?_
  refine V_puti e_X9_ways_2 F_X9_thrown f_X9_53 rfl ?_
  generalize hτ : up2 σ 292 0 (nI 0) = τ
  have hfb : Fb 292 307 σ τ := hτ ▸ th_fb
  have hJ : IM τ (A, T) := hτ ▸ hJ0.fm Fm.th
  have hM : RepM τ 296 A := hJ.2.1
  refine V_aload_n e_X9_ways_5 rfl rfl ?_
  refine V_iload_n e_X9_ways_6 rfl rfl ?_
  refine V_cvIe (av := [.int x]) (st := []) e_X9_ways_7 (c_X9_isMan E x A τ hM) l_X9_204 S_X9_isMan rfl (rm_ok (by decide) (by decide)) rfl rfl (Nat.le_of_ble_eq_true rfl) ?_
  refine V_if_eq (tgt := 33) e_X9_ways_10 (by decide) (fun c1 => ?_) (fun c1 => ?_)
  · refine V_ldc (v := (-1000001)) e_X9_ways_33 k_X9_73 ?_
    exact V_iret e_X9_ways_35 rfl (by rw [show oWays (A, T) x y z = ((A, T), (-1000001)) from (by unfold oWays; (try unfold gIn); (try dsimp only); (try (repeat rw [ixN (by omega)])); (first | rw [if_pos c1] | rw [if_neg c1] | skip); try rfl)]; exact ⟨hfb, hJ, rfl⟩)
  · obtain ⟨p, hp, rfl⟩ := (wi_nat (by omega)).mp c1
    have hF : WF A := hN.wf (by omega)
    refine V_aload_n e_X9_ways_13 rfl rfl ?_
    refine V_iload_n e_X9_ways_14 rfl rfl ?_
    refine V_cvIe (av := [.int y]) (st := []) e_X9_ways_15 (c_X9_areGates E y A τ hM hNl.1) l_X9_235 S_X9_areGates rfl (rm_ok (by decide) (by decide)) rfl rfl (Nat.le_of_ble_eq_true rfl) ?_
    refine V_if_eq (tgt := 33) e_X9_ways_18 (by decide) (fun c2 => ?_) (fun c2 => ?_)
    · refine V_ldc (v := (-1000001)) e_X9_ways_33 k_X9_73 ?_
      exact V_iret e_X9_ways_35 rfl (by rw [show oWays (A, T) (nI p) y z = ((A, T), (-1000001)) from (by unfold oWays; (try unfold gIn); (try dsimp only); (try (repeat rw [ixN (by omega)])); (first | rw [if_pos c1] | rw [if_neg c1] | skip); (first | rw [if_pos c2] | rw [if_neg c2] | skip); try rfl)]; exact ⟨hfb, hJ, rfl⟩)
    · obtain ⟨s, hs, rfl⟩ := (wi_nat (by omega)).mp c2
      refine V_iload_n e_X9_ways_21 rfl rfl ?_
      refine V_i2l e_X9_ways_22 ?_
      refine V_lconst (v := lN 0) e_X9_ways_23 (by decide) ?_
      refine V_ldc2_w (v := lN 8) e_X9_ways_24 kl_X9_244 ?_
      refine V_csIe (av := [.long z.toInt64, .long (lN 0), .long (lN 8)]) (st := []) e_X9_ways_27 (c_X9_inN E z (nI 0) (nI 8) (lN 0) (lN 8) τ (nI_l (by omega)) (nI_l (by omega))) l_X9_63 S_X9_in (rm_ok (by decide) (by decide)) rfl rfl (Nat.le_of_ble_eq_true rfl) ?_
      refine V_if_ne (tgt := 36) e_X9_ways_30 (by decide) (fun c3 => ?_) (fun c3 => ?_)
      · obtain ⟨k, hka, hk, rfl⟩ := (wi_le (by omega) (by omega)).mp c3
        refine V_iconst (v := nI 0) e_X9_ways_36 (by decide) ?_
        refine V_istore (L' := [some (.ref (eB E + 292)), some (.int (nI p)), some (.int (nI s)), some (.int (nI k)), some (.int (nI 0)), none, none, none]) e_X9_ways_37 rfl ?_
        have hpl := plO_lt hF hp
        obtain ⟨Q9, hQ9⟩ : ∃ Q9 : Sg → Int32 → Prop, Q9 = (fun σ' r => Fb 292 307 σ σ' ∧ IM σ' (oWays (A, T) (nI p) (nI s) (nI k)).1 ∧ r = (oWays (A, T) (nI p) (nI s) (nI k)).2) := ⟨_, rfl⟩
        unfold pM
        rw [← hQ9]
        refine V_sig (σ' := stF τ (mixF (dlt (plO A p)) (fun k => (τ 302 k).toBitVec.toNat) 0) (fun k => (τ 303 k).toBitVec.toNat)) (by rw [mixF_0]; exact stF_any τ) ?_
        refine lp_X9_ways_i E p s k A _ _ Q9 τ hM (by omega) (by omega) ?_ 768 0 rfl (by omega)
        refine V_iconst (v := nI 0) e_X9_ways_75 (by decide) ?_
        refine V_istore (L' := [some (.ref (eB E + 292)), some (.int (nI p)), some (.int (nI s)), some (.int (nI k)), some (.int (nI 0)), none, none, none]) e_X9_ways_76 rfl ?_
        exact lp_X9_ways_j E p s k A Q9 τ hM hF.1 hNl.1 (by omega) (by omega) (fun F9 R9 => by rw [hQ9, show oWays (A, T) (nI p) (nI s) (nI k) = ((A, T), nI (wy A s k (plO A p))) from (by unfold oWays; (try unfold gIn); (try dsimp only); (try (repeat rw [ixN (by omega)])); rw [if_neg c1, if_neg c2, if_neg c3])]; exact ⟨hfb.tr sF_fb, hJ.sF, rfl⟩) k 0 _ _ rfl (by omega) (fun x hx hx2 => if_neg (by omega)) (by rw [sum_d0 (by omega)]; exact Nat.le_refl _) (sum_d1 768 (by omega))
      · refine V_ldc (v := (-1000001)) e_X9_ways_33 k_X9_73 ?_
        exact V_iret e_X9_ways_35 rfl (by rw [show oWays (A, T) (nI p) (nI s) z = ((A, T), (-1000001)) from (by unfold oWays; (try unfold gIn); (try dsimp only); (try (repeat rw [ixN (by omega)])); (first | rw [if_pos c1] | rw [if_neg c1] | skip); (first | rw [if_pos c2] | rw [if_neg c2] | skip); (first | rw [if_pos c3] | rw [if_neg c3] | skip); try rfl)]; exact ⟨hfb, hJ, rfl⟩)

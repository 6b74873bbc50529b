def σz : Sg := fun _ _ => 0
abbrev shN (a : Nat) : Prop := kd a = 5 ∧ kd (a + 1) = 10 ∧ kd (a + 2) = 10 ∧ kd (a + 3) = 14 ∧ (∀ i, i < 5 → kd (a + 4 + i) = 7) ∧ ln (a + 1) = 6 ∧ ln (a + 2) = 6 ∧ ln (a + 3) = 5
theorem rf_5 {a k : Nat} (h : kd a = 5) : rf a k = a + (k - 6) := by unfold rf; rw [h]; rfl
theorem rf_14 {a k : Nat} (h : kd a = 14) : rf a k = a + 1 + k := by unfold rf; rw [h]; rfl
theorem rf_3 {a k : Nat} (h : kd a = 3) : rf a k = a + 1 := by unfold rf; rw [h]; rfl
theorem nmu {t a : Nat} {un : List Nat} (hu : ∀ u ∈ un, u ≤ a) (h : a < t) : t ∉ un := fun q => absurd (hu t q) (by omega)
theorem nm1 {t a : Nat} (h : t ≠ a) : t ∉ [a] := by simp [h]
theorem nm2 {t a b : Nat} (h : t ≠ a) (h2 : t ≠ b) : t ∉ [a, b] := by simp [h, h2]
theorem i_X7 (E : En) (a n : Nat) (un : List Nat) (σ : Sg) : CnG E m_X7_init 1 a n n un σ σ := by
  refine CnG.of [some (.ref (eB E + a))] (by decide) (by decide) rfl ?_
  refine VG_aload_n e_X7_init_0 rfl rfl ?_
  refine VG_obj e_X7_init_1 l_X7_1 (Nat.le_of_ble_eq_true rfl) (Nat.le_of_ble_eq_true rfl) ?_
  exact VG_ret e_X7_init_4 rfl
theorem sI_X0 : sI m_X0_init := ⟨w_X0_init_c, w_X0_init_n, in_X0_i, rfl, rfl, by decide +kernel⟩
theorem sI_X1 : sI m_X1_init := ⟨w_X1_init_c, w_X1_init_n, in_X1_i, rfl, rfl, by decide +kernel⟩
theorem sI_X2 : sI m_X2_init := ⟨w_X2_init_c, w_X2_init_n, in_X2_i, rfl, rfl, by decide +kernel⟩
theorem sI_X3 : sI m_X3_init := ⟨w_X3_init_c, w_X3_init_n, in_X3_i, rfl, rfl, by decide +kernel⟩
theorem sI_X4 : sI m_X4_init := ⟨w_X4_init_c, w_X4_init_n, in_X4_i, rfl, rfl, by decide +kernel⟩
theorem sI_X5 : sI m_X5_init := ⟨w_X5_init_c, w_X5_init_n, in_X5_i, rfl, rfl, by decide +kernel⟩
theorem sI_X6 : sI m_X6_init := ⟨w_X6_init_c, w_X6_init_n, in_X6_i, rfl, rfl, by decide +kernel⟩
theorem sI_X7 : sI m_X7_init := ⟨w_X7_init_c, w_X7_init_n, in_X7_i, rfl, rfl, by decide +kernel⟩
theorem sI_X8 : sI m_X8_init := ⟨w_X8_init_c, w_X8_init_n, in_X8_i, rfl, rfl, by decide +kernel⟩
theorem sI_X9 : sI m_X9_init := ⟨w_X9_init_c, w_X9_init_n, in_X9_i, rfl, rfl, by decide +kernel⟩
theorem i_X5_loop (E : En) (a : Nat) (un : List Nat) (σ : Sg) (hs : shN a) (hu : ∀ u ∈ un, u ≤ a) : ∀ j i : Nat, i + j = 5 → VG E m_X5_init (kG E 2 (a + 1) (a + 9) un σ) 30 [some (.ref (eB E + a)), some (.int (nI i))] [] (a + 4 + i, un, σ) := by
  obtain ⟨s0, s1, s2, s3, s4, t1, t2, t3⟩ := hs
  intro j
  induction j with
  | zero =>
    intro i hi
    have hi : i = 5 := by omega
    subst hi
    refine VG_iload_n e_X5_init_30 rfl rfl ?_
    refine VG_iconst (v := nI 5) e_X5_init_31 (by decide) ?_
    refine VG_icmp_ge (tgt := 54) e_X5_init_32 (by decide) (fun _ => ?_) (fun h => absurd (by decide) h)
    exact VG_ret e_X5_init_54 rfl
  | succ j ih =>
    intro i hi
    have k7 := s4 i (by omega)
    refine VG_iload_n e_X5_init_30 rfl rfl ?_
    refine VG_iconst (v := nI 5) e_X5_init_31 (by decide) ?_
    refine VG_icmp_ge (tgt := 54) e_X5_init_32 (by decide) (fun h => absurd (nq_le (by omega) (by omega) h) (by omega)) (fun _ => ?_)
    refine VG_aload_n e_X5_init_35 rfl rfl ?_
    refine VG_getr (r := a + 3) e_X5_init_36 F_X5_walkers f_X5_20 (by omega) s0 (rf_5 s0) (by omega) (nmu hu (by omega)) ?_
    refine VG_iload_n e_X5_init_39 rfl rfl ?_
    refine VG_new e_X5_init_40 nd_7 cl_X5_18 k7 (kG_ok (by omega)) ?_
    refine VG_dup e_X5_init_43 rfl ?_
    refine VG_initN e_X5_init_44 (i_X7 E (a + 4 + i) _ _ _) l_X5_24 sI_X7 (Nat.le_refl _) (kG_okC (by decide) (by decide) (by omega)) (by simp [Value.category]) ?_
    refine VG_aast14 e_X5_init_47 (by omega) s3 rfl (by rw [t3]; omega) (by rw [rf_14 s3]) k7 (by omega) (nmu hu (by omega)) ?_
    refine VG_iinc (v := nI (i + 1)) (L' := [some (.ref (eB E + a)), some (.int (nI (i + 1)))]) e_X5_init_48 rfl (nI_add _ 1) rfl ?_
    refine VG_goto (tgt := 30) e_X5_init_51 (by decide) ?_
    exact ih (i + 1) (by omega)
theorem i_X5 (E : En) (a : Nat) (un : List Nat) (σ : Sg) (hs : shN a) (hu : ∀ u ∈ un, u ≤ a) : CnG E m_X5_init 2 a (a + 1) (a + 9) un σ σ := by
  obtain ⟨s0, s1, s2, s3, s4, t1, t2, t3⟩ := id hs
  refine CnG.of [some (.ref (eB E + a)), none] (by decide) (by decide) rfl ?_
  refine VG_aload_n e_X5_init_0 rfl rfl ?_
  refine VG_obj e_X5_init_1 l_X5_3 (Nat.le_of_ble_eq_true rfl) (Nat.le_of_ble_eq_true rfl) ?_
  refine VG_aload_n e_X5_init_4 rfl rfl ?_
  refine VG_bipush (v := nI 6) e_X5_init_5 (by decide) ?_
  refine VG_newi e_X5_init_7 s1 (by rw [show ln _ = 6 from t1]) (kG_ok (by omega)) ?_
  refine VG_link (ty := .array .int) e_X5_init_9 F_X5_sorts f_X5_9 rfl rfl (by omega) s0 (rf_5 s0) (by omega) (nmu hu (by omega)) (by decide +kernel) (fun _ => rfl) (fun _ => rfl) ?_
  refine VG_aload_n e_X5_init_12 rfl rfl ?_
  refine VG_bipush (v := nI 6) e_X5_init_13 (by decide) ?_
  refine VG_newi e_X5_init_15 s2 (by rw [show ln _ = 6 from t2]) (kG_ok (by omega)) ?_
  refine VG_link (ty := .array .int) e_X5_init_17 F_X5_lengths f_X5_15 rfl rfl (by omega) s0 (rf_5 s0) (by omega) (nmu hu (by omega)) (by decide +kernel) (fun _ => rfl) (fun _ => rfl) ?_
  refine VG_aload_n e_X5_init_20 rfl rfl ?_
  refine VG_iconst (v := nI 5) e_X5_init_21 (by decide) ?_
  refine VG_newq14 e_X5_init_22 cl_X5_18 s3 (by rw [show ln _ = 5 from t3]) (kG_ok (by omega)) ?_
  refine VG_link (ty := .array (.object "JawShores$Walker")) e_X5_init_25 F_X5_walkers f_X5_20 rfl rfl (by omega) s0 (rf_5 s0) (by omega) (nmu hu (by omega)) (by decide +kernel) (fun _ => rfl) (fun _ => rfl) ?_
  refine VG_iconst (v := nI 0) e_X5_init_28 (by decide) ?_
  refine VG_istore_n (L' := [some (.ref (eB E + a)), some (.int (nI 0))]) e_X5_init_29 rfl rfl ?_
  exact i_X5_loop E a un σ hs hu 5 0 rfl
theorem i_X6 (E : En) (σ : Sg) : CnG E m_X6_init 1 2 3 4 [2, 0] σ σ := by
  refine CnG.of [some (.ref (eB E + 2))] (by decide) (by decide) rfl ?_
  refine VG_aload_n e_X6_init_0 rfl rfl ?_
  refine VG_obj e_X6_init_1 l_X6_3 (Nat.le_of_ble_eq_true rfl) (Nat.le_of_ble_eq_true rfl) ?_
  refine VG_aload_n e_X6_init_4 rfl rfl ?_
  refine VG_bipush (v := nI 100) e_X6_init_5 (by decide) ?_
  refine VG_newi e_X6_init_7 rfl (by decide) (kG_ok (by decide)) ?_
  refine VG_link (ty := .array .int) e_X6_init_9 F_X6_bytes f_X6_9 rfl rfl (by decide) rfl rfl (by decide) (by decide) (by decide +kernel) (fun _ => rfl) (fun _ => rfl) ?_
  exact VG_ret e_X6_init_12 rfl
theorem i_X1 (E : En) (σ : Sg) : CnG E m_X1_init 1 256 257 258 [256, 0] σ σ := by
  refine CnG.of [some (.ref (eB E + 256))] (by decide) (by decide) rfl ?_
  refine VG_aload_n e_X1_init_0 rfl rfl ?_
  refine VG_obj e_X1_init_1 l_X1_3 (Nat.le_of_ble_eq_true rfl) (Nat.le_of_ble_eq_true rfl) ?_
  refine VG_aload_n e_X1_init_4 rfl rfl ?_
  refine VG_bipush (v := nI 16) e_X1_init_5 (by decide) ?_
  refine VG_newi e_X1_init_7 rfl (by decide) (kG_ok (by decide)) ?_
  refine VG_link (ty := .array .int) e_X1_init_9 F_X1_traced f_X1_9 rfl rfl (by decide) rfl rfl (by decide) (by decide) (by decide +kernel) (fun _ => rfl) (fun _ => rfl) ?_
  exact VG_ret e_X1_init_12 rfl
theorem i_X2 (E : En) (σ : Sg) : CnG E m_X2_init 1 252 253 256 [252, 0] σ σ := by
  refine CnG.of [some (.ref (eB E + 252))] (by decide) (by decide) rfl ?_
  refine VG_aload_n e_X2_init_0 rfl rfl ?_
  refine VG_obj e_X2_init_1 l_X2_5 (Nat.le_of_ble_eq_true rfl) (Nat.le_of_ble_eq_true rfl) ?_
  refine VG_aload_n e_X2_init_4 rfl rfl ?_
  refine VG_sipush (v := nI 1024) e_X2_init_5 (by decide) ?_
  refine VG_newi e_X2_init_8 rfl (by decide) (kG_ok (by decide)) ?_
  refine VG_link (ty := .array .int) e_X2_init_10 F_X2_hours f_X2_11 rfl rfl (by decide) rfl rfl (by decide) (by decide) (by decide +kernel) (fun _ => rfl) (fun _ => rfl) ?_
  refine VG_aload_n e_X2_init_13 rfl rfl ?_
  refine VG_sipush (v := nI 1024) e_X2_init_14 (by decide) ?_
  refine VG_newi e_X2_init_17 rfl (by decide) (kG_ok (by decide)) ?_
  refine VG_link (ty := .array .int) e_X2_init_19 F_X2_firstMoves f_X2_15 rfl rfl (by decide) rfl rfl (by decide) (by decide) (by decide +kernel) (fun _ => rfl) (fun _ => rfl) ?_
  refine VG_aload_n e_X2_init_22 rfl rfl ?_
  refine VG_sipush (v := nI 1024) e_X2_init_23 (by decide) ?_
  refine VG_newi e_X2_init_26 rfl (by decide) (kG_ok (by decide)) ?_
  refine VG_link (ty := .array .int) e_X2_init_28 F_X2_reached f_X2_18 rfl rfl (by decide) rfl rfl (by decide) (by decide) (by decide +kernel) (fun _ => rfl) (fun _ => rfl) ?_
  exact VG_ret e_X2_init_31 rfl
abbrev rwN (a : Nat) : Prop := kd a = 3 ∧ kd (a + 1) = 10 ∧ ln (a + 1) = 40
theorem i_X3 (E : En) (a : Nat) (un : List Nat) (σ : Sg) (hs : rwN a) (hu : ∀ u ∈ un, u ≤ a) : CnG E m_X3_init 1 a (a + 1) (a + 2) un σ (up2 σ a 1 1) := by
  obtain ⟨s0, s1, t1⟩ := hs
  refine CnG.of [some (.ref (eB E + a))] (by decide) (by decide) rfl ?_
  refine VG_aload_n e_X3_init_0 rfl rfl ?_
  refine VG_obj e_X3_init_1 l_X3_3 (Nat.le_of_ble_eq_true rfl) (Nat.le_of_ble_eq_true rfl) ?_
  refine VG_aload_n e_X3_init_4 rfl rfl ?_
  refine VG_bipush (v := nI 40) e_X3_init_5 (by decide) ?_
  refine VG_newi e_X3_init_7 s1 (by rw [show ln _ = 40 from t1]) (kG_ok (by omega)) ?_
  refine VG_link (ty := .array .int) e_X3_init_9 F_X3_items f_X3_9 rfl rfl (by omega) s0 (rf_3 s0) (by omega) (nmu hu (by omega)) (by decide +kernel) (fun _ => rfl) (fun _ => rfl) ?_
  refine VG_aload_n e_X3_init_12 rfl rfl ?_
  refine VG_iconst (v := 1) e_X3_init_13 (by decide) ?_
  refine VG_putz e_X3_init_14 F_X3_missing f_X3_15 (by omega) s0 (Or.inr rfl) ?_
  exact VG_ret e_X3_init_17 rfl
theorem i_X4 (E : En) (σ : Sg) : CnG E m_X4_init 3 241 242 252 [241, 0] σ σ := by
  refine CnG.of [some (.ref (eB E + 241))] (by decide) (by decide) rfl ?_
  refine VG_aload_n e_X4_init_0 rfl rfl ?_
  refine VG_obj e_X4_init_1 l_X4_3 (Nat.le_of_ble_eq_true rfl) (Nat.le_of_ble_eq_true rfl) ?_
  refine VG_aload_n e_X4_init_4 rfl rfl ?_
  refine VG_new e_X4_init_5 nd_5 cl_X4_9 rfl (kG_ok (by decide)) ?_
  refine VG_dup e_X4_init_8 rfl ?_
  refine VG_init e_X4_init_9 (show CnG E m_X5_init 2 242 243 251 [242, 241, 0] σ σ from i_X5 E 242 _ _ (by decide +kernel) (by decide)) l_X4_11 sI_X5 (by decide) (kG_okC (by decide) (by decide) (by decide)) (by simp [Value.category]) ?_
  refine VG_link (ty := .object "JawShores$Shore") e_X4_init_12 F_X4_trial f_X4_12 rfl rfl (by decide) rfl rfl (by decide) (by decide) (by decide +kernel) (fun _ => rfl) (fun _ => rfl) ?_
  refine VG_aload_n e_X4_init_15 rfl rfl ?_
  refine VG_bipush (v := nI 12) e_X4_init_16 (by decide) ?_
  refine VG_newi e_X4_init_18 rfl (by decide) (kG_ok (by decide)) ?_
  refine VG_link (ty := .array .int) e_X4_init_20 F_X4_dinners f_X4_18 rfl rfl (by decide) rfl rfl (by decide) (by decide) (by decide +kernel) (fun _ => rfl) (fun _ => rfl) ?_
  exact VG_ret e_X4_init_23 rfl
theorem shA : ∀ i, i < 24 → shN (25 + 9 * i) := by decide +kernel
theorem shB : ∀ i, i < 2 → shN (274 + 9 * i) := by decide +kernel
theorem rwA : ∀ i, i < 8 → rwN (258 + 2 * i) := by decide +kernel
theorem i_X0_loop (E : En) (σ : Sg) : ∀ j i : Nat, i + j = 24 → VG E m_X0_init (kG E 3 24 241 [23, 0] σ) 15 [some (.ref (eB E + 23)), some (.int (nI i))] [] (25 + 9 * i, [23, 0], σ) := by
  intro j
  induction j with
  | zero =>
    intro i hi
    have hi : i = 24 := by omega
    subst hi
    refine VG_iload_n e_X0_init_15 rfl rfl ?_
    refine VG_bipush (v := nI 24) e_X0_init_16 (by decide) ?_
    refine VG_icmp_ge (tgt := 40) e_X0_init_18 (by decide) (fun _ => ?_) (fun h => absurd (by decide) h)
    exact VG_ret e_X0_init_40 rfl
  | succ j ih =>
    intro i hi
    have hs := shA i (by omega)
    refine VG_iload_n e_X0_init_15 rfl rfl ?_
    refine VG_bipush (v := nI 24) e_X0_init_16 (by decide) ?_
    refine VG_icmp_ge (tgt := 40) e_X0_init_18 (by decide) (fun h => absurd (nq_le (by omega) (by omega) h) (by omega)) (fun _ => ?_)
    refine VG_aload_n e_X0_init_21 rfl rfl ?_
    refine VG_getr (r := 24) e_X0_init_22 F_X0_kept f_X0_11 (by omega) rfl rfl (by omega) (by decide) ?_
    refine VG_iload_n e_X0_init_25 rfl rfl ?_
    refine VG_new e_X0_init_26 nd_5 cl_X0_9 hs.1 (kG_ok (by omega)) ?_
    refine VG_dup e_X0_init_29 rfl ?_
    refine VG_init e_X0_init_30 (i_X5 E (25 + 9 * i) _ _ hs (by simp <;> omega)) l_X0_17 sI_X5 (by omega) (kG_okC (by decide) (by decide) (by omega)) (by simp [Value.category]) ?_
    refine VG_aast13 e_X0_init_33 (by omega) rfl rfl (by show i < 24; omega) rfl hs.1 (by omega) (nm2 (by omega) (by omega)) ?_
    refine VG_iinc (v := nI (i + 1)) (L' := [some (.ref (eB E + 23)), some (.int (nI (i + 1)))]) e_X0_init_34 rfl (nI_add _ 1) rfl ?_
    refine VG_goto (tgt := 15) e_X0_init_37 (by decide) ?_
    have hk := ih (i + 1) (by omega)
    rw [show 25 + 9 * (i + 1) = 25 + 9 * i + 9 by omega] at hk
    exact hk
theorem i_X0 (E : En) (σ : Sg) : CnG E m_X0_init 3 23 24 241 [23, 0] σ σ := by
  refine CnG.of [some (.ref (eB E + 23)), none] (by decide) (by decide) rfl ?_
  refine VG_aload_n e_X0_init_0 rfl rfl ?_
  refine VG_obj e_X0_init_1 l_X0_3 (Nat.le_of_ble_eq_true rfl) (Nat.le_of_ble_eq_true rfl) ?_
  refine VG_aload_n e_X0_init_4 rfl rfl ?_
  refine VG_bipush (v := nI 24) e_X0_init_5 (by decide) ?_
  refine VG_newq13 e_X0_init_7 cl_X0_9 rfl (by decide) (kG_ok (by decide)) ?_
  refine VG_link (ty := .array (.object "JawShores$Shore")) e_X0_init_10 F_X0_kept f_X0_11 rfl rfl (by decide) rfl rfl (by decide) (by decide) (by decide +kernel) (fun _ => rfl) (fun _ => rfl) ?_
  refine VG_iconst (v := nI 0) e_X0_init_13 (by decide) ?_
  refine VG_istore_n (L' := [some (.ref (eB E + 23)), some (.int (nI 0))]) e_X0_init_14 rfl rfl ?_
  exact i_X0_loop E σ 24 0 rfl
def rwS : Nat → Sg
  | 0 => σz
  | r + 1 => up2 (rwS r) (258 + 2 * r) 1 1
theorem i_X8_loopB (E : En) (σ : Sg) : ∀ j i : Nat, i + j = 2 → VG E m_X8_init (kG E 4 1 292 [0] σ) 127 [some (.ref (eB E + 0)), some (.int (nI i))] [] (274 + 9 * i, [0], σ) := by
  intro j
  induction j with
  | zero =>
    intro i hi
    have hi : i = 2 := by omega
    subst hi
    refine VG_iload_n e_X8_init_127 rfl rfl ?_
    refine VG_iconst (v := nI 2) e_X8_init_128 (by decide) ?_
    refine VG_icmp_ge (tgt := 151) e_X8_init_129 (by decide) (fun _ => ?_) (fun h => absurd (by decide) h)
    exact VG_ret e_X8_init_151 rfl
  | succ j ih =>
    intro i hi
    have hs := shB i (by omega)
    refine VG_iload_n e_X8_init_127 rfl rfl ?_
    refine VG_iconst (v := nI 2) e_X8_init_128 (by decide) ?_
    refine VG_icmp_ge (tgt := 151) e_X8_init_129 (by decide) (fun h => absurd (nq_le (by omega) (by omega) h) (by omega)) (fun _ => ?_)
    refine VG_aload_n e_X8_init_132 rfl rfl ?_
    refine VG_getr (r := 22) e_X8_init_133 F_X8_images f_X8_32 (by omega) rfl rfl (by omega) (by decide) ?_
    refine VG_iload_n e_X8_init_136 rfl rfl ?_
    refine VG_new e_X8_init_137 nd_5 cl_X8_22 hs.1 (kG_ok (by omega)) ?_
    refine VG_dup e_X8_init_140 rfl ?_
    refine VG_init e_X8_init_141 (i_X5 E (274 + 9 * i) _ _ hs (by simp <;> omega)) l_X8_24 sI_X5 (by omega) (kG_okC (by decide) (by decide) (by omega)) (by simp [Value.category]) ?_
    refine VG_aast13 e_X8_init_144 (by omega) rfl rfl (by show i < 2; omega) rfl hs.1 (by omega) (nm1 (by omega)) ?_
    refine VG_iinc (v := nI (i + 1)) (L' := [some (.ref (eB E + 0)), some (.int (nI (i + 1)))]) e_X8_init_145 rfl (nI_add _ 1) rfl ?_
    refine VG_goto (tgt := 127) e_X8_init_148 (by decide) ?_
    have hk := ih (i + 1) (by omega)
    rw [show 274 + 9 * (i + 1) = 274 + 9 * i + 9 by omega] at hk
    exact hk
theorem i_X8_loopA (E : En) : ∀ j i : Nat, i + j = 8 → VG E m_X8_init (kG E 4 1 292 [0] (rwS 8)) 100 [some (.ref (eB E + 0)), some (.int (nI i))] [] (258 + 2 * i, [0], rwS i) := by
  intro j
  induction j with
  | zero =>
    intro i hi
    have hi : i = 8 := by omega
    subst hi
    refine VG_iload_n e_X8_init_100 rfl rfl ?_
    refine VG_bipush (v := nI 8) e_X8_init_101 (by decide) ?_
    refine VG_icmp_ge (tgt := 125) e_X8_init_103 (by decide) (fun _ => ?_) (fun h => absurd (by decide) h)
    refine VG_iconst (v := nI 0) e_X8_init_125 (by decide) ?_
    refine VG_istore_n (L' := [some (.ref (eB E + 0)), some (.int (nI 0))]) e_X8_init_126 rfl rfl ?_
    exact i_X8_loopB E (rwS 8) 2 0 rfl
  | succ j ih =>
    intro i hi
    have hs := rwA i (by omega)
    refine VG_iload_n e_X8_init_100 rfl rfl ?_
    refine VG_bipush (v := nI 8) e_X8_init_101 (by decide) ?_
    refine VG_icmp_ge (tgt := 125) e_X8_init_103 (by decide) (fun h => absurd (nq_le (by omega) (by omega) h) (by omega)) (fun _ => ?_)
    refine VG_aload_n e_X8_init_106 rfl rfl ?_
    refine VG_getr (r := 1) e_X8_init_107 F_X8_rows f_X8_11 (by omega) rfl rfl (by omega) (by decide) ?_
    refine VG_iload_n e_X8_init_110 rfl rfl ?_
    refine VG_new e_X8_init_111 nd_3 cl_X8_9 hs.1 (kG_ok (by omega)) ?_
    refine VG_dup e_X8_init_114 rfl ?_
    refine VG_initN e_X8_init_115 (i_X3 E (258 + 2 * i) _ _ hs (by simp <;> omega)) l_X8_64 sI_X3 (by omega) (kG_okC (by decide) (by decide) (by omega)) (by simp [Value.category]) ?_
    refine VG_aast12 e_X8_init_118 (by omega) rfl rfl (by show i < 8; omega) rfl hs.1 (by omega) (nm1 (by omega)) ?_
    refine VG_iinc (v := nI (i + 1)) (L' := [some (.ref (eB E + 0)), some (.int (nI (i + 1)))]) e_X8_init_119 rfl (nI_add _ 1) rfl ?_
    refine VG_goto (tgt := 100) e_X8_init_122 (by decide) ?_
    have hk := ih (i + 1) (by omega)
    rw [show 258 + 2 * (i + 1) = 258 + 2 * i + 2 by omega] at hk
    exact hk
theorem i_X8 (E : En) : CnG E m_X8_init 4 0 1 292 [0] σz (rwS 8) := by
  refine CnG.of [some (.ref (eB E + 0)), none] (by decide) (by decide) rfl ?_
  refine VG_aload_n e_X8_init_0 rfl rfl ?_
  refine VG_obj e_X8_init_1 l_X8_1 (Nat.le_of_ble_eq_true rfl) (Nat.le_of_ble_eq_true rfl) ?_
  refine VG_aload_n e_X8_init_4 rfl rfl ?_
  refine VG_bipush (v := nI 8) e_X8_init_5 (by decide) ?_
  refine VG_newq12 e_X8_init_7 cl_X8_9 rfl (by decide) (kG_ok (by decide)) ?_
  refine VG_link (ty := .array (.object "JawShores$Row")) e_X8_init_10 F_X8_rows f_X8_11 rfl rfl (by decide) rfl rfl (by decide) (by decide) (by decide +kernel) (fun _ => rfl) (fun _ => rfl) ?_
  refine VG_aload_n e_X8_init_13 rfl rfl ?_
  refine VG_new e_X8_init_14 nd_6 cl_X8_15 rfl (kG_ok (by decide)) ?_
  refine VG_dup e_X8_init_17 rfl ?_
  refine VG_initN e_X8_init_18 (show CnG E m_X6_init 1 2 3 4 [2, 0] σz σz from i_X6 E _) l_X8_17 sI_X6 (by decide) (kG_okC (by decide) (by decide) (by decide)) (by simp [Value.category]) ?_
  refine VG_link (ty := .object "JawShores$Tape") e_X8_init_21 F_X8_tape f_X8_18 rfl rfl (by decide) rfl rfl (by decide) (by decide) (by decide +kernel) (fun _ => rfl) (fun _ => rfl) ?_
  refine VG_aload_n e_X8_init_24 rfl rfl ?_
  refine VG_new e_X8_init_25 nd_5 cl_X8_22 rfl (kG_ok (by decide)) ?_
  refine VG_dup e_X8_init_28 rfl ?_
  refine VG_init e_X8_init_29 (show CnG E m_X5_init 2 4 5 13 [4, 0] σz σz from i_X5 E 4 _ _ (by decide +kernel) (by decide)) l_X8_24 sI_X5 (by decide) (kG_okC (by decide) (by decide) (by decide)) (by simp [Value.category]) ?_
  refine VG_link (ty := .object "JawShores$Shore") e_X8_init_32 F_X8_now f_X8_25 rfl rfl (by decide) rfl rfl (by decide) (by decide) (by decide +kernel) (fun _ => rfl) (fun _ => rfl) ?_
  refine VG_aload_n e_X8_init_35 rfl rfl ?_
  refine VG_new e_X8_init_36 nd_5 cl_X8_22 rfl (kG_ok (by decide)) ?_
  refine VG_dup e_X8_init_39 rfl ?_
  refine VG_init e_X8_init_40 (show CnG E m_X5_init 2 13 14 22 [13, 0] σz σz from i_X5 E 13 _ _ (by decide +kernel) (by decide)) l_X8_24 sI_X5 (by decide) (kG_okC (by decide) (by decide) (by decide)) (by simp [Value.category]) ?_
  refine VG_link (ty := .object "JawShores$Shore") e_X8_init_43 F_X8_draft f_X8_29 rfl rfl (by decide) rfl rfl (by decide) (by decide) (by decide +kernel) (fun _ => rfl) (fun _ => rfl) ?_
  refine VG_aload_n e_X8_init_46 rfl rfl ?_
  refine VG_iconst (v := nI 2) e_X8_init_47 (by decide) ?_
  refine VG_newq13 e_X8_init_48 cl_X8_22 rfl (by decide) (kG_ok (by decide)) ?_
  refine VG_link (ty := .array (.object "JawShores$Shore")) e_X8_init_51 F_X8_images f_X8_32 rfl rfl (by decide) rfl rfl (by decide) (by decide) (by decide +kernel) (fun _ => rfl) (fun _ => rfl) ?_
  refine VG_aload_n e_X8_init_54 rfl rfl ?_
  refine VG_new e_X8_init_55 nd_0 cl_X8_36 rfl (kG_ok (by decide)) ?_
  refine VG_dup e_X8_init_58 rfl ?_
  refine VG_init e_X8_init_59 (show CnG E m_X0_init 3 23 24 241 [23, 0] σz σz from i_X0 E _) l_X8_38 sI_X0 (by decide) (kG_okC (by decide) (by decide) (by decide)) (by simp [Value.category]) ?_
  refine VG_link (ty := .object "JawShores$Acts") e_X8_init_62 F_X8_acts f_X8_39 rfl rfl (by decide) rfl rfl (by decide) (by decide) (by decide +kernel) (fun _ => rfl) (fun _ => rfl) ?_
  refine VG_aload_n e_X8_init_65 rfl rfl ?_
  refine VG_new e_X8_init_66 nd_4 cl_X8_43 rfl (kG_ok (by decide)) ?_
  refine VG_dup e_X8_init_69 rfl ?_
  refine VG_initN e_X8_init_70 (show CnG E m_X4_init 3 241 242 252 [241, 0] σz σz from i_X4 E _) l_X8_45 sI_X4 (by decide) (kG_okC (by decide) (by decide) (by decide)) (by simp [Value.category]) ?_
  refine VG_link (ty := .object "JawShores$Seer") e_X8_init_73 F_X8_seer f_X8_46 rfl rfl (by decide) rfl rfl (by decide) (by decide) (by decide +kernel) (fun _ => rfl) (fun _ => rfl) ?_
  refine VG_aload_n e_X8_init_76 rfl rfl ?_
  refine VG_new e_X8_init_77 nd_2 cl_X8_50 rfl (kG_ok (by decide)) ?_
  refine VG_dup e_X8_init_80 rfl ?_
  refine VG_initN e_X8_init_81 (show CnG E m_X2_init 1 252 253 256 [252, 0] σz σz from i_X2 E _) l_X8_52 sI_X2 (by decide) (kG_okC (by decide) (by decide) (by decide)) (by simp [Value.category]) ?_
  refine VG_link (ty := .object "JawShores$Paths") e_X8_init_84 F_X8_paths f_X8_53 rfl rfl (by decide) rfl rfl (by decide) (by decide) (by decide +kernel) (fun _ => rfl) (fun _ => rfl) ?_
  refine VG_aload_n e_X8_init_87 rfl rfl ?_
  refine VG_new e_X8_init_88 nd_1 cl_X8_57 rfl (kG_ok (by decide)) ?_
  refine VG_dup e_X8_init_91 rfl ?_
  refine VG_initN e_X8_init_92 (show CnG E m_X1_init 1 256 257 258 [256, 0] σz σz from i_X1 E _) l_X8_59 sI_X1 (by decide) (kG_okC (by decide) (by decide) (by decide)) (by simp [Value.category]) ?_
  refine VG_link (ty := .object "JawShores$Asks") e_X8_init_95 F_X8_asks f_X8_60 rfl rfl (by decide) rfl rfl (by decide) (by decide) (by decide +kernel) (fun _ => rfl) (fun _ => rfl) ?_
  refine VG_iconst (v := nI 0) e_X8_init_98 (by decide) ?_
  refine VG_istore_n (L' := [some (.ref (eB E + 0)), some (.int (nI 0))]) e_X8_init_99 rfl rfl ?_
  exact i_X8_loopA E 8 0 rfl
def lnS : Nat → Sg → Sg
  | 0, σ => σ
  | r + 1, σ => up2 (lnS r σ) 293 r (-1)
theorem i_X9 (E : En) (σ : Sg) : CnG E m_X9_init 1 292 293 307 [292, 0] σ (lnS 8 σ) := by
  refine CnG.of [some (.ref (eB E + 292))] (by decide) (by decide) rfl ?_
  refine VG_aload_n e_X9_init_0 rfl rfl ?_
  refine VG_obj e_X9_init_1 l_X9_1 (Nat.le_of_ble_eq_true rfl) (Nat.le_of_ble_eq_true rfl) ?_
  refine VG_aload_n e_X9_init_4 rfl rfl ?_
  refine VG_bipush (v := nI 8) e_X9_init_5 (by decide) ?_
  refine VG_newi e_X9_init_7 rfl (by decide) (kG_ok (by decide)) ?_
  refine VG_dup e_X9_init_9 rfl ?_
  refine VG_iconst (v := nI 0) e_X9_init_10 (by decide) ?_
  refine VG_iconst (v := -1) e_X9_init_11 (by decide) ?_
  refine VG_iast (j := 0) e_X9_init_12 (by decide) rfl rfl (by decide) ?_
  refine VG_dup e_X9_init_13 rfl ?_
  refine VG_iconst (v := nI 1) e_X9_init_14 (by decide) ?_
  refine VG_iconst (v := -1) e_X9_init_15 (by decide) ?_
  refine VG_iast (j := 1) e_X9_init_16 (by decide) rfl rfl (by decide) ?_
  refine VG_dup e_X9_init_17 rfl ?_
  refine VG_iconst (v := nI 2) e_X9_init_18 (by decide) ?_
  refine VG_iconst (v := -1) e_X9_init_19 (by decide) ?_
  refine VG_iast (j := 2) e_X9_init_20 (by decide) rfl rfl (by decide) ?_
  refine VG_dup e_X9_init_21 rfl ?_
  refine VG_iconst (v := nI 3) e_X9_init_22 (by decide) ?_
  refine VG_iconst (v := -1) e_X9_init_23 (by decide) ?_
  refine VG_iast (j := 3) e_X9_init_24 (by decide) rfl rfl (by decide) ?_
  refine VG_dup e_X9_init_25 rfl ?_
  refine VG_iconst (v := nI 4) e_X9_init_26 (by decide) ?_
  refine VG_iconst (v := -1) e_X9_init_27 (by decide) ?_
  refine VG_iast (j := 4) e_X9_init_28 (by decide) rfl rfl (by decide) ?_
  refine VG_dup e_X9_init_29 rfl ?_
  refine VG_iconst (v := nI 5) e_X9_init_30 (by decide) ?_
  refine VG_iconst (v := -1) e_X9_init_31 (by decide) ?_
  refine VG_iast (j := 5) e_X9_init_32 (by decide) rfl rfl (by decide) ?_
  refine VG_dup e_X9_init_33 rfl ?_
  refine VG_bipush (v := nI 6) e_X9_init_34 (by decide) ?_
  refine VG_iconst (v := -1) e_X9_init_36 (by decide) ?_
  refine VG_iast (j := 6) e_X9_init_37 (by decide) rfl rfl (by decide) ?_
  refine VG_dup e_X9_init_38 rfl ?_
  refine VG_bipush (v := nI 7) e_X9_init_39 (by decide) ?_
  refine VG_iconst (v := -1) e_X9_init_41 (by decide) ?_
  refine VG_iast (j := 7) e_X9_init_42 (by decide) rfl rfl (by decide) ?_
  refine VG_link (ty := .array .int) e_X9_init_43 F_X9_lane f_X9_7 rfl rfl (by decide) rfl rfl (by decide) (by decide) (by decide +kernel) (fun _ => rfl) (fun _ => rfl) ?_
  refine VG_aload_n e_X9_init_46 rfl rfl ?_
  refine VG_bipush (v := nI 8) e_X9_init_47 (by decide) ?_
  refine VG_newi e_X9_init_49 rfl (by decide) (kG_ok (by decide)) ?_
  refine VG_link (ty := .array .int) e_X9_init_51 F_X9_many f_X9_13 rfl rfl (by decide) rfl rfl (by decide) (by decide) (by decide +kernel) (fun _ => rfl) (fun _ => rfl) ?_
  refine VG_aload_n e_X9_init_54 rfl rfl ?_
  refine VG_sipush (v := nI 320) e_X9_init_55 (by decide) ?_
  refine VG_newi e_X9_init_58 rfl (by decide) (kG_ok (by decide)) ?_
  refine VG_link (ty := .array .int) e_X9_init_60 F_X9_item f_X9_16 rfl rfl (by decide) rfl rfl (by decide) (by decide) (by decide +kernel) (fun _ => rfl) (fun _ => rfl) ?_
  refine VG_aload_n e_X9_init_63 rfl rfl ?_
  refine VG_bipush (v := nI 55) e_X9_init_64 (by decide) ?_
  refine VG_newi e_X9_init_66 rfl (by decide) (kG_ok (by decide)) ?_
  refine VG_link (ty := .array .int) e_X9_init_68 F_X9_shore f_X9_19 rfl rfl (by decide) rfl rfl (by decide) (by decide) (by decide +kernel) (fun _ => rfl) (fun _ => rfl) ?_
  refine VG_aload_n e_X9_init_71 rfl rfl ?_
  refine VG_bipush (v := nI 55) e_X9_init_72 (by decide) ?_
  refine VG_newi e_X9_init_74 rfl (by decide) (kG_ok (by decide)) ?_
  refine VG_link (ty := .array .int) e_X9_init_76 F_X9_fresh f_X9_22 rfl rfl (by decide) rfl rfl (by decide) (by decide) (by decide +kernel) (fun _ => rfl) (fun _ => rfl) ?_
  refine VG_aload_n e_X9_init_79 rfl rfl ?_
  refine VG_bipush (v := nI 55) e_X9_init_80 (by decide) ?_
  refine VG_newi e_X9_init_82 rfl (by decide) (kG_ok (by decide)) ?_
  refine VG_link (ty := .array .int) e_X9_init_84 F_X9_then f_X9_25 rfl rfl (by decide) rfl rfl (by decide) (by decide) (by decide +kernel) (fun _ => rfl) (fun _ => rfl) ?_
  refine VG_aload_n e_X9_init_87 rfl rfl ?_
  refine VG_sipush (v := nI 1320) e_X9_init_88 (by decide) ?_
  refine VG_newi e_X9_init_91 rfl (by decide) (kG_ok (by decide)) ?_
  refine VG_link (ty := .array .int) e_X9_init_93 F_X9_was f_X9_28 rfl rfl (by decide) rfl rfl (by decide) (by decide) (by decide +kernel) (fun _ => rfl) (fun _ => rfl) ?_
  refine VG_aload_n e_X9_init_96 rfl rfl ?_
  refine VG_bipush (v := nI 100) e_X9_init_97 (by decide) ?_
  refine VG_newi e_X9_init_99 rfl (by decide) (kG_ok (by decide)) ?_
  refine VG_link (ty := .array .int) e_X9_init_101 F_X9_tape f_X9_31 rfl rfl (by decide) rfl rfl (by decide) (by decide) (by decide +kernel) (fun _ => rfl) (fun _ => rfl) ?_
  refine VG_aload_n e_X9_init_104 rfl rfl ?_
  refine VG_sipush (v := nI 768) e_X9_init_105 (by decide) ?_
  refine VG_newi e_X9_init_108 rfl (by decide) (kG_ok (by decide)) ?_
  refine VG_link (ty := .array .int) e_X9_init_110 F_X9_hours f_X9_34 rfl rfl (by decide) rfl rfl (by decide) (by decide) (by decide +kernel) (fun _ => rfl) (fun _ => rfl) ?_
  refine VG_aload_n e_X9_init_113 rfl rfl ?_
  refine VG_sipush (v := nI 768) e_X9_init_114 (by decide) ?_
  refine VG_newi e_X9_init_117 rfl (by decide) (kG_ok (by decide)) ?_
  refine VG_link (ty := .array .int) e_X9_init_119 F_X9_rowsTo f_X9_37 rfl rfl (by decide) rfl rfl (by decide) (by decide) (by decide +kernel) (fun _ => rfl) (fun _ => rfl) ?_
  refine VG_aload_n e_X9_init_122 rfl rfl ?_
  refine VG_sipush (v := nI 768) e_X9_init_123 (by decide) ?_
  refine VG_newi e_X9_init_126 rfl (by decide) (kG_ok (by decide)) ?_
  refine VG_link (ty := .array .int) e_X9_init_128 F_X9_rowsNext f_X9_40 rfl rfl (by decide) rfl rfl (by decide) (by decide) (by decide +kernel) (fun _ => rfl) (fun _ => rfl) ?_
  refine VG_aload_n e_X9_init_131 rfl rfl ?_
  refine VG_iconst (v := nI 2) e_X9_init_132 (by decide) ?_
  refine VG_newz e_X9_init_133 rfl (by decide) (kG_ok (by decide)) ?_
  refine VG_link (ty := .array .boolean) e_X9_init_135 F_X9_isKept f_X9_43 rfl rfl (by decide) rfl rfl (by decide) (by decide) (by decide +kernel) (fun _ => rfl) (fun _ => rfl) ?_
  refine VG_aload_n e_X9_init_138 rfl rfl ?_
  refine VG_bipush (v := nI 110) e_X9_init_139 (by decide) ?_
  refine VG_newi e_X9_init_141 rfl (by decide) (kG_ok (by decide)) ?_
  refine VG_link (ty := .array .int) e_X9_init_143 F_X9_kept f_X9_47 rfl rfl (by decide) rfl rfl (by decide) (by decide) (by decide +kernel) (fun _ => rfl) (fun _ => rfl) ?_
  refine VG_aload_n e_X9_init_146 rfl rfl ?_
  refine VG_bipush (v := nI 16) e_X9_init_147 (by decide) ?_
  refine VG_newi e_X9_init_149 rfl (by decide) (kG_ok (by decide)) ?_
  refine VG_link (ty := .array .int) e_X9_init_151 F_X9_trace f_X9_50 rfl rfl (by decide) rfl rfl (by decide) (by decide) (by decide +kernel) (fun _ => rfl) (fun _ => rfl) ?_
  exact VG_ret e_X9_init_154 rfl

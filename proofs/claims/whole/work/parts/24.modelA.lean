set_option maxRecDepth 100000 in
set_option maxHeartbeats 4000000 in
theorem c_X9_in (E : En) (x lo hi : Int32) (σ : Sg) : Cn E m_X9_in 1 [.long x.toInt64, .long lo.toInt64, .long hi.toInt64] σ (pI (fun σ' r => σ' = σ ∧ r = wi x lo hi)) := by
  refine Cn.of [some (.long x.toInt64), none, some (.long lo.toInt64), none, some (.long hi.toInt64), none] (by decide) (Nat.le_of_ble_eq_true rfl) rfl ?_
  refine V_lload_n e_X9_in_0 rfl rfl ?_
  refine V_lload_n e_X9_in_1 rfl rfl ?_
  refine V_lcmp e_X9_in_2 ?_
  refine V_if_lt (tgt := 17) e_X9_in_3 (by decide) (fun c1 => ?_) (fun c1 => ?_)
  · refine V_iconst (v := nI 0) e_X9_in_17 (by decide) ?_
    exact V_zret e_X9_in_18 rfl (by first | exact Or.inl nI_0 | exact Or.inr rfl | assumption) (⟨rfl, by unfold wi; (first | rw [if_pos (lg_lt.mp c1)] | rw [if_neg (fun q => c1 (lg_lt.mpr q))])⟩)
  · refine V_lload_n e_X9_in_6 rfl rfl ?_
    refine V_lload e_X9_in_7 rfl ?_
    refine V_lcmp e_X9_in_9 ?_
    refine V_if_gt (tgt := 17) e_X9_in_10 (by decide) (fun c2 => ?_) (fun c2 => ?_)
    · refine V_iconst (v := nI 0) e_X9_in_17 (by decide) ?_
      exact V_zret e_X9_in_18 rfl (by first | exact Or.inl nI_0 | exact Or.inr rfl | assumption) (⟨rfl, by unfold wi; (first | rw [if_pos (lg_lt.mp c1)] | rw [if_neg (fun q => c1 (lg_lt.mpr q))]); (first | rw [if_pos (lg_gt.mp c2)] | rw [if_neg (fun q => c2 (lg_gt.mpr q))])⟩)
    · refine V_iconst (v := nI 1) e_X9_in_13 (by decide) ?_
      refine V_goto (tgt := 18) e_X9_in_14 (by decide) ?_
      exact V_zret e_X9_in_18 rfl (by first | exact Or.inl nI_0 | exact Or.inr rfl | assumption) (⟨rfl, by unfold wi; (first | rw [if_pos (lg_lt.mp c1)] | rw [if_neg (fun q => c1 (lg_lt.mpr q))]); (first | rw [if_pos (lg_gt.mp c2)] | rw [if_neg (fun q => c2 (lg_gt.mpr q))])⟩)
theorem c_X9_inN (E : En) (x lo hi : Int32) (l h : Int64) (σ : Sg) (hl : lo.toInt64 = l) (hh : hi.toInt64 = h) : Cn E m_X9_in 1 [.long x.toInt64, .long l, .long h] σ (pI (fun σ' r => σ' = σ ∧ r = wi x lo hi)) := by
  subst hl
  subst hh
  exact c_X9_in E x lo hi σ
theorem c_X9_inL (E : En) (a : Nat) (lo hi : Int32) (l h : Int64) (σ : Sg) (ha : a < 2 ^ 31) (hl : lo.toInt64 = l) (hh : hi.toInt64 = h) : Cn E m_X9_in 1 [.long (lN a), .long l, .long h] σ (pI (fun σ' r => σ' = σ ∧ r = wi (nI a) lo hi)) := by
  rw [← nI_l ha]
  exact c_X9_inN E (nI a) lo hi l h σ hl hh
set_option maxRecDepth 100000 in
set_option maxHeartbeats 4000000 in
theorem c_X9_isRow (E : En) (x : Int32) (σ : Sg) : Cn E m_X9_isRow 2 [.int x] σ (pI (fun σ' r => σ' = σ ∧ r = wi x (nI 0) (nI 7))) := by
  refine Cn.of [some (.int x)] (by decide) (Nat.le_of_ble_eq_true rfl) rfl ?_
  refine V_iload_n e_X9_isRow_0 rfl rfl ?_
  refine V_i2l e_X9_isRow_1 ?_
  refine V_lconst (v := lN 0) e_X9_isRow_2 (by decide) ?_
  refine V_ldc2_w (v := lN 7) e_X9_isRow_3 kl_X9_61 ?_
  refine V_csIe (av := [.long x.toInt64, .long (lN 0), .long (lN 7)]) (st := []) e_X9_isRow_6 (c_X9_inN E x (nI 0) (nI 7) (lN 0) (lN 7) σ (nI_l (by omega)) (nI_l (by omega))) l_X9_63 S_X9_in (rm_ok (by decide) (by decide)) rfl rfl (Nat.le_of_ble_eq_true rfl) ?_
  exact V_zret e_X9_isRow_9 rfl (wi01 _ _ _) (⟨rfl, rfl⟩)
set_option maxRecDepth 100000 in
set_option maxHeartbeats 4000000 in
theorem c_X9_has (E : En) (s k : Nat) (σ : Sg) (hs : s < 2 ^ 31) (hk : k < 31) : Cn E m_X9_has 1 [.int (nI s), .int (nI k)] σ (pI (fun σ' r => σ' = σ ∧ r = nI (bitN s k))) := by
  refine Cn.of [some (.int (nI s)), some (.int (nI k))] (by decide) (Nat.le_of_ble_eq_true rfl) rfl ?_
  refine V_iload_n e_X9_has_0 rfl rfl ?_
  refine V_iload_n e_X9_has_1 rfl rfl ?_
  refine V_ishrN (z := nI (s / 2 ^ k)) e_X9_has_2 (shrN (by omega) (by omega)) ?_
  refine V_iconst (v := nI 1) e_X9_has_3 (by decide) ?_
  refine V_iandN (z := nI ((s / 2 ^ k) &&& 1)) e_X9_has_4 (andI _ _) ?_
  refine V_topi (y := nI (bitN s k)) (congrArg nI (Nat.and_one_is_mod _)) ?_
  refine V_iconst (v := nI 1) e_X9_has_5 (by decide) ?_
  refine V_icmp_ne (tgt := 13) e_X9_has_6 (by decide) (fun c1 => ?_) (fun c1 => ?_)
  · have d1 : ¬ bitN s k = 1 := nq_ne (by first | omega | (have hq9 := bitN_le s k; omega)) (by first | omega | (have hq9 := bitN_le s k; omega)) c1
    refine V_iconst (v := nI 0) e_X9_has_13 (by decide) ?_
    exact V_zret e_X9_has_14 rfl (by first | exact Or.inl nI_0 | exact Or.inr rfl | assumption) (⟨rfl, by congr 1; have hq9 := bitN_le s k; omega⟩)
  · have d1 : bitN s k = 1 := nq_eq (by first | omega | (have hq9 := bitN_le s k; omega)) (by first | omega | (have hq9 := bitN_le s k; omega)) c1
    refine V_iconst (v := nI 1) e_X9_has_9 (by decide) ?_
    refine V_goto (tgt := 14) e_X9_has_10 (by decide) ?_
    exact V_zret e_X9_has_14 rfl (by first | exact Or.inl nI_0 | exact Or.inr rfl | assumption) (⟨rfl, by congr 1; have hq9 := bitN_le s k; omega⟩)
theorem cnt_sumN (x : Nat) : sumN (fun k => bitN x k) 6 = cntN x := by unfold cntN; simp [sumN]
set_option maxRecDepth 100000 in
set_option maxHeartbeats 4000000 in
theorem lp_X9_bits (E : En) (x : Nat) (σ : Sg) (hx : x < 2 ^ 31) : ∀ (mm : Nat) (i : Nat), 6 - i = mm → (i ≤ 6) → V E m_X9_bits (kM E 1 (pI (fun σ' r => σ' = σ ∧ r = nI (cntN x)))) 4 [some (.int (nI x)), some (.int (nI (sumN (fun k => bitN x k) i))), some (.int (nI i))] [] σ := by
  intro mm
  induction mm using Nat.strongRecOn with
  | ind mm ih =>
    intro i hmm hi
    refine V_iload_n e_X9_bits_4 rfl rfl ?_
    refine V_bipush (v := nI 6) e_X9_bits_5 (by decide) ?_
    refine V_icmp_ge (tgt := 24) e_X9_bits_7 (by decide) (fun c1 => ?_) (fun c1 => ?_)
    · have d1 : 6 ≤ i := nq_le (by omega) (by omega) c1
      refine V_iload_n e_X9_bits_24 rfl rfl ?_
      exact V_iret e_X9_bits_25 rfl (⟨rfl, by rw [show i = 6 by omega, cnt_sumN]⟩)
    · have d1 : ¬ 6 ≤ i := nq_nle (by omega) (by omega) c1
      refine V_iload_n e_X9_bits_10 rfl rfl ?_
      refine V_iload_n e_X9_bits_11 rfl rfl ?_
      refine V_iload_n e_X9_bits_12 rfl rfl ?_
      refine V_ishrN (z := nI (x / 2 ^ i)) e_X9_bits_13 (shrN (by omega) (by omega)) ?_
      refine V_iconst (v := nI 1) e_X9_bits_14 (by decide) ?_
      refine V_iandN (z := nI ((x / 2 ^ i) &&& 1)) e_X9_bits_15 (andI _ _) ?_
      refine V_topi (y := nI (bitN x i)) (congrArg nI (Nat.and_one_is_mod _)) ?_
      refine V_iaddN (z := nI (sumN (fun k => bitN x k) i + (bitN x i))) e_X9_bits_16 (nI_add _ _) ?_
      refine V_istore_n (L' := [some (.int (nI x)), some (.int (nI (sumN (fun k => bitN x k) i + (bitN x i)))), some (.int (nI i))]) e_X9_bits_17 rfl rfl ?_
      refine V_iinc (v := nI (i + 1)) (L' := [some (.int (nI x)), some (.int (nI (sumN (fun k => bitN x k) i + (bitN x i)))), some (.int (nI (i + 1)))]) e_X9_bits_18 rfl (nI_add _ 1) rfl ?_
      refine V_goto (tgt := 4) e_X9_bits_21 (by decide) ?_
      exact ih (6 - (i + 1)) (by omega) (i + 1) rfl (by omega)
set_option maxRecDepth 100000 in
set_option maxHeartbeats 4000000 in
theorem c_X9_bits (E : En) (x : Nat) (σ : Sg) (hx : x < 2 ^ 31) : Cn E m_X9_bits 1 [.int (nI x)] σ (pI (fun σ' r => σ' = σ ∧ r = nI (cntN x))) := by
  refine Cn.of [some (.int (nI x)), none, none] (by decide) (Nat.le_of_ble_eq_true rfl) rfl ?_
  refine V_iconst (v := nI 0) e_X9_bits_0 (by decide) ?_
  refine V_istore_n (L' := [some (.int (nI x)), some (.int (nI 0)), none]) e_X9_bits_1 rfl rfl ?_
  refine V_iconst (v := nI 0) e_X9_bits_2 (by decide) ?_
  refine V_istore_n (L' := [some (.int (nI x)), some (.int (nI 0)), some (.int (nI 0))]) e_X9_bits_3 rfl rfl ?_
  exact lp_X9_bits E x σ hx 6 0 rfl (by omega)
set_option maxRecDepth 100000 in
set_option maxHeartbeats 4000000 in
theorem c_X9_of_w (E : En) (a g w : Nat) (A : Vec) (σ : Sg) (ha : kd a = 10) (hl : ln a = 55) (hg : g < 6) (hw : w < 3) : Cn E m_X9_of 1 [.ref (eB E + a), .int (nI g), .int (nI w)] (stM σ a A) (pI (fun σ' r => σ' = stM σ a A ∧ r = nI (A (7 + 3 * g + w)))) := by
  refine Cn.of [some (.ref (eB E + a)), some (.int (nI g)), some (.int (nI w))] (by decide) (Nat.le_of_ble_eq_true rfl) rfl ?_
  refine V_aload_n e_X9_of_0 rfl rfl ?_
  refine V_bipush (v := nI 7) e_X9_of_1 (by decide) ?_
  refine V_iconst (v := nI 3) e_X9_of_3 (by decide) ?_
  refine V_iload_n e_X9_of_4 rfl rfl ?_
  refine V_imulN (z := nI (3 * g)) e_X9_of_5 (pk_mul _ _) ?_
  refine V_iaddN (z := nI (7 + (3 * g))) e_X9_of_6 (nI_add _ _) ?_
  refine V_iload_n e_X9_of_7 rfl rfl ?_
  refine V_iaddN (z := nI (7 + (3 * g) + w)) e_X9_of_8 (nI_add _ _) ?_
  refine V_ialdv (v := nI (A (7 + (3 * g) + w))) (j := (7 + (3 * g) + w)) e_X9_of_9 ha rfl (by rw [hl]; omega) (stM_at (by omega)) ?_
  exact V_iret e_X9_of_10 rfl (⟨rfl, rfl⟩)
set_option maxRecDepth 100000 in
set_option maxHeartbeats 4000000 in
theorem c_X9_his_w (E : En) (a m w : Nat) (A : Vec) (σ : Sg) (ha : kd a = 10) (hl : ln a = 55) (hm : m < 5) (hw : w < 6) : Cn E m_X9_his 1 [.ref (eB E + a), .int (nI m), .int (nI w)] (stM σ a A) (pI (fun σ' r => σ' = stM σ a A ∧ r = nI (A (25 + 6 * m + w)))) := by
  refine Cn.of [some (.ref (eB E + a)), some (.int (nI m)), some (.int (nI w))] (by decide) (Nat.le_of_ble_eq_true rfl) rfl ?_
  refine V_aload_n e_X9_his_0 rfl rfl ?_
  refine V_bipush (v := nI 25) e_X9_his_1 (by decide) ?_
  refine V_bipush (v := nI 6) e_X9_his_3 (by decide) ?_
  refine V_iload_n e_X9_his_5 rfl rfl ?_
  refine V_imulN (z := nI (6 * m)) e_X9_his_6 (pk_mul _ _) ?_
  refine V_iaddN (z := nI (25 + (6 * m))) e_X9_his_7 (nI_add _ _) ?_
  refine V_iload_n e_X9_his_8 rfl rfl ?_
  refine V_iaddN (z := nI (25 + (6 * m) + w)) e_X9_his_9 (nI_add _ _) ?_
  refine V_ialdv (v := nI (A (25 + (6 * m) + w))) (j := (25 + (6 * m) + w)) e_X9_his_10 ha rfl (by rw [hl]; omega) (stM_at (by omega)) ?_
  exact V_iret e_X9_his_11 rfl (⟨rfl, rfl⟩)
set_option maxRecDepth 100000 in
set_option maxHeartbeats 4000000 in
theorem c_X9_be_w (E : En) (a m w v : Nat) (A : Vec) (σ : Sg) (ha : kd a = 10) (hl : ln a = 55) (hm : m < 5) (hw : w < 6) : Cn E m_X9_be 1 [.ref (eB E + a), .int (nI m), .int (nI w), .int (nI v)] (stM σ a A) (pV (fun σ' => σ' = stM σ a (updN A (25 + 6 * m + w) v))) := by
  refine Cn.of [some (.ref (eB E + a)), some (.int (nI m)), some (.int (nI w)), some (.int (nI v))] (by decide) (Nat.le_of_ble_eq_true rfl) rfl ?_
  refine V_aload_n e_X9_be_0 rfl rfl ?_
  refine V_bipush (v := nI 25) e_X9_be_1 (by decide) ?_
  refine V_bipush (v := nI 6) e_X9_be_3 (by decide) ?_
  refine V_iload_n e_X9_be_5 rfl rfl ?_
  refine V_imulN (z := nI (6 * m)) e_X9_be_6 (pk_mul _ _) ?_
  refine V_iaddN (z := nI (25 + (6 * m))) e_X9_be_7 (nI_add _ _) ?_
  refine V_iload_n e_X9_be_8 rfl rfl ?_
  refine V_iaddN (z := nI (25 + (6 * m) + w)) e_X9_be_9 (nI_add _ _) ?_
  refine V_iload_n e_X9_be_10 rfl rfl ?_
  refine V_iast (j := (25 + (6 * m) + w)) e_X9_be_11 ha rfl (by rw [hl]; omega) ?_
  rw [show up2 (stM σ a A) a (25 + (6 * m) + w) (nI v) = stM σ a (updN A (25 + 6 * m + w) v) from stM_up (by omega)]
  exact V_vret e_X9_be_12 rfl (rfl)
theorem c_X9_of_0 (E : En) (a g : Nat) (A : Vec) (σ : Sg) (ha : kd a = 10) (hl : ln a = 55) (hg : g < 6) : Cn E m_X9_of 1 [.ref (eB E + a), .int (nI g), .int (nI 0)] (stM σ a A) (pI (fun σ' r => σ' = stM σ a A ∧ r = nI (A (7 + 3 * g)))) := by
  have h := c_X9_of_w E a g 0 A σ ha hl hg (by decide)
  rwa [show 7 + 3 * g + 0 = 7 + 3 * g by omega] at h
theorem c_X9_of_1 (E : En) (a g : Nat) (A : Vec) (σ : Sg) (ha : kd a = 10) (hl : ln a = 55) (hg : g < 6) : Cn E m_X9_of 1 [.ref (eB E + a), .int (nI g), .int (nI 1)] (stM σ a A) (pI (fun σ' r => σ' = stM σ a A ∧ r = nI (A (8 + 3 * g)))) := by
  have h := c_X9_of_w E a g 1 A σ ha hl hg (by decide)
  rwa [show 7 + 3 * g + 1 = 8 + 3 * g by omega] at h
theorem c_X9_of_2 (E : En) (a g : Nat) (A : Vec) (σ : Sg) (ha : kd a = 10) (hl : ln a = 55) (hg : g < 6) : Cn E m_X9_of 1 [.ref (eB E + a), .int (nI g), .int (nI 2)] (stM σ a A) (pI (fun σ' r => σ' = stM σ a A ∧ r = nI (A (9 + 3 * g)))) := by
  have h := c_X9_of_w E a g 2 A σ ha hl hg (by decide)
  rwa [show 7 + 3 * g + 2 = 9 + 3 * g by omega] at h
theorem c_X9_his_0 (E : En) (a m : Nat) (A : Vec) (σ : Sg) (ha : kd a = 10) (hl : ln a = 55) (hm : m < 5) : Cn E m_X9_his 1 [.ref (eB E + a), .int (nI m), .int (nI 0)] (stM σ a A) (pI (fun σ' r => σ' = stM σ a A ∧ r = nI (A (25 + 6 * m)))) := by
  have h := c_X9_his_w E a m 0 A σ ha hl hm (by decide)
  rwa [show 25 + 6 * m + 0 = 25 + 6 * m by omega] at h
theorem c_X9_hisP_0 (E : En) (a m : Nat) (A : Vec) (q : Pn) (σ : Sg) (ha : kd a = 10) (hl : ln a = 55) (hm : m < 5) : Cn E m_X9_his 1 [.ref (eB E + a), .int (nI m), .int (nI 0)] (stM σ a (setP A m q)) (pI (fun σ' r => σ' = stM σ a (setP A m q) ∧ r = nI q.1)) := by
  have h := c_X9_his_0 E a m (setP A m q) σ ha hl hm
  rwa [setP_0] at h
theorem c_X9_beP_0 (E : En) (a m v : Nat) (A : Vec) (q : Pn) (σ : Sg) (ha : kd a = 10) (hl : ln a = 55) (hm : m < 5) : Cn E m_X9_be 1 [.ref (eB E + a), .int (nI m), .int (nI 0), .int (nI v)] (stM σ a (setP A m q)) (pV (fun σ' => σ' = stM σ a (setP A m (v, q.2)))) := by
  have h := c_X9_be_w E a m 0 v (setP A m q) σ ha hl hm (by decide)
  rwa [show 25 + 6 * m + 0 = 25 + 6 * m by omega, setP_u0] at h
theorem c_X9_his_1 (E : En) (a m : Nat) (A : Vec) (σ : Sg) (ha : kd a = 10) (hl : ln a = 55) (hm : m < 5) : Cn E m_X9_his 1 [.ref (eB E + a), .int (nI m), .int (nI 1)] (stM σ a A) (pI (fun σ' r => σ' = stM σ a A ∧ r = nI (A (26 + 6 * m)))) := by
  have h := c_X9_his_w E a m 1 A σ ha hl hm (by decide)
  rwa [show 25 + 6 * m + 1 = 26 + 6 * m by omega] at h
theorem c_X9_hisP_1 (E : En) (a m : Nat) (A : Vec) (q : Pn) (σ : Sg) (ha : kd a = 10) (hl : ln a = 55) (hm : m < 5) : Cn E m_X9_his 1 [.ref (eB E + a), .int (nI m), .int (nI 1)] (stM σ a (setP A m q)) (pI (fun σ' r => σ' = stM σ a (setP A m q) ∧ r = nI q.2.1)) := by
  have h := c_X9_his_1 E a m (setP A m q) σ ha hl hm
  rwa [setP_1] at h
theorem c_X9_beP_1 (E : En) (a m v : Nat) (A : Vec) (q : Pn) (σ : Sg) (ha : kd a = 10) (hl : ln a = 55) (hm : m < 5) : Cn E m_X9_be 1 [.ref (eB E + a), .int (nI m), .int (nI 1), .int (nI v)] (stM σ a (setP A m q)) (pV (fun σ' => σ' = stM σ a (setP A m (q.1, v, q.2.2)))) := by
  have h := c_X9_be_w E a m 1 v (setP A m q) σ ha hl hm (by decide)
  rwa [show 25 + 6 * m + 1 = 26 + 6 * m by omega, setP_u1] at h
theorem c_X9_his_2 (E : En) (a m : Nat) (A : Vec) (σ : Sg) (ha : kd a = 10) (hl : ln a = 55) (hm : m < 5) : Cn E m_X9_his 1 [.ref (eB E + a), .int (nI m), .int (nI 2)] (stM σ a A) (pI (fun σ' r => σ' = stM σ a A ∧ r = nI (A (27 + 6 * m)))) := by
  have h := c_X9_his_w E a m 2 A σ ha hl hm (by decide)
  rwa [show 25 + 6 * m + 2 = 27 + 6 * m by omega] at h
theorem c_X9_hisP_2 (E : En) (a m : Nat) (A : Vec) (q : Pn) (σ : Sg) (ha : kd a = 10) (hl : ln a = 55) (hm : m < 5) : Cn E m_X9_his 1 [.ref (eB E + a), .int (nI m), .int (nI 2)] (stM σ a (setP A m q)) (pI (fun σ' r => σ' = stM σ a (setP A m q) ∧ r = nI q.2.2.1)) := by
  have h := c_X9_his_2 E a m (setP A m q) σ ha hl hm
  rwa [setP_2] at h
theorem c_X9_beP_2 (E : En) (a m v : Nat) (A : Vec) (q : Pn) (σ : Sg) (ha : kd a = 10) (hl : ln a = 55) (hm : m < 5) : Cn E m_X9_be 1 [.ref (eB E + a), .int (nI m), .int (nI 2), .int (nI v)] (stM σ a (setP A m q)) (pV (fun σ' => σ' = stM σ a (setP A m (q.1, q.2.1, v, q.2.2.2)))) := by
  have h := c_X9_be_w E a m 2 v (setP A m q) σ ha hl hm (by decide)
  rwa [show 25 + 6 * m + 2 = 27 + 6 * m by omega, setP_u2] at h
theorem c_X9_his_3 (E : En) (a m : Nat) (A : Vec) (σ : Sg) (ha : kd a = 10) (hl : ln a = 55) (hm : m < 5) : Cn E m_X9_his 1 [.ref (eB E + a), .int (nI m), .int (nI 3)] (stM σ a A) (pI (fun σ' r => σ' = stM σ a A ∧ r = nI (A (28 + 6 * m)))) := by
  have h := c_X9_his_w E a m 3 A σ ha hl hm (by decide)
  rwa [show 25 + 6 * m + 3 = 28 + 6 * m by omega] at h
theorem c_X9_hisP_3 (E : En) (a m : Nat) (A : Vec) (q : Pn) (σ : Sg) (ha : kd a = 10) (hl : ln a = 55) (hm : m < 5) : Cn E m_X9_his 1 [.ref (eB E + a), .int (nI m), .int (nI 3)] (stM σ a (setP A m q)) (pI (fun σ' r => σ' = stM σ a (setP A m q) ∧ r = nI q.2.2.2.1)) := by
  have h := c_X9_his_3 E a m (setP A m q) σ ha hl hm
  rwa [setP_3] at h
theorem c_X9_beP_3 (E : En) (a m v : Nat) (A : Vec) (q : Pn) (σ : Sg) (ha : kd a = 10) (hl : ln a = 55) (hm : m < 5) : Cn E m_X9_be 1 [.ref (eB E + a), .int (nI m), .int (nI 3), .int (nI v)] (stM σ a (setP A m q)) (pV (fun σ' => σ' = stM σ a (setP A m (q.1, q.2.1, q.2.2.1, v, q.2.2.2.2)))) := by
  have h := c_X9_be_w E a m 3 v (setP A m q) σ ha hl hm (by decide)
  rwa [show 25 + 6 * m + 3 = 28 + 6 * m by omega, setP_u3] at h
theorem c_X9_his_4 (E : En) (a m : Nat) (A : Vec) (σ : Sg) (ha : kd a = 10) (hl : ln a = 55) (hm : m < 5) : Cn E m_X9_his 1 [.ref (eB E + a), .int (nI m), .int (nI 4)] (stM σ a A) (pI (fun σ' r => σ' = stM σ a A ∧ r = nI (A (29 + 6 * m)))) := by
  have h := c_X9_his_w E a m 4 A σ ha hl hm (by decide)
  rwa [show 25 + 6 * m + 4 = 29 + 6 * m by omega] at h
theorem c_X9_hisP_4 (E : En) (a m : Nat) (A : Vec) (q : Pn) (σ : Sg) (ha : kd a = 10) (hl : ln a = 55) (hm : m < 5) : Cn E m_X9_his 1 [.ref (eB E + a), .int (nI m), .int (nI 4)] (stM σ a (setP A m q)) (pI (fun σ' r => σ' = stM σ a (setP A m q) ∧ r = nI q.2.2.2.2.1)) := by
  have h := c_X9_his_4 E a m (setP A m q) σ ha hl hm
  rwa [setP_4] at h
theorem c_X9_beP_4 (E : En) (a m v : Nat) (A : Vec) (q : Pn) (σ : Sg) (ha : kd a = 10) (hl : ln a = 55) (hm : m < 5) : Cn E m_X9_be 1 [.ref (eB E + a), .int (nI m), .int (nI 4), .int (nI v)] (stM σ a (setP A m q)) (pV (fun σ' => σ' = stM σ a (setP A m (q.1, q.2.1, q.2.2.1, q.2.2.2.1, v, q.2.2.2.2.2)))) := by
  have h := c_X9_be_w E a m 4 v (setP A m q) σ ha hl hm (by decide)
  rwa [show 25 + 6 * m + 4 = 29 + 6 * m by omega, setP_u4] at h
theorem c_X9_his_5 (E : En) (a m : Nat) (A : Vec) (σ : Sg) (ha : kd a = 10) (hl : ln a = 55) (hm : m < 5) : Cn E m_X9_his 1 [.ref (eB E + a), .int (nI m), .int (nI 5)] (stM σ a A) (pI (fun σ' r => σ' = stM σ a A ∧ r = nI (A (30 + 6 * m)))) := by
  have h := c_X9_his_w E a m 5 A σ ha hl hm (by decide)
  rwa [show 25 + 6 * m + 5 = 30 + 6 * m by omega] at h
theorem c_X9_hisP_5 (E : En) (a m : Nat) (A : Vec) (q : Pn) (σ : Sg) (ha : kd a = 10) (hl : ln a = 55) (hm : m < 5) : Cn E m_X9_his 1 [.ref (eB E + a), .int (nI m), .int (nI 5)] (stM σ a (setP A m q)) (pI (fun σ' r => σ' = stM σ a (setP A m q) ∧ r = nI q.2.2.2.2.2)) := by
  have h := c_X9_his_5 E a m (setP A m q) σ ha hl hm
  rwa [setP_5] at h
theorem c_X9_beP_5 (E : En) (a m v : Nat) (A : Vec) (q : Pn) (σ : Sg) (ha : kd a = 10) (hl : ln a = 55) (hm : m < 5) : Cn E m_X9_be 1 [.ref (eB E + a), .int (nI m), .int (nI 5), .int (nI v)] (stM σ a (setP A m q)) (pV (fun σ' => σ' = stM σ a (setP A m (q.1, q.2.1, q.2.2.1, q.2.2.2.1, q.2.2.2.2.1, v)))) := by
  have h := c_X9_be_w E a m 5 v (setP A m q) σ ha hl hm (by decide)
  rwa [show 25 + 6 * m + 5 = 30 + 6 * m by omega, setP_u5] at h

theorem c_X9_ofR_0 (E : En) (a g : Nat) (A : Vec) (σ : Sg) (ha : kd a = 10) (hl : ln a = 55) (hM : RepM σ a A) (hg : g < 6) : Cn E m_X9_of 1 [.ref (eB E + a), .int (nI g), .int (nI 0)] σ (pI (fun σ' r => σ' = σ ∧ r = nI (A (7 + 3 * g)))) := by
  have h := c_X9_of_0 E a g A σ ha hl hg
  rwa [hM.st] at h
theorem c_X9_ofR_1 (E : En) (a g : Nat) (A : Vec) (σ : Sg) (ha : kd a = 10) (hl : ln a = 55) (hM : RepM σ a A) (hg : g < 6) : Cn E m_X9_of 1 [.ref (eB E + a), .int (nI g), .int (nI 1)] σ (pI (fun σ' r => σ' = σ ∧ r = nI (A (8 + 3 * g)))) := by
  have h := c_X9_of_1 E a g A σ ha hl hg
  rwa [hM.st] at h
theorem c_X9_ofR_2 (E : En) (a g : Nat) (A : Vec) (σ : Sg) (ha : kd a = 10) (hl : ln a = 55) (hM : RepM σ a A) (hg : g < 6) : Cn E m_X9_of 1 [.ref (eB E + a), .int (nI g), .int (nI 2)] σ (pI (fun σ' r => σ' = σ ∧ r = nI (A (9 + 3 * g)))) := by
  have h := c_X9_of_2 E a g A σ ha hl hg
  rwa [hM.st] at h
theorem c_X9_hisR_0 (E : En) (a m : Nat) (A : Vec) (σ : Sg) (ha : kd a = 10) (hl : ln a = 55) (hM : RepM σ a A) (hm : m < 5) : Cn E m_X9_his 1 [.ref (eB E + a), .int (nI m), .int (nI 0)] σ (pI (fun σ' r => σ' = σ ∧ r = nI (A (25 + 6 * m)))) := by
  have h := c_X9_his_0 E a m A σ ha hl hm
  rwa [hM.st] at h
theorem c_X9_hisR_1 (E : En) (a m : Nat) (A : Vec) (σ : Sg) (ha : kd a = 10) (hl : ln a = 55) (hM : RepM σ a A) (hm : m < 5) : Cn E m_X9_his 1 [.ref (eB E + a), .int (nI m), .int (nI 1)] σ (pI (fun σ' r => σ' = σ ∧ r = nI (A (26 + 6 * m)))) := by
  have h := c_X9_his_1 E a m A σ ha hl hm
  rwa [hM.st] at h
theorem c_X9_hisR_2 (E : En) (a m : Nat) (A : Vec) (σ : Sg) (ha : kd a = 10) (hl : ln a = 55) (hM : RepM σ a A) (hm : m < 5) : Cn E m_X9_his 1 [.ref (eB E + a), .int (nI m), .int (nI 2)] σ (pI (fun σ' r => σ' = σ ∧ r = nI (A (27 + 6 * m)))) := by
  have h := c_X9_his_2 E a m A σ ha hl hm
  rwa [hM.st] at h
theorem c_X9_hisR_3 (E : En) (a m : Nat) (A : Vec) (σ : Sg) (ha : kd a = 10) (hl : ln a = 55) (hM : RepM σ a A) (hm : m < 5) : Cn E m_X9_his 1 [.ref (eB E + a), .int (nI m), .int (nI 3)] σ (pI (fun σ' r => σ' = σ ∧ r = nI (A (28 + 6 * m)))) := by
  have h := c_X9_his_3 E a m A σ ha hl hm
  rwa [hM.st] at h
theorem c_X9_hisR_4 (E : En) (a m : Nat) (A : Vec) (σ : Sg) (ha : kd a = 10) (hl : ln a = 55) (hM : RepM σ a A) (hm : m < 5) : Cn E m_X9_his 1 [.ref (eB E + a), .int (nI m), .int (nI 4)] σ (pI (fun σ' r => σ' = σ ∧ r = nI (A (29 + 6 * m)))) := by
  have h := c_X9_his_4 E a m A σ ha hl hm
  rwa [hM.st] at h
theorem c_X9_hisR_5 (E : En) (a m : Nat) (A : Vec) (σ : Sg) (ha : kd a = 10) (hl : ln a = 55) (hM : RepM σ a A) (hm : m < 5) : Cn E m_X9_his 1 [.ref (eB E + a), .int (nI m), .int (nI 5)] σ (pI (fun σ' r => σ' = σ ∧ r = nI (A (30 + 6 * m)))) := by
  have h := c_X9_his_5 E a m A σ ha hl hm
  rwa [hM.st] at h
theorem c_X9_hungryR (E : En) (a : Nat) (A : Vec) (σ : Sg) (ha : kd a = 10) (hl : ln a = 55) (hM : RepM σ a A) (hp5 : A 1 ≤ 5) : Cn E m_X9_hungry 2 [.ref (eB E + a)] σ (pI (fun σ' r => σ' = σ ∧ r = nI (hung A))) := by
  have h := c_X9_hungry E a A σ ha hl hp5
  rwa [hM.st] at h
set_option maxRecDepth 100000 in
set_option maxHeartbeats 4000000 in
theorem c_X9_isThere (E : En) (A : Vec) (σ : Sg) (hM : RepM σ 296 A) (h6 : A 0 ≤ 6) : Cn E m_X9_isThere 1 [.ref (eB E + 292)] σ (pI (fun σ' r => σ' = σ ∧ r = nI (if A 0 = 0 then 0 else 1))) := by
  refine Cn.of [some (.ref (eB E + 292))] (by decide) (Nat.le_of_ble_eq_true rfl) rfl ?_
  refine V_aload_n e_X9_isThere_0 rfl rfl ?_
  refine V_getr (r := 296) e_X9_isThere_1 F_X9_shore f_X9_19 rfl rfl ?_
  refine V_iconst (v := nI 0) e_X9_isThere_4 (by decide) ?_
  refine V_ialdv (v := nI (A 0)) (j := 0) e_X9_isThere_5 rfl rfl (by decide) (hM 0 (by omega)) ?_
  refine V_if_le (tgt := 13) e_X9_isThere_6 (by decide) (fun c1 => ?_) (fun c1 => ?_)
  · have d1 : A 0 ≤ 0 := nq_le (by omega) (by omega) c1
    refine V_iconst (v := nI 0) e_X9_isThere_13 (by decide) ?_
    exact V_zret e_X9_isThere_14 rfl (by first | exact Or.inl nI_0 | exact Or.inr rfl | assumption) (⟨rfl, by congr 1; split <;> omega⟩)
  · have d1 : ¬ A 0 ≤ 0 := nq_nle (by omega) (by omega) c1
    refine V_iconst (v := nI 1) e_X9_isThere_9 (by decide) ?_
    refine V_goto (tgt := 14) e_X9_isThere_10 (by decide) ?_
    exact V_zret e_X9_isThere_14 rfl (by first | exact Or.inl nI_0 | exact Or.inr rfl | assumption) (⟨rfl, by congr 1; split <;> omega⟩)
set_option maxRecDepth 100000 in
set_option maxHeartbeats 4000000 in
theorem c_X9_isGate (E : En) (x : Int32) (A : Vec) (σ : Sg) (hM : RepM σ 296 A) : Cn E m_X9_isGate 2 [.ref (eB E + 292), .int x] σ (pI (fun σ' r => σ' = σ ∧ r = wi x (nI 0) (nI (A 0) - nI 1))) := by
  refine Cn.of [some (.ref (eB E + 292)), some (.int x)] (by decide) (Nat.le_of_ble_eq_true rfl) rfl ?_
  refine V_iload_n e_X9_isGate_0 rfl rfl ?_
  refine V_i2l e_X9_isGate_1 ?_
  refine V_lconst (v := lN 0) e_X9_isGate_2 (by decide) ?_
  refine V_aload_n e_X9_isGate_3 rfl rfl ?_
  refine V_getr (r := 296) e_X9_isGate_4 F_X9_shore f_X9_19 rfl rfl ?_
  refine V_iconst (v := nI 0) e_X9_isGate_7 (by decide) ?_
  refine V_ialdv (v := nI (A 0)) (j := 0) e_X9_isGate_8 rfl rfl (by decide) (hM 0 (by omega)) ?_
  refine V_iconst (v := nI 1) e_X9_isGate_9 (by decide) ?_
  refine V_isub e_X9_isGate_10 ?_
  refine V_i2l e_X9_isGate_11 ?_
  refine V_csIe (av := [.long x.toInt64, .long (lN 0), .long (((nI (A 0)) - (nI 1)).toInt64)]) (st := []) e_X9_isGate_12 (c_X9_inN E x (nI 0) ((nI (A 0)) - (nI 1)) (lN 0) (((nI (A 0)) - (nI 1)).toInt64) σ (nI_l (by omega)) (rfl)) l_X9_63 S_X9_in (rm_ok (by decide) (by decide)) rfl rfl (Nat.le_of_ble_eq_true rfl) ?_
  exact V_zret e_X9_isGate_15 rfl (wi01 _ _ _) (⟨rfl, rfl⟩)
set_option maxRecDepth 100000 in
set_option maxHeartbeats 4000000 in
theorem c_X9_isMan (E : En) (x : Int32) (A : Vec) (σ : Sg) (hM : RepM σ 296 A) : Cn E m_X9_isMan 2 [.ref (eB E + 292), .int x] σ (pI (fun σ' r => σ' = σ ∧ r = wi x (nI 0) (nI (A 1) - nI 1))) := by
  refine Cn.of [some (.ref (eB E + 292)), some (.int x)] (by decide) (Nat.le_of_ble_eq_true rfl) rfl ?_
  refine V_iload_n e_X9_isMan_0 rfl rfl ?_
  refine V_i2l e_X9_isMan_1 ?_
  refine V_lconst (v := lN 0) e_X9_isMan_2 (by decide) ?_
  refine V_aload_n e_X9_isMan_3 rfl rfl ?_
  refine V_getr (r := 296) e_X9_isMan_4 F_X9_shore f_X9_19 rfl rfl ?_
  refine V_iconst (v := nI 1) e_X9_isMan_7 (by decide) ?_
  refine V_ialdv (v := nI (A 1)) (j := 1) e_X9_isMan_8 rfl rfl (by decide) (hM 1 (by omega)) ?_
  refine V_iconst (v := nI 1) e_X9_isMan_9 (by decide) ?_
  refine V_isub e_X9_isMan_10 ?_
  refine V_i2l e_X9_isMan_11 ?_
  refine V_csIe (av := [.long x.toInt64, .long (lN 0), .long (((nI (A 1)) - (nI 1)).toInt64)]) (st := []) e_X9_isMan_12 (c_X9_inN E x (nI 0) ((nI (A 1)) - (nI 1)) (lN 0) (((nI (A 1)) - (nI 1)).toInt64) σ (nI_l (by omega)) (rfl)) l_X9_63 S_X9_in (rm_ok (by decide) (by decide)) rfl rfl (Nat.le_of_ble_eq_true rfl) ?_
  exact V_zret e_X9_isMan_15 rfl (wi01 _ _ _) (⟨rfl, rfl⟩)
set_option maxRecDepth 100000 in
set_option maxHeartbeats 4000000 in
theorem lp_X9_those (E : En) (A : Vec) (g i : Nat) (σ : Sg) (hM : RepM σ 296 A) (hF : WF A) (h5 : A 1 ≤ 5) (hg : g < 6) (hi : i ≤ 1) : ∀ (mm : Nat) (p : Nat), A 1 - p = mm → (p ≤ A 1) → V E m_X9_those (kM E 2 (pI (fun σ' r => σ' = σ ∧ r = nI (mkN (atF A g i) (A 1))))) 5 [some (.ref (eB E + 292)), some (.int (nI g)), some (.int (nI i)), some (.int (nI (mkN (atF A g i) p))), some (.int (nI p))] [] σ := by
  intro mm
  induction mm using Nat.strongRecOn with
  | ind mm ih =>
    intro p hmm hp
    refine V_iload e_X9_those_5 rfl ?_
    refine V_aload_n e_X9_those_7 rfl rfl ?_
    refine V_getr (r := 296) e_X9_those_8 F_X9_shore f_X9_19 rfl rfl ?_
    refine V_iconst (v := nI 1) e_X9_those_11 (by decide) ?_
    refine V_ialdv (v := nI (A 1)) (j := 1) e_X9_those_12 rfl rfl (by decide) (hM 1 (by omega)) ?_
    refine V_icmp_ge (tgt := 61) e_X9_those_13 (by decide) (fun c1 => ?_) (fun c1 => ?_)
    · have d1 : A 1 ≤ p := nq_le (by omega) (by omega) c1
      refine V_iload_n e_X9_those_61 rfl rfl ?_
      exact V_iret e_X9_those_62 rfl (⟨rfl, by rw [show p = A 1 by omega]⟩)
    · have d1 : ¬ A 1 ≤ p := nq_nle (by omega) (by omega) c1
      obtain ⟨w1, w2, w3, w4, w5, w6⟩ := hF.per (show p < A 1 by omega)
      have hG6 := hF.1.2.1
      refine V_iload_n e_X9_those_16 rfl rfl ?_
      refine V_aload_n e_X9_those_17 rfl rfl ?_
      refine V_getr (r := 296) e_X9_those_18 F_X9_shore f_X9_19 rfl rfl ?_
      refine V_iload e_X9_those_21 rfl ?_
      refine V_iconst (v := nI 0) e_X9_those_23 (by decide) ?_
      refine V_csIe (av := [.ref (eB E + 296), .int (nI p), .int (nI 0)]) (st := [.int (nI (mkN (atF A g i) p))]) e_X9_those_24 (c_X9_hisR_0 E 296 p A σ rfl rfl hM (by omega)) l_X9_166 S_X9_his (rm_ok (by decide) (by decide)) rfl rfl (Nat.le_of_ble_eq_true rfl) ?_
      refine V_iload_n e_X9_those_27 rfl rfl ?_
      refine V_icmp_ne (tgt := 52) e_X9_those_28 (by decide) (fun c2 => ?_) (fun c2 => ?_)
      · have d2 : ¬ A (25 + 6 * p) = g := nq_ne (by omega) (by omega) c2
        refine V_iconst (v := nI 0) e_X9_those_52 (by decide) ?_
        refine V_iorN (z := nI ((mkN (atF A g i) p) ||| 0)) e_X9_those_53 (lorI _ _) ?_
        refine V_istore_n (L' := [some (.ref (eB E + 292)), some (.int (nI g)), some (.int (nI i)), some (.int (nI ((mkN (atF A g i) p) ||| 0))), some (.int (nI p))]) e_X9_those_54 rfl rfl ?_
        refine V_iinc (v := nI (p + 1)) (L' := [some (.ref (eB E + 292)), some (.int (nI g)), some (.int (nI i)), some (.int (nI ((mkN (atF A g i) p) ||| 0))), some (.int (nI (p + 1)))]) e_X9_those_55 rfl (nI_add _ 1) rfl ?_
        refine V_goto (tgt := 5) e_X9_those_58 (by decide) ?_
        rw [show (mkN (atF A g i) p) ||| 0 = mkN (atF A g i) (p + 1) from (by rw [mkN]; rw [atF]; (first | rw [if_pos d2] | rw [if_neg d2] | skip))]; exact ih (A 1 - (p + 1)) (by omega) (p + 1) rfl (by omega)
      · have d2 : A (25 + 6 * p) = g := nq_eq (by omega) (by omega) c2
        refine V_aload_n e_X9_those_31 rfl rfl ?_
        refine V_getr (r := 296) e_X9_those_32 F_X9_shore f_X9_19 rfl rfl ?_
        refine V_iload e_X9_those_35 rfl ?_
        refine V_iconst (v := nI 1) e_X9_those_37 (by decide) ?_
        refine V_csIe (av := [.ref (eB E + 296), .int (nI p), .int (nI 1)]) (st := [.int (nI (mkN (atF A g i) p))]) e_X9_those_38 (c_X9_hisR_1 E 296 p A σ rfl rfl hM (by omega)) l_X9_166 S_X9_his (rm_ok (by decide) (by decide)) rfl rfl (Nat.le_of_ble_eq_true rfl) ?_
        refine V_iload_n e_X9_those_41 rfl rfl ?_
        refine V_icmp_ne (tgt := 52) e_X9_those_42 (by decide) (fun c3 => ?_) (fun c3 => ?_)
        · have d3 : ¬ A (26 + 6 * p) = i := nq_ne (by omega) (by omega) c3
          refine V_iconst (v := nI 0) e_X9_those_52 (by decide) ?_
          refine V_iorN (z := nI ((mkN (atF A g i) p) ||| 0)) e_X9_those_53 (lorI _ _) ?_
          refine V_istore_n (L' := [some (.ref (eB E + 292)), some (.int (nI g)), some (.int (nI i)), some (.int (nI ((mkN (atF A g i) p) ||| 0))), some (.int (nI p))]) e_X9_those_54 rfl rfl ?_
          refine V_iinc (v := nI (p + 1)) (L' := [some (.ref (eB E + 292)), some (.int (nI g)), some (.int (nI i)), some (.int (nI ((mkN (atF A g i) p) ||| 0))), some (.int (nI (p + 1)))]) e_X9_those_55 rfl (nI_add _ 1) rfl ?_
          refine V_goto (tgt := 5) e_X9_those_58 (by decide) ?_
          rw [show (mkN (atF A g i) p) ||| 0 = mkN (atF A g i) (p + 1) from (by rw [mkN]; rw [atF]; (first | rw [if_pos d2] | rw [if_neg d2] | skip); (first | rw [if_pos d3] | rw [if_neg d3] | skip))]; exact ih (A 1 - (p + 1)) (by omega) (p + 1) rfl (by omega)
        · have d3 : A (26 + 6 * p) = i := nq_eq (by omega) (by omega) c3
          refine V_iconst (v := nI 1) e_X9_those_45 (by decide) ?_
          refine V_iload e_X9_those_46 rfl ?_
          refine V_ishlN (z := nI (2 ^ p)) e_X9_those_48 (shl1 (by omega)) ?_
          refine V_goto (tgt := 53) e_X9_those_49 (by decide) ?_
          refine V_iorN (z := nI ((mkN (atF A g i) p) ||| (2 ^ p))) e_X9_those_53 (lorI _ _) ?_
          refine V_istore_n (L' := [some (.ref (eB E + 292)), some (.int (nI g)), some (.int (nI i)), some (.int (nI ((mkN (atF A g i) p) ||| (2 ^ p)))), some (.int (nI p))]) e_X9_those_54 rfl rfl ?_
          refine V_iinc (v := nI (p + 1)) (L' := [some (.ref (eB E + 292)), some (.int (nI g)), some (.int (nI i)), some (.int (nI ((mkN (atF A g i) p) ||| (2 ^ p)))), some (.int (nI (p + 1)))]) e_X9_those_55 rfl (nI_add _ 1) rfl ?_
          refine V_goto (tgt := 5) e_X9_those_58 (by decide) ?_
          rw [show (mkN (atF A g i) p) ||| (2 ^ p) = mkN (atF A g i) (p + 1) from (by rw [mkN]; rw [atF]; (first | rw [if_pos d2] | rw [if_neg d2] | skip); (first | rw [if_pos d3] | rw [if_neg d3] | skip))]; exact ih (A 1 - (p + 1)) (by omega) (p + 1) rfl (by omega)
set_option maxRecDepth 100000 in
set_option maxHeartbeats 4000000 in
theorem c_X9_those (E : En) (A : Vec) (g i : Nat) (σ : Sg) (hM : RepM σ 296 A) (hF : WF A) (h5 : A 1 ≤ 5) (hg : g < 6) (hi : i ≤ 1) : Cn E m_X9_those 2 [.ref (eB E + 292), .int (nI g), .int (nI i)] σ (pI (fun σ' r => σ' = σ ∧ r = nI (mkN (atF A g i) (A 1)))) := by
  refine Cn.of [some (.ref (eB E + 292)), some (.int (nI g)), some (.int (nI i)), none, none] (by decide) (Nat.le_of_ble_eq_true rfl) rfl ?_
  refine V_iconst (v := nI 0) e_X9_those_0 (by decide) ?_
  refine V_istore_n (L' := [some (.ref (eB E + 292)), some (.int (nI g)), some (.int (nI i)), some (.int (nI 0)), none]) e_X9_those_1 rfl rfl ?_
  refine V_iconst (v := nI 0) e_X9_those_2 (by decide) ?_
  refine V_istore (L' := [some (.ref (eB E + 292)), some (.int (nI g)), some (.int (nI i)), some (.int (nI 0)), some (.int (nI 0))]) e_X9_those_3 rfl ?_
  exact lp_X9_those E A g i σ hM hF h5 hg hi (A 1) 0 rfl (by omega)
set_option maxRecDepth 100000 in
set_option maxHeartbeats 4000000 in
theorem lp_X9_homesOf (E : En) (A : Vec) (g : Nat) (σ : Sg) (hM : RepM σ 296 A) (hF : WF A) (h5 : A 1 ≤ 5) (hg : g < 6) : ∀ (mm : Nat) (p : Nat), A 1 - p = mm → (p ≤ A 1) → V E m_X9_homesOf (kM E 2 (pI (fun σ' r => σ' = σ ∧ r = nI (mkN (ofF A g) (A 1))))) 4 [some (.ref (eB E + 292)), some (.int (nI g)), some (.int (nI (mkN (ofF A g) p))), some (.int (nI p))] [] σ := by
  intro mm
  induction mm using Nat.strongRecOn with
  | ind mm ih =>
    intro p hmm hp
    refine V_iload_n e_X9_homesOf_4 rfl rfl ?_
    refine V_aload_n e_X9_homesOf_5 rfl rfl ?_
    refine V_getr (r := 296) e_X9_homesOf_6 F_X9_shore f_X9_19 rfl rfl ?_
    refine V_iconst (v := nI 1) e_X9_homesOf_9 (by decide) ?_
    refine V_ialdv (v := nI (A 1)) (j := 1) e_X9_homesOf_10 rfl rfl (by decide) (hM 1 (by omega)) ?_
    refine V_icmp_ge (tgt := 46) e_X9_homesOf_11 (by decide) (fun c1 => ?_) (fun c1 => ?_)
    · have d1 : A 1 ≤ p := nq_le (by omega) (by omega) c1
      refine V_iload_n e_X9_homesOf_46 rfl rfl ?_
      exact V_iret e_X9_homesOf_47 rfl (⟨rfl, by rw [show p = A 1 by omega]⟩)
    · have d1 : ¬ A 1 ≤ p := nq_nle (by omega) (by omega) c1
      obtain ⟨w1, w2, w3, w4, w5, w6⟩ := hF.per (show p < A 1 by omega)
      have hb9 := bitN_le (A (27 + 6 * p)) g
      refine V_iload_n e_X9_homesOf_14 rfl rfl ?_
      refine V_aload_n e_X9_homesOf_15 rfl rfl ?_
      refine V_getr (r := 296) e_X9_homesOf_16 F_X9_shore f_X9_19 rfl rfl ?_
      refine V_iload_n e_X9_homesOf_19 rfl rfl ?_
      refine V_iconst (v := nI 2) e_X9_homesOf_20 (by decide) ?_
      refine V_csIe (av := [.ref (eB E + 296), .int (nI p), .int (nI 2)]) (st := [.int (nI (mkN (ofF A g) p))]) e_X9_homesOf_21 (c_X9_hisR_2 E 296 p A σ rfl rfl hM (by omega)) l_X9_166 S_X9_his (rm_ok (by decide) (by decide)) rfl rfl (Nat.le_of_ble_eq_true rfl) ?_
      refine V_iload_n e_X9_homesOf_24 rfl rfl ?_
      refine V_csIe (av := [.int (nI (A (27 + 6 * p))), .int (nI g)]) (st := [.int (nI (mkN (ofF A g) p))]) e_X9_homesOf_25 (c_X9_has E (A (27 + 6 * p)) g σ (by omega) (by omega)) l_X9_158 S_X9_has (rm_ok (by decide) (by decide)) rfl rfl (Nat.le_of_ble_eq_true rfl) ?_
      refine V_if_eq (tgt := 37) e_X9_homesOf_28 (by decide) (fun c2 => ?_) (fun c2 => ?_)
      · have d2 : bitN (A (27 + 6 * p)) g = 0 := nq_eq (by omega) (by omega) c2
        refine V_iconst (v := nI 0) e_X9_homesOf_37 (by decide) ?_
        refine V_iorN (z := nI ((mkN (ofF A g) p) ||| 0)) e_X9_homesOf_38 (lorI _ _) ?_
        refine V_istore_n (L' := [some (.ref (eB E + 292)), some (.int (nI g)), some (.int (nI ((mkN (ofF A g) p) ||| 0))), some (.int (nI p))]) e_X9_homesOf_39 rfl rfl ?_
        refine V_iinc (v := nI (p + 1)) (L' := [some (.ref (eB E + 292)), some (.int (nI g)), some (.int (nI ((mkN (ofF A g) p) ||| 0))), some (.int (nI (p + 1)))]) e_X9_homesOf_40 rfl (nI_add _ 1) rfl ?_
        refine V_goto (tgt := 4) e_X9_homesOf_43 (by decide) ?_
        rw [show (mkN (ofF A g) p) ||| 0 = mkN (ofF A g) (p + 1) from (by rw [mkN]; rw [ofF]; congr 1; have hb9 := bitN_le (A (27 + 6 * p)) g; rcases (show bitN (A (27 + 6 * p)) g = 0 ∨ bitN (A (27 + 6 * p)) g = 1 by omega) with h | h <;> first | (exfalso; omega) | (rw [h, Nat.zero_mul]) | (rw [h, Nat.one_mul]))]; exact ih (A 1 - (p + 1)) (by omega) (p + 1) rfl (by omega)
      · have d2 : ¬ bitN (A (27 + 6 * p)) g = 0 := nq_ne (by omega) (by omega) c2
        refine V_iconst (v := nI 1) e_X9_homesOf_31 (by decide) ?_
        refine V_iload_n e_X9_homesOf_32 rfl rfl ?_
        refine V_ishlN (z := nI (2 ^ p)) e_X9_homesOf_33 (shl1 (by omega)) ?_
        refine V_goto (tgt := 38) e_X9_homesOf_34 (by decide) ?_
        refine V_iorN (z := nI ((mkN (ofF A g) p) ||| (2 ^ p))) e_X9_homesOf_38 (lorI _ _) ?_
        refine V_istore_n (L' := [some (.ref (eB E + 292)), some (.int (nI g)), some (.int (nI ((mkN (ofF A g) p) ||| (2 ^ p)))), some (.int (nI p))]) e_X9_homesOf_39 rfl rfl ?_
        refine V_iinc (v := nI (p + 1)) (L' := [some (.ref (eB E + 292)), some (.int (nI g)), some (.int (nI ((mkN (ofF A g) p) ||| (2 ^ p)))), some (.int (nI (p + 1)))]) e_X9_homesOf_40 rfl (nI_add _ 1) rfl ?_
        refine V_goto (tgt := 4) e_X9_homesOf_43 (by decide) ?_
        rw [show (mkN (ofF A g) p) ||| (2 ^ p) = mkN (ofF A g) (p + 1) from (by rw [mkN]; rw [ofF]; congr 1; have hb9 := bitN_le (A (27 + 6 * p)) g; rcases (show bitN (A (27 + 6 * p)) g = 0 ∨ bitN (A (27 + 6 * p)) g = 1 by omega) with h | h <;> first | (exfalso; omega) | (rw [h, Nat.zero_mul]) | (rw [h, Nat.one_mul]))]; exact ih (A 1 - (p + 1)) (by omega) (p + 1) rfl (by omega)
set_option maxRecDepth 100000 in
set_option maxHeartbeats 4000000 in
theorem c_X9_homesOf (E : En) (A : Vec) (g : Nat) (σ : Sg) (hM : RepM σ 296 A) (hF : WF A) (h5 : A 1 ≤ 5) (hg : g < 6) : Cn E m_X9_homesOf 2 [.ref (eB E + 292), .int (nI g)] σ (pI (fun σ' r => σ' = σ ∧ r = nI (mkN (ofF A g) (A 1)))) := by
  refine Cn.of [some (.ref (eB E + 292)), some (.int (nI g)), none, none] (by decide) (Nat.le_of_ble_eq_true rfl) rfl ?_
  refine V_iconst (v := nI 0) e_X9_homesOf_0 (by decide) ?_
  refine V_istore_n (L' := [some (.ref (eB E + 292)), some (.int (nI g)), some (.int (nI 0)), none]) e_X9_homesOf_1 rfl rfl ?_
  refine V_iconst (v := nI 0) e_X9_homesOf_2 (by decide) ?_
  refine V_istore_n (L' := [some (.ref (eB E + 292)), some (.int (nI g)), some (.int (nI 0)), some (.int (nI 0))]) e_X9_homesOf_3 rfl rfl ?_
  exact lp_X9_homesOf E A g σ hM hF h5 hg (A 1) 0 rfl (by omega)
set_option maxRecDepth 100000 in
set_option maxHeartbeats 4000000 in
theorem c_X9_kind (E : En) (x : Int32) (A : Vec) (σ : Sg) (hM : RepM σ 296 A) (hN : WN A) : Cn E m_X9_kind 12 [.ref (eB E + 292), .int x] σ (pI (fun σ' r => σ' = up2 σ 292 0 (nI 0) ∧ r = sKind A x)) := by
  have hNl := hN.le
  have hM1 : RepM (up2 σ 292 0 (nI 0)) 296 A := hM.fm Fm.th (by decide) (by decide)
  refine Cn.of [some (.ref (eB E + 292)), some (.int x)] (by decide) (Nat.le_of_ble_eq_true rfl) rfl ?_
  refine V_aload_n e_X9_kind_0 rfl rfl ?_
  refine V_iconst (v := nI 0) e_X9_kind_1 (by decide) ?_
  refine V_puti e_X9_kind_2 F_X9_thrown f_X9_53 rfl ?_
  refine V_aload_n e_X9_kind_5 rfl rfl ?_
  refine V_iload_n e_X9_kind_6 rfl rfl ?_
  refine V_cvIe (av := [.int x]) (st := []) e_X9_kind_7 (c_X9_isGate E x A (up2 σ 292 0 (nI 0)) hM1) l_X9_207 S_X9_isGate rfl (rm_ok (by decide) (by decide)) rfl rfl (Nat.le_of_ble_eq_true rfl) ?_
  refine V_if_eq (tgt := 25) e_X9_kind_10 (by decide) (fun c1 => ?_) (fun c1 => ?_)
  · refine V_ldc (v := (-1000001)) e_X9_kind_25 k_X9_73 ?_
    exact V_iret e_X9_kind_27 rfl (⟨rfl, by unfold sKind; (try unfold gIn); (first | rw [if_pos c1] | rw [if_neg c1] | skip); (try dsimp only); (repeat rw [ixN (by omega)]); try rfl⟩)
  · obtain ⟨g, hg, rfl⟩ := (wi_nat (by omega)).mp c1
    have hF : WF A := hN.wf (by omega)
    refine V_aload_n e_X9_kind_13 rfl rfl ?_
    refine V_getr (r := 296) e_X9_kind_14 F_X9_shore f_X9_19 rfl rfl ?_
    refine V_iload_n e_X9_kind_17 rfl rfl ?_
    refine V_iconst (v := nI 0) e_X9_kind_18 (by decide) ?_
    refine V_csIe (av := [.ref (eB E + 296), .int (nI g), .int (nI 0)]) (st := []) e_X9_kind_19 (c_X9_ofR_0 E 296 g A (up2 σ 292 0 (nI 0)) rfl rfl hM1 (by omega)) l_X9_162 S_X9_of (rm_ok (by decide) (by decide)) rfl rfl (Nat.le_of_ble_eq_true rfl) ?_
    refine V_goto (tgt := 27) e_X9_kind_22 (by decide) ?_
    exact V_iret e_X9_kind_27 rfl (⟨rfl, by unfold sKind; (try unfold gIn); (first | rw [if_pos c1] | rw [if_neg c1] | skip); (try dsimp only); (repeat rw [ixN (by omega)]); try rfl⟩)
set_option maxRecDepth 100000 in
set_option maxHeartbeats 4000000 in
theorem c_X9_homes (E : En) (x : Int32) (A : Vec) (σ : Sg) (hM : RepM σ 296 A) (hN : WN A) : Cn E m_X9_homes 12 [.ref (eB E + 292), .int x] σ (pI (fun σ' r => σ' = up2 σ 292 0 (nI 0) ∧ r = sHomes A x)) := by
  have hNl := hN.le
  have hM1 : RepM (up2 σ 292 0 (nI 0)) 296 A := hM.fm Fm.th (by decide) (by decide)
  refine Cn.of [some (.ref (eB E + 292)), some (.int x)] (by decide) (Nat.le_of_ble_eq_true rfl) rfl ?_
  refine V_aload_n e_X9_homes_0 rfl rfl ?_
  refine V_iconst (v := nI 0) e_X9_homes_1 (by decide) ?_
  refine V_puti e_X9_homes_2 F_X9_thrown f_X9_53 rfl ?_
  refine V_aload_n e_X9_homes_5 rfl rfl ?_
  refine V_iload_n e_X9_homes_6 rfl rfl ?_
  refine V_cvIe (av := [.int x]) (st := []) e_X9_homes_7 (c_X9_isGate E x A (up2 σ 292 0 (nI 0)) hM1) l_X9_207 S_X9_isGate rfl (rm_ok (by decide) (by decide)) rfl rfl (Nat.le_of_ble_eq_true rfl) ?_
  refine V_if_eq (tgt := 21) e_X9_homes_10 (by decide) (fun c1 => ?_) (fun c1 => ?_)
  · refine V_ldc (v := (-1000001)) e_X9_homes_21 k_X9_73 ?_
    exact V_iret e_X9_homes_23 rfl (⟨rfl, by unfold sHomes; (try unfold gIn); (first | rw [if_pos c1] | rw [if_neg c1] | skip); (try dsimp only); (repeat rw [ixN (by omega)]); try rfl⟩)
  · obtain ⟨g, hg, rfl⟩ := (wi_nat (by omega)).mp c1
    have hF : WF A := hN.wf (by omega)
    refine V_aload_n e_X9_homes_13 rfl rfl ?_
    refine V_iload_n e_X9_homes_14 rfl rfl ?_
    refine V_cvIe (av := [.int (nI g)]) (st := []) e_X9_homes_15 (c_X9_homesOf E A g (up2 σ 292 0 (nI 0)) hM1 hF hNl.2 (by omega)) l_X9_251 S_X9_homesOf rfl (rm_ok (by decide) (by decide)) rfl rfl (Nat.le_of_ble_eq_true rfl) ?_
    refine V_goto (tgt := 23) e_X9_homes_18 (by decide) ?_
    exact V_iret e_X9_homes_23 rfl (⟨rfl, by unfold sHomes; (try unfold gIn); (first | rw [if_pos c1] | rw [if_neg c1] | skip); (try dsimp only); (repeat rw [ixN (by omega)]); try rfl⟩)
set_option maxRecDepth 100000 in
set_option maxHeartbeats 4000000 in
theorem c_X9_gate (E : En) (x y : Int32) (A : Vec) (σ : Sg) (hM : RepM σ 296 A) (hN : WN A) : Cn E m_X9_gate 12 [.ref (eB E + 292), .int x, .int y] σ (pI (fun σ' r => σ' = up2 σ 292 0 (nI 0) ∧ r = sGate A x y)) := by
  have hNl := hN.le
  have hM1 : RepM (up2 σ 292 0 (nI 0)) 296 A := hM.fm Fm.th (by decide) (by decide)
  refine Cn.of [some (.ref (eB E + 292)), some (.int x), some (.int y)] (by decide) (Nat.le_of_ble_eq_true rfl) rfl ?_
  refine V_aload_n e_X9_gate_0 rfl rfl ?_
  refine V_iconst (v := nI 0) e_X9_gate_1 (by decide) ?_
  refine V_puti e_X9_gate_2 F_X9_thrown f_X9_53 rfl ?_
  refine V_aload_n e_X9_gate_5 rfl rfl ?_
  refine V_iload_n e_X9_gate_6 rfl rfl ?_
  refine V_cvIe (av := [.int x]) (st := []) e_X9_gate_7 (c_X9_isGate E x A (up2 σ 292 0 (nI 0)) hM1) l_X9_207 S_X9_isGate rfl (rm_ok (by decide) (by decide)) rfl rfl (Nat.le_of_ble_eq_true rfl) ?_
  refine V_if_ne (tgt := 16) e_X9_gate_10 (by decide) (fun c1 => ?_) (fun c1 => ?_)
  · obtain ⟨g, hg, rfl⟩ := (wi_nat (by omega)).mp c1
    have hF : WF A := hN.wf (by omega)
    have hA5 := hF.1.2.2.1
    have hb5 := bitN_le (A 5) g
    refine V_iload_n e_X9_gate_16 rfl rfl ?_
    rcases sw_c y 0 4 with ⟨j2, c3a, c3b, c3⟩ | c3
    · have c3d : j2 = 0 ∨ j2 = 1 ∨ j2 = 2 ∨ j2 = 3 ∨ j2 = 4 := by omega
      rcases c3d with rfl | rfl | rfl | rfl | rfl
      · refine V_tab (j := 0) (tgt := 52) e_X9_gate_17 c3 (by decide) (by decide +kernel) ?_
        refine V_aload_n e_X9_gate_52 rfl rfl ?_
        refine V_getr (r := 296) e_X9_gate_53 F_X9_shore f_X9_19 rfl rfl ?_
        refine V_iload_n e_X9_gate_56 rfl rfl ?_
        refine V_iconst (v := nI 1) e_X9_gate_57 (by decide) ?_
        refine V_csIe (av := [.ref (eB E + 296), .int (nI g), .int (nI 1)]) (st := []) e_X9_gate_58 (c_X9_ofR_1 E 296 g A (up2 σ 292 0 (nI 0)) rfl rfl hM1 (by omega)) l_X9_162 S_X9_of (rm_ok (by decide) (by decide)) rfl rfl (Nat.le_of_ble_eq_true rfl) ?_
        exact V_iret e_X9_gate_61 rfl (⟨rfl, by unfold sGate; (try unfold gIn); (first | rw [if_pos c1] | rw [if_neg c1] | skip); rw [c3, show swx (nI 0) 4 = 0 by decide]; (try dsimp only); (repeat rw [ixN (by omega)]); try (first | rfl | (congr 1; omega))⟩)
      · refine V_tab (j := 1) (tgt := 62) e_X9_gate_17 c3 (by decide) (by decide +kernel) ?_
        refine V_aload_n e_X9_gate_62 rfl rfl ?_
        refine V_getr (r := 296) e_X9_gate_63 F_X9_shore f_X9_19 rfl rfl ?_
        refine V_iload_n e_X9_gate_66 rfl rfl ?_
        refine V_iconst (v := nI 2) e_X9_gate_67 (by decide) ?_
        refine V_csIe (av := [.ref (eB E + 296), .int (nI g), .int (nI 2)]) (st := []) e_X9_gate_68 (c_X9_ofR_2 E 296 g A (up2 σ 292 0 (nI 0)) rfl rfl hM1 (by omega)) l_X9_162 S_X9_of (rm_ok (by decide) (by decide)) rfl rfl (Nat.le_of_ble_eq_true rfl) ?_
        exact V_iret e_X9_gate_71 rfl (⟨rfl, by unfold sGate; (try unfold gIn); (first | rw [if_pos c1] | rw [if_neg c1] | skip); rw [c3, show swx (nI 1) 4 = 1 by decide]; (try dsimp only); (repeat rw [ixN (by omega)]); try (first | rfl | (congr 1; omega))⟩)
      · refine V_tab (j := 2) (tgt := 72) e_X9_gate_17 c3 (by decide) (by decide +kernel) ?_
        refine V_aload_n e_X9_gate_72 rfl rfl ?_
        refine V_getr (r := 296) e_X9_gate_73 F_X9_shore f_X9_19 rfl rfl ?_
        refine V_iconst (v := nI 5) e_X9_gate_76 (by decide) ?_
        refine V_ialdv (v := nI (A 5)) (j := 5) e_X9_gate_77 rfl rfl (by decide) (hM1 5 (by omega)) ?_
        refine V_iload_n e_X9_gate_78 rfl rfl ?_
        refine V_csIe (av := [.int (nI (A 5)), .int (nI g)]) (st := []) e_X9_gate_79 (c_X9_has E (A 5) g (up2 σ 292 0 (nI 0)) (by omega) (by omega)) l_X9_158 S_X9_has (rm_ok (by decide) (by decide)) rfl rfl (Nat.le_of_ble_eq_true rfl) ?_
        refine V_if_eq (tgt := 89) e_X9_gate_82 (by decide) (fun c4 => ?_) (fun c4 => ?_)
        · have d4 : bitN (A 5) g = 0 := nq_eq (by omega) (by omega) c4
          refine V_iconst (v := nI 0) e_X9_gate_89 (by decide) ?_
          exact V_iret e_X9_gate_90 rfl (⟨rfl, by unfold sGate; (try unfold gIn); (first | rw [if_pos c1] | rw [if_neg c1] | skip); rw [c3, show swx (nI 2) 4 = 2 by decide]; (first | rw [if_pos d4] | rw [if_neg d4] | skip); (try dsimp only); (repeat rw [ixN (by omega)]); try (first | rfl | (congr 1; omega))⟩)
        · have d4 : ¬ bitN (A 5) g = 0 := nq_ne (by omega) (by omega) c4
          refine V_iconst (v := nI 1) e_X9_gate_85 (by decide) ?_
          refine V_goto (tgt := 90) e_X9_gate_86 (by decide) ?_
          exact V_iret e_X9_gate_90 rfl (⟨rfl, by unfold sGate; (try unfold gIn); (first | rw [if_pos c1] | rw [if_neg c1] | skip); rw [c3, show swx (nI 2) 4 = 2 by decide]; (first | rw [if_pos d4] | rw [if_neg d4] | skip); (try dsimp only); (repeat rw [ixN (by omega)]); try (first | rfl | (congr 1; omega))⟩)
      · refine V_tab (j := 3) (tgt := 91) e_X9_gate_17 c3 (by decide) (by decide +kernel) ?_
        refine V_aload_n e_X9_gate_91 rfl rfl ?_
        refine V_iload_n e_X9_gate_92 rfl rfl ?_
        refine V_iconst (v := nI 1) e_X9_gate_93 (by decide) ?_
        refine V_cvIe (av := [.int (nI g), .int (nI 1)]) (st := []) e_X9_gate_94 (c_X9_those E A g 1 (up2 σ 292 0 (nI 0)) hM1 hF hNl.2 (by omega) (by omega)) l_X9_214 S_X9_those rfl (rm_ok (by decide) (by decide)) rfl rfl (Nat.le_of_ble_eq_true rfl) ?_
        exact V_iret e_X9_gate_97 rfl (⟨rfl, by unfold sGate; (try unfold gIn); (first | rw [if_pos c1] | rw [if_neg c1] | skip); rw [c3, show swx (nI 3) 4 = 3 by decide]; (try dsimp only); (repeat rw [ixN (by omega)]); try (first | rfl | (congr 1; omega))⟩)
      · refine V_tab (j := 4) (tgt := 98) e_X9_gate_17 c3 (by decide) (by decide +kernel) ?_
        refine V_aload_n e_X9_gate_98 rfl rfl ?_
        refine V_iload_n e_X9_gate_99 rfl rfl ?_
        refine V_iconst (v := nI 0) e_X9_gate_100 (by decide) ?_
        refine V_cvIe (av := [.int (nI g), .int (nI 0)]) (st := []) e_X9_gate_101 (c_X9_those E A g 0 (up2 σ 292 0 (nI 0)) hM1 hF hNl.2 (by omega) (by omega)) l_X9_214 S_X9_those rfl (rm_ok (by decide) (by decide)) rfl rfl (Nat.le_of_ble_eq_true rfl) ?_
        exact V_iret e_X9_gate_104 rfl (⟨rfl, by unfold sGate; (try unfold gIn); (first | rw [if_pos c1] | rw [if_neg c1] | skip); rw [c3, show swx (nI 4) 4 = 4 by decide]; (try dsimp only); (repeat rw [ixN (by omega)]); try (first | rfl | (congr 1; omega))⟩)
    · refine V_tabo (tgt := 105) e_X9_gate_17 c3 (by decide) ?_
      refine V_ldc (v := (-1000001)) e_X9_gate_105 k_X9_73 ?_
      exact V_iret e_X9_gate_107 rfl (⟨rfl, by unfold sGate; (try unfold gIn); (first | rw [if_pos c1] | rw [if_neg c1] | skip); rw [show swx _ 4 = 5 from if_pos c3]; (try dsimp only); (repeat rw [ixN (by omega)]); try (first | rfl | (congr 1; omega))⟩)
  · refine V_ldc (v := (-1000001)) e_X9_gate_13 k_X9_73 ?_
    exact V_iret e_X9_gate_15 rfl (⟨rfl, by unfold sGate; (try unfold gIn); (first | rw [if_pos c1] | rw [if_neg c1] | skip); (try dsimp only); (repeat rw [ixN (by omega)]); try (first | rfl | (congr 1; omega))⟩)
theorem c_X9_hisR_w (E : En) (a m w : Nat) (A : Vec) (σ : Sg) (ha : kd a = 10) (hl : ln a = 55) (hM : RepM σ a A) (hm : m < 5) (hw : w < 6) : Cn E m_X9_his 1 [.ref (eB E + a), .int (nI m), .int (nI w)] σ (pI (fun σ' r => σ' = σ ∧ r = nI (A (25 + 6 * m + w)))) := by
  have h := c_X9_his_w E a m w A σ ha hl hm hw
  rwa [hM.st] at h
theorem swx_n {j hi : Nat} (h : j ≤ hi) (hi2 : hi < 2 ^ 31) : swx (nI j) hi = j := by
  unfold swx
  rw [nI_toInt (by omega), if_neg (by omega)]
  omega
theorem swx_o {y : Int32} {hi : Nat} (h2 : hi < 2 ^ 31) (h : wi y (nI 0) (nI hi) = 0) : swx y hi = hi + 1 := by
  unfold swx
  by_cases q : y.toInt < 0 ∨ (hi : Int) < y.toInt
  · rw [if_pos q]
  · exfalso
    refine (wi_le (x := y) (a := 0) (b := hi) (by omega) h2).mpr ⟨y.toInt.toNat, by omega, by omega, ?_⟩ h
    apply Int32.toInt_inj.mp
    rw [nI_toInt (by omega)]
    omega
theorem sPerson_lo {A : Vec} {p j : Nat} (hp : p < 2 ^ 31) (hj : j < 6) (hc : ¬ gIn (nI p) (A 1) = 0) : sPerson A (nI p) (nI j) = nI (A (25 + 6 * p + j)) := by
  unfold sPerson
  rw [if_neg hc, swx_n (by omega) (by decide), ixN hp]
  rcases (show j = 0 ∨ j = 1 ∨ j = 2 ∨ j = 3 ∨ j = 4 ∨ j = 5 by omega) with rfl | rfl | rfl | rfl | rfl | rfl
  · rfl
  · show nI (A (26 + 6 * p)) = _; congr 2; omega
  · show nI (A (27 + 6 * p)) = _; congr 2; omega
  · show nI (A (28 + 6 * p)) = _; congr 2; omega
  · show nI (A (29 + 6 * p)) = _; congr 2; omega
  · show nI (A (30 + 6 * p)) = _; congr 2; omega
theorem sPerson_6 {A : Vec} {p : Nat} (hp : p < 2 ^ 31) (hc : ¬ gIn (nI p) (A 1) = 0) : sPerson A (nI p) (nI 6) = nI (bitN (A 6) p) := by
  unfold sPerson
  rw [if_neg hc, swx_n (by omega) (by decide), ixN hp]
  rfl
theorem sPerson_o {A : Vec} {x y : Int32} (h : wi y (nI 0) (nI 6) = 0) : sPerson A x y = (-1000001) := by
  unfold sPerson
  split
  · rfl
  · rw [swx_o (by decide) h]
    rfl
set_option maxRecDepth 100000 in
set_option maxHeartbeats 4000000 in
theorem c_X9_person (E : En) (x y : Int32) (A : Vec) (σ : Sg) (hM : RepM σ 296 A) (hN : WN A) : Cn E m_X9_person 12 [.ref (eB E + 292), .int x, .int y] σ (pI (fun σ' r => σ' = up2 σ 292 0 (nI 0) ∧ r = sPerson A x y)) := by
  have hNl := hN.le
  have hM1 : RepM (up2 σ 292 0 (nI 0)) 296 A := hM.fm Fm.th (by decide) (by decide)
  refine Cn.of [some (.ref (eB E + 292)), some (.int x), some (.int y)] (by decide) (Nat.le_of_ble_eq_true rfl) rfl ?_
  refine V_aload_n e_X9_person_0 rfl rfl ?_
  refine V_iconst (v := nI 0) e_X9_person_1 (by decide) ?_
  refine V_puti e_X9_person_2 F_X9_thrown f_X9_53 rfl ?_
  refine V_aload_n e_X9_person_5 rfl rfl ?_
  refine V_iload_n e_X9_person_6 rfl rfl ?_
  refine V_cvIe (av := [.int x]) (st := []) e_X9_person_7 (c_X9_isMan E x A (up2 σ 292 0 (nI 0)) hM1) l_X9_204 S_X9_isMan rfl (rm_ok (by decide) (by decide)) rfl rfl (Nat.le_of_ble_eq_true rfl) ?_
  refine V_if_eq (tgt := 25) e_X9_person_10 (by decide) (fun c1 => ?_) (fun c1 => ?_)
  · refine V_ldc (v := (-1000001)) e_X9_person_25 k_X9_73 ?_
    exact V_iret e_X9_person_27 rfl (⟨rfl, by unfold sPerson gIn; rw [if_pos c1]⟩)
  · obtain ⟨p, hp, rfl⟩ := (wi_nat (by omega)).mp c1
    have hF : WF A := hN.wf (by omega)
    refine V_iload_n e_X9_person_13 rfl rfl ?_
    refine V_i2l e_X9_person_14 ?_
    refine V_lconst (v := lN 0) e_X9_person_15 (by decide) ?_
    refine V_ldc2_w (v := lN 6) e_X9_person_16 kl_X9_217 ?_
    refine V_csIe (av := [.long y.toInt64, .long (lN 0), .long (lN 6)]) (st := []) e_X9_person_19 (c_X9_inN E y (nI 0) (nI 6) (lN 0) (lN 6) (up2 σ 292 0 (nI 0)) (nI_l (by omega)) (nI_l (by omega))) l_X9_63 S_X9_in (rm_ok (by decide) (by decide)) rfl rfl (Nat.le_of_ble_eq_true rfl) ?_
    refine V_if_ne (tgt := 28) e_X9_person_22 (by decide) (fun c2 => ?_) (fun c2 => ?_)
    · obtain ⟨j, hja, hj, rfl⟩ := (wi_le (by omega) (by omega)).mp c2
      have hb6 := bitN_le (A 6) p
      have h632 := hF.2.2.2.1
      refine V_iload_n e_X9_person_28 rfl rfl ?_
      refine V_bipush (v := nI 6) e_X9_person_29 (by decide) ?_
      refine V_icmp_ge (tgt := 46) e_X9_person_31 (by decide) (fun c3 => ?_) (fun c3 => ?_)
      · have d3 : 6 ≤ j := nq_le (by omega) (by omega) c3
        refine V_aload_n e_X9_person_46 rfl rfl ?_
        refine V_getr (r := 296) e_X9_person_47 F_X9_shore f_X9_19 rfl rfl ?_
        refine V_bipush (v := nI 6) e_X9_person_50 (by decide) ?_
        refine V_ialdv (v := nI (A 6)) (j := 6) e_X9_person_52 rfl rfl (by decide) (hM1 6 (by omega)) ?_
        refine V_iload_n e_X9_person_53 rfl rfl ?_
        refine V_csIe (av := [.int (nI (A 6)), .int (nI p)]) (st := []) e_X9_person_54 (c_X9_has E (A 6) p (up2 σ 292 0 (nI 0)) (by omega) (by omega)) l_X9_158 S_X9_has (rm_ok (by decide) (by decide)) rfl rfl (Nat.le_of_ble_eq_true rfl) ?_
        refine V_if_eq (tgt := 64) e_X9_person_57 (by decide) (fun c4 => ?_) (fun c4 => ?_)
        · have d4 : bitN (A 6) p = 0 := nq_eq (by omega) (by omega) c4
          refine V_iconst (v := nI 0) e_X9_person_64 (by decide) ?_
          exact V_iret e_X9_person_65 rfl (⟨rfl, by rw [show j = 6 by omega, sPerson_6 (by omega) c1]; congr 1; omega⟩)
        · have d4 : ¬ bitN (A 6) p = 0 := nq_ne (by omega) (by omega) c4
          refine V_iconst (v := nI 1) e_X9_person_60 (by decide) ?_
          refine V_goto (tgt := 65) e_X9_person_61 (by decide) ?_
          exact V_iret e_X9_person_65 rfl (⟨rfl, by rw [show j = 6 by omega, sPerson_6 (by omega) c1]; congr 1; omega⟩)
      · have d3 : ¬ 6 ≤ j := nq_nle (by omega) (by omega) c3
        refine V_aload_n e_X9_person_34 rfl rfl ?_
        refine V_getr (r := 296) e_X9_person_35 F_X9_shore f_X9_19 rfl rfl ?_
        refine V_iload_n e_X9_person_38 rfl rfl ?_
        refine V_iload_n e_X9_person_39 rfl rfl ?_
        refine V_csIe (av := [.ref (eB E + 296), .int (nI p), .int (nI j)]) (st := []) e_X9_person_40 (c_X9_hisR_w E 296 p j A (up2 σ 292 0 (nI 0)) rfl rfl hM1 (by omega) (by omega)) l_X9_166 S_X9_his (rm_ok (by decide) (by decide)) rfl rfl (Nat.le_of_ble_eq_true rfl) ?_
        refine V_goto (tgt := 65) e_X9_person_43 (by decide) ?_
        exact V_iret e_X9_person_65 rfl (⟨rfl, (sPerson_lo (by omega) (by omega) c1).symm⟩)
    · refine V_ldc (v := (-1000001)) e_X9_person_25 k_X9_73 ?_
      exact V_iret e_X9_person_27 rfl (⟨rfl, (sPerson_o c2).symm⟩)
set_option maxRecDepth 100000 in
set_option maxHeartbeats 4000000 in
theorem lp_X9_fellows (E : En) (x : Nat) (A : Vec) (σ : Sg) (hM : RepM σ 296 A) (hF : WF A) (h5 : A 1 ≤ 5) (hx : x < A 1) : ∀ (mm : Nat) (p : Nat), A 1 - p = mm → (p ≤ A 1) → V E m_X9_fellows (kM E 12 (pI (fun σ' r => σ' = σ ∧ r = nI (mkN (felF A x) (A 1))))) 20 [some (.ref (eB E + 292)), some (.int (nI x)), some (.int (nI (mkN (felF A x) p))), some (.int (nI p))] [] σ := by
  intro mm
  induction mm using Nat.strongRecOn with
  | ind mm ih =>
    intro p hmm hp
    refine V_iload_n e_X9_fellows_20 rfl rfl ?_
    refine V_aload_n e_X9_fellows_21 rfl rfl ?_
    refine V_getr (r := 296) e_X9_fellows_22 F_X9_shore f_X9_19 rfl rfl ?_
    refine V_iconst (v := nI 1) e_X9_fellows_25 (by decide) ?_
    refine V_ialdv (v := nI (A 1)) (j := 1) e_X9_fellows_26 rfl rfl (by decide) (hM 1 (by omega)) ?_
    refine V_icmp_ge (tgt := 72) e_X9_fellows_27 (by decide) (fun c1 => ?_) (fun c1 => ?_)
    · have d1 : A 1 ≤ p := nq_le (by omega) (by omega) c1
      refine V_iload_n e_X9_fellows_72 rfl rfl ?_
      exact V_iret e_X9_fellows_73 rfl (⟨rfl, by rw [show p = A 1 by omega]⟩)
    · have d1 : ¬ A 1 ≤ p := nq_nle (by omega) (by omega) c1
      obtain ⟨w1, w2, w3, w4, w5, w6⟩ := hF.per (show p < A 1 by omega)
      obtain ⟨v1, v2, v3, v4, v5, v6⟩ := hF.per hx
      refine V_iload_n e_X9_fellows_30 rfl rfl ?_
      refine V_iload_n e_X9_fellows_31 rfl rfl ?_
      refine V_iload_n e_X9_fellows_32 rfl rfl ?_
      refine V_icmp_eq (tgt := 63) e_X9_fellows_33 (by decide) (fun c2 => ?_) (fun c2 => ?_)
      · have d2 : p = x := nq_eq (by omega) (by omega) c2
        refine V_iconst (v := nI 0) e_X9_fellows_63 (by decide) ?_
        refine V_iorN (z := nI ((mkN (felF A x) p) ||| 0)) e_X9_fellows_64 (lorI _ _) ?_
        refine V_istore_n (L' := [some (.ref (eB E + 292)), some (.int (nI x)), some (.int (nI ((mkN (felF A x) p) ||| 0))), some (.int (nI p))]) e_X9_fellows_65 rfl rfl ?_
        refine V_iinc (v := nI (p + 1)) (L' := [some (.ref (eB E + 292)), some (.int (nI x)), some (.int (nI ((mkN (felF A x) p) ||| 0))), some (.int (nI (p + 1)))]) e_X9_fellows_66 rfl (nI_add _ 1) rfl ?_
        refine V_goto (tgt := 20) e_X9_fellows_69 (by decide) ?_
        rw [show (mkN (felF A x) p) ||| 0 = mkN (felF A x) (p + 1) from (by rw [mkN, felF]; (first | rw [if_pos d2] | rw [if_neg d2] | skip))]; exact ih (A 1 - (p + 1)) (by omega) (p + 1) rfl (by omega)
      · have d2 : ¬ p = x := nq_ne (by omega) (by omega) c2
        refine V_aload_n e_X9_fellows_36 rfl rfl ?_
        refine V_getr (r := 296) e_X9_fellows_37 F_X9_shore f_X9_19 rfl rfl ?_
        refine V_iload_n e_X9_fellows_40 rfl rfl ?_
        refine V_iconst (v := nI 2) e_X9_fellows_41 (by decide) ?_
        refine V_csIe (av := [.ref (eB E + 296), .int (nI p), .int (nI 2)]) (st := [.int (nI (mkN (felF A x) p))]) e_X9_fellows_42 (c_X9_hisR_2 E 296 p A σ rfl rfl hM (by omega)) l_X9_166 S_X9_his (rm_ok (by decide) (by decide)) rfl rfl (Nat.le_of_ble_eq_true rfl) ?_
        refine V_aload_n e_X9_fellows_45 rfl rfl ?_
        refine V_getr (r := 296) e_X9_fellows_46 F_X9_shore f_X9_19 rfl rfl ?_
        refine V_iload_n e_X9_fellows_49 rfl rfl ?_
        refine V_iconst (v := nI 2) e_X9_fellows_50 (by decide) ?_
        refine V_csIe (av := [.ref (eB E + 296), .int (nI x), .int (nI 2)]) (st := [.int (nI (A (27 + 6 * p))), .int (nI (mkN (felF A x) p))]) e_X9_fellows_51 (c_X9_hisR_2 E 296 x A σ rfl rfl hM (by omega)) l_X9_166 S_X9_his (rm_ok (by decide) (by decide)) rfl rfl (Nat.le_of_ble_eq_true rfl) ?_
        refine V_icmp_ne (tgt := 63) e_X9_fellows_54 (by decide) (fun c3 => ?_) (fun c3 => ?_)
        · have d3 : ¬ A (27 + 6 * p) = A (27 + 6 * x) := nq_ne (by omega) (by omega) c3
          refine V_iconst (v := nI 0) e_X9_fellows_63 (by decide) ?_
          refine V_iorN (z := nI ((mkN (felF A x) p) ||| 0)) e_X9_fellows_64 (lorI _ _) ?_
          refine V_istore_n (L' := [some (.ref (eB E + 292)), some (.int (nI x)), some (.int (nI ((mkN (felF A x) p) ||| 0))), some (.int (nI p))]) e_X9_fellows_65 rfl rfl ?_
          refine V_iinc (v := nI (p + 1)) (L' := [some (.ref (eB E + 292)), some (.int (nI x)), some (.int (nI ((mkN (felF A x) p) ||| 0))), some (.int (nI (p + 1)))]) e_X9_fellows_66 rfl (nI_add _ 1) rfl ?_
          refine V_goto (tgt := 20) e_X9_fellows_69 (by decide) ?_
          rw [show (mkN (felF A x) p) ||| 0 = mkN (felF A x) (p + 1) from (by rw [mkN, felF]; (first | rw [if_pos d2] | rw [if_neg d2] | skip); (first | rw [if_pos d3] | rw [if_neg d3] | skip))]; exact ih (A 1 - (p + 1)) (by omega) (p + 1) rfl (by omega)
        · have d3 : A (27 + 6 * p) = A (27 + 6 * x) := nq_eq (by omega) (by omega) c3
          refine V_iconst (v := nI 1) e_X9_fellows_57 (by decide) ?_
          refine V_iload_n e_X9_fellows_58 rfl rfl ?_
          refine V_ishlN (z := nI (2 ^ p)) e_X9_fellows_59 (shl1 (by omega)) ?_
          refine V_goto (tgt := 64) e_X9_fellows_60 (by decide) ?_
          refine V_iorN (z := nI ((mkN (felF A x) p) ||| (2 ^ p))) e_X9_fellows_64 (lorI _ _) ?_
          refine V_istore_n (L' := [some (.ref (eB E + 292)), some (.int (nI x)), some (.int (nI ((mkN (felF A x) p) ||| (2 ^ p)))), some (.int (nI p))]) e_X9_fellows_65 rfl rfl ?_
          refine V_iinc (v := nI (p + 1)) (L' := [some (.ref (eB E + 292)), some (.int (nI x)), some (.int (nI ((mkN (felF A x) p) ||| (2 ^ p)))), some (.int (nI (p + 1)))]) e_X9_fellows_66 rfl (nI_add _ 1) rfl ?_
          refine V_goto (tgt := 20) e_X9_fellows_69 (by decide) ?_
          rw [show (mkN (felF A x) p) ||| (2 ^ p) = mkN (felF A x) (p + 1) from (by rw [mkN, felF]; (first | rw [if_pos d2] | rw [if_neg d2] | skip); (first | rw [if_pos d3] | rw [if_neg d3] | skip))]; exact ih (A 1 - (p + 1)) (by omega) (p + 1) rfl (by omega)
set_option maxRecDepth 100000 in
set_option maxHeartbeats 4000000 in
theorem c_X9_fellows (E : En) (x : Int32) (A : Vec) (σ : Sg) (hM : RepM σ 296 A) (hN : WN A) : Cn E m_X9_fellows 12 [.ref (eB E + 292), .int x] σ (pI (fun σ' r => σ' = up2 σ 292 0 (nI 0) ∧ r = sFellows A x)) := by
  have hNl := hN.le
  have hM1 : RepM (up2 σ 292 0 (nI 0)) 296 A := hM.fm Fm.th (by decide) (by decide)
  refine Cn.of [some (.ref (eB E + 292)), some (.int x), none, none] (by decide) (Nat.le_of_ble_eq_true rfl) rfl ?_
  refine V_aload_n e_X9_fellows_0 rfl rfl ?_
  refine V_iconst (v := nI 0) e_X9_fellows_1 (by decide) ?_
  refine V_puti e_X9_fellows_2 F_X9_thrown f_X9_53 rfl ?_
  refine V_aload_n e_X9_fellows_5 rfl rfl ?_
  refine V_iload_n e_X9_fellows_6 rfl rfl ?_
  refine V_cvIe (av := [.int x]) (st := []) e_X9_fellows_7 (c_X9_isMan E x A (up2 σ 292 0 (nI 0)) hM1) l_X9_204 S_X9_isMan rfl (rm_ok (by decide) (by decide)) rfl rfl (Nat.le_of_ble_eq_true rfl) ?_
  refine V_if_ne (tgt := 16) e_X9_fellows_10 (by decide) (fun c1 => ?_) (fun c1 => ?_)
  · obtain ⟨p, hp, rfl⟩ := (wi_nat (by omega)).mp c1
    have hF : WF A := hN.wf (by omega)
    refine V_iconst (v := nI 0) e_X9_fellows_16 (by decide) ?_
    refine V_istore_n (L' := [some (.ref (eB E + 292)), some (.int (nI p)), some (.int (nI 0)), none]) e_X9_fellows_17 rfl rfl ?_
    refine V_iconst (v := nI 0) e_X9_fellows_18 (by decide) ?_
    refine V_istore_n (L' := [some (.ref (eB E + 292)), some (.int (nI p)), some (.int (nI 0)), some (.int (nI 0))]) e_X9_fellows_19 rfl rfl ?_
    have hX := lp_X9_fellows E p A (up2 σ 292 0 (nI 0)) hM1 hF hNl.2 hp (A 1) 0 rfl (by omega); unfold sFellows; rw [if_neg (show ¬ gIn (nI p) (A 1) = 0 from c1), ixN (by omega)]; exact hX
  · refine V_ldc (v := (-1000001)) e_X9_fellows_13 k_X9_73 ?_
    exact V_iret e_X9_fellows_15 rfl (⟨rfl, by unfold sFellows; (try unfold gIn); (first | rw [if_pos c1] | rw [if_neg c1] | skip); (try dsimp only); (repeat rw [ixN (by omega)]); try rfl⟩)

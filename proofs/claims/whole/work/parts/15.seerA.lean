set_option maxRecDepth 100000 in
set_option maxHeartbeats 4000000 in
theorem lp_X4_walkAhead (E : En) (p n : Nat) (A : Vec) (σ : Sg) (hR : RepC σ 4 A) (hF : WF A) (hp : p < A 1) (hn : n ≤ 60) (h5 : A 1 ≤ 5) : ∀ (mm : Nat) (i : Nat) (τ : Sg), n - i = mm → (i ≤ n) → (TS σ τ A p (bitN (A 6) p) (pds A A p i)) → V E m_X4_walkAhead (kM E 6 (pR E (fun σ' r => r = 246 + p ∧ TS σ σ' A p (bitN (A 6) p) (pds A A p n)))) 22 [some (.ref (eB E + 241)), some (.ref (eB E + 4)), some (.int (nI p)), some (.int (nI n)), some (.ref (eB E + (246 + p))), some (.int (nI i))] [] τ := by
  intro mm
  induction mm using Nat.strongRecOn with
  | ind mm ih =>
    intro i τ hmm hi hI
    refine V_iload e_X4_walkAhead_22 rfl ?_
    refine V_iload_n e_X4_walkAhead_24 rfl rfl ?_
    refine V_icmp_ge (tgt := 44) e_X4_walkAhead_25 (by decide) (fun c1 => ?_) (fun c1 => ?_)
    · have d1 : n ≤ i := nq_le (by omega) (by omega) c1
      refine V_aload e_X4_walkAhead_44 rfl ?_
      exact V_aret e_X4_walkAhead_46 rfl (⟨rfl, by rw [show n = i by omega]; exact hI⟩)
    · have d1 : ¬ n ≤ i := nq_nle (by omega) (by omega) c1
      refine V_aload_n e_X4_walkAhead_28 rfl rfl ?_
      refine V_getr (r := 242) e_X4_walkAhead_29 F_X4_trial f_X4_12 rfl rfl ?_
      refine V_aload e_X4_walkAhead_32 rfl ?_
      refine V_cvI (av := [.ref (eB E + (246 + p))]) (st := []) e_X4_walkAhead_34 (c_X5_liveDay E 242 (246 + p) (bitN (A 6) p) A (pds A A p i) τ rfl hF.1 hI.2.1 (kd_wk245 p (by have q : ln 245 = 5 := rfl; omega)) hI.2.2.1 (pds_WP hF (by omega) rfl) hI.2.2.2 (bitN_le _ _) (by omega) (by omega) (by omega)) l_X4_30 S_X5_liveDay rfl (rm_ok (by decide) (by decide)) rfl rfl (Nat.le_of_ble_eq_true rfl) ?_
      intro τ' r hh
      obtain ⟨⟨hq', hf'⟩, rfl⟩ := hh
      refine V_pop e_X4_walkAhead_37 rfl ?_
      refine V_iinc (v := nI (i + 1)) (L' := [some (.ref (eB E + 241)), some (.ref (eB E + 4)), some (.int (nI p)), some (.int (nI n)), some (.ref (eB E + (246 + p))), some (.int (nI (i + 1)))]) e_X4_walkAhead_38 rfl (nI_add _ 1) rfl ?_
      refine V_goto (tgt := 22) e_X4_walkAhead_41 (by decide) ?_
      exact ih (n - (i + 1)) (by omega) (i + 1) τ' rfl (by omega) (hI.step (by omega) hq' hf')
set_option maxRecDepth 100000 in
set_option maxHeartbeats 4000000 in
theorem c_X4_walkAhead (E : En) (p n : Nat) (A : Vec) (σ : Sg) (hR : RepC σ 4 A) (hF : WF A) (hp : p < A 1) (hn : n ≤ 60) : Cn E m_X4_walkAhead 6 [.ref (eB E + 241), .ref (eB E + 4), .int (nI p), .int (nI n)] σ (pR E (fun σ' r => r = 246 + p ∧ TS σ σ' A p (bitN (A 6) p) (pds A A p n))) := by
  have h5 := hF.2.2.1
  obtain ⟨hG2, hG6, hA5, hA5p, h2a, h2b, h3a, h3b, hgs⟩ := id hF.1
  refine Cn.of [some (.ref (eB E + 241)), some (.ref (eB E + 4)), some (.int (nI p)), some (.int (nI n)), none, none] (by decide) (Nat.le_of_ble_eq_true rfl) rfl ?_
  refine V_aload_n e_X4_walkAhead_0 rfl rfl ?_
  refine V_getr (r := 242) e_X4_walkAhead_1 F_X4_trial f_X4_12 rfl rfl ?_
  refine V_aload_n e_X4_walkAhead_4 rfl rfl ?_
  refine V_cvVe (av := [.ref (eB E + 4)]) (st := []) e_X4_walkAhead_5 (c_X5_become E 242 4 σ rfl rfl (by decide)) l_X4_22 S_X5_become rfl (rm_ok (by decide) (by decide)) rfl rfl (Nat.le_of_ble_eq_true rfl) ?_
  refine V_aload_n e_X4_walkAhead_8 rfl rfl ?_
  refine V_getr (r := 242) e_X4_walkAhead_9 F_X4_trial f_X4_12 rfl rfl ?_
  refine V_getr (r := 245) e_X4_walkAhead_12 F_X5_walkers f_X4_26 rfl rfl ?_
  refine V_iload_n e_X4_walkAhead_15 rfl rfl ?_
  refine V_aald (j := p) (r := 246 + p) e_X4_walkAhead_16 (by decide) (by decide) rfl (by have q : ln 245 = 5 := rfl; omega) rfl ?_
  refine V_astore (L' := [some (.ref (eB E + 241)), some (.ref (eB E + 4)), some (.int (nI p)), some (.int (nI n)), some (.ref (eB E + (246 + p))), none]) e_X4_walkAhead_17 rfl ?_
  refine V_iconst (v := nI 0) e_X4_walkAhead_19 (by decide) ?_
  refine V_istore (L' := [some (.ref (eB E + 241)), some (.ref (eB E + 4)), some (.int (nI p)), some (.int (nI n)), some (.ref (eB E + (246 + p))), some (.int (nI 0))]) e_X4_walkAhead_20 rfl ?_
  exact lp_X4_walkAhead E p n A σ hR hF hp hn h5 n 0 _ rfl (by omega) (TS.zero hG6 h5 hp hR)
set_option maxRecDepth 100000 in
set_option maxHeartbeats 4000000 in
theorem lp_X4_daysUntilOf (E : En) (p g : Nat) (A : Vec) (σ : Sg) (hR : RepC σ 4 A) (hF : WF A) (hp : p < A 1) (hg : g < A 0) (h5 : A 1 ≤ 5) (hG6 : A 0 ≤ 6) : ∀ (mm : Nat) (i : Nat) (τ : Sg), 61 - i = mm → (i ≤ 61) → (TS σ τ A p (bitN (A 6) p) (pds A A p i)) → (whenR (fun i => bitN (pds A A p i).2.2.1 g) 61 0 = whenR (fun i => bitN (pds A A p i).2.2.1 g) (61 - i) i) → V E m_X4_daysUntilOf (kM E 6 (pI (fun σ' r => Fb 242 251 σ σ' ∧ r = whenR (fun i => bitN (pds A A p i).2.2.1 g) 61 0))) 22 [some (.ref (eB E + 241)), some (.ref (eB E + 4)), some (.int (nI p)), some (.int (nI g)), some (.ref (eB E + (246 + p))), some (.int (nI i))] [] τ := by
  intro mm
  induction mm using Nat.strongRecOn with
  | ind mm ih =>
    intro i τ hmm hi hI hw
    refine V_iload e_X4_daysUntilOf_22 rfl ?_
    refine V_bipush (v := nI 60) e_X4_daysUntilOf_24 (by decide) ?_
    refine V_icmp_gt (tgt := 61) e_X4_daysUntilOf_26 (by decide) (fun c1 => ?_) (fun c1 => ?_)
    · have d1 : 60 < i := nq_lt (by omega) (by omega) c1
      refine V_ldc (v := (-1000000)) e_X4_daysUntilOf_61 k_X4_44 ?_
      exact V_iret e_X4_daysUntilOf_63 rfl (⟨hI.1, by rw [hw, show 61 - i = 0 by omega]; rfl⟩)
    · have d1 : ¬ 60 < i := nq_nlt (by omega) (by omega) c1
      have ho := (pds_WP (i := i) hF hp rfl).of64 hG6
      have hb1 := bitN_le (pds A A p i).2.2.1 g
      refine V_aload e_X4_daysUntilOf_29 rfl ?_
      refine V_getiv (v := nI ((pds A A p i).2.2.1)) e_X4_daysUntilOf_31 F_X7_of f_X4_34 (kd_wk245 p (by have q : ln 245 = 5 := rfl; omega)) hI.2.2.1.2.2.1 ?_
      refine V_iload_n e_X4_daysUntilOf_34 rfl rfl ?_
      refine V_csNIe (av := [.int (nI ((pds A A p i).2.2.1)), .int (nI g)]) (st := []) e_X4_daysUntilOf_35 (c_X8_bitN E ((pds A A p i).2.2.1) g τ (by omega) (by omega)) l_X4_40 S_X8_bit (rm_ok (by decide) (by decide)) rfl rfl (Nat.le_of_ble_eq_true rfl) ?_
      refine V_iconst (v := nI 1) e_X4_daysUntilOf_38 (by decide) ?_
      refine V_icmp_ne (tgt := 45) e_X4_daysUntilOf_39 (by decide) (fun c2 => ?_) (fun c2 => ?_)
      · have d2 : ¬ bitN ((pds A A p i).2.2.1) g = 1 := nq_ne (by omega) (by omega) c2
        refine V_aload_n e_X4_daysUntilOf_45 rfl rfl ?_
        refine V_getr (r := 242) e_X4_daysUntilOf_46 F_X4_trial f_X4_12 rfl rfl ?_
        refine V_aload e_X4_daysUntilOf_49 rfl ?_
        refine V_cvI (av := [.ref (eB E + (246 + p))]) (st := []) e_X4_daysUntilOf_51 (c_X5_liveDay E 242 (246 + p) (bitN (A 6) p) A (pds A A p i) τ rfl hF.1 hI.2.1 (kd_wk245 p (by have q : ln 245 = 5 := rfl; omega)) hI.2.2.1 (pds_WP hF (by omega) rfl) hI.2.2.2 (bitN_le _ _) (by omega) (by omega) (by omega)) l_X4_30 S_X5_liveDay rfl (rm_ok (by decide) (by decide)) rfl rfl (Nat.le_of_ble_eq_true rfl) ?_
        intro τ' r hh
        obtain ⟨⟨hq', hf'⟩, rfl⟩ := hh
        refine V_pop e_X4_daysUntilOf_54 rfl ?_
        refine V_iinc (v := nI (i + 1)) (L' := [some (.ref (eB E + 241)), some (.ref (eB E + 4)), some (.int (nI p)), some (.int (nI g)), some (.ref (eB E + (246 + p))), some (.int (nI (i + 1)))]) e_X4_daysUntilOf_55 rfl (nI_add _ 1) rfl ?_
        refine V_goto (tgt := 22) e_X4_daysUntilOf_58 (by decide) ?_
        exact ih (61 - (i + 1)) (by omega) (i + 1) τ' rfl (by omega) (hI.step (by omega) hq' hf') (by rw [hw]; exact whenR_step (by omega) d2)
      · have d2 : bitN ((pds A A p i).2.2.1) g = 1 := nq_eq (by omega) (by omega) c2
        refine V_iload e_X4_daysUntilOf_42 rfl ?_
        exact V_iret e_X4_daysUntilOf_44 rfl (⟨hI.1, by rw [hw, whenR_hit (f := (fun i => bitN (pds A A p i).2.2.1 g)) (by omega) d2]⟩)
set_option maxRecDepth 100000 in
set_option maxHeartbeats 4000000 in
theorem c_X4_daysUntilOf (E : En) (p g : Nat) (A : Vec) (σ : Sg) (hR : RepC σ 4 A) (hF : WF A) (hp : p < A 1) (hg : g < A 0) : Cn E m_X4_daysUntilOf 6 [.ref (eB E + 241), .ref (eB E + 4), .int (nI p), .int (nI g)] σ (pI (fun σ' r => Fb 242 251 σ σ' ∧ r = whenR (fun i => bitN (pds A A p i).2.2.1 g) 61 0)) := by
  have h5 := hF.2.2.1
  obtain ⟨hG2, hG6, hA5, hA5p, h2a, h2b, h3a, h3b, hgs⟩ := id hF.1
  refine Cn.of [some (.ref (eB E + 241)), some (.ref (eB E + 4)), some (.int (nI p)), some (.int (nI g)), none, none] (by decide) (Nat.le_of_ble_eq_true rfl) rfl ?_
  refine V_aload_n e_X4_daysUntilOf_0 rfl rfl ?_
  refine V_getr (r := 242) e_X4_daysUntilOf_1 F_X4_trial f_X4_12 rfl rfl ?_
  refine V_aload_n e_X4_daysUntilOf_4 rfl rfl ?_
  refine V_cvVe (av := [.ref (eB E + 4)]) (st := []) e_X4_daysUntilOf_5 (c_X5_become E 242 4 σ rfl rfl (by decide)) l_X4_22 S_X5_become rfl (rm_ok (by decide) (by decide)) rfl rfl (Nat.le_of_ble_eq_true rfl) ?_
  refine V_aload_n e_X4_daysUntilOf_8 rfl rfl ?_
  refine V_getr (r := 242) e_X4_daysUntilOf_9 F_X4_trial f_X4_12 rfl rfl ?_
  refine V_getr (r := 245) e_X4_daysUntilOf_12 F_X5_walkers f_X4_26 rfl rfl ?_
  refine V_iload_n e_X4_daysUntilOf_15 rfl rfl ?_
  refine V_aald (j := p) (r := 246 + p) e_X4_daysUntilOf_16 (by decide) (by decide) rfl (by have q : ln 245 = 5 := rfl; omega) rfl ?_
  refine V_astore (L' := [some (.ref (eB E + 241)), some (.ref (eB E + 4)), some (.int (nI p)), some (.int (nI g)), some (.ref (eB E + (246 + p))), none]) e_X4_daysUntilOf_17 rfl ?_
  refine V_iconst (v := nI 0) e_X4_daysUntilOf_19 (by decide) ?_
  refine V_istore (L' := [some (.ref (eB E + 241)), some (.ref (eB E + 4)), some (.int (nI p)), some (.int (nI g)), some (.ref (eB E + (246 + p))), some (.int (nI 0))]) e_X4_daysUntilOf_20 rfl ?_
  exact lp_X4_daysUntilOf E p g A σ hR hF hp hg h5 hG6 61 0 _ rfl (by omega) (TS.zero hG6 h5 hp hR) rfl
set_option maxRecDepth 100000 in
set_option maxHeartbeats 4000000 in
theorem c_X4_isFewer_n (E : En) (x : Nat) (σ : Sg) (hx : x < 64) : Cn E m_X4_isFewer 2 [.int (nI x), .int (-1000000)] σ (pI (fun σ' r => σ' = σ ∧ r = nI 1)) := by
  refine Cn.of [some (.int (nI x)), some (.int (-1000000))] (by decide) (Nat.le_of_ble_eq_true rfl) rfl ?_
  refine V_iload_n e_X4_isFewer_0 rfl rfl ?_
  refine V_ldc (v := (-1000000)) e_X4_isFewer_1 k_X4_44 ?_
  refine V_icmp_eq (tgt := 17) e_X4_isFewer_3 (by decide) (fun c1 => ?_) (fun c1 => absurd c1 (by decide))
  refine V_iconst (v := nI 1) e_X4_isFewer_17 (by decide) ?_
  refine V_goto (tgt := 22) e_X4_isFewer_18 (by decide) ?_
  exact V_zret e_X4_isFewer_22 rfl (by first | exact Or.inl nI_0 | exact Or.inr rfl | assumption) (⟨rfl, rfl⟩)
theorem fewn {y : Nat} (h : y < 64) : ¬ nI y = (-1000000) := (show ∀ y, y < 64 → ¬ nI y = (-1000000) by decide +kernel) y h
set_option maxRecDepth 100000 in
set_option maxHeartbeats 4000000 in
theorem c_X4_isFewer_s (E : En) (x y : Nat) (σ : Sg) (hx : x < 64) (hy : y < 64) : Cn E m_X4_isFewer 2 [.int (nI x), .int (nI y)] σ (pI (fun σ' r => σ' = σ ∧ r = nI (if cntN y ≤ cntN x then 0 else 1))) := by
  refine Cn.of [some (.int (nI x)), some (.int (nI y))] (by decide) (Nat.le_of_ble_eq_true rfl) rfl ?_
  refine V_iload_n e_X4_isFewer_0 rfl rfl ?_
  refine V_ldc (v := (-1000000)) e_X4_isFewer_1 k_X4_44 ?_
  refine V_icmp_eq (tgt := 17) e_X4_isFewer_3 (by decide) (fun c1 => absurd c1 (fewn hy)) (fun c1 => ?_)
  have hc1 := cnt_le x
  have hc2 := cnt_le y
  refine V_iload_n e_X4_isFewer_6 rfl rfl ?_
  refine V_csIe (av := [.int (nI x)]) (st := []) e_X4_isFewer_7 (c_J6_bitCountN E x σ (by omega)) l_X4_98 S_J6_bitCount_0f7a4 (rm_ok (by decide) (by decide)) rfl rfl (Nat.le_of_ble_eq_true rfl) ?_
  refine V_iload_n e_X4_isFewer_10 rfl rfl ?_
  refine V_csIe (av := [.int (nI y)]) (st := [.int (nI (cntN x))]) e_X4_isFewer_11 (c_J6_bitCountN E y σ (by omega)) l_X4_98 S_J6_bitCount_0f7a4 (rm_ok (by decide) (by decide)) rfl rfl (Nat.le_of_ble_eq_true rfl) ?_
  refine V_icmp_ge (tgt := 21) e_X4_isFewer_14 (by decide) (fun c2 => ?_) (fun c2 => ?_)
  · have d2 : cntN y ≤ cntN x := nq_le (by omega) (by omega) c2
    refine V_iconst (v := nI 0) e_X4_isFewer_21 (by decide) ?_
    exact V_zret e_X4_isFewer_22 rfl (by first | exact Or.inl nI_0 | exact Or.inr rfl | assumption) (⟨rfl, by congr 1; split <;> omega⟩)
  · have d2 : ¬ cntN y ≤ cntN x := nq_nle (by omega) (by omega) c2
    refine V_iconst (v := nI 1) e_X4_isFewer_17 (by decide) ?_
    refine V_goto (tgt := 22) e_X4_isFewer_18 (by decide) ?_
    exact V_zret e_X4_isFewer_22 rfl (by first | exact Or.inl nI_0 | exact Or.inr rfl | assumption) (⟨rfl, by congr 1; split <;> omega⟩)
theorem c_X4_isFewer (E : En) (x : Nat) (b : Option Nat) (σ : Sg) (hx : x < 64) (hb : ∀ y, b = some y → y < 64) : Cn E m_X4_isFewer 2 [.int (nI x), .int (ov b)] σ (pI (fun σ' r => σ' = σ ∧ r = nI (fewr x b))) := by
  cases b with
  | none => exact c_X4_isFewer_n E x σ hx
  | some y => exact c_X4_isFewer_s E x y σ hx (hb y rfl)
set_option maxRecDepth 100000 in
set_option maxHeartbeats 4000000 in
theorem lp_X4_isOfIfTurned (E : En) (p g n s : Nat) (A : Vec) (σ : Sg) (hR : RepC σ 4 A) (hF : WF A) (hp : p < A 1) (hg : g < A 0) (hn : n ≤ 30) (hs : s < 64) (h5 : A 1 ≤ 5) (hG6 : A 0 ≤ 6) : ∀ (mm : Nat) (i : Nat) (τ : Sg), n - i = mm → (i ≤ n) → (TS σ τ (turnV A s) p (bitN (A 6) p) (pds A (turnV A s) p i)) → V E m_X4_isOfIfTurned (kM E 6 (pI (fun σ' r => Fb 242 251 σ σ' ∧ r = nI (otS A p g n s)))) 36 [some (.ref (eB E + 241)), some (.ref (eB E + 4)), some (.int (nI p)), some (.int (nI g)), some (.int (nI n)), some (.int (nI s)), some (.ref (eB E + (246 + p))), some (.int (nI i))] [] τ := by
  intro mm
  induction mm using Nat.strongRecOn with
  | ind mm ih =>
    intro i τ hmm hi hI
    refine V_iload e_X4_isOfIfTurned_36 rfl ?_
    refine V_iload e_X4_isOfIfTurned_38 rfl ?_
    refine V_icmp_ge (tgt := 59) e_X4_isOfIfTurned_40 (by decide) (fun c1 => ?_) (fun c1 => ?_)
    · have d1 : n ≤ i := nq_le (by omega) (by omega) c1
      obtain rfl : i = n := by omega
      have ho := (pds_WP (B := turnV A s) (i := i) hF hp (turnV_lo (by omega))).of64 (by rw [turnV_lo (by omega)]; exact hG6)
      have hb1 := bitN_le (pds A (turnV A s) p i).2.2.1 g
      refine V_aload e_X4_isOfIfTurned_59 rfl ?_
      refine V_getiv (v := nI ((pds A (turnV A s) p i).2.2.1)) e_X4_isOfIfTurned_61 F_X7_of f_X4_34 (kd_wk245 p (by have q : ln 245 = 5 := rfl; omega)) hI.2.2.1.2.2.1 ?_
      refine V_iload_n e_X4_isOfIfTurned_64 rfl rfl ?_
      refine V_csNIe (av := [.int (nI ((pds A (turnV A s) p i).2.2.1)), .int (nI g)]) (st := []) e_X4_isOfIfTurned_65 (c_X8_bitN E ((pds A (turnV A s) p i).2.2.1) g τ (by omega) (by omega)) l_X4_40 S_X8_bit (rm_ok (by decide) (by decide)) rfl rfl (Nat.le_of_ble_eq_true rfl) ?_
      refine V_iconst (v := nI 1) e_X4_isOfIfTurned_68 (by decide) ?_
      refine V_icmp_ne (tgt := 76) e_X4_isOfIfTurned_69 (by decide) (fun c2 => ?_) (fun c2 => ?_)
      · have d2 : ¬ bitN ((pds A (turnV A s) p i).2.2.1) g = 1 := nq_ne (by omega) (by omega) c2
        refine V_iconst (v := nI 0) e_X4_isOfIfTurned_76 (by decide) ?_
        exact V_zret e_X4_isOfIfTurned_77 rfl (by first | exact Or.inl nI_0 | exact Or.inr rfl | assumption) (⟨hI.1, by congr 1; unfold otS; omega⟩)
      · have d2 : bitN ((pds A (turnV A s) p i).2.2.1) g = 1 := nq_eq (by omega) (by omega) c2
        refine V_iconst (v := nI 1) e_X4_isOfIfTurned_72 (by decide) ?_
        refine V_goto (tgt := 77) e_X4_isOfIfTurned_73 (by decide) ?_
        exact V_zret e_X4_isOfIfTurned_77 rfl (by first | exact Or.inl nI_0 | exact Or.inr rfl | assumption) (⟨hI.1, by congr 1; unfold otS; omega⟩)
    · have d1 : ¬ n ≤ i := nq_nle (by omega) (by omega) c1
      refine V_aload_n e_X4_isOfIfTurned_43 rfl rfl ?_
      refine V_getr (r := 242) e_X4_isOfIfTurned_44 F_X4_trial f_X4_12 rfl rfl ?_
      refine V_aload e_X4_isOfIfTurned_47 rfl ?_
      refine V_cvI (av := [.ref (eB E + (246 + p))]) (st := []) e_X4_isOfIfTurned_49 (c_X5_liveDay E 242 (246 + p) (bitN (A 6) p) (turnV A s) (pds A (turnV A s) p i) τ rfl (turnV_WE hF.1) hI.2.1 (kd_wk245 p (by have q : ln 245 = 5 := rfl; omega)) hI.2.2.1 (pds_WP hF (by omega) (turnV_lo (by omega))) hI.2.2.2 (bitN_le _ _) (by omega) (by omega) (by omega)) l_X4_30 S_X5_liveDay rfl (rm_ok (by decide) (by decide)) rfl rfl (Nat.le_of_ble_eq_true rfl) ?_
      intro τ' r hh
      obtain ⟨⟨hq', hf'⟩, rfl⟩ := hh
      refine V_pop e_X4_isOfIfTurned_52 rfl ?_
      refine V_iinc (v := nI (i + 1)) (L' := [some (.ref (eB E + 241)), some (.ref (eB E + 4)), some (.int (nI p)), some (.int (nI g)), some (.int (nI n)), some (.int (nI s)), some (.ref (eB E + (246 + p))), some (.int (nI (i + 1)))]) e_X4_isOfIfTurned_53 rfl (nI_add _ 1) rfl ?_
      refine V_goto (tgt := 36) e_X4_isOfIfTurned_56 (by decide) ?_
      exact ih (n - (i + 1)) (by omega) (i + 1) τ' rfl (by omega) (hI.step (by omega) hq' hf')
set_option maxRecDepth 100000 in
set_option maxHeartbeats 4000000 in
theorem c_X4_isOfIfTurned (E : En) (p g n s : Nat) (A : Vec) (σ : Sg) (hR : RepC σ 4 A) (hF : WF A) (hp : p < A 1) (hg : g < A 0) (hn : n ≤ 30) (hs : s < 64) : Cn E m_X4_isOfIfTurned 6 [.ref (eB E + 241), .ref (eB E + 4), .int (nI p), .int (nI g), .int (nI n), .int (nI s)] σ (pI (fun σ' r => Fb 242 251 σ σ' ∧ r = nI (otS A p g n s))) := by
  have h5 := hF.2.2.1
  obtain ⟨hG2, hG6, hA5, hA5p, h2a, h2b, h3a, h3b, hgs⟩ := id hF.1
  have hz := TS.zero hG6 h5 hp hR
  obtain ⟨F, hF2, e5, hFb⟩ := hz.2.1.2.2.2.2.2.2.1
  refine Cn.of [some (.ref (eB E + 241)), some (.ref (eB E + 4)), some (.int (nI p)), some (.int (nI g)), some (.int (nI n)), some (.int (nI s)), none, none] (by decide) (Nat.le_of_ble_eq_true rfl) rfl ?_
  refine V_aload_n e_X4_isOfIfTurned_0 rfl rfl ?_
  refine V_getr (r := 242) e_X4_isOfIfTurned_1 F_X4_trial f_X4_12 rfl rfl ?_
  refine V_aload_n e_X4_isOfIfTurned_4 rfl rfl ?_
  refine V_cvVe (av := [.ref (eB E + 4)]) (st := []) e_X4_isOfIfTurned_5 (c_X5_become E 242 4 σ rfl rfl (by decide)) l_X4_22 S_X5_become rfl (rm_ok (by decide) (by decide)) rfl rfl (Nat.le_of_ble_eq_true rfl) ?_
  refine V_aload_n e_X4_isOfIfTurned_8 rfl rfl ?_
  refine V_getr (r := 242) e_X4_isOfIfTurned_9 F_X4_trial f_X4_12 rfl rfl ?_
  refine V_dup e_X4_isOfIfTurned_12 rfl ?_
  refine V_getiv (v := nI F) e_X4_isOfIfTurned_13 F_X5_facing f_X4_89 rfl e5 ?_
  refine V_iload e_X4_isOfIfTurned_16 rfl ?_
  refine V_ixorN (z := nI (F ^^^ s)) e_X4_isOfIfTurned_18 (xorI _ _) ?_
  refine V_puti e_X4_isOfIfTurned_19 F_X5_facing f_X4_89 rfl ?_
  refine V_aload_n e_X4_isOfIfTurned_22 rfl rfl ?_
  refine V_getr (r := 242) e_X4_isOfIfTurned_23 F_X4_trial f_X4_12 rfl rfl ?_
  refine V_getr (r := 245) e_X4_isOfIfTurned_26 F_X5_walkers f_X4_26 rfl rfl ?_
  refine V_iload_n e_X4_isOfIfTurned_29 rfl rfl ?_
  refine V_aald (j := p) (r := 246 + p) e_X4_isOfIfTurned_30 (by decide) (by decide) rfl (by have q : ln 245 = 5 := rfl; omega) rfl ?_
  refine V_astore (L' := [some (.ref (eB E + 241)), some (.ref (eB E + 4)), some (.int (nI p)), some (.int (nI g)), some (.int (nI n)), some (.int (nI s)), some (.ref (eB E + (246 + p))), none]) e_X4_isOfIfTurned_31 rfl ?_
  refine V_iconst (v := nI 0) e_X4_isOfIfTurned_33 (by decide) ?_
  refine V_istore (L' := [some (.ref (eB E + 241)), some (.ref (eB E + 4)), some (.int (nI p)), some (.int (nI g)), some (.int (nI n)), some (.int (nI s)), some (.ref (eB E + (246 + p))), some (.int (nI 0))]) e_X4_isOfIfTurned_34 rfl ?_
  exact lp_X4_isOfIfTurned E p g n s A σ hR hF hp hg hn hs h5 hG6 n 0 _ rfl (by omega) (hz.env (by omega) (by omega) (hz.2.1.turn hG6 hs hF2 e5))
set_option maxRecDepth 100000 in
set_option maxHeartbeats 4000000 in
theorem lp_X4_fewestTurned (E : En) (p g n : Nat) (A : Vec) (σ : Sg) (hR : RepC σ 4 A) (hF : WF A) (hp : p < A 1) (hg : g < A 0) (hn : n ≤ 30) (h5 : A 1 ≤ 5) (hG6 : A 0 ≤ 6) (h2G : 2 ^ A 0 ≤ 64) : ∀ (mm : Nat) (s : Nat) (τ : Sg), 2 ^ A 0 - s = mm → (s ≤ 2 ^ A 0) → (Fb 242 251 σ τ ∧ RepC τ 4 A) → V E m_X4_fewestTurned (kM E 7 (pI (fun σ' r => Fb 242 251 σ σ' ∧ r = ov (bestS (otS A p g n) (2 ^ A 0))))) 7 [some (.ref (eB E + 241)), some (.ref (eB E + 4)), some (.int (nI p)), some (.int (nI g)), some (.int (nI n)), some (.int (ov (bestS (otS A p g n) s))), some (.int (nI s))] [] τ := by
  intro mm
  induction mm using Nat.strongRecOn with
  | ind mm ih =>
    intro s τ hmm hs hI
    refine V_iload e_X4_fewestTurned_7 rfl ?_
    refine V_iconst (v := nI 1) e_X4_fewestTurned_9 (by decide) ?_
    refine V_aload_n e_X4_fewestTurned_10 rfl rfl ?_
    refine V_getiv (v := nI (A 0)) e_X4_fewestTurned_11 F_X5_gates f_X4_51 rfl (hI.2.1.2.2.2.1) ?_
    refine V_ishlN (z := nI (2 ^ (A 0))) e_X4_fewestTurned_14 (shl1 (by omega)) ?_
    refine V_icmp_ge (tgt := 52) e_X4_fewestTurned_15 (by decide) (fun c1 => ?_) (fun c1 => ?_)
    · have d1 : 2 ^ (A 0) ≤ s := nq_le (by first | omega | (have hq9 := fewr_le s (bestS (otS A p g n) s); omega) | (have hq9 := bitN_le (pds A (turnV A s) p n).2.2.1 g; unfold otS; omega) | (have hq9 := afS_le A n s (A 1); omega)) (by first | omega | (have hq9 := fewr_le s (bestS (otS A p g n) s); omega) | (have hq9 := bitN_le (pds A (turnV A s) p n).2.2.1 g; unfold otS; omega) | (have hq9 := afS_le A n s (A 1); omega)) c1
      refine V_iload e_X4_fewestTurned_52 rfl ?_
      exact V_iret e_X4_fewestTurned_54 rfl (⟨hI.1, by rw [show 2 ^ A 0 = s by omega]⟩)
    · have d1 : ¬ 2 ^ (A 0) ≤ s := nq_nle (by first | omega | (have hq9 := fewr_le s (bestS (otS A p g n) s); omega) | (have hq9 := bitN_le (pds A (turnV A s) p n).2.2.1 g; unfold otS; omega) | (have hq9 := afS_le A n s (A 1); omega)) (by first | omega | (have hq9 := fewr_le s (bestS (otS A p g n) s); omega) | (have hq9 := bitN_le (pds A (turnV A s) p n).2.2.1 g; unfold otS; omega) | (have hq9 := afS_le A n s (A 1); omega)) c1
      refine V_iload e_X4_fewestTurned_18 rfl ?_
      refine V_iload e_X4_fewestTurned_20 rfl ?_
      refine V_csIe (av := [.int (nI s), .int (ov (bestS (otS A p g n) s))]) (st := []) e_X4_fewestTurned_22 (c_X4_isFewer E s (bestS (otS A p g n) s) τ (by omega) (ov_lt (by omega) hG6)) l_X4_54 S_X4_isFewer (rm_ok (by decide) (by decide)) rfl rfl (Nat.le_of_ble_eq_true rfl) ?_
      refine V_if_eq (tgt := 46) e_X4_fewestTurned_25 (by decide) (fun c2 => ?_) (fun c2 => ?_)
      · have d2 : fewr s (bestS (otS A p g n) s) = 0 := nq_eq (by first | omega | (have hq9 := fewr_le s (bestS (otS A p g n) s); omega) | (have hq9 := bitN_le (pds A (turnV A s) p n).2.2.1 g; unfold otS; omega) | (have hq9 := afS_le A n s (A 1); omega)) (by first | omega | (have hq9 := fewr_le s (bestS (otS A p g n) s); omega) | (have hq9 := bitN_le (pds A (turnV A s) p n).2.2.1 g; unfold otS; omega) | (have hq9 := afS_le A n s (A 1); omega)) c2
        refine V_iinc (v := nI (s + 1)) (L' := [some (.ref (eB E + 241)), some (.ref (eB E + 4)), some (.int (nI p)), some (.int (nI g)), some (.int (nI n)), some (.int (ov (bestS (otS A p g n) s))), some (.int (nI (s + 1)))]) e_X4_fewestTurned_46 rfl (nI_add _ 1) rfl ?_
        refine V_goto (tgt := 7) e_X4_fewestTurned_49 (by decide) ?_
        rw [(show ov (bestS (otS A p g n) s) = ov (bestS (otS A p g n) (s + 1)) from congrArg ov (by rw [bestS]; (first | rw [if_pos d2] | rw [if_neg d2] | skip)))]; exact ih (2 ^ A 0 - (s + 1)) (by omega) (s + 1) τ rfl (by omega) hI
      · have d2 : ¬ fewr s (bestS (otS A p g n) s) = 0 := nq_ne (by first | omega | (have hq9 := fewr_le s (bestS (otS A p g n) s); omega) | (have hq9 := bitN_le (pds A (turnV A s) p n).2.2.1 g; unfold otS; omega) | (have hq9 := afS_le A n s (A 1); omega)) (by first | omega | (have hq9 := fewr_le s (bestS (otS A p g n) s); omega) | (have hq9 := bitN_le (pds A (turnV A s) p n).2.2.1 g; unfold otS; omega) | (have hq9 := afS_le A n s (A 1); omega)) c2
        refine V_aload_n e_X4_fewestTurned_28 rfl rfl ?_
        refine V_aload_n e_X4_fewestTurned_29 rfl rfl ?_
        refine V_iload_n e_X4_fewestTurned_30 rfl rfl ?_
        refine V_iload_n e_X4_fewestTurned_31 rfl rfl ?_
        refine V_iload e_X4_fewestTurned_32 rfl ?_
        refine V_iload e_X4_fewestTurned_34 rfl ?_
        refine V_cvI (av := [.ref (eB E + 4), .int (nI p), .int (nI g), .int (nI n), .int (nI s)]) (st := []) e_X4_fewestTurned_36 (c_X4_isOfIfTurned E p g n s A τ hI.2 hF hp hg hn (by omega)) l_X4_58 S_X4_isOfIfTurned rfl (rm_ok (by decide) (by decide)) rfl rfl (Nat.le_of_ble_eq_true rfl) ?_
        intro τ1 r hh
        obtain ⟨hf1, rfl⟩ := hh
        refine V_if_eq (tgt := 46) e_X4_fewestTurned_39 (by decide) (fun c3 => ?_) (fun c3 => ?_)
        · have d3 : otS A p g n s = 0 := nq_eq (by first | omega | (have hq9 := fewr_le s (bestS (otS A p g n) s); omega) | (have hq9 := bitN_le (pds A (turnV A s) p n).2.2.1 g; unfold otS; omega) | (have hq9 := afS_le A n s (A 1); omega)) (by first | omega | (have hq9 := fewr_le s (bestS (otS A p g n) s); omega) | (have hq9 := bitN_le (pds A (turnV A s) p n).2.2.1 g; unfold otS; omega) | (have hq9 := afS_le A n s (A 1); omega)) c3
          refine V_iinc (v := nI (s + 1)) (L' := [some (.ref (eB E + 241)), some (.ref (eB E + 4)), some (.int (nI p)), some (.int (nI g)), some (.int (nI n)), some (.int (ov (bestS (otS A p g n) s))), some (.int (nI (s + 1)))]) e_X4_fewestTurned_46 rfl (nI_add _ 1) rfl ?_
          refine V_goto (tgt := 7) e_X4_fewestTurned_49 (by decide) ?_
          rw [(show ov (bestS (otS A p g n) s) = ov (bestS (otS A p g n) (s + 1)) from congrArg ov (by rw [bestS]; (first | rw [if_pos d2] | rw [if_neg d2] | skip); (first | rw [if_pos d3] | rw [if_neg d3] | skip)))]; exact ih (2 ^ A 0 - (s + 1)) (by omega) (s + 1) τ1 rfl (by omega) ⟨hI.1.tr hf1, hI.2.fb h5 hf1 (by omega)⟩
        · have d3 : ¬ otS A p g n s = 0 := nq_ne (by first | omega | (have hq9 := fewr_le s (bestS (otS A p g n) s); omega) | (have hq9 := bitN_le (pds A (turnV A s) p n).2.2.1 g; unfold otS; omega) | (have hq9 := afS_le A n s (A 1); omega)) (by first | omega | (have hq9 := fewr_le s (bestS (otS A p g n) s); omega) | (have hq9 := bitN_le (pds A (turnV A s) p n).2.2.1 g; unfold otS; omega) | (have hq9 := afS_le A n s (A 1); omega)) c3
          refine V_iload e_X4_fewestTurned_42 rfl ?_
          refine V_istore (L' := [some (.ref (eB E + 241)), some (.ref (eB E + 4)), some (.int (nI p)), some (.int (nI g)), some (.int (nI n)), some (.int (nI s)), some (.int (nI s))]) e_X4_fewestTurned_44 rfl ?_
          refine V_iinc (v := nI (s + 1)) (L' := [some (.ref (eB E + 241)), some (.ref (eB E + 4)), some (.int (nI p)), some (.int (nI g)), some (.int (nI n)), some (.int (nI s)), some (.int (nI (s + 1)))]) e_X4_fewestTurned_46 rfl (nI_add _ 1) rfl ?_
          refine V_goto (tgt := 7) e_X4_fewestTurned_49 (by decide) ?_
          rw [(show nI s = ov (bestS (otS A p g n) (s + 1)) from (by rw [bestS]; (first | rw [if_pos d2] | rw [if_neg d2] | skip); (first | rw [if_pos d3] | rw [if_neg d3] | skip); rfl))]; exact ih (2 ^ A 0 - (s + 1)) (by omega) (s + 1) τ1 rfl (by omega) ⟨hI.1.tr hf1, hI.2.fb h5 hf1 (by omega)⟩
set_option maxRecDepth 100000 in
set_option maxHeartbeats 4000000 in
theorem c_X4_fewestTurned (E : En) (p g n : Nat) (A : Vec) (σ : Sg) (hR : RepC σ 4 A) (hF : WF A) (hp : p < A 1) (hg : g < A 0) (hn : n ≤ 30) : Cn E m_X4_fewestTurned 7 [.ref (eB E + 241), .ref (eB E + 4), .int (nI p), .int (nI g), .int (nI n)] σ (pI (fun σ' r => Fb 242 251 σ σ' ∧ r = ov (bestS (otS A p g n) (2 ^ A 0)))) := by
  have h5 := hF.2.2.1
  obtain ⟨hG2, hG6, hA5, hA5p, h2a, h2b, h3a, h3b, hgs⟩ := id hF.1
  refine Cn.of [some (.ref (eB E + 241)), some (.ref (eB E + 4)), some (.int (nI p)), some (.int (nI g)), some (.int (nI n)), none, none] (by decide) (Nat.le_of_ble_eq_true rfl) rfl ?_
  refine V_ldc (v := (-1000000)) e_X4_fewestTurned_0 k_X4_44 ?_
  refine V_istore (L' := [some (.ref (eB E + 241)), some (.ref (eB E + 4)), some (.int (nI p)), some (.int (nI g)), some (.int (nI n)), some (.int (-1000000)), none]) e_X4_fewestTurned_2 rfl ?_
  refine V_iconst (v := nI 0) e_X4_fewestTurned_4 (by decide) ?_
  refine V_istore (L' := [some (.ref (eB E + 241)), some (.ref (eB E + 4)), some (.int (nI p)), some (.int (nI g)), some (.int (nI n)), some (.int (-1000000)), some (.int (nI 0))]) e_X4_fewestTurned_5 rfl ?_
  exact lp_X4_fewestTurned E p g n A σ hR hF hp hg hn h5 hG6 (pow6 hG6) (2 ^ A 0) 0 σ rfl (by omega) ⟨Fb.rf, hR⟩
set_option maxRecDepth 100000 in
set_option maxHeartbeats 4000000 in
theorem lp_X4_isFedIfFallen (E : En) (p n s : Nat) (A : Vec) (σ : Sg) (hR : RepC σ 4 A) (hF : WF A) (hp : p < A 1) (hn : n ≤ 30) (hs : s < 2 ^ A 0) (h5 : A 1 ≤ 5) (hub : ∀ i, i ≤ 30 → (pds A (fallV A s) p i).2.2.2.2.2 < 2 ^ 31) : ∀ (mm : Nat) (i : Nat) (τ : Sg), n - i = mm → (i ≤ n) → (TS σ τ (fallV A s) p (bitN (A 6) p) (pds A (fallV A s) p i)) → V E m_X4_isFedIfFallen (kM E 6 (pI (fun σ' r => Fb 242 251 σ σ' ∧ r = nI (fdS A p n s)))) 43 [some (.ref (eB E + 241)), some (.ref (eB E + 4)), some (.int (nI p)), some (.int (nI n)), some (.int (nI s)), some (.ref (eB E + (246 + p))), some (.int (nI (A (30 + 6 * p)))), some (.int (nI i))] [] τ := by
  intro mm
  induction mm using Nat.strongRecOn with
  | ind mm ih =>
    intro i τ hmm hi hI
    have hu1 := hub i (by omega)
    have hu0 : A (30 + 6 * p) < 2 ^ 31 := hub 0 (by omega)
    refine V_iload e_X4_isFedIfFallen_43 rfl ?_
    refine V_iload_n e_X4_isFedIfFallen_45 rfl rfl ?_
    refine V_icmp_ge (tgt := 75) e_X4_isFedIfFallen_46 (by decide) (fun c1 => ?_) (fun c1 => ?_)
    · have d1 : n ≤ i := nq_le (by omega) (by omega) c1
      refine V_aload e_X4_isFedIfFallen_75 rfl ?_
      refine V_getiv (v := nI ((pds A (fallV A s) p i).2.2.2.2.2)) e_X4_isFedIfFallen_77 F_X7_hunger f_X4_48 (kd_wk245 p (by have q : ln 245 = 5 := rfl; omega)) hI.2.2.1.2.2.2.2.2 ?_
      refine V_iload e_X4_isFedIfFallen_80 rfl ?_
      refine V_icmp_ne (tgt := 89) e_X4_isFedIfFallen_82 (by decide) (fun c2 => ?_) (fun c2 => ?_)
      · have d2 : ¬ (pds A (fallV A s) p i).2.2.2.2.2 = A (30 + 6 * p) := nq_ne (by omega) (by omega) c2
        refine V_iconst (v := nI 0) e_X4_isFedIfFallen_89 (by decide) ?_
        exact V_zret e_X4_isFedIfFallen_90 rfl (by first | exact Or.inl nI_0 | exact Or.inr rfl | assumption) (⟨hI.1, by congr 1; unfold fdS; (repeat' split) <;> first | omega | (have hmo := pdays_hu (B := fallV A s) (st := bitN (A 6) p) (q := pn A p) (i := i) (j := n) (by omega); have hm0 := pdays_hu (B := fallV A s) (st := bitN (A 6) p) (q := pn A p) (i := 0) (j := i) (by omega); unfold pds at *; simp only [pdays, pn] at *; omega) | (rw [show n = i by omega] at *; omega)⟩)
      · have d2 : (pds A (fallV A s) p i).2.2.2.2.2 = A (30 + 6 * p) := nq_eq (by omega) (by omega) c2
        refine V_iconst (v := nI 1) e_X4_isFedIfFallen_85 (by decide) ?_
        refine V_goto (tgt := 90) e_X4_isFedIfFallen_86 (by decide) ?_
        exact V_zret e_X4_isFedIfFallen_90 rfl (by first | exact Or.inl nI_0 | exact Or.inr rfl | assumption) (⟨hI.1, by congr 1; unfold fdS; (repeat' split) <;> first | omega | (have hmo := pdays_hu (B := fallV A s) (st := bitN (A 6) p) (q := pn A p) (i := i) (j := n) (by omega); have hm0 := pdays_hu (B := fallV A s) (st := bitN (A 6) p) (q := pn A p) (i := 0) (j := i) (by omega); unfold pds at *; simp only [pdays, pn] at *; omega) | (rw [show n = i by omega] at *; omega)⟩)
    · have d1 : ¬ n ≤ i := nq_nle (by omega) (by omega) c1
      refine V_aload e_X4_isFedIfFallen_49 rfl ?_
      refine V_getiv (v := nI ((pds A (fallV A s) p i).2.2.2.2.2)) e_X4_isFedIfFallen_51 F_X7_hunger f_X4_48 (kd_wk245 p (by have q : ln 245 = 5 := rfl; omega)) hI.2.2.1.2.2.2.2.2 ?_
      refine V_iload e_X4_isFedIfFallen_54 rfl ?_
      refine V_icmp_ne (tgt := 75) e_X4_isFedIfFallen_56 (by decide) (fun c3 => ?_) (fun c3 => ?_)
      · have d3 : ¬ (pds A (fallV A s) p i).2.2.2.2.2 = A (30 + 6 * p) := nq_ne (by omega) (by omega) c3
        refine V_aload e_X4_isFedIfFallen_75 rfl ?_
        refine V_getiv (v := nI ((pds A (fallV A s) p i).2.2.2.2.2)) e_X4_isFedIfFallen_77 F_X7_hunger f_X4_48 (kd_wk245 p (by have q : ln 245 = 5 := rfl; omega)) hI.2.2.1.2.2.2.2.2 ?_
        refine V_iload e_X4_isFedIfFallen_80 rfl ?_
        refine V_icmp_ne (tgt := 89) e_X4_isFedIfFallen_82 (by decide) (fun c4 => ?_) (fun c4 => ?_)
        · have d4 : ¬ (pds A (fallV A s) p i).2.2.2.2.2 = A (30 + 6 * p) := nq_ne (by omega) (by omega) c4
          refine V_iconst (v := nI 0) e_X4_isFedIfFallen_89 (by decide) ?_
          exact V_zret e_X4_isFedIfFallen_90 rfl (by first | exact Or.inl nI_0 | exact Or.inr rfl | assumption) (⟨hI.1, by congr 1; unfold fdS; (repeat' split) <;> first | omega | (have hmo := pdays_hu (B := fallV A s) (st := bitN (A 6) p) (q := pn A p) (i := i) (j := n) (by omega); have hm0 := pdays_hu (B := fallV A s) (st := bitN (A 6) p) (q := pn A p) (i := 0) (j := i) (by omega); unfold pds at *; simp only [pdays, pn] at *; omega) | (rw [show n = i by omega] at *; omega)⟩)
        · have d4 : (pds A (fallV A s) p i).2.2.2.2.2 = A (30 + 6 * p) := nq_eq (by omega) (by omega) c4
          refine V_iconst (v := nI 1) e_X4_isFedIfFallen_85 (by decide) ?_
          refine V_goto (tgt := 90) e_X4_isFedIfFallen_86 (by decide) ?_
          exact V_zret e_X4_isFedIfFallen_90 rfl (by first | exact Or.inl nI_0 | exact Or.inr rfl | assumption) (⟨hI.1, by congr 1; unfold fdS; (repeat' split) <;> first | omega | (have hmo := pdays_hu (B := fallV A s) (st := bitN (A 6) p) (q := pn A p) (i := i) (j := n) (by omega); have hm0 := pdays_hu (B := fallV A s) (st := bitN (A 6) p) (q := pn A p) (i := 0) (j := i) (by omega); unfold pds at *; simp only [pdays, pn] at *; omega) | (rw [show n = i by omega] at *; omega)⟩)
      · have d3 : (pds A (fallV A s) p i).2.2.2.2.2 = A (30 + 6 * p) := nq_eq (by omega) (by omega) c3
        refine V_aload_n e_X4_isFedIfFallen_59 rfl rfl ?_
        refine V_getr (r := 242) e_X4_isFedIfFallen_60 F_X4_trial f_X4_12 rfl rfl ?_
        refine V_aload e_X4_isFedIfFallen_63 rfl ?_
        refine V_cvI (av := [.ref (eB E + (246 + p))]) (st := []) e_X4_isFedIfFallen_65 (c_X5_liveDay E 242 (246 + p) (bitN (A 6) p) (fallV A s) (pds A (fallV A s) p i) τ rfl (fallV_WE hF.1 hs) hI.2.1 (kd_wk245 p (by have q : ln 245 = 5 := rfl; omega)) hI.2.2.1 (pds_WP hF (by omega) (fallV_lo (by omega))) hI.2.2.2 (bitN_le _ _) (by omega) (by omega) (by omega)) l_X4_30 S_X5_liveDay rfl (rm_ok (by decide) (by decide)) rfl rfl (Nat.le_of_ble_eq_true rfl) ?_
        intro τ' r hh
        obtain ⟨⟨hq', hf'⟩, rfl⟩ := hh
        refine V_pop e_X4_isFedIfFallen_68 rfl ?_
        refine V_iinc (v := nI (i + 1)) (L' := [some (.ref (eB E + 241)), some (.ref (eB E + 4)), some (.int (nI p)), some (.int (nI n)), some (.int (nI s)), some (.ref (eB E + (246 + p))), some (.int (nI (A (30 + 6 * p)))), some (.int (nI (i + 1)))]) e_X4_isFedIfFallen_69 rfl (nI_add _ 1) rfl ?_
        refine V_goto (tgt := 43) e_X4_isFedIfFallen_72 (by decide) ?_
        exact ih (n - (i + 1)) (by omega) (i + 1) τ' rfl (by omega) (hI.step (by omega) hq' hf')
set_option maxRecDepth 100000 in
set_option maxHeartbeats 4000000 in
theorem c_X4_isFedIfFallen (E : En) (p n s : Nat) (A : Vec) (σ : Sg) (hR : RepC σ 4 A) (hF : WF A) (hp : p < A 1) (hn : n ≤ 30) (hs : s < 2 ^ A 0) (hub : ∀ i, i ≤ 30 → (pds A (fallV A s) p i).2.2.2.2.2 < 2 ^ 31) : Cn E m_X4_isFedIfFallen 6 [.ref (eB E + 241), .ref (eB E + 4), .int (nI p), .int (nI n), .int (nI s)] σ (pI (fun σ' r => Fb 242 251 σ σ' ∧ r = nI (fdS A p n s))) := by
  have h5 := hF.2.2.1
  obtain ⟨hG2, hG6, hA5, hA5p, h2a, h2b, h3a, h3b, hgs⟩ := id hF.1
  have hz := TS.zero hG6 h5 hp hR
  have hz2 := hz.env (B := fallV A s) (a := 242) (k := 6) (by omega) (by omega) (hz.2.1.fall (s := s))
  refine Cn.of [some (.ref (eB E + 241)), some (.ref (eB E + 4)), some (.int (nI p)), some (.int (nI n)), some (.int (nI s)), none, none, none] (by decide) (Nat.le_of_ble_eq_true rfl) rfl ?_
  refine V_aload_n e_X4_isFedIfFallen_0 rfl rfl ?_
  refine V_getr (r := 242) e_X4_isFedIfFallen_1 F_X4_trial f_X4_12 rfl rfl ?_
  refine V_aload_n e_X4_isFedIfFallen_4 rfl rfl ?_
  refine V_cvVe (av := [.ref (eB E + 4)]) (st := []) e_X4_isFedIfFallen_5 (c_X5_become E 242 4 σ rfl rfl (by decide)) l_X4_22 S_X5_become rfl (rm_ok (by decide) (by decide)) rfl rfl (Nat.le_of_ble_eq_true rfl) ?_
  refine V_aload_n e_X4_isFedIfFallen_8 rfl rfl ?_
  refine V_getr (r := 242) e_X4_isFedIfFallen_9 F_X4_trial f_X4_12 rfl rfl ?_
  refine V_dup e_X4_isFedIfFallen_12 rfl ?_
  refine V_getiv (v := nI (A 5)) e_X4_isFedIfFallen_13 F_X5_fallen f_X4_62 rfl hz.2.1.2.2.2.2.2.1 ?_
  refine V_iload e_X4_isFedIfFallen_16 rfl ?_
  refine V_iorN (z := nI ((A 5) ||| s)) e_X4_isFedIfFallen_18 (lorI _ _) ?_
  refine V_puti e_X4_isFedIfFallen_19 F_X5_fallen f_X4_62 rfl ?_
  refine V_aload_n e_X4_isFedIfFallen_22 rfl rfl ?_
  refine V_getr (r := 242) e_X4_isFedIfFallen_23 F_X4_trial f_X4_12 rfl rfl ?_
  refine V_getr (r := 245) e_X4_isFedIfFallen_26 F_X5_walkers f_X4_26 rfl rfl ?_
  refine V_iload_n e_X4_isFedIfFallen_29 rfl rfl ?_
  refine V_aald (j := p) (r := 246 + p) e_X4_isFedIfFallen_30 (by decide) (by decide) rfl (by have q : ln 245 = 5 := rfl; omega) rfl ?_
  refine V_astore (L' := [some (.ref (eB E + 241)), some (.ref (eB E + 4)), some (.int (nI p)), some (.int (nI n)), some (.int (nI s)), some (.ref (eB E + (246 + p))), none, none]) e_X4_isFedIfFallen_31 rfl ?_
  refine V_aload e_X4_isFedIfFallen_33 rfl ?_
  refine V_getiv (v := nI (A (30 + 6 * p))) e_X4_isFedIfFallen_35 F_X7_hunger f_X4_48 (kd_wk245 p (by have q : ln 245 = 5 := rfl; omega)) hz2.2.2.1.2.2.2.2.2 ?_
  refine V_istore (L' := [some (.ref (eB E + 241)), some (.ref (eB E + 4)), some (.int (nI p)), some (.int (nI n)), some (.int (nI s)), some (.ref (eB E + (246 + p))), some (.int (nI (A (30 + 6 * p)))), none]) e_X4_isFedIfFallen_38 rfl ?_
  refine V_iconst (v := nI 0) e_X4_isFedIfFallen_40 (by decide) ?_
  refine V_istore (L' := [some (.ref (eB E + 241)), some (.ref (eB E + 4)), some (.int (nI p)), some (.int (nI n)), some (.int (nI s)), some (.ref (eB E + (246 + p))), some (.int (nI (A (30 + 6 * p)))), some (.int (nI 0))]) e_X4_isFedIfFallen_41 rfl ?_
  exact lp_X4_isFedIfFallen E p n s A σ hR hF hp hn hs h5 hub n 0 _ rfl (by omega) hz2
theorem afS_z {A : Vec} {n s p : Nat} (h : afS A n s p = 0) : ∀ k, afS A n s (p + k) = 0
  | 0 => h
  | k + 1 => by rw [← Nat.add_assoc, afS, if_pos (afS_z h k)]
theorem afS_end {A : Vec} {n s p m : Nat} (hp : p ≤ m) (h : m ≤ p ∨ afS A n s p = 0) : afS A n s p = afS A n s m := by
  rcases h with h | h
  · rw [show p = m by omega]
  · rw [h, show m = p + (m - p) by omega, afS_z h]
set_option maxRecDepth 100000 in
set_option maxHeartbeats 4000000 in
theorem lp_X4_areAllFedIfFallen (E : En) (n s : Nat) (A : Vec) (σ : Sg) (hR : RepC σ 4 A) (hF : WF A) (hn : n ≤ 30) (hs : s < 2 ^ A 0) (hub : ∀ p, p < A 1 → ∀ s, ∀ i, i ≤ 30 → (pds A (fallV A s) p i).2.2.2.2.2 < 2 ^ 31) (h5 : A 1 ≤ 5) : ∀ (mm : Nat) (p : Nat) (τ : Sg), A 1 - p = mm → (p ≤ A 1) → (Fb 242 251 σ τ ∧ RepC τ 4 A) → V E m_X4_areAllFedIfFallen (kM E 7 (pI (fun σ' r => Fb 242 251 σ σ' ∧ r = nI (afS A n s (A 1))))) 6 [some (.ref (eB E + 241)), some (.ref (eB E + 4)), some (.int (nI n)), some (.int (nI s)), some (.int (nI (afS A n s p))), some (.int (nI p))] [] τ := by
  intro mm
  induction mm using Nat.strongRecOn with
  | ind mm ih =>
    intro p τ hmm hp hI
    have ha1 := afS_le A n s p
    refine V_iload e_X4_areAllFedIfFallen_6 rfl ?_
    refine V_aload_n e_X4_areAllFedIfFallen_8 rfl rfl ?_
    refine V_getiv (v := nI (A 1)) e_X4_areAllFedIfFallen_9 F_X5_people f_X4_45 rfl hI.2.1.2.2.2.2.1 ?_
    refine V_icmp_ge (tgt := 37) e_X4_areAllFedIfFallen_12 (by decide) (fun c1 => ?_) (fun c1 => ?_)
    · have d1 : A 1 ≤ p := nq_le (by omega) (by omega) c1
      refine V_iload e_X4_areAllFedIfFallen_37 rfl ?_
      exact V_zret e_X4_areAllFedIfFallen_39 rfl (by rcases (show afS A n s p = 0 ∨ afS A n s p = 1 by omega) with h | h <;> rw [h] <;> first | exact Or.inl nI_0 | exact Or.inr rfl) (⟨hI.1, congrArg nI (afS_end hp (by omega))⟩)
    · have d1 : ¬ A 1 ≤ p := nq_nle (by omega) (by omega) c1
      refine V_iload e_X4_areAllFedIfFallen_15 rfl ?_
      refine V_if_eq (tgt := 37) e_X4_areAllFedIfFallen_17 (by decide) (fun c2 => ?_) (fun c2 => ?_)
      · have d2 : afS A n s p = 0 := nq_eq (by omega) (by omega) c2
        refine V_iload e_X4_areAllFedIfFallen_37 rfl ?_
        exact V_zret e_X4_areAllFedIfFallen_39 rfl (by rcases (show afS A n s p = 0 ∨ afS A n s p = 1 by omega) with h | h <;> rw [h] <;> first | exact Or.inl nI_0 | exact Or.inr rfl) (⟨hI.1, congrArg nI (afS_end hp (by omega))⟩)
      · have d2 : ¬ afS A n s p = 0 := nq_ne (by omega) (by omega) c2
        refine V_aload_n e_X4_areAllFedIfFallen_20 rfl rfl ?_
        refine V_aload_n e_X4_areAllFedIfFallen_21 rfl rfl ?_
        refine V_iload e_X4_areAllFedIfFallen_22 rfl ?_
        refine V_iload_n e_X4_areAllFedIfFallen_24 rfl rfl ?_
        refine V_iload_n e_X4_areAllFedIfFallen_25 rfl rfl ?_
        refine V_cvI (av := [.ref (eB E + 4), .int (nI p), .int (nI n), .int (nI s)]) (st := []) e_X4_areAllFedIfFallen_26 (c_X4_isFedIfFallen E p n s A τ hI.2 hF (by omega) hn hs (hub p (by omega) s)) l_X4_108 S_X4_isFedIfFallen rfl (rm_ok (by decide) (by decide)) rfl rfl (Nat.le_of_ble_eq_true rfl) ?_
        intro τ1 r hh
        obtain ⟨hf1, rfl⟩ := hh
        refine V_istore (L' := [some (.ref (eB E + 241)), some (.ref (eB E + 4)), some (.int (nI n)), some (.int (nI s)), some (.int (nI (fdS A p n s))), some (.int (nI p))]) e_X4_areAllFedIfFallen_29 rfl ?_
        refine V_iinc (v := nI (p + 1)) (L' := [some (.ref (eB E + 241)), some (.ref (eB E + 4)), some (.int (nI n)), some (.int (nI s)), some (.int (nI (fdS A p n s))), some (.int (nI (p + 1)))]) e_X4_areAllFedIfFallen_31 rfl (nI_add _ 1) rfl ?_
        refine V_goto (tgt := 6) e_X4_areAllFedIfFallen_34 (by decide) ?_
        rw [show fdS A p n s = afS A n s (p + 1) from (by rw [afS, if_neg d2])]; exact ih (A 1 - (p + 1)) (by omega) (p + 1) τ1 rfl (by omega) ⟨hI.1.tr hf1, hI.2.fb h5 hf1 (by omega)⟩
set_option maxRecDepth 100000 in
set_option maxHeartbeats 4000000 in
theorem c_X4_areAllFedIfFallen (E : En) (n s : Nat) (A : Vec) (σ : Sg) (hR : RepC σ 4 A) (hF : WF A) (hn : n ≤ 30) (hs : s < 2 ^ A 0) (hub : ∀ p, p < A 1 → ∀ s, ∀ i, i ≤ 30 → (pds A (fallV A s) p i).2.2.2.2.2 < 2 ^ 31) : Cn E m_X4_areAllFedIfFallen 7 [.ref (eB E + 241), .ref (eB E + 4), .int (nI n), .int (nI s)] σ (pI (fun σ' r => Fb 242 251 σ σ' ∧ r = nI (afS A n s (A 1)))) := by
  have h5 := hF.2.2.1
  obtain ⟨hG2, hG6, hA5, hA5p, h2a, h2b, h3a, h3b, hgs⟩ := id hF.1
  refine Cn.of [some (.ref (eB E + 241)), some (.ref (eB E + 4)), some (.int (nI n)), some (.int (nI s)), none, none] (by decide) (Nat.le_of_ble_eq_true rfl) rfl ?_
  refine V_iconst (v := nI 1) e_X4_areAllFedIfFallen_0 (by decide) ?_
  refine V_istore (L' := [some (.ref (eB E + 241)), some (.ref (eB E + 4)), some (.int (nI n)), some (.int (nI s)), some (.int (nI 1)), none]) e_X4_areAllFedIfFallen_1 rfl ?_
  refine V_iconst (v := nI 0) e_X4_areAllFedIfFallen_3 (by decide) ?_
  refine V_istore (L' := [some (.ref (eB E + 241)), some (.ref (eB E + 4)), some (.int (nI n)), some (.int (nI s)), some (.int (nI 1)), some (.int (nI 0))]) e_X4_areAllFedIfFallen_4 rfl ?_
  exact lp_X4_areAllFedIfFallen E n s A σ hR hF hn hs hub h5 (A 1) 0 σ rfl (by omega) ⟨Fb.rf, hR⟩
set_option maxRecDepth 100000 in
set_option maxHeartbeats 4000000 in
theorem lp_X4_fewestFallen (E : En) (n : Nat) (A : Vec) (σ : Sg) (hR : RepC σ 4 A) (hF : WF A) (hn : n ≤ 30) (hub : ∀ p, p < A 1 → ∀ s, ∀ i, i ≤ 30 → (pds A (fallV A s) p i).2.2.2.2.2 < 2 ^ 31) (h5 : A 1 ≤ 5) (hG6 : A 0 ≤ 6) (h2G : 2 ^ A 0 ≤ 64) : ∀ (mm : Nat) (s : Nat) (τ : Sg), 2 ^ A 0 - s = mm → (s ≤ 2 ^ A 0) → (Fb 242 251 σ τ ∧ RepC τ 4 A) → V E m_X4_fewestFallen (kM E 8 (pI (fun σ' r => Fb 242 251 σ σ' ∧ r = ov (bestS (okF A n) (2 ^ A 0))))) 6 [some (.ref (eB E + 241)), some (.ref (eB E + 4)), some (.int (nI n)), some (.int (ov (bestS (okF A n) s))), some (.int (nI s))] [] τ := by
  intro mm
  induction mm using Nat.strongRecOn with
  | ind mm ih =>
    intro s τ hmm hs hI
    refine V_iload e_X4_fewestFallen_6 rfl ?_
    refine V_iconst (v := nI 1) e_X4_fewestFallen_8 (by decide) ?_
    refine V_aload_n e_X4_fewestFallen_9 rfl rfl ?_
    refine V_getiv (v := nI (A 0)) e_X4_fewestFallen_10 F_X5_gates f_X4_51 rfl hI.2.1.2.2.2.1 ?_
    refine V_ishlN (z := nI (2 ^ (A 0))) e_X4_fewestFallen_13 (shl1 (by omega)) ?_
    refine V_icmp_ge (tgt := 56) e_X4_fewestFallen_14 (by decide) (fun c1 => ?_) (fun c1 => ?_)
    · have d1 : 2 ^ (A 0) ≤ s := nq_le (by first | omega | (have hq9 := fewr_le s (bestS (okF A n) s); omega) | (have hq9 := afS_le A n s (A 1); omega) | exact Nat.lt_of_le_of_lt Nat.and_le_left (by omega)) (by first | omega | (have hq9 := fewr_le s (bestS (okF A n) s); omega) | (have hq9 := afS_le A n s (A 1); omega) | exact Nat.lt_of_le_of_lt Nat.and_le_left (by omega)) c1
      refine V_iload_n e_X4_fewestFallen_56 rfl rfl ?_
      exact V_iret e_X4_fewestFallen_57 rfl (⟨hI.1, by rw [show 2 ^ A 0 = s by omega]⟩)
    · have d1 : ¬ 2 ^ (A 0) ≤ s := nq_nle (by first | omega | (have hq9 := fewr_le s (bestS (okF A n) s); omega) | (have hq9 := afS_le A n s (A 1); omega) | exact Nat.lt_of_le_of_lt Nat.and_le_left (by omega)) (by first | omega | (have hq9 := fewr_le s (bestS (okF A n) s); omega) | (have hq9 := afS_le A n s (A 1); omega) | exact Nat.lt_of_le_of_lt Nat.and_le_left (by omega)) c1
      refine V_iload e_X4_fewestFallen_17 rfl ?_
      refine V_iload_n e_X4_fewestFallen_19 rfl rfl ?_
      refine V_csIe (av := [.int (nI s), .int (ov (bestS (okF A n) s))]) (st := []) e_X4_fewestFallen_20 (c_X4_isFewer E s (bestS (okF A n) s) τ (by omega) (ov_lt (by omega) hG6)) l_X4_54 S_X4_isFewer (rm_ok (by decide) (by decide)) rfl rfl (Nat.le_of_ble_eq_true rfl) ?_
      refine V_if_eq (tgt := 50) e_X4_fewestFallen_23 (by decide) (fun c2 => ?_) (fun c2 => ?_)
      · have d2 : fewr s (bestS (okF A n) s) = 0 := nq_eq (by first | omega | (have hq9 := fewr_le s (bestS (okF A n) s); omega) | (have hq9 := afS_le A n s (A 1); omega) | exact Nat.lt_of_le_of_lt Nat.and_le_left (by omega)) (by first | omega | (have hq9 := fewr_le s (bestS (okF A n) s); omega) | (have hq9 := afS_le A n s (A 1); omega) | exact Nat.lt_of_le_of_lt Nat.and_le_left (by omega)) c2
        refine V_iinc (v := nI (s + 1)) (L' := [some (.ref (eB E + 241)), some (.ref (eB E + 4)), some (.int (nI n)), some (.int (ov (bestS (okF A n) s))), some (.int (nI (s + 1)))]) e_X4_fewestFallen_50 rfl (nI_add _ 1) rfl ?_
        refine V_goto (tgt := 6) e_X4_fewestFallen_53 (by decide) ?_
        rw [(show ov (bestS (okF A n) s) = ov (bestS (okF A n) (s + 1)) from congrArg ov (by rw [bestS, okF]; (first | rw [if_pos d2] | rw [if_neg d2] | skip); try rfl))]; exact ih (2 ^ A 0 - (s + 1)) (by omega) (s + 1) τ rfl (by omega) hI
      · have d2 : ¬ fewr s (bestS (okF A n) s) = 0 := nq_ne (by first | omega | (have hq9 := fewr_le s (bestS (okF A n) s); omega) | (have hq9 := afS_le A n s (A 1); omega) | exact Nat.lt_of_le_of_lt Nat.and_le_left (by omega)) (by first | omega | (have hq9 := fewr_le s (bestS (okF A n) s); omega) | (have hq9 := afS_le A n s (A 1); omega) | exact Nat.lt_of_le_of_lt Nat.and_le_left (by omega)) c2
        refine V_iload e_X4_fewestFallen_26 rfl ?_
        refine V_aload_n e_X4_fewestFallen_28 rfl rfl ?_
        refine V_getiv (v := nI (A 5)) e_X4_fewestFallen_29 F_X5_fallen f_X4_62 rfl hI.2.1.2.2.2.2.2.1 ?_
        refine V_iandN (z := nI (s &&& (A 5))) e_X4_fewestFallen_32 (andI _ _) ?_
        refine V_if_ne (tgt := 50) e_X4_fewestFallen_33 (by decide) (fun c3 => ?_) (fun c3 => ?_)
        · have d3 : ¬ s &&& (A 5) = 0 := nq_ne (by first | omega | (have hq9 := fewr_le s (bestS (okF A n) s); omega) | (have hq9 := afS_le A n s (A 1); omega) | exact Nat.lt_of_le_of_lt Nat.and_le_left (by omega)) (by first | omega | (have hq9 := fewr_le s (bestS (okF A n) s); omega) | (have hq9 := afS_le A n s (A 1); omega) | exact Nat.lt_of_le_of_lt Nat.and_le_left (by omega)) c3
          refine V_iinc (v := nI (s + 1)) (L' := [some (.ref (eB E + 241)), some (.ref (eB E + 4)), some (.int (nI n)), some (.int (ov (bestS (okF A n) s))), some (.int (nI (s + 1)))]) e_X4_fewestFallen_50 rfl (nI_add _ 1) rfl ?_
          refine V_goto (tgt := 6) e_X4_fewestFallen_53 (by decide) ?_
          rw [(show ov (bestS (okF A n) s) = ov (bestS (okF A n) (s + 1)) from congrArg ov (by rw [bestS, okF]; (first | rw [if_pos d2] | rw [if_neg d2] | skip); (first | rw [if_pos d3] | rw [if_neg d3] | skip); try rfl))]; exact ih (2 ^ A 0 - (s + 1)) (by omega) (s + 1) τ rfl (by omega) hI
        · have d3 : s &&& (A 5) = 0 := nq_eq (by first | omega | (have hq9 := fewr_le s (bestS (okF A n) s); omega) | (have hq9 := afS_le A n s (A 1); omega) | exact Nat.lt_of_le_of_lt Nat.and_le_left (by omega)) (by first | omega | (have hq9 := fewr_le s (bestS (okF A n) s); omega) | (have hq9 := afS_le A n s (A 1); omega) | exact Nat.lt_of_le_of_lt Nat.and_le_left (by omega)) c3
          refine V_aload_n e_X4_fewestFallen_36 rfl rfl ?_
          refine V_aload_n e_X4_fewestFallen_37 rfl rfl ?_
          refine V_iload_n e_X4_fewestFallen_38 rfl rfl ?_
          refine V_iload e_X4_fewestFallen_39 rfl ?_
          refine V_cvI (av := [.ref (eB E + 4), .int (nI n), .int (nI s)]) (st := []) e_X4_fewestFallen_41 (c_X4_areAllFedIfFallen E n s A τ hI.2 hF hn (by omega) hub) l_X4_65 S_X4_areAllFedIfFallen rfl (rm_ok (by decide) (by decide)) rfl rfl (Nat.le_of_ble_eq_true rfl) ?_
          intro τ1 r hh
          obtain ⟨hf1, rfl⟩ := hh
          refine V_if_eq (tgt := 50) e_X4_fewestFallen_44 (by decide) (fun c4 => ?_) (fun c4 => ?_)
          · have d4 : afS A n s (A 1) = 0 := nq_eq (by first | omega | (have hq9 := fewr_le s (bestS (okF A n) s); omega) | (have hq9 := afS_le A n s (A 1); omega) | exact Nat.lt_of_le_of_lt Nat.and_le_left (by omega)) (by first | omega | (have hq9 := fewr_le s (bestS (okF A n) s); omega) | (have hq9 := afS_le A n s (A 1); omega) | exact Nat.lt_of_le_of_lt Nat.and_le_left (by omega)) c4
            refine V_iinc (v := nI (s + 1)) (L' := [some (.ref (eB E + 241)), some (.ref (eB E + 4)), some (.int (nI n)), some (.int (ov (bestS (okF A n) s))), some (.int (nI (s + 1)))]) e_X4_fewestFallen_50 rfl (nI_add _ 1) rfl ?_
            refine V_goto (tgt := 6) e_X4_fewestFallen_53 (by decide) ?_
            rw [(show ov (bestS (okF A n) s) = ov (bestS (okF A n) (s + 1)) from congrArg ov (by rw [bestS, okF]; (first | rw [if_pos d2] | rw [if_neg d2] | skip); (first | rw [if_pos d3] | rw [if_neg d3] | skip); (first | rw [if_pos d4] | rw [if_neg d4] | skip); try rfl))]; exact ih (2 ^ A 0 - (s + 1)) (by omega) (s + 1) τ1 rfl (by omega) ⟨hI.1.tr hf1, hI.2.fb h5 hf1 (by omega)⟩
          · have d4 : ¬ afS A n s (A 1) = 0 := nq_ne (by first | omega | (have hq9 := fewr_le s (bestS (okF A n) s); omega) | (have hq9 := afS_le A n s (A 1); omega) | exact Nat.lt_of_le_of_lt Nat.and_le_left (by omega)) (by first | omega | (have hq9 := fewr_le s (bestS (okF A n) s); omega) | (have hq9 := afS_le A n s (A 1); omega) | exact Nat.lt_of_le_of_lt Nat.and_le_left (by omega)) c4
            refine V_iload e_X4_fewestFallen_47 rfl ?_
            refine V_istore_n (L' := [some (.ref (eB E + 241)), some (.ref (eB E + 4)), some (.int (nI n)), some (.int (nI s)), some (.int (nI s))]) e_X4_fewestFallen_49 rfl rfl ?_
            refine V_iinc (v := nI (s + 1)) (L' := [some (.ref (eB E + 241)), some (.ref (eB E + 4)), some (.int (nI n)), some (.int (nI s)), some (.int (nI (s + 1)))]) e_X4_fewestFallen_50 rfl (nI_add _ 1) rfl ?_
            refine V_goto (tgt := 6) e_X4_fewestFallen_53 (by decide) ?_
            rw [(show nI s = ov (bestS (okF A n) (s + 1)) from (by rw [bestS, okF]; (first | rw [if_pos d2] | rw [if_neg d2] | skip); (first | rw [if_pos d3] | rw [if_neg d3] | skip); (first | rw [if_pos d4] | rw [if_neg d4] | skip); rfl))]; exact ih (2 ^ A 0 - (s + 1)) (by omega) (s + 1) τ1 rfl (by omega) ⟨hI.1.tr hf1, hI.2.fb h5 hf1 (by omega)⟩
set_option maxRecDepth 100000 in
set_option maxHeartbeats 4000000 in
theorem c_X4_fewestFallen (E : En) (n : Nat) (A : Vec) (σ : Sg) (hR : RepC σ 4 A) (hF : WF A) (hn : n ≤ 30) (hub : ∀ p, p < A 1 → ∀ s, ∀ i, i ≤ 30 → (pds A (fallV A s) p i).2.2.2.2.2 < 2 ^ 31) : Cn E m_X4_fewestFallen 8 [.ref (eB E + 241), .ref (eB E + 4), .int (nI n)] σ (pI (fun σ' r => Fb 242 251 σ σ' ∧ r = ov (bestS (okF A n) (2 ^ A 0)))) := by
  have h5 := hF.2.2.1
  obtain ⟨hG2, hG6, hA5, hA5p, h2a, h2b, h3a, h3b, hgs⟩ := id hF.1
  refine Cn.of [some (.ref (eB E + 241)), some (.ref (eB E + 4)), some (.int (nI n)), none, none] (by decide) (Nat.le_of_ble_eq_true rfl) rfl ?_
  refine V_ldc (v := (-1000000)) e_X4_fewestFallen_0 k_X4_44 ?_
  refine V_istore_n (L' := [some (.ref (eB E + 241)), some (.ref (eB E + 4)), some (.int (nI n)), some (.int (-1000000)), none]) e_X4_fewestFallen_2 rfl rfl ?_
  refine V_iconst (v := nI 0) e_X4_fewestFallen_3 (by decide) ?_
  refine V_istore (L' := [some (.ref (eB E + 241)), some (.ref (eB E + 4)), some (.int (nI n)), some (.int (-1000000)), some (.int (nI 0))]) e_X4_fewestFallen_4 rfl ?_
  exact lp_X4_fewestFallen E n A σ hR hF hn hub h5 hG6 (pow6 hG6) (2 ^ A 0) 0 σ rfl (by omega) ⟨Fb.rf, hR⟩

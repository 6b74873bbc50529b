set_option maxRecDepth 100000 in
set_option maxHeartbeats 4000000 in
theorem c_X8_kind (E : En) (x : Int32) (A : Vec) (σ : Sg) (hR : RepC σ 4 A) (hN : WN A) : Cn E m_X8_kind 12 [.ref (eB E + 0), .int x] σ (pI (fun σ' r => σ' = σ ∧ r = sKind A x)) := by
  have hNl := hN.le
  refine Cn.of [some (.ref (eB E + 0)), some (.int x)] (by decide) (Nat.le_of_ble_eq_true rfl) rfl ?_
  refine V_aload_n e_X8_kind_0 rfl rfl ?_
  refine V_getr (r := 4) e_X8_kind_1 F_X8_now f_X8_25 rfl rfl ?_
  refine V_iload_n e_X8_kind_4 rfl rfl ?_
  refine V_cvIe (av := [.int x]) (st := []) e_X8_kind_5 (c_X5_hasGate E 4 (A 0) x σ rfl hR.1.2.2.2.1) l_X8_189 S_X5_hasGate rfl (rm_ok (by decide) (by decide)) rfl rfl (Nat.le_of_ble_eq_true rfl) ?_
  refine V_if_eq (tgt := 23) e_X8_kind_8 (by decide) (fun c1 => ?_) (fun c1 => ?_)
  · refine V_ldc (v := (-1000001)) e_X8_kind_23 k_X8_73 ?_
    exact V_iret e_X8_kind_25 rfl (⟨rfl, by unfold sKind; (try unfold gIn); (first | rw [if_pos c1] | rw [if_neg c1] | skip); (try dsimp only); (repeat rw [ixN (by omega)]); try rfl⟩)
  · obtain ⟨g, hg, rfl⟩ := (wi_nat (by omega)).mp c1
    have hF : WF A := hN.wf (by omega)
    refine V_aload_n e_X8_kind_11 rfl rfl ?_
    refine V_getr (r := 4) e_X8_kind_12 F_X8_now f_X8_25 rfl rfl ?_
    refine V_getr (r := 5) e_X8_kind_15 F_X5_sorts f_X8_301 rfl rfl ?_
    refine V_iload_n e_X8_kind_18 rfl rfl ?_
    refine V_ialdv (v := nI (A (7 + 3 * g))) (j := g) e_X8_kind_19 rfl rfl (by have q : ln 5 = 6 := rfl; omega) ((hR.1.2.2.2.2.2.2.2 g (by omega)).1) ?_
    refine V_goto (tgt := 25) e_X8_kind_20 (by decide) ?_
    exact V_iret e_X8_kind_25 rfl (⟨rfl, by unfold sKind; (try unfold gIn); (first | rw [if_pos c1] | rw [if_neg c1] | skip); (try dsimp only); (repeat rw [ixN (by omega)]); try rfl⟩)
set_option maxRecDepth 100000 in
set_option maxHeartbeats 4000000 in
theorem c_X8_homes (E : En) (x : Int32) (A : Vec) (σ : Sg) (hR : RepC σ 4 A) (hN : WN A) : Cn E m_X8_homes 12 [.ref (eB E + 0), .int x] σ (pI (fun σ' r => σ' = σ ∧ r = sHomes A x)) := by
  have hNl := hN.le
  refine Cn.of [some (.ref (eB E + 0)), some (.int x)] (by decide) (Nat.le_of_ble_eq_true rfl) rfl ?_
  refine V_aload_n e_X8_homes_0 rfl rfl ?_
  refine V_getr (r := 4) e_X8_homes_1 F_X8_now f_X8_25 rfl rfl ?_
  refine V_iload_n e_X8_homes_4 rfl rfl ?_
  refine V_cvIe (av := [.int x]) (st := []) e_X8_homes_5 (c_X5_hasGate E 4 (A 0) x σ rfl hR.1.2.2.2.1) l_X8_189 S_X5_hasGate rfl (rm_ok (by decide) (by decide)) rfl rfl (Nat.le_of_ble_eq_true rfl) ?_
  refine V_if_eq (tgt := 22) e_X8_homes_8 (by decide) (fun c1 => ?_) (fun c1 => ?_)
  · refine V_ldc (v := (-1000001)) e_X8_homes_22 k_X8_73 ?_
    exact V_iret e_X8_homes_24 rfl (⟨rfl, by unfold sHomes; (try unfold gIn); (first | rw [if_pos c1] | rw [if_neg c1] | skip); (try dsimp only); (repeat rw [ixN (by omega)]); try rfl⟩)
  · obtain ⟨g, hg, rfl⟩ := (wi_nat (by omega)).mp c1
    have hF : WF A := hN.wf (by omega)
    refine V_aload_n e_X8_homes_11 rfl rfl ?_
    refine V_getr (r := 4) e_X8_homes_12 F_X8_now f_X8_25 rfl rfl ?_
    refine V_iload_n e_X8_homes_15 rfl rfl ?_
    refine V_cvIe (av := [.int (nI g)]) (st := []) e_X8_homes_16 (c_X5_whoIsOf E 4 A g σ rfl hR hNl.2 hF (by omega)) l_X8_259 S_X5_whoIsOf rfl (rm_ok (by decide) (by decide)) rfl rfl (Nat.le_of_ble_eq_true rfl) ?_
    refine V_goto (tgt := 24) e_X8_homes_19 (by decide) ?_
    exact V_iret e_X8_homes_24 rfl (⟨rfl, by unfold sHomes; (try unfold gIn); (first | rw [if_pos c1] | rw [if_neg c1] | skip); (try dsimp only); (repeat rw [ixN (by omega)]); try rfl⟩)
set_option maxRecDepth 100000 in
set_option maxHeartbeats 4000000 in
theorem c_X8_fellows (E : En) (x : Int32) (A : Vec) (σ : Sg) (hR : RepC σ 4 A) (hN : WN A) : Cn E m_X8_fellows 12 [.ref (eB E + 0), .int x] σ (pI (fun σ' r => σ' = σ ∧ r = sFellows A x)) := by
  have hNl := hN.le
  refine Cn.of [some (.ref (eB E + 0)), some (.int x)] (by decide) (Nat.le_of_ble_eq_true rfl) rfl ?_
  refine V_aload_n e_X8_fellows_0 rfl rfl ?_
  refine V_getr (r := 4) e_X8_fellows_1 F_X8_now f_X8_25 rfl rfl ?_
  refine V_iload_n e_X8_fellows_4 rfl rfl ?_
  refine V_cvIe (av := [.int x]) (st := []) e_X8_fellows_5 (c_X5_hasPerson E 4 (A 1) x σ rfl hR.1.2.2.2.2.1) l_X8_164 S_X5_hasPerson rfl (rm_ok (by decide) (by decide)) rfl rfl (Nat.le_of_ble_eq_true rfl) ?_
  refine V_if_eq (tgt := 22) e_X8_fellows_8 (by decide) (fun c1 => ?_) (fun c1 => ?_)
  · refine V_ldc (v := (-1000001)) e_X8_fellows_22 k_X8_73 ?_
    exact V_iret e_X8_fellows_24 rfl (⟨rfl, by unfold sFellows; (try unfold gIn); (first | rw [if_pos c1] | rw [if_neg c1] | skip); (try dsimp only); (repeat rw [ixN (by omega)]); try rfl⟩)
  · obtain ⟨p, hp, rfl⟩ := (wi_nat (by omega)).mp c1
    have hF : WF A := hN.wf (by omega)
    refine V_aload_n e_X8_fellows_11 rfl rfl ?_
    refine V_getr (r := 4) e_X8_fellows_12 F_X8_now f_X8_25 rfl rfl ?_
    refine V_iload_n e_X8_fellows_15 rfl rfl ?_
    refine V_cvIe (av := [.int (nI p)]) (st := []) e_X8_fellows_16 (c_X5_fellowsOf E 4 A p σ rfl hR hNl.2 hF hp) l_X8_256 S_X5_fellowsOf rfl (rm_ok (by decide) (by decide)) rfl rfl (Nat.le_of_ble_eq_true rfl) ?_
    refine V_goto (tgt := 24) e_X8_fellows_19 (by decide) ?_
    exact V_iret e_X8_fellows_24 rfl (⟨rfl, by unfold sFellows; (try unfold gIn); (first | rw [if_pos c1] | rw [if_neg c1] | skip); (try dsimp only); (repeat rw [ixN (by omega)]); try rfl⟩)
set_option maxRecDepth 100000 in
set_option maxHeartbeats 4000000 in
theorem c_X8_share (E : En) (x y : Int32) (A : Vec) (σ : Sg) (hR : RepC σ 4 A) (hN : WN A) : Cn E m_X8_share 12 [.ref (eB E + 0), .int x, .int y] σ (pI (fun σ' r => σ' = σ ∧ r = sShare A x y)) := by
  have hNl := hN.le
  refine Cn.of [some (.ref (eB E + 0)), some (.int x), some (.int y)] (by decide) (Nat.le_of_ble_eq_true rfl) rfl ?_
  refine V_aload_n e_X8_share_0 rfl rfl ?_
  refine V_getr (r := 4) e_X8_share_1 F_X8_now f_X8_25 rfl rfl ?_
  refine V_iload_n e_X8_share_4 rfl rfl ?_
  refine V_cvIe (av := [.int x]) (st := []) e_X8_share_5 (c_X5_hasPerson E 4 (A 1) x σ rfl hR.1.2.2.2.2.1) l_X8_164 S_X5_hasPerson rfl (rm_ok (by decide) (by decide)) rfl rfl (Nat.le_of_ble_eq_true rfl) ?_
  refine V_if_eq (tgt := 22) e_X8_share_8 (by decide) (fun c1 => ?_) (fun c1 => ?_)
  · refine V_ldc (v := (-1000001)) e_X8_share_22 k_X8_73 ?_
    exact V_iret e_X8_share_24 rfl (⟨rfl, by unfold sShare; (try unfold gIn); (first | rw [if_pos c1] | rw [if_neg c1] | skip); (try dsimp only); (repeat rw [ixN (by omega)]); try rfl⟩)
  · obtain ⟨p, hp, rfl⟩ := (wi_nat (by omega)).mp c1
    have hF : WF A := hN.wf (by omega)
    refine V_iload_n e_X8_share_11 rfl rfl ?_
    refine V_iconst (v := nI 0) e_X8_share_12 (by decide) ?_
    refine V_sipush (v := nI 999) e_X8_share_13 (by decide) ?_
    refine V_csIe (av := [.int y, .int (nI 0), .int (nI 999)]) (st := []) e_X8_share_16 (c_X8_within E y (nI 0) (nI 999) σ) l_X8_69 S_X8_within (rm_ok (by decide) (by decide)) rfl rfl (Nat.le_of_ble_eq_true rfl) ?_
    refine V_if_ne (tgt := 25) e_X8_share_19 (by decide) (fun c2 => ?_) (fun c2 => ?_)
    · obtain ⟨n, hna, hn, rfl⟩ := (wi_le (by omega) (by omega)).mp c2
      refine V_aload_n e_X8_share_25 rfl rfl ?_
      refine V_getr (r := 4) e_X8_share_26 F_X8_now f_X8_25 rfl rfl ?_
      refine V_iload_n e_X8_share_29 rfl rfl ?_
      refine V_iload_n e_X8_share_30 rfl rfl ?_
      refine V_cvIe (av := [.int (nI p), .int (nI n)]) (st := []) e_X8_share_31 (c_X5_shareOf E 4 p n A σ rfl hR hF hp (by omega)) l_X8_262 S_X5_shareOf rfl (rm_ok (by decide) (by decide)) rfl rfl (Nat.le_of_ble_eq_true rfl) ?_
      exact V_iret e_X8_share_34 rfl (⟨rfl, by unfold sShare; (try unfold gIn); (first | rw [if_pos c1] | rw [if_neg c1] | skip); (first | rw [if_pos c2] | rw [if_neg c2] | skip); (try dsimp only); (repeat rw [ixN (by omega)]); try rfl⟩)
    · refine V_ldc (v := (-1000001)) e_X8_share_22 k_X8_73 ?_
      exact V_iret e_X8_share_24 rfl (⟨rfl, by unfold sShare; (try unfold gIn); (first | rw [if_pos c1] | rw [if_neg c1] | skip); (first | rw [if_pos c2] | rw [if_neg c2] | skip); (try dsimp only); (repeat rw [ixN (by omega)]); try rfl⟩)
set_option maxRecDepth 100000 in
set_option maxHeartbeats 4000000 in
theorem c_X8_when (E : En) (x y : Int32) (A : Vec) (σ : Sg) (hR : RepC σ 4 A) (hN : WN A) : Cn E m_X8_when 12 [.ref (eB E + 0), .int x, .int y] σ (pI (fun σ' r => Fb 242 251 σ σ' ∧ r = sWhen A x y)) := by
  have hNl := hN.le
  refine Cn.of [some (.ref (eB E + 0)), some (.int x), some (.int y)] (by decide) (Nat.le_of_ble_eq_true rfl) rfl ?_
  refine V_aload_n e_X8_when_0 rfl rfl ?_
  refine V_getr (r := 4) e_X8_when_1 F_X8_now f_X8_25 rfl rfl ?_
  refine V_iload_n e_X8_when_4 rfl rfl ?_
  refine V_cvIe (av := [.int x]) (st := []) e_X8_when_5 (c_X5_hasPerson E 4 (A 1) x σ rfl hR.1.2.2.2.2.1) l_X8_164 S_X5_hasPerson rfl (rm_ok (by decide) (by decide)) rfl rfl (Nat.le_of_ble_eq_true rfl) ?_
  refine V_if_eq (tgt := 22) e_X8_when_8 (by decide) (fun c1 => ?_) (fun c1 => ?_)
  · refine V_ldc (v := (-1000001)) e_X8_when_22 k_X8_73 ?_
    exact V_iret e_X8_when_24 rfl (⟨Fb.rf, by unfold sWhen; (try unfold gIn); (first | rw [if_pos c1] | rw [if_neg c1] | skip); (try dsimp only); (repeat rw [ixN (by omega)]); try rfl⟩)
  · obtain ⟨p, hp, rfl⟩ := (wi_nat (by omega)).mp c1
    have hF : WF A := hN.wf (by omega)
    refine V_aload_n e_X8_when_11 rfl rfl ?_
    refine V_getr (r := 4) e_X8_when_12 F_X8_now f_X8_25 rfl rfl ?_
    refine V_iload_n e_X8_when_15 rfl rfl ?_
    refine V_cvIe (av := [.int y]) (st := []) e_X8_when_16 (c_X5_hasGate E 4 (A 0) y σ rfl hR.1.2.2.2.1) l_X8_189 S_X5_hasGate rfl (rm_ok (by decide) (by decide)) rfl rfl (Nat.le_of_ble_eq_true rfl) ?_
    refine V_if_ne (tgt := 25) e_X8_when_19 (by decide) (fun c2 => ?_) (fun c2 => ?_)
    · obtain ⟨g, hg, rfl⟩ := (wi_nat (by omega)).mp c2
      refine V_aload_n e_X8_when_25 rfl rfl ?_
      refine V_getr (r := 241) e_X8_when_26 F_X8_seer f_X8_46 rfl rfl ?_
      refine V_aload_n e_X8_when_29 rfl rfl ?_
      refine V_getr (r := 4) e_X8_when_30 F_X8_now f_X8_25 rfl rfl ?_
      refine V_iload_n e_X8_when_33 rfl rfl ?_
      refine V_iload_n e_X8_when_34 rfl rfl ?_
      refine V_cvI (av := [.ref (eB E + 4), .int (nI p), .int (nI g)]) (st := []) e_X8_when_35 (c_X4_daysUntilOf E p g A σ hR hF hp hg) l_X8_224 S_X4_daysUntilOf rfl (rm_ok (by decide) (by decide)) rfl rfl (Nat.le_of_ble_eq_true rfl) ?_
      intro τ r hh
      obtain ⟨hfb, rfl⟩ := hh
      exact V_iret e_X8_when_38 rfl (⟨hfb, by unfold sWhen; (try unfold gIn); (first | rw [if_pos c1] | rw [if_neg c1] | skip); (first | rw [if_pos c2] | rw [if_neg c2] | skip); (try dsimp only); (repeat rw [ixN (by omega)]); try rfl⟩)
    · refine V_ldc (v := (-1000001)) e_X8_when_22 k_X8_73 ?_
      exact V_iret e_X8_when_24 rfl (⟨Fb.rf, by unfold sWhen; (try unfold gIn); (first | rw [if_pos c1] | rw [if_neg c1] | skip); (first | rw [if_pos c2] | rw [if_neg c2] | skip); (try dsimp only); (repeat rw [ixN (by omega)]); try rfl⟩)
set_option maxRecDepth 100000 in
set_option maxHeartbeats 4000000 in
theorem c_X8_first (E : En) (x : Int32) (A : Vec) (σ : Sg) (hR : RepC σ 4 A) (hN : WN A) (hB : HBd A) : Cn E m_X8_first 12 [.ref (eB E + 0), .int x] σ (pI (fun σ' r => Fb 242 251 σ σ' ∧ r = sFirst A x)) := by
  have hNl := hN.le
  refine Cn.of [some (.ref (eB E + 0)), some (.int x)] (by decide) (Nat.le_of_ble_eq_true rfl) rfl ?_
  refine V_aload_n e_X8_first_0 rfl rfl ?_
  refine V_getr (r := 4) e_X8_first_1 F_X8_now f_X8_25 rfl rfl ?_
  refine V_cvIe (av := []) (st := []) e_X8_first_4 (c_X5_isNone E 4 (A 0) σ rfl hR.1.2.2.2.1 hNl.1) l_X8_147 S_X5_isNone rfl (rm_ok (by decide) (by decide)) rfl rfl (Nat.le_of_ble_eq_true rfl) ?_
  refine V_if_eq (tgt := 13) e_X8_first_7 (by decide) (fun c1 => ?_) (fun c1 => ?_)
  · have d1 : (if A 0 = 0 then 1 else 0) = 0 := nq_eq (by first | omega | (split <;> omega)) (by first | omega | (split <;> omega)) c1
    have hA0 : ¬ A 0 = 0 := fun q => by rw [if_pos q] at d1; omega
    have hF : WF A := hN.wf (by omega)
    refine V_iload_n e_X8_first_13 rfl rfl ?_
    refine V_iconst (v := nI 0) e_X8_first_14 (by decide) ?_
    refine V_iconst (v := nI 1) e_X8_first_15 (by decide) ?_
    refine V_csIe (av := [.int x, .int (nI 0), .int (nI 1)]) (st := []) e_X8_first_16 (c_X8_within E x (nI 0) (nI 1) σ) l_X8_69 S_X8_within (rm_ok (by decide) (by decide)) rfl rfl (Nat.le_of_ble_eq_true rfl) ?_
    refine V_if_eq (tgt := 37) e_X8_first_19 (by decide) (fun c2 => ?_) (fun c2 => ?_)
    · refine V_ldc (v := (-1000001)) e_X8_first_37 k_X8_73 ?_
      exact V_iret e_X8_first_39 rfl (⟨Fb.rf, by unfold sFirst; (try unfold gIn); (first | rw [if_pos hA0] | rw [if_neg hA0] | skip); (first | rw [if_pos d1] | rw [if_neg d1] | skip); (first | rw [if_pos c2] | rw [if_neg c2] | skip); (try dsimp only); (repeat rw [ixN (by omega)]); try rfl⟩)
    · obtain ⟨w, hwa, hw, rfl⟩ := (wi_le (by omega) (by omega)).mp c2
      refine V_aload_n e_X8_first_22 rfl rfl ?_
      refine V_getr (r := 241) e_X8_first_23 F_X8_seer f_X8_46 rfl rfl ?_
      refine V_aload_n e_X8_first_26 rfl rfl ?_
      refine V_getr (r := 4) e_X8_first_27 F_X8_now f_X8_25 rfl rfl ?_
      refine V_iload_n e_X8_first_30 rfl rfl ?_
      refine V_cvI (av := [.ref (eB E + 4), .int (nI w)]) (st := []) e_X8_first_31 (c_X4_hungryFirst E w A σ hR hF (by omega) (fun m hm i hi => hB.b hm hi)) l_X8_228 S_X4_hungryFirst rfl (rm_ok (by decide) (by decide)) rfl rfl (Nat.le_of_ble_eq_true rfl) ?_
      intro τ r hh
      obtain ⟨hfb, rfl⟩ := hh
      refine V_goto (tgt := 39) e_X8_first_34 (by decide) ?_
      exact V_iret e_X8_first_39 rfl (⟨hfb, by unfold sFirst; (try unfold gIn); (first | rw [if_pos hA0] | rw [if_neg hA0] | skip); (first | rw [if_pos d1] | rw [if_neg d1] | skip); (first | rw [if_pos c2] | rw [if_neg c2] | skip); (try dsimp only); (repeat rw [ixN (by omega)]); try rfl⟩)
  · have d1 : ¬ (if A 0 = 0 then 1 else 0) = 0 := nq_ne (by first | omega | (split <;> omega)) (by first | omega | (split <;> omega)) c1
    have hA0 : A 0 = 0 := Decidable.byContradiction (fun q => by rw [if_neg q] at d1; omega)
    refine V_ldc (v := (-1000002)) e_X8_first_10 k_X8_146 ?_
    exact V_iret e_X8_first_12 rfl (⟨Fb.rf, by unfold sFirst; (try unfold gIn); (first | rw [if_pos hA0] | rw [if_neg hA0] | skip); (first | rw [if_pos d1] | rw [if_neg d1] | skip); (try dsimp only); (repeat rw [ixN (by omega)]); try rfl⟩)
set_option maxRecDepth 100000 in
set_option maxHeartbeats 4000000 in
theorem c_X8_rounds (E : En) (x y z w : Int32) (A : Vec) (σ : Sg) (hR : RepC σ 4 A) (hN : WN A) : Cn E m_X8_rounds 12 [.ref (eB E + 0), .int x, .int y, .int z, .int w] σ (pI (fun σ' r => Fb 242 251 σ σ' ∧ r = sRounds A x y z w)) := by
  have hNl := hN.le
  refine Cn.of [some (.ref (eB E + 0)), some (.int x), some (.int y), some (.int z), some (.int w)] (by decide) (Nat.le_of_ble_eq_true rfl) rfl ?_
  refine V_aload_n e_X8_rounds_0 rfl rfl ?_
  refine V_getr (r := 4) e_X8_rounds_1 F_X8_now f_X8_25 rfl rfl ?_
  refine V_iload_n e_X8_rounds_4 rfl rfl ?_
  refine V_cvIe (av := [.int x]) (st := []) e_X8_rounds_5 (c_X5_hasPerson E 4 (A 1) x σ rfl hR.1.2.2.2.2.1) l_X8_164 S_X5_hasPerson rfl (rm_ok (by decide) (by decide)) rfl rfl (Nat.le_of_ble_eq_true rfl) ?_
  refine V_if_eq (tgt := 42) e_X8_rounds_8 (by decide) (fun c1 => ?_) (fun c1 => ?_)
  · refine V_ldc (v := (-1000001)) e_X8_rounds_42 k_X8_73 ?_
    exact V_iret e_X8_rounds_44 rfl (⟨Fb.rf, by unfold sRounds; (try unfold gIn); (first | rw [if_pos c1] | rw [if_neg c1] | skip); (try dsimp only); (repeat rw [ixN (by omega)]); try rfl⟩)
  · obtain ⟨p, hp, rfl⟩ := (wi_nat (by omega)).mp c1
    have hF : WF A := hN.wf (by omega)
    refine V_aload_n e_X8_rounds_11 rfl rfl ?_
    refine V_getr (r := 4) e_X8_rounds_12 F_X8_now f_X8_25 rfl rfl ?_
    refine V_iload_n e_X8_rounds_15 rfl rfl ?_
    refine V_cvIe (av := [.int y]) (st := []) e_X8_rounds_16 (c_X5_hasGate E 4 (A 0) y σ rfl hR.1.2.2.2.1) l_X8_189 S_X5_hasGate rfl (rm_ok (by decide) (by decide)) rfl rfl (Nat.le_of_ble_eq_true rfl) ?_
    refine V_if_eq (tgt := 42) e_X8_rounds_19 (by decide) (fun c2 => ?_) (fun c2 => ?_)
    · refine V_ldc (v := (-1000001)) e_X8_rounds_42 k_X8_73 ?_
      exact V_iret e_X8_rounds_44 rfl (⟨Fb.rf, by unfold sRounds; (try unfold gIn); (first | rw [if_pos c1] | rw [if_neg c1] | skip); (first | rw [if_pos c2] | rw [if_neg c2] | skip); (try dsimp only); (repeat rw [ixN (by omega)]); try rfl⟩)
    · obtain ⟨g, hg, rfl⟩ := (wi_nat (by omega)).mp c2
      refine V_iload_n e_X8_rounds_22 rfl rfl ?_
      refine V_iconst (v := nI 1) e_X8_rounds_23 (by decide) ?_
      refine V_bipush (v := nI 30) e_X8_rounds_24 (by decide) ?_
      refine V_csIe (av := [.int z, .int (nI 1), .int (nI 30)]) (st := []) e_X8_rounds_26 (c_X8_within E z (nI 1) (nI 30) σ) l_X8_69 S_X8_within (rm_ok (by decide) (by decide)) rfl rfl (Nat.le_of_ble_eq_true rfl) ?_
      refine V_if_eq (tgt := 42) e_X8_rounds_29 (by decide) (fun c3 => ?_) (fun c3 => ?_)
      · refine V_ldc (v := (-1000001)) e_X8_rounds_42 k_X8_73 ?_
        exact V_iret e_X8_rounds_44 rfl (⟨Fb.rf, by unfold sRounds; (try unfold gIn); (first | rw [if_pos c1] | rw [if_neg c1] | skip); (first | rw [if_pos c2] | rw [if_neg c2] | skip); (first | rw [if_pos c3] | rw [if_neg c3] | skip); (try dsimp only); (repeat rw [ixN (by omega)]); try rfl⟩)
      · obtain ⟨n, hna, hn, rfl⟩ := (wi_le (by omega) (by omega)).mp c3
        refine V_iload e_X8_rounds_32 rfl ?_
        refine V_iconst (v := nI 0) e_X8_rounds_34 (by decide) ?_
        refine V_iconst (v := nI 1) e_X8_rounds_35 (by decide) ?_
        refine V_csIe (av := [.int w, .int (nI 0), .int (nI 1)]) (st := []) e_X8_rounds_36 (c_X8_within E w (nI 0) (nI 1) σ) l_X8_69 S_X8_within (rm_ok (by decide) (by decide)) rfl rfl (Nat.le_of_ble_eq_true rfl) ?_
        refine V_if_ne (tgt := 45) e_X8_rounds_39 (by decide) (fun c4 => ?_) (fun c4 => ?_)
        · refine V_aload_n e_X8_rounds_45 rfl rfl ?_
          refine V_getr (r := 241) e_X8_rounds_46 F_X8_seer f_X8_46 rfl rfl ?_
          refine V_aload_n e_X8_rounds_49 rfl rfl ?_
          refine V_getr (r := 4) e_X8_rounds_50 F_X8_now f_X8_25 rfl rfl ?_
          refine V_iload_n e_X8_rounds_53 rfl rfl ?_
          refine V_iload_n e_X8_rounds_54 rfl rfl ?_
          refine V_iload_n e_X8_rounds_55 rfl rfl ?_
          refine V_cvI (av := [.ref (eB E + 4), .int (nI p), .int (nI g), .int (nI n)]) (st := []) e_X8_rounds_56 (c_X4_fewestTurned E p g n A σ hR hF hp hg (by omega)) l_X8_247 S_X4_fewestTurned rfl (rm_ok (by decide) (by decide)) rfl rfl (Nat.le_of_ble_eq_true rfl) ?_
          intro τ r hh
          obtain ⟨hfb, rfl⟩ := hh
          refine V_iload e_X8_rounds_59 rfl ?_
          refine V_csIe (av := [.int (ov (bestS (otS A p g n) (2 ^ A 0))), .int w]) (st := []) e_X8_rounds_61 (c_X8_sizeOrSet E (ov (bestS (otS A p g n) (2 ^ A 0))) w τ) l_X8_250 S_X8_sizeOrSet (rm_ok (by decide) (by decide)) rfl rfl (Nat.le_of_ble_eq_true rfl) ?_
          exact V_iret e_X8_rounds_64 rfl (⟨hfb, by unfold sRounds; (try unfold gIn); (first | rw [if_pos c1] | rw [if_neg c1] | skip); (first | rw [if_pos c2] | rw [if_neg c2] | skip); (first | rw [if_pos c3] | rw [if_neg c3] | skip); (first | rw [if_pos c4] | rw [if_neg c4] | skip); (try dsimp only); (repeat rw [ixN (by omega)]); try rfl⟩)
        · refine V_ldc (v := (-1000001)) e_X8_rounds_42 k_X8_73 ?_
          exact V_iret e_X8_rounds_44 rfl (⟨Fb.rf, by unfold sRounds; (try unfold gIn); (first | rw [if_pos c1] | rw [if_neg c1] | skip); (first | rw [if_pos c2] | rw [if_neg c2] | skip); (first | rw [if_pos c3] | rw [if_neg c3] | skip); (first | rw [if_pos c4] | rw [if_neg c4] | skip); (try dsimp only); (repeat rw [ixN (by omega)]); try rfl⟩)
set_option maxRecDepth 100000 in
set_option maxHeartbeats 4000000 in
theorem c_X8_falls (E : En) (x y : Int32) (A : Vec) (σ : Sg) (hR : RepC σ 4 A) (hN : WN A) (hB : HBd A) : Cn E m_X8_falls 12 [.ref (eB E + 0), .int x, .int y] σ (pI (fun σ' r => Fb 242 251 σ σ' ∧ r = sFalls A x y)) := by
  have hNl := hN.le
  refine Cn.of [some (.ref (eB E + 0)), some (.int x), some (.int y)] (by decide) (Nat.le_of_ble_eq_true rfl) rfl ?_
  refine V_aload_n e_X8_falls_0 rfl rfl ?_
  refine V_getr (r := 4) e_X8_falls_1 F_X8_now f_X8_25 rfl rfl ?_
  refine V_cvIe (av := []) (st := []) e_X8_falls_4 (c_X5_isNone E 4 (A 0) σ rfl hR.1.2.2.2.1 hNl.1) l_X8_147 S_X5_isNone rfl (rm_ok (by decide) (by decide)) rfl rfl (Nat.le_of_ble_eq_true rfl) ?_
  refine V_if_eq (tgt := 13) e_X8_falls_7 (by decide) (fun c1 => ?_) (fun c1 => ?_)
  · have d1 : (if A 0 = 0 then 1 else 0) = 0 := nq_eq (by first | omega | (split <;> omega)) (by first | omega | (split <;> omega)) c1
    have hA0 : ¬ A 0 = 0 := fun q => by rw [if_pos q] at d1; omega
    have hF : WF A := hN.wf (by omega)
    refine V_iload_n e_X8_falls_13 rfl rfl ?_
    refine V_iconst (v := nI 1) e_X8_falls_14 (by decide) ?_
    refine V_bipush (v := nI 30) e_X8_falls_15 (by decide) ?_
    refine V_csIe (av := [.int x, .int (nI 1), .int (nI 30)]) (st := []) e_X8_falls_17 (c_X8_within E x (nI 1) (nI 30) σ) l_X8_69 S_X8_within (rm_ok (by decide) (by decide)) rfl rfl (Nat.le_of_ble_eq_true rfl) ?_
    refine V_if_eq (tgt := 32) e_X8_falls_20 (by decide) (fun c2 => ?_) (fun c2 => ?_)
    · refine V_ldc (v := (-1000001)) e_X8_falls_32 k_X8_73 ?_
      exact V_iret e_X8_falls_34 rfl (⟨Fb.rf, by unfold sFalls; (try unfold gIn); (first | rw [if_pos hA0] | rw [if_neg hA0] | skip); (first | rw [if_pos d1] | rw [if_neg d1] | skip); (first | rw [if_pos c2] | rw [if_neg c2] | skip); (try dsimp only); (repeat rw [ixN (by omega)]); try rfl⟩)
    · obtain ⟨n, hna, hn, rfl⟩ := (wi_le (by omega) (by omega)).mp c2
      refine V_iload_n e_X8_falls_23 rfl rfl ?_
      refine V_iconst (v := nI 0) e_X8_falls_24 (by decide) ?_
      refine V_iconst (v := nI 1) e_X8_falls_25 (by decide) ?_
      refine V_csIe (av := [.int y, .int (nI 0), .int (nI 1)]) (st := []) e_X8_falls_26 (c_X8_within E y (nI 0) (nI 1) σ) l_X8_69 S_X8_within (rm_ok (by decide) (by decide)) rfl rfl (Nat.le_of_ble_eq_true rfl) ?_
      refine V_if_ne (tgt := 35) e_X8_falls_29 (by decide) (fun c3 => ?_) (fun c3 => ?_)
      · refine V_aload_n e_X8_falls_35 rfl rfl ?_
        refine V_getr (r := 241) e_X8_falls_36 F_X8_seer f_X8_46 rfl rfl ?_
        refine V_aload_n e_X8_falls_39 rfl rfl ?_
        refine V_getr (r := 4) e_X8_falls_40 F_X8_now f_X8_25 rfl rfl ?_
        refine V_iload_n e_X8_falls_43 rfl rfl ?_
        refine V_cvI (av := [.ref (eB E + 4), .int (nI n)]) (st := []) e_X8_falls_44 (c_X4_fewestFallen E n A σ hR hF (by omega) (fun p hp s i hi => hB.b hp (by omega))) l_X8_253 S_X4_fewestFallen rfl (rm_ok (by decide) (by decide)) rfl rfl (Nat.le_of_ble_eq_true rfl) ?_
        intro τ r hh
        obtain ⟨hfb, rfl⟩ := hh
        refine V_iload_n e_X8_falls_47 rfl rfl ?_
        refine V_csIe (av := [.int (ov (bestS (okF A n) (2 ^ A 0))), .int y]) (st := []) e_X8_falls_48 (c_X8_sizeOrSet E (ov (bestS (okF A n) (2 ^ A 0))) y τ) l_X8_250 S_X8_sizeOrSet (rm_ok (by decide) (by decide)) rfl rfl (Nat.le_of_ble_eq_true rfl) ?_
        exact V_iret e_X8_falls_51 rfl (⟨hfb, by unfold sFalls; (try unfold gIn); (first | rw [if_pos hA0] | rw [if_neg hA0] | skip); (first | rw [if_pos d1] | rw [if_neg d1] | skip); (first | rw [if_pos c2] | rw [if_neg c2] | skip); (first | rw [if_pos c3] | rw [if_neg c3] | skip); (try dsimp only); (repeat rw [ixN (by omega)]); try rfl⟩)
      · refine V_ldc (v := (-1000001)) e_X8_falls_32 k_X8_73 ?_
        exact V_iret e_X8_falls_34 rfl (⟨Fb.rf, by unfold sFalls; (try unfold gIn); (first | rw [if_pos hA0] | rw [if_neg hA0] | skip); (first | rw [if_pos d1] | rw [if_neg d1] | skip); (first | rw [if_pos c2] | rw [if_neg c2] | skip); (first | rw [if_pos c3] | rw [if_neg c3] | skip); (try dsimp only); (repeat rw [ixN (by omega)]); try rfl⟩)
  · have d1 : ¬ (if A 0 = 0 then 1 else 0) = 0 := nq_ne (by first | omega | (split <;> omega)) (by first | omega | (split <;> omega)) c1
    have hA0 : A 0 = 0 := Decidable.byContradiction (fun q => by rw [if_neg q] at d1; omega)
    refine V_ldc (v := (-1000002)) e_X8_falls_10 k_X8_146 ?_
    exact V_iret e_X8_falls_12 rfl (⟨Fb.rf, by unfold sFalls; (try unfold gIn); (first | rw [if_pos hA0] | rw [if_neg hA0] | skip); (first | rw [if_pos d1] | rw [if_neg d1] | skip); (try dsimp only); (repeat rw [ixN (by omega)]); try rfl⟩)
set_option maxRecDepth 100000 in
set_option maxHeartbeats 4000000 in
theorem c_X8_fed (E : En) (x y z w : Int32) (A : Vec) (σ : Sg) (hR : RepC σ 4 A) (hN : WN A) (hB : HBd A) : Cn E m_X8_fed 12 [.ref (eB E + 0), .int x, .int y, .int z, .int w] σ (pJ (fun σ' r => Fb 242 251 σ σ' ∧ r = sFed A x y z w)) := by
  have hNl := hN.le
  refine Cn.of [some (.ref (eB E + 0)), some (.int x), some (.int y), some (.int z), some (.int w)] (by decide) (Nat.le_of_ble_eq_true rfl) rfl ?_
  refine V_aload_n e_X8_fed_0 rfl rfl ?_
  refine V_getr (r := 4) e_X8_fed_1 F_X8_now f_X8_25 rfl rfl ?_
  refine V_iload_n e_X8_fed_4 rfl rfl ?_
  refine V_cvIe (av := [.int x]) (st := []) e_X8_fed_5 (c_X5_hasPerson E 4 (A 1) x σ rfl hR.1.2.2.2.2.1) l_X8_164 S_X5_hasPerson rfl (rm_ok (by decide) (by decide)) rfl rfl (Nat.le_of_ble_eq_true rfl) ?_
  refine V_if_eq (tgt := 41) e_X8_fed_8 (by decide) (fun c1 => ?_) (fun c1 => ?_)
  · refine V_ldc2_w (v := (-1000001)) e_X8_fed_41 kl_X8_288 ?_
    exact V_lret e_X8_fed_44 rfl (⟨Fb.rf, by unfold sFed; (try unfold gIn); (first | rw [if_pos c1] | rw [if_neg c1] | skip); (try dsimp only); (repeat rw [ixN (by omega)]); try rfl⟩)
  · obtain ⟨p, hp, rfl⟩ := (wi_nat (by omega)).mp c1
    have hF : WF A := hN.wf (by omega)
    refine V_iload_n e_X8_fed_11 rfl rfl ?_
    refine V_iconst (v := nI 0) e_X8_fed_12 (by decide) ?_
    refine V_bipush (v := nI 30) e_X8_fed_13 (by decide) ?_
    refine V_csIe (av := [.int y, .int (nI 0), .int (nI 30)]) (st := []) e_X8_fed_15 (c_X8_within E y (nI 0) (nI 30) σ) l_X8_69 S_X8_within (rm_ok (by decide) (by decide)) rfl rfl (Nat.le_of_ble_eq_true rfl) ?_
    refine V_if_eq (tgt := 41) e_X8_fed_18 (by decide) (fun c2 => ?_) (fun c2 => ?_)
    · refine V_ldc2_w (v := (-1000001)) e_X8_fed_41 kl_X8_288 ?_
      exact V_lret e_X8_fed_44 rfl (⟨Fb.rf, by unfold sFed; (try unfold gIn); (first | rw [if_pos c1] | rw [if_neg c1] | skip); (first | rw [if_pos c2] | rw [if_neg c2] | skip); (try dsimp only); (repeat rw [ixN (by omega)]); try rfl⟩)
    · obtain ⟨n, hna, hn, rfl⟩ := (wi_le (by omega) (by omega)).mp c2
      refine V_iload_n e_X8_fed_21 rfl rfl ?_
      refine V_iconst (v := nI 0) e_X8_fed_22 (by decide) ?_
      refine V_bipush (v := nI 10) e_X8_fed_23 (by decide) ?_
      refine V_csIe (av := [.int z, .int (nI 0), .int (nI 10)]) (st := []) e_X8_fed_25 (c_X8_within E z (nI 0) (nI 10) σ) l_X8_69 S_X8_within (rm_ok (by decide) (by decide)) rfl rfl (Nat.le_of_ble_eq_true rfl) ?_
      refine V_if_eq (tgt := 41) e_X8_fed_28 (by decide) (fun c3 => ?_) (fun c3 => ?_)
      · refine V_ldc2_w (v := (-1000001)) e_X8_fed_41 kl_X8_288 ?_
        exact V_lret e_X8_fed_44 rfl (⟨Fb.rf, by unfold sFed; (try unfold gIn); (first | rw [if_pos c1] | rw [if_neg c1] | skip); (first | rw [if_pos c2] | rw [if_neg c2] | skip); (first | rw [if_pos c3] | rw [if_neg c3] | skip); (try dsimp only); (repeat rw [ixN (by omega)]); try rfl⟩)
      · obtain ⟨pr, hpra, hpr, rfl⟩ := (wi_le (by omega) (by omega)).mp c3
        refine V_iload e_X8_fed_31 rfl ?_
        refine V_iconst (v := nI 0) e_X8_fed_33 (by decide) ?_
        refine V_iconst (v := nI 1) e_X8_fed_34 (by decide) ?_
        refine V_csIe (av := [.int w, .int (nI 0), .int (nI 1)]) (st := []) e_X8_fed_35 (c_X8_within E w (nI 0) (nI 1) σ) l_X8_69 S_X8_within (rm_ok (by decide) (by decide)) rfl rfl (Nat.le_of_ble_eq_true rfl) ?_
        refine V_if_ne (tgt := 45) e_X8_fed_38 (by decide) (fun c4 => ?_) (fun c4 => ?_)
        · obtain ⟨v, hva, hv, rfl⟩ := (wi_le (by omega) (by omega)).mp c4
          refine V_aload_n e_X8_fed_45 rfl rfl ?_
          refine V_getr (r := 241) e_X8_fed_46 F_X8_seer f_X8_46 rfl rfl ?_
          refine V_aload_n e_X8_fed_49 rfl rfl ?_
          refine V_getr (r := 4) e_X8_fed_50 F_X8_now f_X8_25 rfl rfl ?_
          refine V_iload_n e_X8_fed_53 rfl rfl ?_
          refine V_iload_n e_X8_fed_54 rfl rfl ?_
          refine V_iload_n e_X8_fed_55 rfl rfl ?_
          refine V_iload e_X8_fed_56 rfl ?_
          refine V_cvJ (av := [.ref (eB E + 4), .int (nI p), .int (nI n), .int (nI pr), .int (nI v)]) (st := []) e_X8_fed_58 (c_X4_likelyFed E p n pr v A σ hR hF hp (by omega) (by omega) (by omega) (fun s i hi => hB.b hp (by omega))) l_X8_290 S_X4_likelyFed rfl (rm_ok (by decide) (by decide)) rfl rfl (Nat.le_of_ble_eq_true rfl) ?_
          intro τ r hh
          obtain ⟨hfb, rfl⟩ := hh
          exact V_lret e_X8_fed_61 rfl (⟨hfb, by unfold sFed; (try unfold gIn); (first | rw [if_pos c1] | rw [if_neg c1] | skip); (first | rw [if_pos c2] | rw [if_neg c2] | skip); (first | rw [if_pos c3] | rw [if_neg c3] | skip); (first | rw [if_pos c4] | rw [if_neg c4] | skip); (try dsimp only); (repeat rw [ixN (by omega)]); try rfl⟩)
        · refine V_ldc2_w (v := (-1000001)) e_X8_fed_41 kl_X8_288 ?_
          exact V_lret e_X8_fed_44 rfl (⟨Fb.rf, by unfold sFed; (try unfold gIn); (first | rw [if_pos c1] | rw [if_neg c1] | skip); (first | rw [if_pos c2] | rw [if_neg c2] | skip); (first | rw [if_pos c3] | rw [if_neg c3] | skip); (first | rw [if_pos c4] | rw [if_neg c4] | skip); (try dsimp only); (repeat rw [ixN (by omega)]); try rfl⟩)
set_option maxRecDepth 100000 in
set_option maxHeartbeats 4000000 in
theorem c_X8_drawn (E : En) (x y z : Int32) (A : Vec) (σ : Sg) (hR : RepC σ 4 A) (hN : WN A) : Cn E m_X8_drawn 12 [.ref (eB E + 0), .int x, .int y, .int z] σ (pI (fun σ' r => Fb 242 251 σ σ' ∧ r = sDrawn A x y z)) := by
  have hNl := hN.le
  refine Cn.of [some (.ref (eB E + 0)), some (.int x), some (.int y), some (.int z)] (by decide) (Nat.le_of_ble_eq_true rfl) rfl ?_
  refine V_aload_n e_X8_drawn_0 rfl rfl ?_
  refine V_getr (r := 4) e_X8_drawn_1 F_X8_now f_X8_25 rfl rfl ?_
  refine V_cvIe (av := []) (st := []) e_X8_drawn_4 (c_X5_isNone E 4 (A 0) σ rfl hR.1.2.2.2.1 hNl.1) l_X8_147 S_X5_isNone rfl (rm_ok (by decide) (by decide)) rfl rfl (Nat.le_of_ble_eq_true rfl) ?_
  refine V_if_eq (tgt := 13) e_X8_drawn_7 (by decide) (fun c1 => ?_) (fun c1 => ?_)
  · have d1 : (if A 0 = 0 then 1 else 0) = 0 := nq_eq (by first | omega | (split <;> omega)) (by first | omega | (split <;> omega)) c1
    have hA0 : ¬ A 0 = 0 := fun q => by rw [if_pos q] at d1; omega
    have hF : WF A := hN.wf (by omega)
    refine V_iload_n e_X8_drawn_13 rfl rfl ?_
    refine V_iconst (v := nI 0) e_X8_drawn_14 (by decide) ?_
    refine V_bipush (v := nI 60) e_X8_drawn_15 (by decide) ?_
    refine V_csIe (av := [.int x, .int (nI 0), .int (nI 60)]) (st := []) e_X8_drawn_17 (c_X8_within E x (nI 0) (nI 60) σ) l_X8_69 S_X8_within (rm_ok (by decide) (by decide)) rfl rfl (Nat.le_of_ble_eq_true rfl) ?_
    refine V_if_eq (tgt := 43) e_X8_drawn_20 (by decide) (fun c2 => ?_) (fun c2 => ?_)
    · refine V_ldc (v := (-1000001)) e_X8_drawn_43 k_X8_73 ?_
      exact V_iret e_X8_drawn_45 rfl (⟨Fb.rf, by unfold sDrawn; (try unfold gIn); (first | rw [if_pos hA0] | rw [if_neg hA0] | skip); (first | rw [if_pos d1] | rw [if_neg d1] | skip); (first | rw [if_pos c2] | rw [if_neg c2] | skip); (try dsimp only); (repeat rw [ixN (by omega)]); try rfl⟩)
    · obtain ⟨n, hna, hn, rfl⟩ := (wi_le (by omega) (by omega)).mp c2
      refine V_iload_n e_X8_drawn_23 rfl rfl ?_
      refine V_iconst (v := nI 1) e_X8_drawn_24 (by decide) ?_
      refine V_ldc_w (v := nI 999999) e_X8_drawn_25 k_X8_294 ?_
      refine V_csIe (av := [.int y, .int (nI 1), .int (nI 999999)]) (st := []) e_X8_drawn_28 (c_X8_within E y (nI 1) (nI 999999) σ) l_X8_69 S_X8_within (rm_ok (by decide) (by decide)) rfl rfl (Nat.le_of_ble_eq_true rfl) ?_
      refine V_if_eq (tgt := 43) e_X8_drawn_31 (by decide) (fun c3 => ?_) (fun c3 => ?_)
      · refine V_ldc (v := (-1000001)) e_X8_drawn_43 k_X8_73 ?_
        exact V_iret e_X8_drawn_45 rfl (⟨Fb.rf, by unfold sDrawn; (try unfold gIn); (first | rw [if_pos hA0] | rw [if_neg hA0] | skip); (first | rw [if_pos d1] | rw [if_neg d1] | skip); (first | rw [if_pos c2] | rw [if_neg c2] | skip); (first | rw [if_pos c3] | rw [if_neg c3] | skip); (try dsimp only); (repeat rw [ixN (by omega)]); try rfl⟩)
      · obtain ⟨sd, hsda, hsd, rfl⟩ := (wi_le (by omega) (by omega)).mp c3
        refine V_iload_n e_X8_drawn_34 rfl rfl ?_
        refine V_iconst (v := nI 0) e_X8_drawn_35 (by decide) ?_
        refine V_iconst (v := nI 1) e_X8_drawn_36 (by decide) ?_
        refine V_csIe (av := [.int z, .int (nI 0), .int (nI 1)]) (st := []) e_X8_drawn_37 (c_X8_within E z (nI 0) (nI 1) σ) l_X8_69 S_X8_within (rm_ok (by decide) (by decide)) rfl rfl (Nat.le_of_ble_eq_true rfl) ?_
        refine V_if_ne (tgt := 46) e_X8_drawn_40 (by decide) (fun c4 => ?_) (fun c4 => ?_)
        · obtain ⟨v, hva, hv, rfl⟩ := (wi_le (by omega) (by omega)).mp c4
          refine V_aload_n e_X8_drawn_46 rfl rfl ?_
          refine V_getr (r := 241) e_X8_drawn_47 F_X8_seer f_X8_46 rfl rfl ?_
          refine V_aload_n e_X8_drawn_50 rfl rfl ?_
          refine V_getr (r := 4) e_X8_drawn_51 F_X8_now f_X8_25 rfl rfl ?_
          refine V_iload_n e_X8_drawn_54 rfl rfl ?_
          refine V_iload_n e_X8_drawn_55 rfl rfl ?_
          refine V_iload_n e_X8_drawn_56 rfl rfl ?_
          refine V_cvI (av := [.ref (eB E + 4), .int (nI n), .int (nI sd), .int (nI v)]) (st := []) e_X8_drawn_57 (c_X4_yearsDrawn E n sd v A σ hR hF (by omega) (by omega) (by omega)) l_X8_295 S_X4_yearsDrawn rfl (rm_ok (by decide) (by decide)) rfl rfl (Nat.le_of_ble_eq_true rfl) ?_
          intro τ r hh
          obtain ⟨hfb, rfl⟩ := hh
          exact V_iret e_X8_drawn_60 rfl (⟨hfb, by unfold sDrawn; (try unfold gIn); (first | rw [if_pos hA0] | rw [if_neg hA0] | skip); (first | rw [if_pos d1] | rw [if_neg d1] | skip); (first | rw [if_pos c2] | rw [if_neg c2] | skip); (first | rw [if_pos c3] | rw [if_neg c3] | skip); (first | rw [if_pos c4] | rw [if_neg c4] | skip); (try dsimp only); (repeat rw [ixN (by omega)]); try rfl⟩)
        · refine V_ldc (v := (-1000001)) e_X8_drawn_43 k_X8_73 ?_
          exact V_iret e_X8_drawn_45 rfl (⟨Fb.rf, by unfold sDrawn; (try unfold gIn); (first | rw [if_pos hA0] | rw [if_neg hA0] | skip); (first | rw [if_pos d1] | rw [if_neg d1] | skip); (first | rw [if_pos c2] | rw [if_neg c2] | skip); (first | rw [if_pos c3] | rw [if_neg c3] | skip); (first | rw [if_pos c4] | rw [if_neg c4] | skip); (try dsimp only); (repeat rw [ixN (by omega)]); try rfl⟩)
  · have d1 : ¬ (if A 0 = 0 then 1 else 0) = 0 := nq_ne (by first | omega | (split <;> omega)) (by first | omega | (split <;> omega)) c1
    have hA0 : A 0 = 0 := Decidable.byContradiction (fun q => by rw [if_neg q] at d1; omega)
    refine V_ldc (v := (-1000002)) e_X8_drawn_10 k_X8_146 ?_
    exact V_iret e_X8_drawn_12 rfl (⟨Fb.rf, by unfold sDrawn; (try unfold gIn); (first | rw [if_pos hA0] | rw [if_neg hA0] | skip); (first | rw [if_pos d1] | rw [if_neg d1] | skip); (try dsimp only); (repeat rw [ixN (by omega)]); try rfl⟩)
set_option maxRecDepth 100000 in
set_option maxHeartbeats 4000000 in
theorem c_X8_gate (E : En) (x y : Int32) (A : Vec) (σ : Sg) (hR : RepC σ 4 A) (hN : WN A) : Cn E m_X8_gate 12 [.ref (eB E + 0), .int x, .int y] σ (pI (fun σ' r => σ' = σ ∧ r = sGate A x y)) := by
  have hNl := hN.le
  refine Cn.of [some (.ref (eB E + 0)), some (.int x), some (.int y)] (by decide) (Nat.le_of_ble_eq_true rfl) rfl ?_
  refine V_aload_n e_X8_gate_0 rfl rfl ?_
  refine V_getr (r := 4) e_X8_gate_1 F_X8_now f_X8_25 rfl rfl ?_
  refine V_iload_n e_X8_gate_4 rfl rfl ?_
  refine V_cvIe (av := [.int x]) (st := []) e_X8_gate_5 (c_X5_hasGate E 4 (A 0) x σ rfl hR.1.2.2.2.1) l_X8_189 S_X5_hasGate rfl (rm_ok (by decide) (by decide)) rfl rfl (Nat.le_of_ble_eq_true rfl) ?_
  refine V_if_ne (tgt := 14) e_X8_gate_8 (by decide) (fun c1 => ?_) (fun c1 => ?_)
  · obtain ⟨g, hg, rfl⟩ := (wi_nat (by omega)).mp c1
    have hF : WF A := hN.wf (by omega)
    obtain ⟨F, hF2, e5, hFb⟩ := hR.1.2.2.2.2.2.2.1
    have hA5 := hF.1.2.2.1
    refine V_iload_n e_X8_gate_14 rfl rfl ?_
    rcases sw_c y 0 4 with ⟨j2, c3a, c3b, c3⟩ | c3
    · have c3d : j2 = 0 ∨ j2 = 1 ∨ j2 = 2 ∨ j2 = 3 ∨ j2 = 4 := by omega
      rcases c3d with rfl | rfl | rfl | rfl | rfl
      · refine V_tab (j := 0) (tgt := 48) e_X8_gate_15 c3 (by decide) (by decide +kernel) ?_
        refine V_aload_n e_X8_gate_48 rfl rfl ?_
        refine V_getr (r := 4) e_X8_gate_49 F_X8_now f_X8_25 rfl rfl ?_
        refine V_getr (r := 6) e_X8_gate_52 F_X5_lengths f_X8_201 rfl rfl ?_
        refine V_iload_n e_X8_gate_55 rfl rfl ?_
        refine V_ialdv (v := nI (A (8 + 3 * g))) (j := g) e_X8_gate_56 rfl rfl (by have q : ln 6 = 6 := rfl; omega) ((hR.1.2.2.2.2.2.2.2 g (by omega)).2) ?_
        exact V_iret e_X8_gate_57 rfl (⟨rfl, by unfold sGate; (try unfold gIn); (first | rw [if_pos c1] | rw [if_neg c1] | skip); rw [c3, show swx (nI 0) 4 = 0 by decide]; (try dsimp only); (repeat rw [ixN (by omega)]); (try rw [hFb g hg]); try rfl⟩)
      · refine V_tab (j := 1) (tgt := 58) e_X8_gate_15 c3 (by decide) (by decide +kernel) ?_
        refine V_aload_n e_X8_gate_58 rfl rfl ?_
        refine V_getr (r := 4) e_X8_gate_59 F_X8_now f_X8_25 rfl rfl ?_
        refine V_getiv (v := nI F) e_X8_gate_62 F_X5_facing f_X8_192 rfl e5 ?_
        refine V_iload_n e_X8_gate_65 rfl rfl ?_
        refine V_csIe (av := [.int (nI F), .int (nI g)]) (st := []) e_X8_gate_66 (c_X8_bitN E F g σ (by omega) (by omega)) l_X8_195 S_X8_bit (rm_ok (by decide) (by decide)) rfl rfl (Nat.le_of_ble_eq_true rfl) ?_
        exact V_iret e_X8_gate_69 rfl (⟨rfl, by unfold sGate; (try unfold gIn); (first | rw [if_pos c1] | rw [if_neg c1] | skip); rw [c3, show swx (nI 1) 4 = 1 by decide]; (try dsimp only); (repeat rw [ixN (by omega)]); (try rw [hFb g hg]); try rfl⟩)
      · refine V_tab (j := 2) (tgt := 70) e_X8_gate_15 c3 (by decide) (by decide +kernel) ?_
        refine V_aload_n e_X8_gate_70 rfl rfl ?_
        refine V_getr (r := 4) e_X8_gate_71 F_X8_now f_X8_25 rfl rfl ?_
        refine V_getiv (v := nI (A 5)) e_X8_gate_74 F_X5_fallen f_X8_198 rfl hR.1.2.2.2.2.2.1 ?_
        refine V_iload_n e_X8_gate_77 rfl rfl ?_
        refine V_csIe (av := [.int (nI (A 5)), .int (nI g)]) (st := []) e_X8_gate_78 (c_X8_bitN E (A 5) g σ (by omega) (by omega)) l_X8_195 S_X8_bit (rm_ok (by decide) (by decide)) rfl rfl (Nat.le_of_ble_eq_true rfl) ?_
        exact V_iret e_X8_gate_81 rfl (⟨rfl, by unfold sGate; (try unfold gIn); (first | rw [if_pos c1] | rw [if_neg c1] | skip); rw [c3, show swx (nI 2) 4 = 2 by decide]; (try dsimp only); (repeat rw [ixN (by omega)]); (try rw [hFb g hg]); try rfl⟩)
      · refine V_tab (j := 3) (tgt := 82) e_X8_gate_15 c3 (by decide) (by decide +kernel) ?_
        refine V_aload_n e_X8_gate_82 rfl rfl ?_
        refine V_getr (r := 4) e_X8_gate_83 F_X8_now f_X8_25 rfl rfl ?_
        refine V_iload_n e_X8_gate_86 rfl rfl ?_
        refine V_iconst (v := nI 1) e_X8_gate_87 (by decide) ?_
        refine V_cvIe (av := [.int (nI g), .int (nI 1)]) (st := []) e_X8_gate_88 (c_X5_whoIsAt E 4 A g 1 σ rfl hR hNl.2 hF (by omega) (by omega)) l_X8_204 S_X5_whoIsAt rfl (rm_ok (by decide) (by decide)) rfl rfl (Nat.le_of_ble_eq_true rfl) ?_
        exact V_iret e_X8_gate_91 rfl (⟨rfl, by unfold sGate; (try unfold gIn); (first | rw [if_pos c1] | rw [if_neg c1] | skip); rw [c3, show swx (nI 3) 4 = 3 by decide]; (try dsimp only); (repeat rw [ixN (by omega)]); (try rw [hFb g hg]); try rfl⟩)
      · refine V_tab (j := 4) (tgt := 92) e_X8_gate_15 c3 (by decide) (by decide +kernel) ?_
        refine V_aload_n e_X8_gate_92 rfl rfl ?_
        refine V_getr (r := 4) e_X8_gate_93 F_X8_now f_X8_25 rfl rfl ?_
        refine V_iload_n e_X8_gate_96 rfl rfl ?_
        refine V_iconst (v := nI 0) e_X8_gate_97 (by decide) ?_
        refine V_cvIe (av := [.int (nI g), .int (nI 0)]) (st := []) e_X8_gate_98 (c_X5_whoIsAt E 4 A g 0 σ rfl hR hNl.2 hF (by omega) (by omega)) l_X8_204 S_X5_whoIsAt rfl (rm_ok (by decide) (by decide)) rfl rfl (Nat.le_of_ble_eq_true rfl) ?_
        exact V_iret e_X8_gate_101 rfl (⟨rfl, by unfold sGate; (try unfold gIn); (first | rw [if_pos c1] | rw [if_neg c1] | skip); rw [c3, show swx (nI 4) 4 = 4 by decide]; (try dsimp only); (repeat rw [ixN (by omega)]); (try rw [hFb g hg]); try rfl⟩)
    · refine V_tabo (tgt := 102) e_X8_gate_15 c3 (by decide) ?_
      refine V_ldc (v := (-1000001)) e_X8_gate_102 k_X8_73 ?_
      exact V_iret e_X8_gate_104 rfl (⟨rfl, by unfold sGate; (try unfold gIn); (first | rw [if_pos c1] | rw [if_neg c1] | skip); rw [show swx _ 4 = 5 from if_pos c3]; (try dsimp only); (repeat rw [ixN (by omega)]); (try rw [hFb g hg]); try rfl⟩)
  · refine V_ldc (v := (-1000001)) e_X8_gate_11 k_X8_73 ?_
    exact V_iret e_X8_gate_13 rfl (⟨rfl, by unfold sGate; (try unfold gIn); (first | rw [if_pos c1] | rw [if_neg c1] | skip); (try dsimp only); (repeat rw [ixN (by omega)]); (try rw [hFb g hg]); try rfl⟩)
set_option maxRecDepth 100000 in
set_option maxHeartbeats 4000000 in
theorem c_X8_person (E : En) (x y : Int32) (A : Vec) (σ : Sg) (hR : RepC σ 4 A) (hN : WN A) : Cn E m_X8_person 12 [.ref (eB E + 0), .int x, .int y] σ (pI (fun σ' r => σ' = σ ∧ r = sPerson A x y)) := by
  have hNl := hN.le
  refine Cn.of [some (.ref (eB E + 0)), some (.int x), some (.int y), none] (by decide) (Nat.le_of_ble_eq_true rfl) rfl ?_
  refine V_aload_n e_X8_person_0 rfl rfl ?_
  refine V_getr (r := 4) e_X8_person_1 F_X8_now f_X8_25 rfl rfl ?_
  refine V_iload_n e_X8_person_4 rfl rfl ?_
  refine V_cvIe (av := [.int x]) (st := []) e_X8_person_5 (c_X5_hasPerson E 4 (A 1) x σ rfl hR.1.2.2.2.2.1) l_X8_164 S_X5_hasPerson rfl (rm_ok (by decide) (by decide)) rfl rfl (Nat.le_of_ble_eq_true rfl) ?_
  refine V_if_ne (tgt := 14) e_X8_person_8 (by decide) (fun c1 => ?_) (fun c1 => ?_)
  · obtain ⟨p, hp, rfl⟩ := (wi_nat (by omega)).mp c1
    have hF : WF A := hN.wf (by omega)
    obtain ⟨w1, w2, w3, w4, w5, w6⟩ := hF.per hp
    refine V_aload_n e_X8_person_14 rfl rfl ?_
    refine V_getr (r := 4) e_X8_person_15 F_X8_now f_X8_25 rfl rfl ?_
    refine V_getr (r := 7) e_X8_person_18 F_X5_walkers f_X8_167 rfl rfl ?_
    refine V_iload_n e_X8_person_21 rfl rfl ?_
    refine V_aald (j := p) (r := 8 + p) e_X8_person_22 (by decide) (by decide) rfl (by have q : ln 7 = 5 := rfl; omega) rfl ?_
    refine V_astore_n (L' := [some (.ref (eB E + 0)), some (.int (nI p)), some (.int y), some (.ref (eB E + (8 + p)))]) e_X8_person_23 rfl rfl ?_
    refine V_iload_n e_X8_person_24 rfl rfl ?_
    rcases sw_c y 0 6 with ⟨j2, c3a, c3b, c3⟩ | c3
    · have c3d : j2 = 0 ∨ j2 = 1 ∨ j2 = 2 ∨ j2 = 3 ∨ j2 = 4 ∨ j2 = 5 ∨ j2 = 6 := by omega
      rcases c3d with rfl | rfl | rfl | rfl | rfl | rfl | rfl
      · refine V_tab (j := 0) (tgt := 68) e_X8_person_25 c3 (by decide) (by decide +kernel) ?_
        refine V_aload_n e_X8_person_68 rfl rfl ?_
        refine V_getiv (v := nI (A (25 + 6 * p))) e_X8_person_69 F_X7_at f_X8_208 (kd_wk7 p (by have q : ln 7 = 5 := rfl; omega)) (by have hz9 := hR.2 p (by omega); rw [show 4 + 4 + p = 8 + p by omega] at hz9; exact hz9.1.1) ?_
        exact V_iret e_X8_person_72 rfl (⟨rfl, by unfold sPerson; (try unfold gIn); (first | rw [if_pos c1] | rw [if_neg c1] | skip); rw [c3, show swx (nI 0) 6 = 0 by decide]; (try dsimp only); (repeat rw [ixN (by omega)]); try (first | rfl | (congr 1; have hq9 := bitN_le (A 6) p; omega))⟩)
      · refine V_tab (j := 1) (tgt := 73) e_X8_person_25 c3 (by decide) (by decide +kernel) ?_
        refine V_aload_n e_X8_person_73 rfl rfl ?_
        refine V_getiv (v := nI (A (26 + 6 * p))) e_X8_person_74 F_X7_inside f_X8_211 (kd_wk7 p (by have q : ln 7 = 5 := rfl; omega)) (by have hz9 := hR.2 p (by omega); rw [show 4 + 4 + p = 8 + p by omega] at hz9; exact hz9.1.2.1) ?_
        refine V_if_eq (tgt := 84) e_X8_person_77 (by decide) (fun c4 => ?_) (fun c4 => ?_)
        · have d4 : A (26 + 6 * p) = 0 := nq_eq (by first | omega | (have hq9 := bitN_le (A 6) p; omega)) (by first | omega | (have hq9 := bitN_le (A 6) p; omega)) c4
          refine V_iconst (v := nI 0) e_X8_person_84 (by decide) ?_
          exact V_iret e_X8_person_85 rfl (⟨rfl, by unfold sPerson; (try unfold gIn); (first | rw [if_pos c1] | rw [if_neg c1] | skip); rw [c3, show swx (nI 1) 6 = 1 by decide]; (first | rw [if_pos d4] | rw [if_neg d4] | skip); (try dsimp only); (repeat rw [ixN (by omega)]); try (first | rfl | (congr 1; have hq9 := bitN_le (A 6) p; omega))⟩)
        · have d4 : ¬ A (26 + 6 * p) = 0 := nq_ne (by first | omega | (have hq9 := bitN_le (A 6) p; omega)) (by first | omega | (have hq9 := bitN_le (A 6) p; omega)) c4
          refine V_iconst (v := nI 1) e_X8_person_80 (by decide) ?_
          refine V_goto (tgt := 85) e_X8_person_81 (by decide) ?_
          exact V_iret e_X8_person_85 rfl (⟨rfl, by unfold sPerson; (try unfold gIn); (first | rw [if_pos c1] | rw [if_neg c1] | skip); rw [c3, show swx (nI 1) 6 = 1 by decide]; (first | rw [if_pos d4] | rw [if_neg d4] | skip); (try dsimp only); (repeat rw [ixN (by omega)]); try (first | rfl | (congr 1; have hq9 := bitN_le (A 6) p; omega))⟩)
      · refine V_tab (j := 2) (tgt := 86) e_X8_person_25 c3 (by decide) (by decide +kernel) ?_
        refine V_aload_n e_X8_person_86 rfl rfl ?_
        refine V_getiv (v := nI (A (27 + 6 * p))) e_X8_person_87 F_X7_of f_X8_175 (kd_wk7 p (by have q : ln 7 = 5 := rfl; omega)) (by have hz9 := hR.2 p (by omega); rw [show 4 + 4 + p = 8 + p by omega] at hz9; exact hz9.1.2.2.1) ?_
        exact V_iret e_X8_person_90 rfl (⟨rfl, by unfold sPerson; (try unfold gIn); (first | rw [if_pos c1] | rw [if_neg c1] | skip); rw [c3, show swx (nI 2) 6 = 2 by decide]; (try dsimp only); (repeat rw [ixN (by omega)]); try (first | rfl | (congr 1; have hq9 := bitN_le (A 6) p; omega))⟩)
      · refine V_tab (j := 3) (tgt := 91) e_X8_person_25 c3 (by decide) (by decide +kernel) ?_
        refine V_aload_n e_X8_person_91 rfl rfl ?_
        refine V_getiv (v := nI (A (28 + 6 * p))) e_X8_person_92 F_X7_heading f_X8_180 (kd_wk7 p (by have q : ln 7 = 5 := rfl; omega)) (by have hz9 := hR.2 p (by omega); rw [show 4 + 4 + p = 8 + p by omega] at hz9; exact hz9.1.2.2.2.1) ?_
        exact V_iret e_X8_person_95 rfl (⟨rfl, by unfold sPerson; (try unfold gIn); (first | rw [if_pos c1] | rw [if_neg c1] | skip); rw [c3, show swx (nI 3) 6 = 3 by decide]; (try dsimp only); (repeat rw [ixN (by omega)]); try (first | rfl | (congr 1; have hq9 := bitN_le (A 6) p; omega))⟩)
      · refine V_tab (j := 4) (tgt := 96) e_X8_person_25 c3 (by decide) (by decide +kernel) ?_
        refine V_aload_n e_X8_person_96 rfl rfl ?_
        refine V_getiv (v := nI (A (29 + 6 * p))) e_X8_person_97 F_X7_fish f_X8_214 (kd_wk7 p (by have q : ln 7 = 5 := rfl; omega)) (by have hz9 := hR.2 p (by omega); rw [show 4 + 4 + p = 8 + p by omega] at hz9; exact hz9.1.2.2.2.2.1) ?_
        exact V_iret e_X8_person_100 rfl (⟨rfl, by unfold sPerson; (try unfold gIn); (first | rw [if_pos c1] | rw [if_neg c1] | skip); rw [c3, show swx (nI 4) 6 = 4 by decide]; (try dsimp only); (repeat rw [ixN (by omega)]); try (first | rfl | (congr 1; have hq9 := bitN_le (A 6) p; omega))⟩)
      · refine V_tab (j := 5) (tgt := 101) e_X8_person_25 c3 (by decide) (by decide +kernel) ?_
        refine V_aload_n e_X8_person_101 rfl rfl ?_
        refine V_getiv (v := nI (A (30 + 6 * p))) e_X8_person_102 F_X7_hunger f_X8_217 (kd_wk7 p (by have q : ln 7 = 5 := rfl; omega)) (by have hz9 := hR.2 p (by omega); rw [show 4 + 4 + p = 8 + p by omega] at hz9; exact hz9.1.2.2.2.2.2) ?_
        exact V_iret e_X8_person_105 rfl (⟨rfl, by unfold sPerson; (try unfold gIn); (first | rw [if_pos c1] | rw [if_neg c1] | skip); rw [c3, show swx (nI 5) 6 = 5 by decide]; (try dsimp only); (repeat rw [ixN (by omega)]); try (first | rfl | (congr 1; have hq9 := bitN_le (A 6) p; omega))⟩)
      · refine V_tab (j := 6) (tgt := 106) e_X8_person_25 c3 (by decide) (by decide +kernel) ?_
        refine V_aload_n e_X8_person_106 rfl rfl ?_
        refine V_getiv (v := nI (bitN (A 6) p)) e_X8_person_107 F_X7_stays f_X8_183 (kd_wk7 p (by have q : ln 7 = 5 := rfl; omega)) (by have hz9 := hR.2 p (by omega); rw [show 4 + 4 + p = 8 + p by omega] at hz9; exact hz9.2) ?_
        refine V_if_eq (tgt := 117) e_X8_person_110 (by decide) (fun c5 => ?_) (fun c5 => ?_)
        · have d5 : bitN (A 6) p = 0 := nq_eq (by first | omega | (have hq9 := bitN_le (A 6) p; omega)) (by first | omega | (have hq9 := bitN_le (A 6) p; omega)) c5
          refine V_iconst (v := nI 0) e_X8_person_117 (by decide) ?_
          exact V_iret e_X8_person_118 rfl (⟨rfl, by unfold sPerson; (try unfold gIn); (first | rw [if_pos c1] | rw [if_neg c1] | skip); rw [c3, show swx (nI 6) 6 = 6 by decide]; (first | rw [if_pos d5] | rw [if_neg d5] | skip); (try dsimp only); (repeat rw [ixN (by omega)]); try (first | rfl | (congr 1; have hq9 := bitN_le (A 6) p; omega))⟩)
        · have d5 : ¬ bitN (A 6) p = 0 := nq_ne (by first | omega | (have hq9 := bitN_le (A 6) p; omega)) (by first | omega | (have hq9 := bitN_le (A 6) p; omega)) c5
          refine V_iconst (v := nI 1) e_X8_person_113 (by decide) ?_
          refine V_goto (tgt := 118) e_X8_person_114 (by decide) ?_
          exact V_iret e_X8_person_118 rfl (⟨rfl, by unfold sPerson; (try unfold gIn); (first | rw [if_pos c1] | rw [if_neg c1] | skip); rw [c3, show swx (nI 6) 6 = 6 by decide]; (first | rw [if_pos d5] | rw [if_neg d5] | skip); (try dsimp only); (repeat rw [ixN (by omega)]); try (first | rfl | (congr 1; have hq9 := bitN_le (A 6) p; omega))⟩)
    · refine V_tabo (tgt := 119) e_X8_person_25 c3 (by decide) ?_
      refine V_ldc (v := (-1000001)) e_X8_person_119 k_X8_73 ?_
      exact V_iret e_X8_person_121 rfl (⟨rfl, by unfold sPerson; (try unfold gIn); (first | rw [if_pos c1] | rw [if_neg c1] | skip); rw [show swx _ 6 = 7 from if_pos c3]; (try dsimp only); (repeat rw [ixN (by omega)]); try (first | rfl | (congr 1; have hq9 := bitN_le (A 6) p; omega))⟩)
  · refine V_ldc (v := (-1000001)) e_X8_person_11 k_X8_73 ?_
    exact V_iret e_X8_person_13 rfl (⟨rfl, by unfold sPerson; (try unfold gIn); (first | rw [if_pos c1] | rw [if_neg c1] | skip); (try dsimp only); (repeat rw [ixN (by omega)]); try (first | rfl | (congr 1; have hq9 := bitN_le (A 6) p; omega))⟩)
set_option maxRecDepth 100000 in
set_option maxHeartbeats 4000000 in
theorem c_X8_ahead (E : En) (x y z : Int32) (A : Vec) (σ : Sg) (hR : RepC σ 4 A) (hN : WN A) : Cn E m_X8_ahead 12 [.ref (eB E + 0), .int x, .int y, .int z] σ (pI (fun σ' r => Fb 242 251 σ σ' ∧ r = sAhead A x y z)) := by
  have hNl := hN.le
  refine Cn.of [some (.ref (eB E + 0)), some (.int x), some (.int y), some (.int z), none] (by decide) (Nat.le_of_ble_eq_true rfl) rfl ?_
  refine V_aload_n e_X8_ahead_0 rfl rfl ?_
  refine V_getr (r := 4) e_X8_ahead_1 F_X8_now f_X8_25 rfl rfl ?_
  refine V_iload_n e_X8_ahead_4 rfl rfl ?_
  refine V_cvIe (av := [.int x]) (st := []) e_X8_ahead_5 (c_X5_hasPerson E 4 (A 1) x σ rfl hR.1.2.2.2.2.1) l_X8_164 S_X5_hasPerson rfl (rm_ok (by decide) (by decide)) rfl rfl (Nat.le_of_ble_eq_true rfl) ?_
  refine V_if_eq (tgt := 21) e_X8_ahead_8 (by decide) (fun c1 => ?_) (fun c1 => ?_)
  · refine V_ldc (v := (-1000001)) e_X8_ahead_21 k_X8_73 ?_
    exact V_iret e_X8_ahead_23 rfl (⟨Fb.rf, by unfold sAhead; (try unfold gIn); (first | rw [if_pos c1] | rw [if_neg c1] | skip); (try dsimp only); (repeat rw [ixN (by omega)]); try (first | rfl | (congr 1; omega))⟩)
  · obtain ⟨p, hp, rfl⟩ := (wi_nat (by omega)).mp c1
    have hF : WF A := hN.wf (by omega)
    refine V_iload_n e_X8_ahead_11 rfl rfl ?_
    refine V_iconst (v := nI 0) e_X8_ahead_12 (by decide) ?_
    refine V_bipush (v := nI 60) e_X8_ahead_13 (by decide) ?_
    refine V_csIe (av := [.int y, .int (nI 0), .int (nI 60)]) (st := []) e_X8_ahead_15 (c_X8_within E y (nI 0) (nI 60) σ) l_X8_69 S_X8_within (rm_ok (by decide) (by decide)) rfl rfl (Nat.le_of_ble_eq_true rfl) ?_
    refine V_if_ne (tgt := 24) e_X8_ahead_18 (by decide) (fun c2 => ?_) (fun c2 => ?_)
    · obtain ⟨n, hna, hn, rfl⟩ := (wi_le (by omega) (by omega)).mp c2
      refine V_aload_n e_X8_ahead_24 rfl rfl ?_
      refine V_getr (r := 241) e_X8_ahead_25 F_X8_seer f_X8_46 rfl rfl ?_
      refine V_aload_n e_X8_ahead_28 rfl rfl ?_
      refine V_getr (r := 4) e_X8_ahead_29 F_X8_now f_X8_25 rfl rfl ?_
      refine V_iload_n e_X8_ahead_32 rfl rfl ?_
      refine V_iload_n e_X8_ahead_33 rfl rfl ?_
      refine V_cvR (av := [.ref (eB E + 4), .int (nI p), .int (nI n)]) (st := []) e_X8_ahead_34 (c_X4_walkAhead E p n A σ hR hF hp (by omega)) l_X8_220 S_X4_walkAhead rfl (rm_ok (by decide) (by decide)) rfl rfl (Nat.le_of_ble_eq_true rfl) ?_
      intro τ r hh
      obtain ⟨rfl, hT⟩ := hh
      have hfb := hT.1
      have hin := (pds_WP (i := n) hF hp (rfl : A 0 = A 0)).2.1
      refine V_astore (L' := [some (.ref (eB E + 0)), some (.int (nI p)), some (.int (nI n)), some (.int z), some (.ref (eB E + (246 + p)))]) e_X8_ahead_37 rfl ?_
      refine V_iload_n e_X8_ahead_39 rfl rfl ?_
      rcases sw_c z 0 4 with ⟨j3, c4a, c4b, c4⟩ | c4
      · have c4d : j3 = 0 ∨ j3 = 1 ∨ j3 = 2 ∨ j3 = 3 ∨ j3 = 4 := by omega
        rcases c4d with rfl | rfl | rfl | rfl | rfl
        · refine V_tab (j := 0) (tgt := 76) e_X8_ahead_40 c4 (by decide) (by decide +kernel) ?_
          refine V_aload e_X8_ahead_76 rfl ?_
          refine V_getiv (v := nI ((pds A A p n).1)) e_X8_ahead_78 F_X7_at f_X8_208 (kd_wk245 p (by have q : ln 245 = 5 := rfl; omega)) hT.2.2.1.1 ?_
          exact V_iret e_X8_ahead_81 rfl (⟨hfb, by unfold sAhead; (try unfold gIn); (first | rw [if_pos c1] | rw [if_neg c1] | skip); (first | rw [if_pos c2] | rw [if_neg c2] | skip); rw [c4, show swx (nI 0) 4 = 0 by decide]; (try dsimp only); (repeat rw [ixN (by omega)]); try (first | rfl | (congr 1; omega))⟩)
        · refine V_tab (j := 1) (tgt := 82) e_X8_ahead_40 c4 (by decide) (by decide +kernel) ?_
          refine V_aload e_X8_ahead_82 rfl ?_
          refine V_getiv (v := nI ((pds A A p n).2.1)) e_X8_ahead_84 F_X7_inside f_X8_211 (kd_wk245 p (by have q : ln 245 = 5 := rfl; omega)) hT.2.2.1.2.1 ?_
          refine V_if_eq (tgt := 94) e_X8_ahead_87 (by decide) (fun c5 => ?_) (fun c5 => ?_)
          · have d5 : (pds A A p n).2.1 = 0 := nq_eq (by omega) (by omega) c5
            refine V_iconst (v := nI 0) e_X8_ahead_94 (by decide) ?_
            exact V_iret e_X8_ahead_95 rfl (⟨hfb, by unfold sAhead; (try unfold gIn); (first | rw [if_pos c1] | rw [if_neg c1] | skip); (first | rw [if_pos c2] | rw [if_neg c2] | skip); rw [c4, show swx (nI 1) 4 = 1 by decide]; (first | rw [if_pos d5] | rw [if_neg d5] | skip); (try dsimp only); (repeat rw [ixN (by omega)]); try (first | rfl | (congr 1; omega))⟩)
          · have d5 : ¬ (pds A A p n).2.1 = 0 := nq_ne (by omega) (by omega) c5
            refine V_iconst (v := nI 1) e_X8_ahead_90 (by decide) ?_
            refine V_goto (tgt := 95) e_X8_ahead_91 (by decide) ?_
            exact V_iret e_X8_ahead_95 rfl (⟨hfb, by unfold sAhead; (try unfold gIn); (first | rw [if_pos c1] | rw [if_neg c1] | skip); (first | rw [if_pos c2] | rw [if_neg c2] | skip); rw [c4, show swx (nI 1) 4 = 1 by decide]; (first | rw [if_pos d5] | rw [if_neg d5] | skip); (try dsimp only); (repeat rw [ixN (by omega)]); try (first | rfl | (congr 1; omega))⟩)
        · refine V_tab (j := 2) (tgt := 96) e_X8_ahead_40 c4 (by decide) (by decide +kernel) ?_
          refine V_aload e_X8_ahead_96 rfl ?_
          refine V_getiv (v := nI ((pds A A p n).2.2.1)) e_X8_ahead_98 F_X7_of f_X8_175 (kd_wk245 p (by have q : ln 245 = 5 := rfl; omega)) hT.2.2.1.2.2.1 ?_
          exact V_iret e_X8_ahead_101 rfl (⟨hfb, by unfold sAhead; (try unfold gIn); (first | rw [if_pos c1] | rw [if_neg c1] | skip); (first | rw [if_pos c2] | rw [if_neg c2] | skip); rw [c4, show swx (nI 2) 4 = 2 by decide]; (try dsimp only); (repeat rw [ixN (by omega)]); try (first | rfl | (congr 1; omega))⟩)
        · refine V_tab (j := 3) (tgt := 102) e_X8_ahead_40 c4 (by decide) (by decide +kernel) ?_
          refine V_aload e_X8_ahead_102 rfl ?_
          refine V_getiv (v := nI ((pds A A p n).2.2.2.2.1)) e_X8_ahead_104 F_X7_fish f_X8_214 (kd_wk245 p (by have q : ln 245 = 5 := rfl; omega)) hT.2.2.1.2.2.2.2.1 ?_
          exact V_iret e_X8_ahead_107 rfl (⟨hfb, by unfold sAhead; (try unfold gIn); (first | rw [if_pos c1] | rw [if_neg c1] | skip); (first | rw [if_pos c2] | rw [if_neg c2] | skip); rw [c4, show swx (nI 3) 4 = 3 by decide]; (try dsimp only); (repeat rw [ixN (by omega)]); try (first | rfl | (congr 1; omega))⟩)
        · refine V_tab (j := 4) (tgt := 108) e_X8_ahead_40 c4 (by decide) (by decide +kernel) ?_
          refine V_aload e_X8_ahead_108 rfl ?_
          refine V_getiv (v := nI ((pds A A p n).2.2.2.2.2)) e_X8_ahead_110 F_X7_hunger f_X8_217 (kd_wk245 p (by have q : ln 245 = 5 := rfl; omega)) hT.2.2.1.2.2.2.2.2 ?_
          exact V_iret e_X8_ahead_113 rfl (⟨hfb, by unfold sAhead; (try unfold gIn); (first | rw [if_pos c1] | rw [if_neg c1] | skip); (first | rw [if_pos c2] | rw [if_neg c2] | skip); rw [c4, show swx (nI 4) 4 = 4 by decide]; (try dsimp only); (repeat rw [ixN (by omega)]); try (first | rfl | (congr 1; omega))⟩)
      · refine V_tabo (tgt := 114) e_X8_ahead_40 c4 (by decide) ?_
        refine V_ldc (v := (-1000001)) e_X8_ahead_114 k_X8_73 ?_
        exact V_iret e_X8_ahead_116 rfl (⟨hfb, by unfold sAhead; (try unfold gIn); (first | rw [if_pos c1] | rw [if_neg c1] | skip); (first | rw [if_pos c2] | rw [if_neg c2] | skip); rw [show swx _ 4 = 5 from if_pos c4]; (try dsimp only); (repeat rw [ixN (by omega)]); try (first | rfl | (congr 1; omega))⟩)
    · refine V_ldc (v := (-1000001)) e_X8_ahead_21 k_X8_73 ?_
      exact V_iret e_X8_ahead_23 rfl (⟨Fb.rf, by unfold sAhead; (try unfold gIn); (first | rw [if_pos c1] | rw [if_neg c1] | skip); (first | rw [if_pos c2] | rw [if_neg c2] | skip); (try dsimp only); (repeat rw [ixN (by omega)]); try (first | rfl | (congr 1; omega))⟩)

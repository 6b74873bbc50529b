theorem sAhead_lo {A : Vec} {p n j : Nat} (hF : WF A) (hpa : p < A 1) (hp : p < 2 ^ 31) (hn : n < 2 ^ 31) (hj : j ≤ 4) (h1 : ¬ gIn (nI p) (A 1) = 0) (h2 : ¬ wi (nI n) (nI 0) (nI 60) = 0) : sAhead A (nI p) (nI n) (nI j) = nI (daysV A n (25 + 6 * p + (if j < 3 then j else j + 1))) := by
  obtain ⟨a0, a1, a2, a3, a4, a5⟩ := daysV_at (n := n) hF hpa
  unfold sAhead
  rw [if_neg h1, if_neg h2, swx_n hj (by decide), ixN hp, ixN hn]
  rcases (show j = 0 ∨ j = 1 ∨ j = 2 ∨ j = 3 ∨ j = 4 by omega) with rfl | rfl | rfl | rfl | rfl
  · show nI (pds A A p n).1 = _; rw [← a0]; rfl
  · show nI (pds A A p n).2.1 = _; rw [← a1]; congr 2; rw [if_pos (by omega)]; omega
  · show nI (pds A A p n).2.2.1 = _; rw [← a2]; congr 2; rw [if_pos (by omega)]; omega
  · show nI (pds A A p n).2.2.2.2.1 = _; rw [← a4]; congr 2; rw [if_neg (by omega)]; omega
  · show nI (pds A A p n).2.2.2.2.2 = _; rw [← a5]; congr 2; rw [if_neg (by omega)]; omega
theorem sAhead_o {A : Vec} {x y z : Int32} (h : wi z (nI 0) (nI 4) = 0) : sAhead A x y z = (-1000001) := by
  unfold sAhead
  split
  · rfl
  · split
    · rfl
    · rw [swx_o (by decide) h]
      rfl
theorem c_X9_hisT_w (E : En) (m w : Nat) (A : Vec) (σ : Sg) (hm : m < 5) (hw : w < 6) : Cn E m_X9_his 1 [.ref (eB E + 298), .int (nI m), .int (nI w)] (stM σ 298 A) (pI (fun σ' r => σ' = stM σ 298 A ∧ r = nI (A (25 + 6 * m + w)))) := c_X9_his_w E 298 m w A σ rfl rfl hm hw
set_option maxRecDepth 100000 in
set_option maxHeartbeats 4000000 in
theorem c_X9_ahead (E : En) (x y z : Int32) (A : Vec) (σ : Sg) (hM : RepM σ 296 A) (hN : WN A) : Cn E m_X9_ahead 12 [.ref (eB E + 292), .int x, .int y, .int z] σ (pI (fun σ' r => Fm σ σ' ∧ r = sAhead A x y z)) := by
  have hNl := hN.le
  have hM1 : RepM (up2 σ 292 0 (nI 0)) 296 A := hM.fm Fm.th (by decide) (by decide)
  refine Cn.of [some (.ref (eB E + 292)), some (.int x), some (.int y), some (.int z)] (by decide) (Nat.le_of_ble_eq_true rfl) rfl ?_
  refine V_aload_n e_X9_ahead_0 rfl rfl ?_
  refine V_iconst (v := nI 0) e_X9_ahead_1 (by decide) ?_
  refine V_puti e_X9_ahead_2 F_X9_thrown f_X9_53 rfl ?_
  refine V_aload_n e_X9_ahead_5 rfl rfl ?_
  refine V_iload_n e_X9_ahead_6 rfl rfl ?_
  refine V_cvIe (av := [.int x]) (st := []) e_X9_ahead_7 (c_X9_isMan E x A (up2 σ 292 0 (nI 0)) hM1) l_X9_204 S_X9_isMan rfl (rm_ok (by decide) (by decide)) rfl rfl (Nat.le_of_ble_eq_true rfl) ?_
  refine V_if_eq (tgt := 37) e_X9_ahead_10 (by decide) (fun c1 => ?_) (fun c1 => ?_)
  · refine V_ldc (v := (-1000001)) e_X9_ahead_37 k_X9_73 ?_
    exact V_iret e_X9_ahead_39 rfl (⟨Fm.th, by unfold sAhead gIn; (first | rw [if_pos c1] | rw [if_neg c1])⟩)
  · obtain ⟨p, hp, rfl⟩ := (wi_nat (by omega)).mp c1
    have hF : WF A := hN.wf (by omega)
    refine V_iload_n e_X9_ahead_13 rfl rfl ?_
    refine V_i2l e_X9_ahead_14 ?_
    refine V_lconst (v := lN 0) e_X9_ahead_15 (by decide) ?_
    refine V_ldc2_w (v := lN 60) e_X9_ahead_16 kl_X9_219 ?_
    refine V_csIe (av := [.long y.toInt64, .long (lN 0), .long (lN 60)]) (st := []) e_X9_ahead_19 (c_X9_inN E y (nI 0) (nI 60) (lN 0) (lN 60) (up2 σ 292 0 (nI 0)) (nI_l (by omega)) (nI_l (by omega))) l_X9_63 S_X9_in (rm_ok (by decide) (by decide)) rfl rfl (Nat.le_of_ble_eq_true rfl) ?_
    refine V_if_eq (tgt := 37) e_X9_ahead_22 (by decide) (fun c2 => ?_) (fun c2 => ?_)
    · refine V_ldc (v := (-1000001)) e_X9_ahead_37 k_X9_73 ?_
      exact V_iret e_X9_ahead_39 rfl (⟨Fm.th, by unfold sAhead gIn; (first | rw [if_pos c1] | rw [if_neg c1]); (first | rw [if_pos c2] | rw [if_neg c2])⟩)
    · obtain ⟨n, hna, hn, rfl⟩ := (wi_le (by omega) (by omega)).mp c2
      refine V_iload_n e_X9_ahead_25 rfl rfl ?_
      refine V_i2l e_X9_ahead_26 ?_
      refine V_lconst (v := lN 0) e_X9_ahead_27 (by decide) ?_
      refine V_ldc2_w (v := lN 4) e_X9_ahead_28 kl_X9_221 ?_
      refine V_csIe (av := [.long z.toInt64, .long (lN 0), .long (lN 4)]) (st := []) e_X9_ahead_31 (c_X9_inN E z (nI 0) (nI 4) (lN 0) (lN 4) (up2 σ 292 0 (nI 0)) (nI_l (by omega)) (nI_l (by omega))) l_X9_63 S_X9_in (rm_ok (by decide) (by decide)) rfl rfl (Nat.le_of_ble_eq_true rfl) ?_
      refine V_if_ne (tgt := 40) e_X9_ahead_34 (by decide) (fun c3 => ?_) (fun c3 => ?_)
      · obtain ⟨j, hja, hj, rfl⟩ := (wi_le (by omega) (by omega)).mp c3
        refine V_aload_n e_X9_ahead_40 rfl rfl ?_
        refine V_cvVe (av := []) (st := []) e_X9_ahead_41 (c_X9_layThen E A (up2 σ 292 0 (nI 0)) hM1) l_X9_223 S_X9_layThen rfl (rm_ok (by decide) (by decide)) rfl rfl (Nat.le_of_ble_eq_true rfl) ?_
        refine V_aload_n e_X9_ahead_44 rfl rfl ?_
        refine V_getr (r := 298) e_X9_ahead_45 F_X9_then f_X9_25 rfl rfl ?_
        refine V_iload_n e_X9_ahead_48 rfl rfl ?_
        refine V_csVe (av := [.ref (eB E + 298), .int (nI n)]) (st := []) e_X9_ahead_49 (c_X9_daysOf E 298 n A (up2 σ 292 0 (nI 0)) rfl rfl hF (by omega)) l_X9_226 S_X9_daysOf (rm_ok (by decide) (by decide)) rfl rfl (Nat.le_of_ble_eq_true rfl) ?_
        refine V_aload_n e_X9_ahead_52 rfl rfl ?_
        refine V_getr (r := 298) e_X9_ahead_53 F_X9_then f_X9_25 rfl rfl ?_
        refine V_iload_n e_X9_ahead_56 rfl rfl ?_
        refine V_iload_n e_X9_ahead_57 rfl rfl ?_
        refine V_iconst (v := nI 3) e_X9_ahead_58 (by decide) ?_
        refine V_icmp_ge (tgt := 66) e_X9_ahead_59 (by decide) (fun c4 => ?_) (fun c4 => ?_)
        · have d4 : 3 ≤ j := nq_le (by omega) (by omega) c4
          refine V_iload_n e_X9_ahead_66 rfl rfl ?_
          refine V_iconst (v := nI 1) e_X9_ahead_67 (by decide) ?_
          refine V_iaddN (z := nI (j + 1)) e_X9_ahead_68 (nI_add _ _) ?_
          refine V_csIe (av := [.ref (eB E + 298), .int (nI p), .int (nI (j + 1))]) (st := []) e_X9_ahead_69 (c_X9_hisT_w E p (j + 1) (daysV A n) (up2 σ 292 0 (nI 0)) (by omega) (by omega)) l_X9_166 S_X9_his (rm_ok (by decide) (by decide)) rfl rfl (Nat.le_of_ble_eq_true rfl) ?_
          exact V_iret e_X9_ahead_72 rfl (⟨Fm.th.st, by rw [sAhead_lo hF hp (by omega) (by omega) (by omega) c1 c2]; (first | rw [if_pos (show j < 3 by omega)] | rw [if_neg (show ¬ j < 3 by omega)])⟩)
        · have d4 : ¬ 3 ≤ j := nq_nle (by omega) (by omega) c4
          refine V_iload_n e_X9_ahead_62 rfl rfl ?_
          refine V_goto (tgt := 69) e_X9_ahead_63 (by decide) ?_
          refine V_csIe (av := [.ref (eB E + 298), .int (nI p), .int (nI j)]) (st := []) e_X9_ahead_69 (c_X9_hisT_w E p j (daysV A n) (up2 σ 292 0 (nI 0)) (by omega) (by omega)) l_X9_166 S_X9_his (rm_ok (by decide) (by decide)) rfl rfl (Nat.le_of_ble_eq_true rfl) ?_
          exact V_iret e_X9_ahead_72 rfl (⟨Fm.th.st, by rw [sAhead_lo hF hp (by omega) (by omega) (by omega) c1 c2]; (first | rw [if_pos (show j < 3 by omega)] | rw [if_neg (show ¬ j < 3 by omega)])⟩)
      · refine V_ldc (v := (-1000001)) e_X9_ahead_37 k_X9_73 ?_
        exact V_iret e_X9_ahead_39 rfl (⟨Fm.th, (sAhead_o c3).symm⟩)
set_option maxRecDepth 100000 in
set_option maxHeartbeats 4000000 in
theorem lp_X9_when (E : En) (p g : Nat) (A : Vec) (σ : Sg) (hF : WF A) (hp : p < A 1) (hg : g < A 0) (h5 : A 1 ≤ 5) (hG6 : A 0 ≤ 6) : ∀ (mm : Nat) (i : Nat), 61 - i = mm → (i ≤ 61) → (whenR (fun i => bitN (pds A A p i).2.2.1 g) 61 0 = whenR (fun i => bitN (pds A A p i).2.2.1 g) (61 - i) i) → V E m_X9_when (kM E 12 (pI (fun σ' r => (∃ B, σ' = stM σ 298 B) ∧ r = whenR (fun i => bitN (pds A A p i).2.2.1 g) 61 0))) 30 [some (.ref (eB E + 292)), some (.int (nI p)), some (.int (nI g)), some (.int (nI i))] [] (stM σ 298 (daysV A i)) := by
  intro mm
  induction mm using Nat.strongRecOn with
  | ind mm ih =>
    intro i hmm hi hw
    refine V_iload_n e_X9_when_30 rfl rfl ?_
    refine V_bipush (v := nI 60) e_X9_when_31 (by decide) ?_
    refine V_icmp_gt (tgt := 67) e_X9_when_33 (by decide) (fun c1 => ?_) (fun c1 => ?_)
    · have d1 : 60 < i := nq_lt (by omega) (by omega) c1
      refine V_ldc (v := (-1000000)) e_X9_when_67 k_X9_96 ?_
      exact V_iret e_X9_when_69 rfl (⟨⟨_, rfl⟩, by rw [hw, show 61 - i = 0 by omega]; rfl⟩)
    · have d1 : ¬ 60 < i := nq_nlt (by omega) (by omega) c1
      have ho := (pds_WP (i := i) hF hp (rfl : A 0 = A 0)).of64 hG6
      have hb1 := bitN_le (pds A A p i).2.2.1 g
      refine V_aload_n e_X9_when_36 rfl rfl ?_
      refine V_getr (r := 298) e_X9_when_37 F_X9_then f_X9_25 rfl rfl ?_
      refine V_iload_n e_X9_when_40 rfl rfl ?_
      refine V_iconst (v := nI 2) e_X9_when_41 (by decide) ?_
      refine V_csIe (av := [.ref (eB E + 298), .int (nI p), .int (nI 2)]) (st := []) e_X9_when_42 (c_X9_hisT_w E p 2 (daysV A i) σ (by omega) (by omega)) l_X9_166 S_X9_his (rm_ok (by decide) (by decide)) rfl rfl (Nat.le_of_ble_eq_true rfl) ?_
      refine V_topi (y := nI ((pds A A p i).2.2.1)) (congrArg nI (by rw [show 25 + 6 * p + 2 = 27 + 6 * p by omega]; exact (daysV_at hF hp).2.2.1)) ?_
      refine V_iload_n e_X9_when_45 rfl rfl ?_
      refine V_csIe (av := [.int (nI ((pds A A p i).2.2.1)), .int (nI g)]) (st := []) e_X9_when_46 (c_X9_has E ((pds A A p i).2.2.1) g (stM σ 298 (daysV A i)) (by omega) (by omega)) l_X9_158 S_X9_has (rm_ok (by decide) (by decide)) rfl rfl (Nat.le_of_ble_eq_true rfl) ?_
      refine V_if_eq (tgt := 54) e_X9_when_49 (by decide) (fun c2 => ?_) (fun c2 => ?_)
      · have d2 : bitN ((pds A A p i).2.2.1) g = 0 := nq_eq (by omega) (by omega) c2
        refine V_aload_n e_X9_when_54 rfl rfl ?_
        refine V_getr (r := 298) e_X9_when_55 F_X9_then f_X9_25 rfl rfl ?_
        refine V_csVe (av := [.ref (eB E + 298)]) (st := []) e_X9_when_58 (c_X9_day E 298 (daysV A i) σ rfl rfl (hF.days i)) l_X9_187 S_X9_day (rm_ok (by decide) (by decide)) rfl rfl (Nat.le_of_ble_eq_true rfl) ?_
        refine V_iinc (v := nI (i + 1)) (L' := [some (.ref (eB E + 292)), some (.int (nI p)), some (.int (nI g)), some (.int (nI (i + 1)))]) e_X9_when_61 rfl (nI_add _ 1) rfl ?_
        refine V_goto (tgt := 30) e_X9_when_64 (by decide) ?_
        exact ih (61 - (i + 1)) (by omega) (i + 1) rfl (by omega) (by rw [hw]; exact whenR_step (by omega) (show ¬ bitN (pds A A p i).2.2.1 g = 1 by omega))
      · have d2 : ¬ bitN ((pds A A p i).2.2.1) g = 0 := nq_ne (by omega) (by omega) c2
        refine V_iload_n e_X9_when_52 rfl rfl ?_
        exact V_iret e_X9_when_53 rfl (⟨⟨_, rfl⟩, by rw [hw, whenR_hit (f := (fun i => bitN (pds A A p i).2.2.1 g)) (by omega) (show bitN (pds A A p i).2.2.1 g = 1 by omega)]⟩)


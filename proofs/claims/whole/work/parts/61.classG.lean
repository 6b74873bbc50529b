set_option maxRecDepth 100000 in
set_option maxHeartbeats 4000000 in
theorem c_X2_reach (E : En) (Q h f : Nat) (S : PS) (σ τ : Sg) (hC : CPr σ τ S) (hQ : Q < 768) (hn : S.2.2.2.1 ≤ 768) (hh : h < 2 ^ 30) (hf : f < 3) (hfar : S.2.2.2.2 < 2 ^ 30) (hx9 : ∀ x, S.1 Q = some x → x < 2 ^ 30) (hf9 : ∀ a, S.2.1 Q = some a → a < 3) : Cn E m_X2_reach 1 [.ref (eB E + 252), .int (nI (cd Q)), .int (nI h), .int (nI f)] τ (pV (fun σ' => CPr σ σ' (rch S Q h f))) := by
  have hcq := cd_lt (show Q < 1024 by omega)
  refine Cn.of [some (.ref (eB E + 252)), some (.int (nI (cd Q))), some (.int (nI h)), some (.int (nI f))] (by decide) (Nat.le_of_ble_eq_true rfl) rfl ?_
  rcases hHQ : S.1 Q with _ | x
  · have hdum := hHQ
    refine V_aload_n e_X2_reach_0 rfl rfl ?_
    refine V_getr (r := 253) e_X2_reach_1 F_X2_hours f_X2_11 rfl rfl ?_
    refine V_iload_n e_X2_reach_4 rfl rfl ?_
    refine V_ialdv (v := (-1000000)) (j := (cd Q)) e_X2_reach_5 rfl rfl (by have q : ln 253 = 1024 := rfl; omega) ((hC.1 Q (by omega)).trans (by rw [hHQ]; rfl)) ?_
    refine V_ldc (v := (-1000000)) e_X2_reach_6 k_X2_38 ?_
    refine V_icmp_ne (tgt := 41) e_X2_reach_8 (by decide) (fun c1 => absurd c1 (fun q => q rfl)) (fun c1 => ?_)
    refine V_aload_n e_X2_reach_11 rfl rfl ?_
    refine V_getiv (v := nI S.2.2.2.1) e_X2_reach_12 F_X2_reachedCount f_X2_54 rfl hC.2.2.2.1 ?_
    refine V_sipush (v := nI 1024) e_X2_reach_15 (by decide) ?_
    refine V_icmp_ge (tgt := 41) e_X2_reach_18 (by decide) (fun c2 => ((absurd (show 1024 ≤ S.2.2.2.1 from nq_le (by omega) (by omega) c2) (by omega) : False)).elim) (fun c2 => ?_)
    refine V_aload_n e_X2_reach_21 rfl rfl ?_
    refine V_getr (r := 255) e_X2_reach_22 F_X2_reached f_X2_18 rfl rfl ?_
    refine V_aload_n e_X2_reach_25 rfl rfl ?_
    refine V_getiv (v := nI S.2.2.2.1) e_X2_reach_26 F_X2_reachedCount f_X2_54 rfl hC.2.2.2.1 ?_
    refine V_iload_n e_X2_reach_29 rfl rfl ?_
    refine V_iast (j := S.2.2.2.1) e_X2_reach_30 rfl rfl (by have q : ln 255 = 1024 := rfl; omega) ?_
    refine V_aload_n e_X2_reach_31 rfl rfl ?_
    refine V_dup e_X2_reach_32 rfl ?_
    refine V_getiv (v := nI S.2.2.2.1) e_X2_reach_33 F_X2_reachedCount f_X2_54 rfl ((congrFun (up2_ne (by decide)) _).trans (hC.2.2.2.1)) ?_
    refine V_iconst (v := nI 1) e_X2_reach_36 (by decide) ?_
    refine V_iaddN (z := nI (S.2.2.2.1 + 1)) e_X2_reach_37 (nI_add _ _) ?_
    refine V_puti e_X2_reach_38 F_X2_reachedCount f_X2_54 rfl ?_
    refine V_aload_n e_X2_reach_41 rfl rfl ?_
    refine V_getr (r := 253) e_X2_reach_42 F_X2_hours f_X2_11 rfl rfl ?_
    refine V_iload_n e_X2_reach_45 rfl rfl ?_
    refine V_ialdv (v := (-1000000)) (j := (cd Q)) e_X2_reach_46 rfl rfl (by have q : ln 253 = 1024 := rfl; omega) ((congrFun (up2_ne (by decide)) _).trans ((congrFun (up2_ne (by decide)) _).trans ((hC.1 Q (by omega)).trans (by rw [hHQ]; rfl)))) ?_
    refine V_ldc (v := (-1000000)) e_X2_reach_47 k_X2_38 ?_
    refine V_icmp_eq (tgt := 62) e_X2_reach_49 (by decide) (fun c3 => ?_) (fun c3 => absurd c3 (fun q => q rfl))
    refine V_aload_n e_X2_reach_62 rfl rfl ?_
    refine V_getr (r := 253) e_X2_reach_63 F_X2_hours f_X2_11 rfl rfl ?_
    refine V_iload_n e_X2_reach_66 rfl rfl ?_
    refine V_iload_n e_X2_reach_67 rfl rfl ?_
    refine V_iast (j := (cd Q)) e_X2_reach_68 rfl rfl (by have q : ln 253 = 1024 := rfl; omega) ?_
    refine V_aload_n e_X2_reach_69 rfl rfl ?_
    refine V_getr (r := 254) e_X2_reach_70 F_X2_firstMoves f_X2_15 rfl rfl ?_
    refine V_iload_n e_X2_reach_73 rfl rfl ?_
    refine V_iload_n e_X2_reach_74 rfl rfl ?_
    refine V_iast (j := (cd Q)) e_X2_reach_75 rfl rfl (by have q : ln 254 = 1024 := rfl; omega) ?_
    refine V_aload_n e_X2_reach_76 rfl rfl ?_
    refine V_aload_n e_X2_reach_77 rfl rfl ?_
    refine V_getiv (v := nI S.2.2.2.2) e_X2_reach_78 F_X2_farthest f_X2_51 rfl ((congrFun (up2_ne (by decide)) _).trans ((congrFun (up2_ne (by decide)) _).trans ((up2_k (by decide)).trans ((congrFun (up2_ne (by decide)) _).trans (hC.2.2.2.2.1))))) ?_
    refine V_iload_n e_X2_reach_81 rfl rfl ?_
    refine V_mmax e_X2_reach_82 l_X2_74 (rm_ok (by decide) (by decide)) (Nat.le_of_ble_eq_true rfl) ?_
    rw [show (if nI S.2.2.2.2 < nI h then nI h else nI S.2.2.2.2) = mx (nI S.2.2.2.2) (nI h) from rfl]
    refine V_topi (y := nI (max S.2.2.2.2 h)) (mxN (by omega) (by omega)) ?_
    refine V_puti e_X2_reach_85 F_X2_farthest f_X2_51 rfl ?_
    refine V_goto (tgt := 117) e_X2_reach_88 (by decide) ?_
    exact V_vret e_X2_reach_117 rfl (hC.new (by omega) hHQ)
  · have hdum := hHQ
    have hx := hx9 x hHQ
    refine V_aload_n e_X2_reach_0 rfl rfl ?_
    refine V_getr (r := 253) e_X2_reach_1 F_X2_hours f_X2_11 rfl rfl ?_
    refine V_iload_n e_X2_reach_4 rfl rfl ?_
    refine V_ialdv (v := nI x) (j := (cd Q)) e_X2_reach_5 rfl rfl (by have q : ln 253 = 1024 := rfl; omega) ((hC.1 Q (by omega)).trans (by rw [hHQ]; rfl)) ?_
    refine V_ldc (v := (-1000000)) e_X2_reach_6 k_X2_38 ?_
    refine V_icmp_ne (tgt := 41) e_X2_reach_8 (by decide) (fun c4 => ?_) (fun c4 => ((nI_nn (by omega) c4 : False)).elim)
    refine V_aload_n e_X2_reach_41 rfl rfl ?_
    refine V_getr (r := 253) e_X2_reach_42 F_X2_hours f_X2_11 rfl rfl ?_
    refine V_iload_n e_X2_reach_45 rfl rfl ?_
    refine V_ialdv (v := nI x) (j := (cd Q)) e_X2_reach_46 rfl rfl (by have q : ln 253 = 1024 := rfl; omega) ((hC.1 Q (by omega)).trans (by rw [hHQ]; rfl)) ?_
    refine V_ldc (v := (-1000000)) e_X2_reach_47 k_X2_38 ?_
    refine V_icmp_eq (tgt := 62) e_X2_reach_49 (by decide) (fun c5 => ((nI_nn (by omega) c5 : False)).elim) (fun c5 => ?_)
    refine V_iload_n e_X2_reach_52 rfl rfl ?_
    refine V_aload_n e_X2_reach_53 rfl rfl ?_
    refine V_getr (r := 253) e_X2_reach_54 F_X2_hours f_X2_11 rfl rfl ?_
    refine V_iload_n e_X2_reach_57 rfl rfl ?_
    refine V_ialdv (v := nI x) (j := (cd Q)) e_X2_reach_58 rfl rfl (by have q : ln 253 = 1024 := rfl; omega) ((hC.1 Q (by omega)).trans (by rw [hHQ]; rfl)) ?_
    refine V_icmp_ge (tgt := 91) e_X2_reach_59 (by decide) (fun c6 => ?_) (fun c6 => ?_)
    · have d6 : x ≤ h := nq_le (by omega) (by omega) c6
      refine V_iload_n e_X2_reach_91 rfl rfl ?_
      refine V_aload_n e_X2_reach_92 rfl rfl ?_
      refine V_getr (r := 253) e_X2_reach_93 F_X2_hours f_X2_11 rfl rfl ?_
      refine V_iload_n e_X2_reach_96 rfl rfl ?_
      refine V_ialdv (v := nI x) (j := (cd Q)) e_X2_reach_97 rfl rfl (by have q : ln 253 = 1024 := rfl; omega) ((hC.1 Q (by omega)).trans (by rw [hHQ]; rfl)) ?_
      refine V_icmp_ne (tgt := 117) e_X2_reach_98 (by decide) (fun c7 => ?_) (fun c7 => ?_)
      · have d7 : ¬ h = x := nq_ne (by omega) (by omega) c7
        exact V_vret e_X2_reach_117 rfl (by rw [rch_g hHQ (show x < h by omega)]; exact hC)
      · have d7 : h = x := nq_eq (by omega) (by omega) c7
        refine V_aload_n e_X2_reach_101 rfl rfl ?_
        refine V_getr (r := 254) e_X2_reach_102 F_X2_firstMoves f_X2_15 rfl rfl ?_
        refine V_iload_n e_X2_reach_105 rfl rfl ?_
        refine V_aload_n e_X2_reach_106 rfl rfl ?_
        refine V_getr (r := 254) e_X2_reach_107 F_X2_firstMoves f_X2_15 rfl rfl ?_
        refine V_iload_n e_X2_reach_110 rfl rfl ?_
        refine V_ialdv (v := ov (S.2.1 Q)) (j := (cd Q)) e_X2_reach_111 rfl rfl (by have q : ln 254 = 1024 := rfl; omega) (hC.2.1 Q x (by omega) hHQ) ?_
        refine V_iload_n e_X2_reach_112 rfl rfl ?_
        refine V_mmin e_X2_reach_113 l_X2_57 (rm_ok (by decide) (by decide)) (Nat.le_of_ble_eq_true rfl) ?_
        rw [show (if nI f < ov (S.2.1 Q) then nI f else ov (S.2.1 Q)) = mn (ov (S.2.1 Q)) (nI f) from rfl]
        refine V_topi (y := ov (fmn (S.2.1 Q) f)) (mn_fmn (by omega) (fun a ha => by have := hf9 a ha; omega)) ?_
        refine V_iast (j := (cd Q)) e_X2_reach_116 rfl rfl (by have q : ln 254 = 1024 := rfl; omega) ?_
        exact V_vret e_X2_reach_117 rfl (hC.eqh (by omega) hHQ (by omega))
    · have d6 : ¬ x ≤ h := nq_nle (by omega) (by omega) c6
      refine V_aload_n e_X2_reach_62 rfl rfl ?_
      refine V_getr (r := 253) e_X2_reach_63 F_X2_hours f_X2_11 rfl rfl ?_
      refine V_iload_n e_X2_reach_66 rfl rfl ?_
      refine V_iload_n e_X2_reach_67 rfl rfl ?_
      refine V_iast (j := (cd Q)) e_X2_reach_68 rfl rfl (by have q : ln 253 = 1024 := rfl; omega) ?_
      refine V_aload_n e_X2_reach_69 rfl rfl ?_
      refine V_getr (r := 254) e_X2_reach_70 F_X2_firstMoves f_X2_15 rfl rfl ?_
      refine V_iload_n e_X2_reach_73 rfl rfl ?_
      refine V_iload_n e_X2_reach_74 rfl rfl ?_
      refine V_iast (j := (cd Q)) e_X2_reach_75 rfl rfl (by have q : ln 254 = 1024 := rfl; omega) ?_
      refine V_aload_n e_X2_reach_76 rfl rfl ?_
      refine V_aload_n e_X2_reach_77 rfl rfl ?_
      refine V_getiv (v := nI S.2.2.2.2) e_X2_reach_78 F_X2_farthest f_X2_51 rfl ((congrFun (up2_ne (by decide)) _).trans ((congrFun (up2_ne (by decide)) _).trans (hC.2.2.2.2.1))) ?_
      refine V_iload_n e_X2_reach_81 rfl rfl ?_
      refine V_mmax e_X2_reach_82 l_X2_74 (rm_ok (by decide) (by decide)) (Nat.le_of_ble_eq_true rfl) ?_
      rw [show (if nI S.2.2.2.2 < nI h then nI h else nI S.2.2.2.2) = mx (nI S.2.2.2.2) (nI h) from rfl]
      refine V_topi (y := nI (max S.2.2.2.2 h)) (mxN (by omega) (by omega)) ?_
      refine V_puti e_X2_reach_85 F_X2_farthest f_X2_51 rfl ?_
      refine V_goto (tgt := 117) e_X2_reach_88 (by decide) ?_
      exact V_vret e_X2_reach_117 rfl (hC.low (by omega) hHQ (by omega))
set_option maxRecDepth 100000 in
set_option maxHeartbeats 4000000 in
theorem lp_X2_goOnFrom (E : En) (R H P0 : Nat) (S0 : PS) (A : Vec) (σ : Sg) (hR : RepC σ 4 A) (hA : WE A) (h5 : A 1 ≤ 5) (hA6 : A 0 ≤ 6) (hRl : R < 128 * A 0) (hH : H ≤ 9300) (hcr : cd R < 1024) : ∀ (mm : Nat) (m : Nat) (S : PS) (τ : Sg), 3 - m = mm → (m ≤ 3) → (CPr σ τ S) → (PI A P0 S) → (Mn H S0 S) → (∀ m', m' < m → EX1 A S R m') → (S.1 R = some H) → V E m_X2_goOnFrom (kM E 4 (pV (fun σ' => ∃ T, CPr σ σ' T ∧ PI A P0 T ∧ Mn H S0 T ∧ EXP A T R))) 2 [some (.ref (eB E + 252)), some (.ref (eB E + 4)), some (.int (nI (cd R))), some (.int (nI m)), none, none] [] τ := by
  intro mm
  induction mm using Nat.strongRecOn with
  | ind mm ih =>
    intro m S τ hmm hm hC hI hMn hEx hSR
    have hfb := hI.2.1
    have hn7 := hI.n7
    have hHf := (hI.1 R H hSR).1
    refine V_iload_n e_X2_goOnFrom_2 rfl rfl ?_
    refine V_iconst (v := nI 3) e_X2_goOnFrom_3 (by decide) ?_
    refine V_icmp_ge (tgt := 72) e_X2_goOnFrom_4 (by decide) (fun c1 => ?_) (fun c1 => ?_)
    · have d1 : 3 ≤ m := nq_le (by omega) (by omega) c1
      exact V_vret e_X2_goOnFrom_72 rfl (⟨S, hC, hI, hMn, fun m9 hm9 => hEx m9 (by omega)⟩)
    · have d1 : ¬ 3 ≤ m := nq_nle (by omega) (by omega) c1
      refine V_aload_n e_X2_goOnFrom_7 rfl rfl ?_
      refine V_iload_n e_X2_goOnFrom_8 rfl rfl ?_
      refine V_iload_n e_X2_goOnFrom_9 rfl rfl ?_
      refine V_csIe (av := [.ref (eB E + 4), .int (nI (cd R)), .int (nI m)]) (st := []) e_X2_goOnFrom_10 (c_X2_behind E R m A τ (hC.rep h5 hR) hA hRl (by omega)) l_X2_34 S_X2_behind (rm_ok (by decide) (by decide)) rfl rfl (Nat.le_of_ble_eq_true rfl) ?_
      rcases hnx : nxt A R m with _ | Q1
      · have hdum := hnx
        refine V_topi (y := (-1000000)) rfl ?_
        refine V_istore (L' := [some (.ref (eB E + 252)), some (.ref (eB E + 4)), some (.int (nI (cd R))), some (.int (nI m)), some (.int (-1000000)), none]) e_X2_goOnFrom_13 rfl ?_
        refine V_iload e_X2_goOnFrom_15 rfl ?_
        refine V_ldc (v := (-1000000)) e_X2_goOnFrom_17 k_X2_38 ?_
        refine V_icmp_eq (tgt := 66) e_X2_goOnFrom_19 (by decide) (fun c2 => ?_) (fun c2 => absurd c2 (fun q => q rfl))
        refine V_iinc (v := nI (m + 1)) (L' := [some (.ref (eB E + 252)), some (.ref (eB E + 4)), some (.int (nI (cd R))), some (.int (nI (m + 1))), some (.int (-1000000)), none]) e_X2_goOnFrom_66 rfl (nI_add _ 1) rfl ?_
        refine V_goto (tgt := 2) e_X2_goOnFrom_69 (by decide) ?_
        refine V_forget 4 ?_; exact ih (3 - (m + 1)) (by omega) (m + 1) S τ rfl (by omega) hC hI hMn (fun m9 hm9 => by by_cases e : m9 = m; (rw [e]; exact fun Q9 h9 z _ => by rw [hnx] at z; cases z); exact hEx m9 (by omega)) hSR
      · have hdum := hnx
        have hQ1 := nxt_lt hA6 hRl hnx
        have hcc := cst_1 hA hRl hnx
        have hcq := cd_lt (show Q1 < 1024 by omega)
        obtain ⟨hpf, R9, k9, g9, hpq⟩ := hI.pre hSR (by omega) hnx
        refine V_topi (y := nI (cd Q1)) rfl ?_
        refine V_istore (L' := [some (.ref (eB E + 252)), some (.ref (eB E + 4)), some (.int (nI (cd R))), some (.int (nI m)), some (.int (nI (cd Q1))), none]) e_X2_goOnFrom_13 rfl ?_
        refine V_iload e_X2_goOnFrom_15 rfl ?_
        refine V_ldc (v := (-1000000)) e_X2_goOnFrom_17 k_X2_38 ?_
        refine V_icmp_eq (tgt := 66) e_X2_goOnFrom_19 (by decide) (fun c3 => ((nI_nn (by omega) c3 : False)).elim) (fun c3 => ?_)
        rcases hfR : S.2.1 R with _ | a9
        · have hdum := hfR
          refine V_aload_n e_X2_goOnFrom_22 rfl rfl ?_
          refine V_getr (r := 254) e_X2_goOnFrom_23 F_X2_firstMoves f_X2_15 rfl rfl ?_
          refine V_iload_n e_X2_goOnFrom_26 rfl rfl ?_
          refine V_ialdv (v := (-1000000)) (j := (cd R)) e_X2_goOnFrom_27 rfl rfl (by have q : ln 254 = 1024 := rfl; omega) ((hC.2.1 R H (by omega) hSR).trans (by rw [hfR]; rfl)) ?_
          refine V_ldc (v := (-1000000)) e_X2_goOnFrom_28 k_X2_38 ?_
          refine V_icmp_ne (tgt := 37) e_X2_goOnFrom_30 (by decide) (fun c4 => absurd c4 (fun q => q rfl)) (fun c4 => ?_)
          refine V_iload_n e_X2_goOnFrom_33 rfl rfl ?_
          refine V_goto (tgt := 43) e_X2_goOnFrom_34 (by decide) ?_
          refine V_istore (L' := [some (.ref (eB E + 252)), some (.ref (eB E + 4)), some (.int (nI (cd R))), some (.int (nI m)), some (.int (nI (cd Q1))), some (.int (nI m))]) e_X2_goOnFrom_43 rfl ?_
          refine V_aload_n e_X2_goOnFrom_45 rfl rfl ?_
          refine V_iload e_X2_goOnFrom_46 rfl ?_
          refine V_aload_n e_X2_goOnFrom_48 rfl rfl ?_
          refine V_getr (r := 253) e_X2_goOnFrom_49 F_X2_hours f_X2_11 rfl rfl ?_
          refine V_iload_n e_X2_goOnFrom_52 rfl rfl ?_
          refine V_ialdv (v := nI H) (j := (cd R)) e_X2_goOnFrom_53 rfl rfl (by have q : ln 253 = 1024 := rfl; omega) ((hC.1 R (by omega)).trans (by rw [hSR]; rfl)) ?_
          refine V_aload_n e_X2_goOnFrom_54 rfl rfl ?_
          refine V_iload_n e_X2_goOnFrom_55 rfl rfl ?_
          refine V_iload_n e_X2_goOnFrom_56 rfl rfl ?_
          refine V_csIe (av := [.ref (eB E + 4), .int (nI (cd R)), .int (nI m)]) (st := [.int (nI H), .int (nI (cd Q1)), .ref (eB E + 252)]) e_X2_goOnFrom_57 (c_X2_hoursOf E R m Q1 A τ (hC.rep h5 hR) hA hRl (by omega) hnx) l_X2_67 S_X2_hoursOf (rm_ok (by decide) (by decide)) rfl rfl (Nat.le_of_ble_eq_true rfl) ?_
          refine V_iaddN (z := nI (H + (cst A R m))) e_X2_goOnFrom_60 (nI_add _ _) ?_
          refine V_iload e_X2_goOnFrom_61 rfl ?_
          refine V_cvV (av := [.int (nI (cd Q1)), .int (nI (H + (cst A R m))), .int (nI m)]) (st := []) e_X2_goOnFrom_63 (c_X2_reach E Q1 (H + cst A R m) m S σ τ hC (by omega) hI.n7 (by omega) (by omega) (by omega) (fun x9 hx9 => by have := (hI.1 Q1 x9 hx9).1; omega) (fun b9 hb9 => hI.2.2.2.1 Q1 b9 hb9)) l_X2_70 S_X2_reach rfl (rm_ok (by decide) (by decide)) rfl rfl (Nat.le_of_ble_eq_true rfl) ?_
          intro τ1 hC1
          refine V_iinc (v := nI (m + 1)) (L' := [some (.ref (eB E + 252)), some (.ref (eB E + 4)), some (.int (nI (cd R))), some (.int (nI (m + 1))), some (.int (nI (cd Q1))), some (.int (nI m))]) e_X2_goOnFrom_66 rfl (nI_add _ 1) rfl ?_
          refine V_goto (tgt := 2) e_X2_goOnFrom_69 (by decide) ?_
          refine V_forget 4 ?_; refine V_forget 5 ?_; have hff : ffO (S.2.1 R) m = m := (by rw [hfR]; rfl); rw [hff] at hpf hpq; have hI1 := hI.rch hA6 (by omega) (by omega) (by omega) hpf hpq.1 hpq.2.1 hpq.2.2; have hMr : Mn H S (rch S Q1 (H + cst A R m) m) := Mn.rch (by omega); have hE1 := EX1.rch hI hA hSR hnx; rw [hff] at hE1; exact ih (3 - (m + 1)) (by omega) (m + 1) _ τ1 rfl (by omega) hC1 hI1 (hMn.tr hMr) (fun m9 hm9 => by by_cases e : m9 = m; (rw [e]; exact hE1); exact (hEx m9 (by omega)).mono hMr hSR (Nat.le_refl _)) (by obtain ⟨y9, y1, y2, y3, y4⟩ := hMr.1 R H hSR; rw [y1, (y4 (Nat.le_refl _)).1])
        · have hdum := hfR
          have ha9 := hI.2.2.2.1 R a9 hfR
          refine V_aload_n e_X2_goOnFrom_22 rfl rfl ?_
          refine V_getr (r := 254) e_X2_goOnFrom_23 F_X2_firstMoves f_X2_15 rfl rfl ?_
          refine V_iload_n e_X2_goOnFrom_26 rfl rfl ?_
          refine V_ialdv (v := nI a9) (j := (cd R)) e_X2_goOnFrom_27 rfl rfl (by have q : ln 254 = 1024 := rfl; omega) ((hC.2.1 R H (by omega) hSR).trans (by rw [hfR]; rfl)) ?_
          refine V_ldc (v := (-1000000)) e_X2_goOnFrom_28 k_X2_38 ?_
          refine V_icmp_ne (tgt := 37) e_X2_goOnFrom_30 (by decide) (fun c5 => ?_) (fun c5 => ((nI_nn (by omega) c5 : False)).elim)
          refine V_aload_n e_X2_goOnFrom_37 rfl rfl ?_
          refine V_getr (r := 254) e_X2_goOnFrom_38 F_X2_firstMoves f_X2_15 rfl rfl ?_
          refine V_iload_n e_X2_goOnFrom_41 rfl rfl ?_
          refine V_ialdv (v := nI a9) (j := (cd R)) e_X2_goOnFrom_42 rfl rfl (by have q : ln 254 = 1024 := rfl; omega) ((hC.2.1 R H (by omega) hSR).trans (by rw [hfR]; rfl)) ?_
          refine V_istore (L' := [some (.ref (eB E + 252)), some (.ref (eB E + 4)), some (.int (nI (cd R))), some (.int (nI m)), some (.int (nI (cd Q1))), some (.int (nI a9))]) e_X2_goOnFrom_43 rfl ?_
          refine V_aload_n e_X2_goOnFrom_45 rfl rfl ?_
          refine V_iload e_X2_goOnFrom_46 rfl ?_
          refine V_aload_n e_X2_goOnFrom_48 rfl rfl ?_
          refine V_getr (r := 253) e_X2_goOnFrom_49 F_X2_hours f_X2_11 rfl rfl ?_
          refine V_iload_n e_X2_goOnFrom_52 rfl rfl ?_
          refine V_ialdv (v := nI H) (j := (cd R)) e_X2_goOnFrom_53 rfl rfl (by have q : ln 253 = 1024 := rfl; omega) ((hC.1 R (by omega)).trans (by rw [hSR]; rfl)) ?_
          refine V_aload_n e_X2_goOnFrom_54 rfl rfl ?_
          refine V_iload_n e_X2_goOnFrom_55 rfl rfl ?_
          refine V_iload_n e_X2_goOnFrom_56 rfl rfl ?_
          refine V_csIe (av := [.ref (eB E + 4), .int (nI (cd R)), .int (nI m)]) (st := [.int (nI H), .int (nI (cd Q1)), .ref (eB E + 252)]) e_X2_goOnFrom_57 (c_X2_hoursOf E R m Q1 A τ (hC.rep h5 hR) hA hRl (by omega) hnx) l_X2_67 S_X2_hoursOf (rm_ok (by decide) (by decide)) rfl rfl (Nat.le_of_ble_eq_true rfl) ?_
          refine V_iaddN (z := nI (H + (cst A R m))) e_X2_goOnFrom_60 (nI_add _ _) ?_
          refine V_iload e_X2_goOnFrom_61 rfl ?_
          refine V_cvV (av := [.int (nI (cd Q1)), .int (nI (H + (cst A R m))), .int (nI a9)]) (st := []) e_X2_goOnFrom_63 (c_X2_reach E Q1 (H + cst A R m) a9 S σ τ hC (by omega) hI.n7 (by omega) (by omega) (by omega) (fun x9 hx9 => by have := (hI.1 Q1 x9 hx9).1; omega) (fun b9 hb9 => hI.2.2.2.1 Q1 b9 hb9)) l_X2_70 S_X2_reach rfl (rm_ok (by decide) (by decide)) rfl rfl (Nat.le_of_ble_eq_true rfl) ?_
          intro τ1 hC1
          refine V_iinc (v := nI (m + 1)) (L' := [some (.ref (eB E + 252)), some (.ref (eB E + 4)), some (.int (nI (cd R))), some (.int (nI (m + 1))), some (.int (nI (cd Q1))), some (.int (nI a9))]) e_X2_goOnFrom_66 rfl (nI_add _ 1) rfl ?_
          refine V_goto (tgt := 2) e_X2_goOnFrom_69 (by decide) ?_
          refine V_forget 4 ?_; refine V_forget 5 ?_; have hff : ffO (S.2.1 R) m = a9 := (by rw [hfR]; rfl); rw [hff] at hpf hpq; have hI1 := hI.rch hA6 (by omega) (by omega) (by omega) hpf hpq.1 hpq.2.1 hpq.2.2; have hMr : Mn H S (rch S Q1 (H + cst A R m) a9) := Mn.rch (by omega); have hE1 := EX1.rch hI hA hSR hnx; rw [hff] at hE1; exact ih (3 - (m + 1)) (by omega) (m + 1) _ τ1 rfl (by omega) hC1 hI1 (hMn.tr hMr) (fun m9 hm9 => by by_cases e : m9 = m; (rw [e]; exact hE1); exact (hEx m9 (by omega)).mono hMr hSR (Nat.le_refl _)) (by obtain ⟨y9, y1, y2, y3, y4⟩ := hMr.1 R H hSR; rw [y1, (y4 (Nat.le_refl _)).1])
set_option maxRecDepth 100000 in
set_option maxHeartbeats 4000000 in
theorem c_X2_goOnFrom (E : En) (R H P0 : Nat) (S0 : PS) (A : Vec) (σ τ : Sg) (hR : RepC σ 4 A) (hA : WE A) (h5 : A 1 ≤ 5) (hRl : R < 128 * A 0) (hH : H ≤ 9300) (hC : CPr σ τ S0) (hI : PI A P0 S0) (hSR : S0.1 R = some H) : Cn E m_X2_goOnFrom 4 [.ref (eB E + 252), .ref (eB E + 4), .int (nI (cd R))] τ (pV (fun σ' => ∃ T, CPr σ σ' T ∧ PI A P0 T ∧ Mn H S0 T ∧ EXP A T R)) := by
  refine Cn.of [some (.ref (eB E + 252)), some (.ref (eB E + 4)), some (.int (nI (cd R))), none, none, none] (by decide) (Nat.le_of_ble_eq_true rfl) rfl ?_
  refine V_iconst (v := nI 0) e_X2_goOnFrom_0 (by decide) ?_
  refine V_istore_n (L' := [some (.ref (eB E + 252)), some (.ref (eB E + 4)), some (.int (nI (cd R))), some (.int (nI 0)), none, none]) e_X2_goOnFrom_1 rfl rfl ?_
  exact lp_X2_goOnFrom E R H P0 S0 A σ hR hA h5 hA.2.1 hRl hH (cd_lt (by have := hA.2.1; omega)) 3 0 S0 τ rfl (by omega) hC hI Mn.rf (fun m9 hm9 => absurd hm9 (Nat.not_lt_zero m9)) hSR
set_option maxRecDepth 100000 in
set_option maxHeartbeats 4000000 in
theorem lp_X2_begin (E : En) (P0 : Nat) (σ : Sg) (hP : P0 < 768) (hcp : cd P0 < 1024) : ∀ (mm : Nat) (i : Nat), 1024 - i = mm → (i ≤ 1024) → V E m_X2_begin (kM E 1 (pV (fun σ' => CPr σ σ' (PS0 P0)))) 2 [some (.ref (eB E + 252)), some (.int (nI (cd P0))), some (.int (nI i))] [] (layN i σ) := by
  intro mm
  induction mm using Nat.strongRecOn with
  | ind mm ih =>
    intro i hmm hi
    refine V_iload_n e_X2_begin_2 rfl rfl ?_
    refine V_sipush (v := nI 1024) e_X2_begin_3 (by decide) ?_
    refine V_icmp_ge (tgt := 23) e_X2_begin_6 (by decide) (fun c1 => ?_) (fun c1 => ?_)
    · have d1 : 1024 ≤ i := nq_le (by omega) (by omega) c1
      obtain rfl : i = 1024 := by omega
      refine V_aload_n e_X2_begin_23 rfl rfl ?_
      refine V_getr (r := 253) e_X2_begin_24 F_X2_hours f_X2_11 rfl rfl ?_
      refine V_iload_n e_X2_begin_27 rfl rfl ?_
      refine V_iconst (v := nI 0) e_X2_begin_28 (by decide) ?_
      refine V_iast (j := (cd P0)) e_X2_begin_29 rfl rfl (by have q : ln 253 = 1024 := rfl; omega) ?_
      refine V_aload_n e_X2_begin_30 rfl rfl ?_
      refine V_getr (r := 254) e_X2_begin_31 F_X2_firstMoves f_X2_15 rfl rfl ?_
      refine V_iload_n e_X2_begin_34 rfl rfl ?_
      refine V_ldc (v := (-1000000)) e_X2_begin_35 k_X2_38 ?_
      refine V_iast (j := (cd P0)) e_X2_begin_37 rfl rfl (by have q : ln 254 = 1024 := rfl; omega) ?_
      refine V_aload_n e_X2_begin_38 rfl rfl ?_
      refine V_getr (r := 255) e_X2_begin_39 F_X2_reached f_X2_18 rfl rfl ?_
      refine V_iconst (v := nI 0) e_X2_begin_42 (by decide) ?_
      refine V_iload_n e_X2_begin_43 rfl rfl ?_
      refine V_iast (j := 0) e_X2_begin_44 rfl rfl (by have q : ln 255 = 1024 := rfl; omega) ?_
      refine V_aload_n e_X2_begin_45 rfl rfl ?_
      refine V_iconst (v := nI 1) e_X2_begin_46 (by decide) ?_
      refine V_puti e_X2_begin_47 F_X2_reachedCount f_X2_54 rfl ?_
      refine V_aload_n e_X2_begin_50 rfl rfl ?_
      refine V_iconst (v := nI 0) e_X2_begin_51 (by decide) ?_
      refine V_puti e_X2_begin_52 F_X2_farthest f_X2_51 rfl ?_
      exact V_vret e_X2_begin_55 rfl (CPr.zero (by omega))
    · have d1 : ¬ 1024 ≤ i := nq_nle (by omega) (by omega) c1
      refine V_aload_n e_X2_begin_9 rfl rfl ?_
      refine V_getr (r := 253) e_X2_begin_10 F_X2_hours f_X2_11 rfl rfl ?_
      refine V_iload_n e_X2_begin_13 rfl rfl ?_
      refine V_ldc (v := (-1000000)) e_X2_begin_14 k_X2_38 ?_
      refine V_iast (j := i) e_X2_begin_16 rfl rfl (by have q : ln 253 = 1024 := rfl; omega) ?_
      rw [show up2 (layN i σ) 253 i (-1000000) = layN (i + 1) σ from layN_s]
      refine V_iinc (v := nI (i + 1)) (L' := [some (.ref (eB E + 252)), some (.int (nI (cd P0))), some (.int (nI (i + 1)))]) e_X2_begin_17 rfl (nI_add _ 1) rfl ?_
      refine V_goto (tgt := 2) e_X2_begin_20 (by decide) ?_
      exact ih (1024 - (i + 1)) (by omega) (i + 1) rfl (by omega)
set_option maxRecDepth 100000 in
set_option maxHeartbeats 4000000 in
theorem c_X2_begin (E : En) (P0 : Nat) (σ : Sg) (hP : P0 < 768) : Cn E m_X2_begin 1 [.ref (eB E + 252), .int (nI (cd P0))] σ (pV (fun σ' => CPr σ σ' (PS0 P0))) := by
  refine Cn.of [some (.ref (eB E + 252)), some (.int (nI (cd P0))), none] (by decide) (Nat.le_of_ble_eq_true rfl) rfl ?_
  refine V_iconst (v := nI 0) e_X2_begin_0 (by decide) ?_
  refine V_istore_n (L' := [some (.ref (eB E + 252)), some (.int (nI (cd P0))), some (.int (nI 0))]) e_X2_begin_1 rfl rfl ?_
  have hX := lp_X2_begin E P0 σ hP (cd_lt (by omega)) 1024 0 rfl (by omega); rw [layN_0] at hX; exact hX
set_option maxRecDepth 100000 in
set_option maxHeartbeats 4000000 in
theorem lp_X2_fewestHours_i (E : En) (p s w P0 : Nat) (A : Vec) (Q : Sg → Int32 → Prop) (σ : Sg) (H : Nat) (hk7 : kd (8 + p) = 7) (hR : RepC σ 4 A) (hA : WE A) (hA6 : A 0 ≤ 6) (h5 : A 1 ≤ 5) (hP0 : P0 < 128 * A 0) (hs : s < 64) (hw : w ≤ 1) (hH : H ≤ 9216) (hout : ∀ (b : Nat) (g : Option Nat) (S : PS) (τ : Sg) (i : Nat), CPr σ τ S → SC A P0 s H S i b g → S.2.2.2.1 ≤ i → i ≤ 768 → V E m_X2_fewestHours (kM E 6 (pI Q)) 120 [some (.ref (eB E + 252)), some (.ref (eB E + 4)), some (.ref (eB E + (8 + p))), some (.int (nI s)), some (.int (nI w)), some (.int (nI H)), some (.int (nI b)), some (.int (ov g)), some (.int (nI i)), none] [] τ) : ∀ (mm : Nat) (i : Nat) (b : Nat) (g : Option Nat) (S : PS) (τ : Sg), 1024 - i = mm → (i ≤ S.2.2.2.1) → (CPr σ τ S) → (SC A P0 s H S i b g) → V E m_X2_fewestHours (kM E 6 (pI Q)) 37 [some (.ref (eB E + 252)), some (.ref (eB E + 4)), some (.ref (eB E + (8 + p))), some (.int (nI s)), some (.int (nI w)), some (.int (nI H)), some (.int (nI b)), some (.int (ov g)), some (.int (nI i)), none] [] τ := by
  intro mm
  induction mm using Nat.strongRecOn with
  | ind mm ih =>
    intro i b g S τ hmm hi hC hS
    have hn7 := hS.1.n7
    have hfb := hS.1.2.1
    have hb1 := hS.2.2.2.2.2
    have hg3 : ∀ a, g = some a → a ≤ 3 := fun a ha => by
      rcases (show b = 0 ∨ b = 1 by omega) with q | q
      · rw [hS.2.2.2.2.1 q] at ha; have := Option.some.inj ha; omega
      · obtain ⟨Q9, z1, z2, z3⟩ := hS.2.2.2.1 q; rw [z3] at ha; have := hS.1.2.2.2.1 Q9 a ha; omega
    refine V_iload e_X2_fewestHours_37 rfl ?_
    refine V_aload_n e_X2_fewestHours_39 rfl rfl ?_
    refine V_getiv (v := nI S.2.2.2.1) e_X2_fewestHours_40 F_X2_reachedCount f_X2_54 rfl hC.2.2.2.1 ?_
    refine V_icmp_ge (tgt := 120) e_X2_fewestHours_43 (by decide) (fun c1 => ?_) (fun c1 => ?_)
    · have d1 : S.2.2.2.1 ≤ i := nq_le (by omega) (by omega) c1
      exact hout b g S τ i hC hS (by omega) (by omega)
    · have d1 : ¬ S.2.2.2.1 ≤ i := nq_nle (by omega) (by omega) c1
      obtain ⟨x, hLx⟩ := hS.1.2.2.2.2.2.1 i (by omega)
      obtain ⟨hxf, hLl⟩ := hS.1.1 _ x hLx
      have hcl := cd_lt (show S.2.2.1 i < 1024 by omega)
      refine V_aload_n e_X2_fewestHours_46 rfl rfl ?_
      refine V_getr (r := 255) e_X2_fewestHours_47 F_X2_reached f_X2_18 rfl rfl ?_
      refine V_iload e_X2_fewestHours_50 rfl ?_
      refine V_ialdv (v := nI (cd (S.2.2.1 i))) (j := i) e_X2_fewestHours_52 rfl rfl (by have q : ln 255 = 1024 := rfl; omega) (hC.2.2.1 i (by omega)) ?_
      refine V_istore (L' := [some (.ref (eB E + 252)), some (.ref (eB E + 4)), some (.ref (eB E + (8 + p))), some (.int (nI s)), some (.int (nI w)), some (.int (nI H)), some (.int (nI b)), some (.int (ov g)), some (.int (nI i)), some (.int (nI (cd (S.2.2.1 i))))]) e_X2_fewestHours_53 rfl ?_
      refine V_aload_n e_X2_fewestHours_55 rfl rfl ?_
      refine V_getr (r := 253) e_X2_fewestHours_56 F_X2_hours f_X2_11 rfl rfl ?_
      refine V_iload e_X2_fewestHours_59 rfl ?_
      refine V_ialdv (v := nI x) (j := (cd (S.2.2.1 i))) e_X2_fewestHours_61 rfl rfl (by have q : ln 253 = 1024 := rfl; omega) ((hC.1 (S.2.2.1 i) (by omega)).trans (by rw [hLx]; rfl)) ?_
      refine V_iload e_X2_fewestHours_62 rfl ?_
      refine V_icmp_ne (tgt := 95) e_X2_fewestHours_64 (by decide) (fun c2 => ?_) (fun c2 => ?_)
      · have d2 : ¬ x = H := nq_ne (by omega) (by omega) c2
        refine V_aload_n e_X2_fewestHours_95 rfl rfl ?_
        refine V_getr (r := 253) e_X2_fewestHours_96 F_X2_hours f_X2_11 rfl rfl ?_
        refine V_iload e_X2_fewestHours_99 rfl ?_
        refine V_ialdv (v := nI x) (j := (cd (S.2.2.1 i))) e_X2_fewestHours_101 rfl rfl (by have q : ln 253 = 1024 := rfl; omega) ((hC.1 (S.2.2.1 i) (by omega)).trans (by rw [hLx]; rfl)) ?_
        refine V_iload e_X2_fewestHours_102 rfl ?_
        refine V_icmp_ne (tgt := 114) e_X2_fewestHours_104 (by decide) (fun c3 => ?_) (fun c3 => ((by have := nq_eq (by omega) (by omega) c3; omega : False)).elim)
        refine V_iinc (v := nI (i + 1)) (L' := [some (.ref (eB E + 252)), some (.ref (eB E + 4)), some (.ref (eB E + (8 + p))), some (.int (nI s)), some (.int (nI w)), some (.int (nI H)), some (.int (nI b)), some (.int (ov g)), some (.int (nI (i + 1))), some (.int (nI (cd (S.2.2.1 i))))]) e_X2_fewestHours_114 rfl (nI_add _ 1) rfl ?_
        refine V_goto (tgt := 37) e_X2_fewestHours_117 (by decide) ?_
        refine V_forget 9 ?_; exact ih (1024 - (i + 1)) (by omega) (i + 1) b g S τ rfl (by omega) hC (hS.no (fun z => by rw [hLx] at z; have := Option.some.inj z; omega))
      · have d2 : x = H := nq_eq (by omega) (by omega) c2
        have hxH : x = H := d2
        refine V_iload e_X2_fewestHours_67 rfl ?_
        refine V_iconst (v := nI 4) e_X2_fewestHours_69 (by decide) ?_
        refine V_ishrN (z := nI ((cd (S.2.2.1 i)) / 2 ^ 4)) e_X2_fewestHours_70 (shrN (by omega) (by omega)) ?_
        refine V_topi (y := nI (S.2.2.1 i % 64)) (congrArg nI (by unfold cd; omega)) ?_
        refine V_iload_n e_X2_fewestHours_71 rfl rfl ?_
        refine V_icmp_ne (tgt := 95) e_X2_fewestHours_72 (by decide) (fun c4 => ?_) (fun c4 => ?_)
        · have d4 : ¬ S.2.2.1 i % 64 = s := nq_ne (by omega) (by omega) c4
          have htg : ¬ S.2.2.1 i % 64 = s := d4
          refine V_aload_n e_X2_fewestHours_95 rfl rfl ?_
          refine V_getr (r := 253) e_X2_fewestHours_96 F_X2_hours f_X2_11 rfl rfl ?_
          refine V_iload e_X2_fewestHours_99 rfl ?_
          refine V_ialdv (v := nI x) (j := (cd (S.2.2.1 i))) e_X2_fewestHours_101 rfl rfl (by have q : ln 253 = 1024 := rfl; omega) ((hC.1 (S.2.2.1 i) (by omega)).trans (by rw [hLx]; rfl)) ?_
          refine V_iload e_X2_fewestHours_102 rfl ?_
          refine V_icmp_ne (tgt := 114) e_X2_fewestHours_104 (by decide) (fun c5 => absurd c5 (fun q => q (congrArg nI hxH))) (fun c5 => ?_)
          refine V_aload_n e_X2_fewestHours_107 rfl rfl ?_
          refine V_aload_n e_X2_fewestHours_108 rfl rfl ?_
          refine V_iload e_X2_fewestHours_109 rfl ?_
          refine V_cvV (av := [.ref (eB E + 4), .int (nI (cd (S.2.2.1 i)))]) (st := []) e_X2_fewestHours_111 (c_X2_goOnFrom E (S.2.2.1 i) H P0 S A σ τ hR hA h5 hLl (by omega) hC hS.1 (by rw [hLx]; exact congrArg some (by omega))) l_X2_63 S_X2_goOnFrom rfl (rm_ok (by decide) (by decide)) rfl rfl (Nat.le_of_ble_eq_true rfl) ?_
          intro τ1 hh1
          obtain ⟨T, hC1, hI1, hMn1, hE1⟩ := hh1
          refine V_iinc (v := nI (i + 1)) (L' := [some (.ref (eB E + 252)), some (.ref (eB E + 4)), some (.ref (eB E + (8 + p))), some (.int (nI s)), some (.int (nI w)), some (.int (nI H)), some (.int (nI b)), some (.int (ov g)), some (.int (nI (i + 1))), some (.int (nI (cd (S.2.2.1 i))))]) e_X2_fewestHours_114 rfl (nI_add _ 1) rfl ?_
          refine V_goto (tgt := 37) e_X2_fewestHours_117 (by decide) ?_
          refine V_forget 9 ?_; have hlt : T.2.2.2.1 ≤ 768 := hI1.n7; have hle := hMn1.2.2.2; exact ih (1024 - (i + 1)) (by omega) (i + 1) b g T τ1 rfl (by omega) hC1 (hS.go (by omega) hI1 hMn1 (by rw [hLx, hxH]) htg hE1)
        · have d4 : S.2.2.1 i % 64 = s := nq_eq (by omega) (by omega) c4
          have htg : S.2.2.1 i % 64 = s := d4
          refine V_iconst (v := nI 1) e_X2_fewestHours_75 (by decide) ?_
          refine V_istore (L' := [some (.ref (eB E + 252)), some (.ref (eB E + 4)), some (.ref (eB E + (8 + p))), some (.int (nI s)), some (.int (nI w)), some (.int (nI H)), some (.int (nI 1)), some (.int (ov g)), some (.int (nI i)), some (.int (nI (cd (S.2.2.1 i))))]) e_X2_fewestHours_76 rfl ?_
          refine V_iload e_X2_fewestHours_78 rfl ?_
          refine V_aload_n e_X2_fewestHours_80 rfl rfl ?_
          refine V_getr (r := 254) e_X2_fewestHours_81 F_X2_firstMoves f_X2_15 rfl rfl ?_
          refine V_iload e_X2_fewestHours_84 rfl ?_
          refine V_ialdv (v := ov (S.2.1 (S.2.2.1 i))) (j := (cd (S.2.2.1 i))) e_X2_fewestHours_86 rfl rfl (by have q : ln 254 = 1024 := rfl; omega) (hC.2.1 (S.2.2.1 i) x (by omega) hLx) ?_
          refine V_mmin e_X2_fewestHours_87 l_X2_57 (rm_ok (by decide) (by decide)) (Nat.le_of_ble_eq_true rfl) ?_
          rw [show (if ov (S.2.1 (S.2.2.1 i)) < ov g then ov (S.2.1 (S.2.2.1 i)) else ov g) = mn (ov g) (ov (S.2.1 (S.2.2.1 i))) from rfl]
          refine V_topi (y := ov (omn g (S.2.1 (S.2.2.1 i)))) (mn_omn (fun a ha => by have := hg3 a ha; omega) (fun a ha => by have := hS.1.2.2.2.1 _ a ha; omega)) ?_
          refine V_istore (L' := [some (.ref (eB E + 252)), some (.ref (eB E + 4)), some (.ref (eB E + (8 + p))), some (.int (nI s)), some (.int (nI w)), some (.int (nI H)), some (.int (nI 1)), some (.int (ov (omn g (S.2.1 (S.2.2.1 i))))), some (.int (nI i)), some (.int (nI (cd (S.2.2.1 i))))]) e_X2_fewestHours_90 rfl ?_
          refine V_goto (tgt := 114) e_X2_fewestHours_92 (by decide) ?_
          refine V_iinc (v := nI (i + 1)) (L' := [some (.ref (eB E + 252)), some (.ref (eB E + 4)), some (.ref (eB E + (8 + p))), some (.int (nI s)), some (.int (nI w)), some (.int (nI H)), some (.int (nI 1)), some (.int (ov (omn g (S.2.1 (S.2.2.1 i))))), some (.int (nI (i + 1))), some (.int (nI (cd (S.2.2.1 i))))]) e_X2_fewestHours_114 rfl (nI_add _ 1) rfl ?_
          refine V_goto (tgt := 37) e_X2_fewestHours_117 (by decide) ?_
          refine V_forget 9 ?_; exact ih (1024 - (i + 1)) (by omega) (i + 1) 1 (omn g (S.2.1 (S.2.2.1 i))) S τ rfl (by omega) hC (hS.tgt (by rw [hLx, hxH]) htg)
set_option maxRecDepth 100000 in
set_option maxHeartbeats 4000000 in
theorem lp_X2_fewestHours_h (E : En) (p s w P0 : Nat) (A : Vec) (Q : Sg → Int32 → Prop) (σ : Sg) (hk7 : kd (8 + p) = 7) (hR : RepC σ 4 A) (hA : WE A) (hA6 : A 0 ≤ 6) (h5 : A 1 ≤ 5) (hP0 : P0 < 128 * A 0) (hs : s < 64) (hw : w ≤ 1) (hQ : ∀ (τ : Sg) (S : PS) (r : Int32), CPr σ τ S → LSq A P0 s w r → Q τ r) : ∀ (mm : Nat) (H : Nat) (S : PS) (τ : Sg), 9300 - H = mm → (H ≤ 9217) → (CPr σ τ S) → (PI A P0 S) → (DN A s H S) → V E m_X2_fewestHours (kM E 6 (pI Q)) 11 [some (.ref (eB E + 252)), some (.ref (eB E + 4)), some (.ref (eB E + (8 + p))), some (.int (nI s)), some (.int (nI w)), some (.int (nI H)), none, none, none, none] [] τ := by
  intro mm
  induction mm using Nat.strongRecOn with
  | ind mm ih =>
    intro H S τ hmm hH9 hC hI hD
    have hn7 := hI.n7
    have hfb := hI.2.1
    refine V_iload e_X2_fewestHours_11 rfl ?_
    refine V_aload_n e_X2_fewestHours_13 rfl rfl ?_
    refine V_getiv (v := nI S.2.2.2.2) e_X2_fewestHours_14 F_X2_farthest f_X2_51 rfl hC.2.2.2.2.1 ?_
    refine V_icmp_gt (tgt := 144) e_X2_fewestHours_17 (by decide) (fun c1 => ?_) (fun c1 => ?_)
    · have d1 : S.2.2.2.2 < H := nq_lt (by omega) (by omega) c1
      refine V_ldc (v := (-1000000)) e_X2_fewestHours_144 k_X2_38 ?_
      exact V_iret e_X2_fewestHours_146 rfl (hQ τ S _ hC (LSq_cn hA hP0 hI hD (by omega)))
    · have d1 : ¬ S.2.2.2.2 < H := nq_nlt (by omega) (by omega) c1
      refine V_iload e_X2_fewestHours_20 rfl ?_
      refine V_sipush (v := nI 9216) e_X2_fewestHours_22 (by decide) ?_
      refine V_icmp_gt (tgt := 144) e_X2_fewestHours_25 (by decide) (fun c2 => ?_) (fun c2 => ?_)
      · have d2 : 9216 < H := nq_lt (by omega) (by omega) c2
        refine V_ldc (v := (-1000000)) e_X2_fewestHours_144 k_X2_38 ?_
        exact V_iret e_X2_fewestHours_146 rfl (hQ τ S _ hC (LSq_cn hA hP0 hI hD (by omega)))
      · have d2 : ¬ 9216 < H := nq_nlt (by omega) (by omega) c2
        refine V_iconst (v := nI 0) e_X2_fewestHours_28 (by decide) ?_
        refine V_istore (L' := [some (.ref (eB E + 252)), some (.ref (eB E + 4)), some (.ref (eB E + (8 + p))), some (.int (nI s)), some (.int (nI w)), some (.int (nI H)), some (.int (nI 0)), none, none, none]) e_X2_fewestHours_29 rfl ?_
        refine V_iconst (v := nI 3) e_X2_fewestHours_31 (by decide) ?_
        refine V_istore (L' := [some (.ref (eB E + 252)), some (.ref (eB E + 4)), some (.ref (eB E + (8 + p))), some (.int (nI s)), some (.int (nI w)), some (.int (nI H)), some (.int (nI 0)), some (.int (nI 3)), none, none]) e_X2_fewestHours_32 rfl ?_
        refine V_iconst (v := nI 0) e_X2_fewestHours_34 (by decide) ?_
        refine V_istore (L' := [some (.ref (eB E + 252)), some (.ref (eB E + 4)), some (.ref (eB E + (8 + p))), some (.int (nI s)), some (.int (nI w)), some (.int (nI H)), some (.int (nI 0)), some (.int (nI 3)), some (.int (nI 0)), none]) e_X2_fewestHours_35 rfl ?_
        refine lp_X2_fewestHours_i E p s w P0 A Q σ H hk7 hR hA hA6 h5 hP0 hs hw (by omega) (fun b g S1 τ1 i hC1 hS1 hi1 hi2 => ?_) 1024 0 0 (some 3) S τ rfl (by omega) hC ⟨hI, hD, fun j hj => absurd hj (Nat.not_lt_zero j), fun z => absurd z (by decide), fun _ => rfl, by omega⟩
        have hb1 := hS1.2.2.2.2.2
        refine V_iload e_X2_fewestHours_120 rfl ?_
        refine V_if_eq (tgt := 138) e_X2_fewestHours_122 (by decide) (fun c3 => ?_) (fun c3 => ?_)
        · have d3 : b = 0 := nq_eq (by omega) (by omega) c3
          refine V_iinc (v := nI (H + 1)) (L' := [some (.ref (eB E + 252)), some (.ref (eB E + 4)), some (.ref (eB E + (8 + p))), some (.int (nI s)), some (.int (nI w)), some (.int (nI (H + 1))), some (.int (nI b)), some (.int (ov g)), some (.int (nI i)), none]) e_X2_fewestHours_138 rfl (nI_add _ 1) rfl ?_
          refine V_goto (tgt := 11) e_X2_fewestHours_141 (by decide) ?_
          obtain rfl : b = 0 := (by omega); refine V_forget 6 (V_forget 7 (V_forget 8 ?_)); exact ih (9300 - (H + 1)) (by omega) (H + 1) S1 τ1 rfl (by omega) hC1 hS1.1 (hS1.next hi1)
        · have d3 : ¬ b = 0 := nq_ne (by omega) (by omega) c3
          refine V_iload e_X2_fewestHours_125 rfl ?_
          refine V_if_ne (tgt := 135) e_X2_fewestHours_127 (by decide) (fun c4 => ?_) (fun c4 => ?_)
          · have d4 : ¬ w = 0 := nq_ne (by omega) (by omega) c4
            refine V_iload e_X2_fewestHours_135 rfl ?_
            exact V_iret e_X2_fewestHours_137 rfl (by obtain rfl : b = 1 := (by omega); have hq := hQ τ1 S1 _ hC1 (LSq_cs (w := w) hA hP0 hS1 hi1); (first | rw [if_pos d4] at hq | rw [if_neg d4] at hq); exact hq)
          · have d4 : w = 0 := nq_eq (by omega) (by omega) c4
            refine V_iload e_X2_fewestHours_130 rfl ?_
            refine V_goto (tgt := 137) e_X2_fewestHours_132 (by decide) ?_
            exact V_iret e_X2_fewestHours_137 rfl (by obtain rfl : b = 1 := (by omega); have hq := hQ τ1 S1 _ hC1 (LSq_cs (w := w) hA hP0 hS1 hi1); (first | rw [if_pos d4] at hq | rw [if_neg d4] at hq); exact hq)
set_option maxRecDepth 100000 in
set_option maxHeartbeats 4000000 in
theorem c_X2_fewestHours (E : En) (p s w : Nat) (A : Vec) (σ : Sg) (hk7 : kd (8 + p) = 7) (hR : RepC σ 4 A) (hF : WF A) (hp : p < A 1) (hs : s < 64) (hw : w ≤ 1) : Cn E m_X2_fewestHours 6 [.ref (eB E + 252), .ref (eB E + 4), .ref (eB E + (8 + p)), .int (nI s), .int (nI w)] σ (pI (fun σ' r => (∃ S, CPr σ σ' S) ∧ r = lsV A (plO A p) s w)) := by
  have h5 := hF.2.2.1
  have hA6 := hF.1.2.1
  have hpl := plO_lt hF hp
  obtain ⟨w1, w2, w3, w4, w5, w6⟩ := hF.per hp
  refine Cn.of [some (.ref (eB E + 252)), some (.ref (eB E + 4)), some (.ref (eB E + (8 + p))), some (.int (nI s)), some (.int (nI w)), none, none, none, none, none] (by decide) (Nat.le_of_ble_eq_true rfl) rfl ?_
  refine V_aload_n e_X2_fewestHours_0 rfl rfl ?_
  refine V_aload_n e_X2_fewestHours_1 rfl rfl ?_
  refine V_csIe (av := [.ref (eB E + (8 + p))]) (st := [.ref (eB E + 252)]) e_X2_fewestHours_2 (c_X2_stateOf E (8 + p) (A (25 + 6 * p)) (A (26 + 6 * p)) (A (27 + 6 * p)) σ hk7 (by have hz9 := hR.2 p (by omega); rw [show 4 + 4 + p = 8 + p by omega] at hz9; exact hz9.1.1) (by have hz9 := hR.2 p (by omega); rw [show 4 + 4 + p = 8 + p by omega] at hz9; exact hz9.1.2.2.1) (by have hz9 := hR.2 p (by omega); rw [show 4 + 4 + p = 8 + p by omega] at hz9; exact hz9.1.2.1) (by omega) (by omega) (by omega)) l_X2_43 S_X2_stateOf (rm_ok (by decide) (by decide)) rfl rfl (Nat.le_of_ble_eq_true rfl) ?_
  refine V_topi (y := nI (cd (plO A p))) (rfl) ?_
  refine V_cvV (av := [.int (nI (cd (plO A p)))]) (st := []) e_X2_fewestHours_5 (c_X2_begin E (plO A p) σ (by omega)) l_X2_47 S_X2_begin rfl (rm_ok (by decide) (by decide)) rfl rfl (Nat.le_of_ble_eq_true rfl) ?_
  intro τ hC
  refine V_iconst (v := nI 0) e_X2_fewestHours_8 (by decide) ?_
  refine V_istore (L' := [some (.ref (eB E + 252)), some (.ref (eB E + 4)), some (.ref (eB E + (8 + p))), some (.int (nI s)), some (.int (nI w)), some (.int (nI 0)), none, none, none, none]) e_X2_fewestHours_9 rfl ?_
  exact lp_X2_fewestHours_h E p s w (plO A p) A _ σ hk7 hR hF.1 hF.1.2.1 hF.2.2.1 hpl hs hw (fun τ9 S9 r9 hc9 hl9 => ⟨⟨S9, hc9⟩, (lsV_eq hl9).symm⟩) 9300 0 (PS0 (plO A p)) τ rfl (by omega) hC (PI0 hF.1.2.1 hpl) (fun R9 h9 _ z => absurd z (Nat.not_lt_zero h9))
theorem CPr.fb {σ τ : Sg} {S : PS} (h : CPr σ τ S) : Fb 252 256 σ τ := fun a k hk => h.2.2.2.2.2 a k (by omega) (by omega) (by omega) (by omega)
theorem CPr.ic {σ τ : Sg} {S : PS} {B : Ab} (h : CPr σ τ S) (hI : IC σ B) : IC τ B := hI.fr (fun a k hk => h.fb a k (fun q => hk (by unfold Nrd; omega)))
set_option maxRecDepth 100000 in
set_option maxHeartbeats 4000000 in
theorem c8_least (E : En) (x y z : Int32) (A : Vec) (T : AbT) (σ : Sg) (hI : IC σ (A, T)) : Cn E m_X8_least 12 [.ref (eB E + 0), .int x, .int y, .int z] σ (pC σ (oLeast (A, T) x y z)) := by
  have hR : RepC σ 4 A := hI.2.1
  have hGD : GD A := hI.1.1
  have hN : WN A := hGD.1
  have hNl := hN.le
  have hA4 : A 4 ≤ 999 := hGD.2.2
  have h2G := pow6 hNl.1
  refine Cn.of [some (.ref (eB E + 0)), some (.int x), some (.int y), some (.int z)] (by decide) (Nat.le_of_ble_eq_true rfl) rfl ?_
  refine V_aload_n e_X8_least_0 rfl rfl ?_
  refine V_getr (r := 4) e_X8_least_1 F_X8_now f_X8_25 rfl rfl ?_
  refine V_iload_n e_X8_least_4 rfl rfl ?_
  refine V_cvIe (av := [.int x]) (st := []) e_X8_least_5 (c_X5_hasPerson E 4 (A 1) x σ rfl hR.1.2.2.2.2.1) l_X8_164 S_X5_hasPerson rfl (rm_ok (by decide) (by decide)) rfl rfl (Nat.le_of_ble_eq_true rfl) ?_
  refine V_if_eq (tgt := 31) e_X8_least_8 (by decide) (fun c1 => ?_) (fun c1 => ?_)
  · refine V_ldc (v := (-1000001)) e_X8_least_31 k_X8_73 ?_
    exact V_iret e_X8_least_33 rfl (by rw [show oLeast (A, T) x y z = ((A, T), (-1000001)) from (by unfold oLeast; (try unfold gIn); (try dsimp only); (try (repeat rw [ixN (by omega)])); (first | rw [if_pos c1] | rw [if_neg c1] | skip); try rfl)]; exact ⟨Fb.rf, hI, rfl⟩)
  · obtain ⟨p, hp, rfl⟩ := (wi_nat (by omega)).mp c1
    have hF : WF A := hN.wf (by omega)
    refine V_aload_n e_X8_least_11 rfl rfl ?_
    refine V_getr (r := 4) e_X8_least_12 F_X8_now f_X8_25 rfl rfl ?_
    refine V_iload_n e_X8_least_15 rfl rfl ?_
    refine V_cvIe (av := [.int y]) (st := []) e_X8_least_16 (c_X5_hasSet E 4 (A 0) y σ rfl hR.1.2.2.2.1 hNl.1) l_X8_232 S_X5_hasSet rfl (rm_ok (by decide) (by decide)) rfl rfl (Nat.le_of_ble_eq_true rfl) ?_
    refine V_if_eq (tgt := 31) e_X8_least_19 (by decide) (fun c2 => ?_) (fun c2 => ?_)
    · refine V_ldc (v := (-1000001)) e_X8_least_31 k_X8_73 ?_
      exact V_iret e_X8_least_33 rfl (by rw [show oLeast (A, T) (nI p) y z = ((A, T), (-1000001)) from (by unfold oLeast; (try unfold gIn); (try dsimp only); (try (repeat rw [ixN (by omega)])); (first | rw [if_pos c1] | rw [if_neg c1] | skip); (first | rw [if_pos c2] | rw [if_neg c2] | skip); try rfl)]; exact ⟨Fb.rf, hI, rfl⟩)
    · obtain ⟨s, hs, rfl⟩ := (wi_nat (by omega)).mp c2
      refine V_iload_n e_X8_least_22 rfl rfl ?_
      refine V_iconst (v := nI 0) e_X8_least_23 (by decide) ?_
      refine V_iconst (v := nI 1) e_X8_least_24 (by decide) ?_
      refine V_csIe (av := [.int z, .int (nI 0), .int (nI 1)]) (st := []) e_X8_least_25 (c_X8_within E z (nI 0) (nI 1) σ) l_X8_69 S_X8_within (rm_ok (by decide) (by decide)) rfl rfl (Nat.le_of_ble_eq_true rfl) ?_
      refine V_if_ne (tgt := 34) e_X8_least_28 (by decide) (fun c3 => ?_) (fun c3 => ?_)
      · obtain ⟨w, hwa, hw, rfl⟩ := (wi_le (by omega) (by omega)).mp c3
        refine V_aload_n e_X8_least_34 rfl rfl ?_
        refine V_getr (r := 252) e_X8_least_35 F_X8_paths f_X8_53 rfl rfl ?_
        refine V_aload_n e_X8_least_38 rfl rfl ?_
        refine V_getr (r := 4) e_X8_least_39 F_X8_now f_X8_25 rfl rfl ?_
        refine V_aload_n e_X8_least_42 rfl rfl ?_
        refine V_getr (r := 4) e_X8_least_43 F_X8_now f_X8_25 rfl rfl ?_
        refine V_getr (r := 7) e_X8_least_46 F_X5_walkers f_X8_167 rfl rfl ?_
        refine V_iload_n e_X8_least_49 rfl rfl ?_
        refine V_aald (j := p) (r := 8 + p) e_X8_least_50 (by decide) (by decide) rfl (by have q : ln 7 = 5 := rfl; omega) rfl ?_
        refine V_iload_n e_X8_least_51 rfl rfl ?_
        refine V_iload_n e_X8_least_52 rfl rfl ?_
        refine V_cvI (av := [.ref (eB E + 4), .ref (eB E + (8 + p)), .int (nI s), .int (nI w)]) (st := []) e_X8_least_53 (c_X2_fewestHours E p s w A σ (kd_wk7 p (by have q : ln 7 = 5 := rfl; omega)) hR hF hp (by omega) (by omega)) l_X8_235 S_X2_fewestHours rfl (rm_ok (by decide) (by decide)) rfl rfl (Nat.le_of_ble_eq_true rfl) ?_
        intro τ r9 hh
        obtain ⟨⟨S9, hC9⟩, rfl⟩ := hh
        exact V_iret e_X8_least_56 rfl (by rw [show oLeast (A, T) (nI p) (nI s) (nI w) = ((A, T), lsV A (plO A p) s w) from (by unfold oLeast; (try unfold gIn); (try dsimp only); (try (repeat rw [ixN (by omega)])); rw [if_neg c1, if_neg c2, if_neg c3])]; exact ⟨hC9.fb.wide (by decide) (by decide), hC9.ic hI, rfl⟩)
      · refine V_ldc (v := (-1000001)) e_X8_least_31 k_X8_73 ?_
        exact V_iret e_X8_least_33 rfl (by rw [show oLeast (A, T) (nI p) (nI s) z = ((A, T), (-1000001)) from (by unfold oLeast; (try unfold gIn); (try dsimp only); (try (repeat rw [ixN (by omega)])); (first | rw [if_pos c1] | rw [if_neg c1] | skip); (first | rw [if_pos c2] | rw [if_neg c2] | skip); (first | rw [if_pos c3] | rw [if_neg c3] | skip); try rfl)]; exact ⟨Fb.rf, hI, rfl⟩)

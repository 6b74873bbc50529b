set_option maxRecDepth 100000 in
set_option maxHeartbeats 4000000 in
theorem c_X9_through (E : En) (a g gi s : Nat) (A : Vec) (σ : Sg) (ha : kd a = 10) (hl : ln a = 55) (hA : WE A) (hg : g < A 0) (hgi : gi ≤ 1) (hs : s < 64) : Cn E m_X9_through 2 [.ref (eB E + a), .int (nI g), .int (nI gi), .int (nI s)] (stM σ a A) (pI (fun σ' r => σ' = stM σ a A ∧ r = nI (thr A g gi s))) := by
  obtain ⟨hG2, hG6, h5, h5p, h2a, h2b, h3a, h3b, hgs⟩ := id hA
  refine Cn.of [some (.ref (eB E + a)), some (.int (nI g)), some (.int (nI gi)), some (.int (nI s)), none] (by decide) (Nat.le_of_ble_eq_true rfl) rfl ?_
  have hkk := hgs g hg
  have hb1 := bitN_le (A 5) g
  refine V_aload_n e_X9_through_0 rfl rfl ?_
  refine V_iconst (v := nI 5) e_X9_through_1 (by decide) ?_
  refine V_ialdv (v := nI (A 5)) (j := 5) e_X9_through_2 ha rfl (by rw [hl]; omega) (stM_at (by omega)) ?_
  refine V_iload_n e_X9_through_3 rfl rfl ?_
  refine V_csIe (av := [.int (nI (A 5)), .int (nI g)]) (st := []) e_X9_through_4 (c_X9_has E (A 5) g (stM σ a A) (by omega) (by omega)) l_X9_158 S_X9_has (rm_ok (by decide) (by decide)) rfl rfl (Nat.le_of_ble_eq_true rfl) ?_
  refine V_if_eq (tgt := 12) e_X9_through_7 (by decide) (fun c1 => ?_) (fun c1 => ?_)
  · have d1 : bitN (A 5) g = 0 := nq_eq (by omega) (by omega) c1
    refine V_iload_n e_X9_through_12 rfl rfl ?_
    refine V_aload_n e_X9_through_13 rfl rfl ?_
    refine V_iload_n e_X9_through_14 rfl rfl ?_
    refine V_iconst (v := nI 2) e_X9_through_15 (by decide) ?_
    refine V_csIe (av := [.ref (eB E + a), .int (nI g), .int (nI 2)]) (st := [.int (nI gi)]) e_X9_through_16 (c_X9_of_2 E a g A σ ha hl (by omega)) l_X9_162 S_X9_of (rm_ok (by decide) (by decide)) rfl rfl (Nat.le_of_ble_eq_true rfl) ?_
    refine V_if_ne (tgt := 26) e_X9_through_19 (by decide) (fun c2 => ?_) (fun c2 => ?_)
    · have d2 : ¬ A (9 + 3 * g) = 0 := nq_ne (by omega) (by omega) c2
      refine V_iconst (v := nI 0) e_X9_through_26 (by decide) ?_
      refine V_icmp_ne (tgt := 34) e_X9_through_27 (by decide) (fun c3 => ?_) (fun c3 => ?_)
      · have d3 : ¬ gi = 0 := nq_ne (by omega) (by omega) c3
        refine V_iconst (v := nI 0) e_X9_through_34 (by decide) ?_
        refine V_istore (L' := [some (.ref (eB E + a)), some (.int (nI g)), some (.int (nI gi)), some (.int (nI s)), some (.int (nI 0))]) e_X9_through_35 rfl ?_
        refine V_aload_n e_X9_through_37 rfl rfl ?_
        refine V_iload_n e_X9_through_38 rfl rfl ?_
        refine V_iconst (v := nI 0) e_X9_through_39 (by decide) ?_
        refine V_csIe (av := [.ref (eB E + a), .int (nI g), .int (nI 0)]) (st := []) e_X9_through_40 (c_X9_of_0 E a g A σ ha hl (by omega)) l_X9_162 S_X9_of (rm_ok (by decide) (by decide)) rfl rfl (Nat.le_of_ble_eq_true rfl) ?_
        rcases (show (A (7 + 3 * g)) = 1 ∨ (A (7 + 3 * g)) = 2 ∨ (A (7 + 3 * g)) = 3 ∨ (A (7 + 3 * g)) = 4 ∨ ((A (7 + 3 * g)) < 1 ∨ 4 < (A (7 + 3 * g))) by omega) with d4 | d4 | d4 | d4 | d4
        · refine V_tab (j := 1) (tgt := 72) e_X9_through_43 (congrArg nI d4) (by decide) (by decide +kernel) ?_
          refine V_iload e_X9_through_72 rfl ?_
          refine V_if_eq (tgt := 83) e_X9_through_74 (by decide) (fun c5 => ?_) (fun c5 => absurd c5 (by decide))
          refine V_iload_n e_X9_through_83 rfl rfl ?_
          exact V_iret e_X9_through_84 rfl (⟨rfl, by congr 1; unfold thr; (repeat' split) <;> omega⟩)
        · refine V_tab (j := 2) (tgt := 85) e_X9_through_43 (congrArg nI d4) (by decide) (by decide +kernel) ?_
          refine V_iload e_X9_through_85 rfl ?_
          refine V_if_eq (tgt := 98) e_X9_through_87 (by decide) (fun c6 => ?_) (fun c6 => absurd c6 (by decide))
          refine V_iload_n e_X9_through_98 rfl rfl ?_
          exact V_iret e_X9_through_99 rfl (⟨rfl, by congr 1; unfold thr; (repeat' split) <;> omega⟩)
        · refine V_tab (j := 3) (tgt := 100) e_X9_through_43 (congrArg nI d4) (by decide) (by decide +kernel) ?_
          refine V_iload e_X9_through_100 rfl ?_
          refine V_if_eq (tgt := 111) e_X9_through_102 (by decide) (fun c7 => ?_) (fun c7 => absurd c7 (by decide))
          refine V_iload_n e_X9_through_111 rfl rfl ?_
          refine V_iconst (v := nI 1) e_X9_through_112 (by decide) ?_
          refine V_iload_n e_X9_through_113 rfl rfl ?_
          refine V_ishlN (z := nI (2 ^ g)) e_X9_through_114 (shl1 (by omega)) ?_
          refine V_iconst (v := (-1)) e_X9_through_115 (by decide) ?_
          refine V_ixor e_X9_through_116 ?_
          refine V_iand e_X9_through_117 ?_
          refine V_topi (y := nI (bclr s g)) (clrI s hs g (by omega)) ?_
          exact V_iret e_X9_through_118 rfl (⟨rfl, by congr 1; unfold thr; (repeat' split) <;> omega⟩)
        · refine V_tab (j := 4) (tgt := 119) e_X9_through_43 (congrArg nI d4) (by decide) (by decide +kernel) ?_
          refine V_iload_n e_X9_through_119 rfl rfl ?_
          exact V_iret e_X9_through_120 rfl (⟨rfl, by congr 1; unfold thr; (repeat' split) <;> omega⟩)
        · refine V_tabo (tgt := 121) e_X9_through_43 (by rw [nI_toInt (by omega)]; omega) (by decide) ?_
          refine V_iload e_X9_through_121 rfl ?_
          refine V_if_eq (tgt := 130) e_X9_through_123 (by decide) (fun c8 => ?_) (fun c8 => absurd c8 (by decide))
          refine V_iconst (v := nI 0) e_X9_through_130 (by decide) ?_
          exact V_iret e_X9_through_131 rfl (⟨rfl, by congr 1; unfold thr; (repeat' split) <;> omega⟩)
      · have d3 : gi = 0 := nq_eq (by omega) (by omega) c3
        refine V_iconst (v := nI 1) e_X9_through_30 (by decide) ?_
        refine V_goto (tgt := 35) e_X9_through_31 (by decide) ?_
        refine V_istore (L' := [some (.ref (eB E + a)), some (.int (nI g)), some (.int (nI gi)), some (.int (nI s)), some (.int (nI 1))]) e_X9_through_35 rfl ?_
        refine V_aload_n e_X9_through_37 rfl rfl ?_
        refine V_iload_n e_X9_through_38 rfl rfl ?_
        refine V_iconst (v := nI 0) e_X9_through_39 (by decide) ?_
        refine V_csIe (av := [.ref (eB E + a), .int (nI g), .int (nI 0)]) (st := []) e_X9_through_40 (c_X9_of_0 E a g A σ ha hl (by omega)) l_X9_162 S_X9_of (rm_ok (by decide) (by decide)) rfl rfl (Nat.le_of_ble_eq_true rfl) ?_
        rcases (show (A (7 + 3 * g)) = 1 ∨ (A (7 + 3 * g)) = 2 ∨ (A (7 + 3 * g)) = 3 ∨ (A (7 + 3 * g)) = 4 ∨ ((A (7 + 3 * g)) < 1 ∨ 4 < (A (7 + 3 * g))) by omega) with d9 | d9 | d9 | d9 | d9
        · refine V_tab (j := 1) (tgt := 72) e_X9_through_43 (congrArg nI d9) (by decide) (by decide +kernel) ?_
          refine V_iload e_X9_through_72 rfl ?_
          refine V_if_eq (tgt := 83) e_X9_through_74 (by decide) (fun c10 => absurd c10 (by decide)) (fun c10 => ?_)
          refine V_iconst (v := nI 1) e_X9_through_77 (by decide) ?_
          refine V_iload_n e_X9_through_78 rfl rfl ?_
          refine V_ishlN (z := nI (2 ^ g)) e_X9_through_79 (shl1 (by omega)) ?_
          refine V_goto (tgt := 84) e_X9_through_80 (by decide) ?_
          exact V_iret e_X9_through_84 rfl (⟨rfl, by congr 1; unfold thr; (repeat' split) <;> omega⟩)
        · refine V_tab (j := 2) (tgt := 85) e_X9_through_43 (congrArg nI d9) (by decide) (by decide +kernel) ?_
          refine V_iload e_X9_through_85 rfl ?_
          refine V_if_eq (tgt := 98) e_X9_through_87 (by decide) (fun c11 => absurd c11 (by decide)) (fun c11 => ?_)
          refine V_iload_n e_X9_through_90 rfl rfl ?_
          refine V_iconst (v := nI 1) e_X9_through_91 (by decide) ?_
          refine V_iload_n e_X9_through_92 rfl rfl ?_
          refine V_ishlN (z := nI (2 ^ g)) e_X9_through_93 (shl1 (by omega)) ?_
          refine V_iorN (z := nI (s ||| (2 ^ g))) e_X9_through_94 (lorI _ _) ?_
          refine V_goto (tgt := 99) e_X9_through_95 (by decide) ?_
          exact V_iret e_X9_through_99 rfl (⟨rfl, by congr 1; unfold thr; (repeat' split) <;> omega⟩)
        · refine V_tab (j := 3) (tgt := 100) e_X9_through_43 (congrArg nI d9) (by decide) (by decide +kernel) ?_
          refine V_iload e_X9_through_100 rfl ?_
          refine V_if_eq (tgt := 111) e_X9_through_102 (by decide) (fun c12 => absurd c12 (by decide)) (fun c12 => ?_)
          refine V_iconst (v := nI 1) e_X9_through_105 (by decide) ?_
          refine V_iload_n e_X9_through_106 rfl rfl ?_
          refine V_ishlN (z := nI (2 ^ g)) e_X9_through_107 (shl1 (by omega)) ?_
          refine V_goto (tgt := 118) e_X9_through_108 (by decide) ?_
          exact V_iret e_X9_through_118 rfl (⟨rfl, by congr 1; unfold thr; (repeat' split) <;> omega⟩)
        · refine V_tab (j := 4) (tgt := 119) e_X9_through_43 (congrArg nI d9) (by decide) (by decide +kernel) ?_
          refine V_iload_n e_X9_through_119 rfl rfl ?_
          exact V_iret e_X9_through_120 rfl (⟨rfl, by congr 1; unfold thr; (repeat' split) <;> omega⟩)
        · refine V_tabo (tgt := 121) e_X9_through_43 (by rw [nI_toInt (by omega)]; omega) (by decide) ?_
          refine V_iload e_X9_through_121 rfl ?_
          refine V_if_eq (tgt := 130) e_X9_through_123 (by decide) (fun c13 => absurd c13 (by decide)) (fun c13 => ?_)
          refine V_iload_n e_X9_through_126 rfl rfl ?_
          refine V_goto (tgt := 131) e_X9_through_127 (by decide) ?_
          exact V_iret e_X9_through_131 rfl (⟨rfl, by congr 1; unfold thr; (repeat' split) <;> omega⟩)
    · have d2 : A (9 + 3 * g) = 0 := nq_eq (by omega) (by omega) c2
      refine V_iconst (v := nI 1) e_X9_through_22 (by decide) ?_
      refine V_goto (tgt := 27) e_X9_through_23 (by decide) ?_
      refine V_icmp_ne (tgt := 34) e_X9_through_27 (by decide) (fun c14 => ?_) (fun c14 => ?_)
      · have d14 : ¬ gi = 1 := nq_ne (by omega) (by omega) c14
        refine V_iconst (v := nI 0) e_X9_through_34 (by decide) ?_
        refine V_istore (L' := [some (.ref (eB E + a)), some (.int (nI g)), some (.int (nI gi)), some (.int (nI s)), some (.int (nI 0))]) e_X9_through_35 rfl ?_
        refine V_aload_n e_X9_through_37 rfl rfl ?_
        refine V_iload_n e_X9_through_38 rfl rfl ?_
        refine V_iconst (v := nI 0) e_X9_through_39 (by decide) ?_
        refine V_csIe (av := [.ref (eB E + a), .int (nI g), .int (nI 0)]) (st := []) e_X9_through_40 (c_X9_of_0 E a g A σ ha hl (by omega)) l_X9_162 S_X9_of (rm_ok (by decide) (by decide)) rfl rfl (Nat.le_of_ble_eq_true rfl) ?_
        rcases (show (A (7 + 3 * g)) = 1 ∨ (A (7 + 3 * g)) = 2 ∨ (A (7 + 3 * g)) = 3 ∨ (A (7 + 3 * g)) = 4 ∨ ((A (7 + 3 * g)) < 1 ∨ 4 < (A (7 + 3 * g))) by omega) with d15 | d15 | d15 | d15 | d15
        · refine V_tab (j := 1) (tgt := 72) e_X9_through_43 (congrArg nI d15) (by decide) (by decide +kernel) ?_
          refine V_iload e_X9_through_72 rfl ?_
          refine V_if_eq (tgt := 83) e_X9_through_74 (by decide) (fun c16 => ?_) (fun c16 => absurd c16 (by decide))
          refine V_iload_n e_X9_through_83 rfl rfl ?_
          exact V_iret e_X9_through_84 rfl (⟨rfl, by congr 1; unfold thr; (repeat' split) <;> omega⟩)
        · refine V_tab (j := 2) (tgt := 85) e_X9_through_43 (congrArg nI d15) (by decide) (by decide +kernel) ?_
          refine V_iload e_X9_through_85 rfl ?_
          refine V_if_eq (tgt := 98) e_X9_through_87 (by decide) (fun c17 => ?_) (fun c17 => absurd c17 (by decide))
          refine V_iload_n e_X9_through_98 rfl rfl ?_
          exact V_iret e_X9_through_99 rfl (⟨rfl, by congr 1; unfold thr; (repeat' split) <;> omega⟩)
        · refine V_tab (j := 3) (tgt := 100) e_X9_through_43 (congrArg nI d15) (by decide) (by decide +kernel) ?_
          refine V_iload e_X9_through_100 rfl ?_
          refine V_if_eq (tgt := 111) e_X9_through_102 (by decide) (fun c18 => ?_) (fun c18 => absurd c18 (by decide))
          refine V_iload_n e_X9_through_111 rfl rfl ?_
          refine V_iconst (v := nI 1) e_X9_through_112 (by decide) ?_
          refine V_iload_n e_X9_through_113 rfl rfl ?_
          refine V_ishlN (z := nI (2 ^ g)) e_X9_through_114 (shl1 (by omega)) ?_
          refine V_iconst (v := (-1)) e_X9_through_115 (by decide) ?_
          refine V_ixor e_X9_through_116 ?_
          refine V_iand e_X9_through_117 ?_
          refine V_topi (y := nI (bclr s g)) (clrI s hs g (by omega)) ?_
          exact V_iret e_X9_through_118 rfl (⟨rfl, by congr 1; unfold thr; (repeat' split) <;> omega⟩)
        · refine V_tab (j := 4) (tgt := 119) e_X9_through_43 (congrArg nI d15) (by decide) (by decide +kernel) ?_
          refine V_iload_n e_X9_through_119 rfl rfl ?_
          exact V_iret e_X9_through_120 rfl (⟨rfl, by congr 1; unfold thr; (repeat' split) <;> omega⟩)
        · refine V_tabo (tgt := 121) e_X9_through_43 (by rw [nI_toInt (by omega)]; omega) (by decide) ?_
          refine V_iload e_X9_through_121 rfl ?_
          refine V_if_eq (tgt := 130) e_X9_through_123 (by decide) (fun c19 => ?_) (fun c19 => absurd c19 (by decide))
          refine V_iconst (v := nI 0) e_X9_through_130 (by decide) ?_
          exact V_iret e_X9_through_131 rfl (⟨rfl, by congr 1; unfold thr; (repeat' split) <;> omega⟩)
      · have d14 : gi = 1 := nq_eq (by omega) (by omega) c14
        refine V_iconst (v := nI 1) e_X9_through_30 (by decide) ?_
        refine V_goto (tgt := 35) e_X9_through_31 (by decide) ?_
        refine V_istore (L' := [some (.ref (eB E + a)), some (.int (nI g)), some (.int (nI gi)), some (.int (nI s)), some (.int (nI 1))]) e_X9_through_35 rfl ?_
        refine V_aload_n e_X9_through_37 rfl rfl ?_
        refine V_iload_n e_X9_through_38 rfl rfl ?_
        refine V_iconst (v := nI 0) e_X9_through_39 (by decide) ?_
        refine V_csIe (av := [.ref (eB E + a), .int (nI g), .int (nI 0)]) (st := []) e_X9_through_40 (c_X9_of_0 E a g A σ ha hl (by omega)) l_X9_162 S_X9_of (rm_ok (by decide) (by decide)) rfl rfl (Nat.le_of_ble_eq_true rfl) ?_
        rcases (show (A (7 + 3 * g)) = 1 ∨ (A (7 + 3 * g)) = 2 ∨ (A (7 + 3 * g)) = 3 ∨ (A (7 + 3 * g)) = 4 ∨ ((A (7 + 3 * g)) < 1 ∨ 4 < (A (7 + 3 * g))) by omega) with d20 | d20 | d20 | d20 | d20
        · refine V_tab (j := 1) (tgt := 72) e_X9_through_43 (congrArg nI d20) (by decide) (by decide +kernel) ?_
          refine V_iload e_X9_through_72 rfl ?_
          refine V_if_eq (tgt := 83) e_X9_through_74 (by decide) (fun c21 => absurd c21 (by decide)) (fun c21 => ?_)
          refine V_iconst (v := nI 1) e_X9_through_77 (by decide) ?_
          refine V_iload_n e_X9_through_78 rfl rfl ?_
          refine V_ishlN (z := nI (2 ^ g)) e_X9_through_79 (shl1 (by omega)) ?_
          refine V_goto (tgt := 84) e_X9_through_80 (by decide) ?_
          exact V_iret e_X9_through_84 rfl (⟨rfl, by congr 1; unfold thr; (repeat' split) <;> omega⟩)
        · refine V_tab (j := 2) (tgt := 85) e_X9_through_43 (congrArg nI d20) (by decide) (by decide +kernel) ?_
          refine V_iload e_X9_through_85 rfl ?_
          refine V_if_eq (tgt := 98) e_X9_through_87 (by decide) (fun c22 => absurd c22 (by decide)) (fun c22 => ?_)
          refine V_iload_n e_X9_through_90 rfl rfl ?_
          refine V_iconst (v := nI 1) e_X9_through_91 (by decide) ?_
          refine V_iload_n e_X9_through_92 rfl rfl ?_
          refine V_ishlN (z := nI (2 ^ g)) e_X9_through_93 (shl1 (by omega)) ?_
          refine V_iorN (z := nI (s ||| (2 ^ g))) e_X9_through_94 (lorI _ _) ?_
          refine V_goto (tgt := 99) e_X9_through_95 (by decide) ?_
          exact V_iret e_X9_through_99 rfl (⟨rfl, by congr 1; unfold thr; (repeat' split) <;> omega⟩)
        · refine V_tab (j := 3) (tgt := 100) e_X9_through_43 (congrArg nI d20) (by decide) (by decide +kernel) ?_
          refine V_iload e_X9_through_100 rfl ?_
          refine V_if_eq (tgt := 111) e_X9_through_102 (by decide) (fun c23 => absurd c23 (by decide)) (fun c23 => ?_)
          refine V_iconst (v := nI 1) e_X9_through_105 (by decide) ?_
          refine V_iload_n e_X9_through_106 rfl rfl ?_
          refine V_ishlN (z := nI (2 ^ g)) e_X9_through_107 (shl1 (by omega)) ?_
          refine V_goto (tgt := 118) e_X9_through_108 (by decide) ?_
          exact V_iret e_X9_through_118 rfl (⟨rfl, by congr 1; unfold thr; (repeat' split) <;> omega⟩)
        · refine V_tab (j := 4) (tgt := 119) e_X9_through_43 (congrArg nI d20) (by decide) (by decide +kernel) ?_
          refine V_iload_n e_X9_through_119 rfl rfl ?_
          exact V_iret e_X9_through_120 rfl (⟨rfl, by congr 1; unfold thr; (repeat' split) <;> omega⟩)
        · refine V_tabo (tgt := 121) e_X9_through_43 (by rw [nI_toInt (by omega)]; omega) (by decide) ?_
          refine V_iload e_X9_through_121 rfl ?_
          refine V_if_eq (tgt := 130) e_X9_through_123 (by decide) (fun c24 => absurd c24 (by decide)) (fun c24 => ?_)
          refine V_iload_n e_X9_through_126 rfl rfl ?_
          refine V_goto (tgt := 131) e_X9_through_127 (by decide) ?_
          exact V_iret e_X9_through_131 rfl (⟨rfl, by congr 1; unfold thr; (repeat' split) <;> omega⟩)
  · have d1 : ¬ bitN (A 5) g = 0 := nq_ne (by omega) (by omega) c1
    refine V_iload_n e_X9_through_10 rfl rfl ?_
    exact V_iret e_X9_through_11 rfl (⟨rfl, by congr 1; unfold thr; (repeat' split) <;> omega⟩)
set_option maxRecDepth 100000 in
set_option maxHeartbeats 4000000 in
theorem c_X9_crosses (E : En) (a m : Nat) (A : Vec) (q : Pn) (σ : Sg) (ha : kd a = 10) (hl : ln a = 55) (hA : WE A) (hm : m < 5) (hP : WP A q) : Cn E m_X9_crosses 3 [.ref (eB E + a), .int (nI m)] (stM σ a (setP A m q)) (pV (fun σ' => σ' = stM σ a (setP A m (crossP A q)))) := by
  obtain ⟨hG2, hG6, h5, h5p, h2a, h2b, h3a, h3b, hgs⟩ := id hA
  obtain ⟨p1, p2, p3, p4, p5⟩ := id hP
  have p36 := hP.of64 hG6
  refine Cn.of [some (.ref (eB E + a)), some (.int (nI m)), none] (by decide) (Nat.le_of_ble_eq_true rfl) rfl ?_
  refine V_aload_n e_X9_crosses_0 rfl rfl ?_
  refine V_iload_n e_X9_crosses_1 rfl rfl ?_
  refine V_iconst (v := nI 1) e_X9_crosses_2 (by decide) ?_
  refine V_csIe (av := [.ref (eB E + a), .int (nI m), .int (nI 1)]) (st := []) e_X9_crosses_3 (c_X9_hisP_1 E a m A q σ ha hl hm) l_X9_166 S_X9_his (rm_ok (by decide) (by decide)) rfl rfl (Nat.le_of_ble_eq_true rfl) ?_
  refine V_if_ne (tgt := 13) e_X9_crosses_6 (by decide) (fun c1 => ?_) (fun c1 => ?_)
  · have d1 : ¬ q.2.1 = 0 := nq_ne (by omega) (by omega) c1
    have ein : q.2.1 = 1 := by omega
    refine V_iconst (v := nI 0) e_X9_crosses_13 (by decide) ?_
    refine V_istore_n (L' := [some (.ref (eB E + a)), some (.int (nI m)), some (.int (nI 0))]) e_X9_crosses_14 rfl rfl ?_
    refine V_aload_n e_X9_crosses_15 rfl rfl ?_
    refine V_iload_n e_X9_crosses_16 rfl rfl ?_
    refine V_iconst (v := nI 2) e_X9_crosses_17 (by decide) ?_
    refine V_aload_n e_X9_crosses_18 rfl rfl ?_
    refine V_aload_n e_X9_crosses_19 rfl rfl ?_
    refine V_iload_n e_X9_crosses_20 rfl rfl ?_
    refine V_iconst (v := nI 0) e_X9_crosses_21 (by decide) ?_
    refine V_csIe (av := [.ref (eB E + a), .int (nI m), .int (nI 0)]) (st := [.ref (eB E + a), .int (nI 2), .int (nI m), .ref (eB E + a)]) e_X9_crosses_22 (c_X9_hisP_0 E a m A q σ ha hl hm) l_X9_166 S_X9_his (rm_ok (by decide) (by decide)) rfl rfl (Nat.le_of_ble_eq_true rfl) ?_
    refine V_iload_n e_X9_crosses_25 rfl rfl ?_
    refine V_aload_n e_X9_crosses_26 rfl rfl ?_
    refine V_iload_n e_X9_crosses_27 rfl rfl ?_
    refine V_iconst (v := nI 2) e_X9_crosses_28 (by decide) ?_
    refine V_csIe (av := [.ref (eB E + a), .int (nI m), .int (nI 2)]) (st := [.int (nI 0), .int (nI q.1), .ref (eB E + a), .int (nI 2), .int (nI m), .ref (eB E + a)]) e_X9_crosses_29 (c_X9_hisP_2 E a m A q σ ha hl hm) l_X9_166 S_X9_his (rm_ok (by decide) (by decide)) rfl rfl (Nat.le_of_ble_eq_true rfl) ?_
    refine V_csIe (av := [.ref (eB E + a), .int (nI q.1), .int (nI 0), .int (nI q.2.2.1)]) (st := [.int (nI 2), .int (nI m), .ref (eB E + a)]) e_X9_crosses_32 (c_X9_through E a q.1 0 q.2.2.1 (setP A m q) σ ha hl hA.setP (by rw [setP_lo (by omega)]; omega) (by omega) (by omega)) l_X9_169 S_X9_through (rm_ok (by decide) (by decide)) rfl rfl (Nat.le_of_ble_eq_true rfl) ?_
    refine V_topi (y := nI (thr A q.1 0 q.2.2.1)) (congrArg nI (thr_setP (by omega))) ?_
    refine V_csVe (av := [.ref (eB E + a), .int (nI m), .int (nI 2), .int (nI (thr A q.1 0 q.2.2.1))]) (st := []) e_X9_crosses_35 (c_X9_beP_2 E a m (thr A q.1 0 q.2.2.1) A q σ ha hl hm) l_X9_173 S_X9_be (rm_ok (by decide) (by decide)) rfl rfl (Nat.le_of_ble_eq_true rfl) ?_
    refine V_aload_n e_X9_crosses_38 rfl rfl ?_
    refine V_iload_n e_X9_crosses_39 rfl rfl ?_
    refine V_iconst (v := nI 1) e_X9_crosses_40 (by decide) ?_
    refine V_iload_n e_X9_crosses_41 rfl rfl ?_
    refine V_if_eq (tgt := 49) e_X9_crosses_42 (by decide) (fun c2 => ?_) (fun c2 => absurd c2 (by decide))
    refine V_iconst (v := nI 0) e_X9_crosses_49 (by decide) ?_
    refine V_csVe (av := [.ref (eB E + a), .int (nI m), .int (nI 1), .int (nI 0)]) (st := []) e_X9_crosses_50 (c_X9_beP_1 E a m 0 A (q.1, q.2.1, thr A q.1 0 q.2.2.1, q.2.2.2.1, q.2.2.2.2.1, q.2.2.2.2.2) σ ha hl hm) l_X9_173 S_X9_be (rm_ok (by decide) (by decide)) rfl rfl (Nat.le_of_ble_eq_true rfl) ?_
    exact V_vret e_X9_crosses_53 rfl (by unfold crossP; rw [ein])
  · have d1 : q.2.1 = 0 := nq_eq (by omega) (by omega) c1
    have ein : q.2.1 = 0 := by omega
    refine V_iconst (v := nI 1) e_X9_crosses_9 (by decide) ?_
    refine V_goto (tgt := 14) e_X9_crosses_10 (by decide) ?_
    refine V_istore_n (L' := [some (.ref (eB E + a)), some (.int (nI m)), some (.int (nI 1))]) e_X9_crosses_14 rfl rfl ?_
    refine V_aload_n e_X9_crosses_15 rfl rfl ?_
    refine V_iload_n e_X9_crosses_16 rfl rfl ?_
    refine V_iconst (v := nI 2) e_X9_crosses_17 (by decide) ?_
    refine V_aload_n e_X9_crosses_18 rfl rfl ?_
    refine V_aload_n e_X9_crosses_19 rfl rfl ?_
    refine V_iload_n e_X9_crosses_20 rfl rfl ?_
    refine V_iconst (v := nI 0) e_X9_crosses_21 (by decide) ?_
    refine V_csIe (av := [.ref (eB E + a), .int (nI m), .int (nI 0)]) (st := [.ref (eB E + a), .int (nI 2), .int (nI m), .ref (eB E + a)]) e_X9_crosses_22 (c_X9_hisP_0 E a m A q σ ha hl hm) l_X9_166 S_X9_his (rm_ok (by decide) (by decide)) rfl rfl (Nat.le_of_ble_eq_true rfl) ?_
    refine V_iload_n e_X9_crosses_25 rfl rfl ?_
    refine V_aload_n e_X9_crosses_26 rfl rfl ?_
    refine V_iload_n e_X9_crosses_27 rfl rfl ?_
    refine V_iconst (v := nI 2) e_X9_crosses_28 (by decide) ?_
    refine V_csIe (av := [.ref (eB E + a), .int (nI m), .int (nI 2)]) (st := [.int (nI 1), .int (nI q.1), .ref (eB E + a), .int (nI 2), .int (nI m), .ref (eB E + a)]) e_X9_crosses_29 (c_X9_hisP_2 E a m A q σ ha hl hm) l_X9_166 S_X9_his (rm_ok (by decide) (by decide)) rfl rfl (Nat.le_of_ble_eq_true rfl) ?_
    refine V_csIe (av := [.ref (eB E + a), .int (nI q.1), .int (nI 1), .int (nI q.2.2.1)]) (st := [.int (nI 2), .int (nI m), .ref (eB E + a)]) e_X9_crosses_32 (c_X9_through E a q.1 1 q.2.2.1 (setP A m q) σ ha hl hA.setP (by rw [setP_lo (by omega)]; omega) (by omega) (by omega)) l_X9_169 S_X9_through (rm_ok (by decide) (by decide)) rfl rfl (Nat.le_of_ble_eq_true rfl) ?_
    refine V_topi (y := nI (thr A q.1 1 q.2.2.1)) (congrArg nI (thr_setP (by omega))) ?_
    refine V_csVe (av := [.ref (eB E + a), .int (nI m), .int (nI 2), .int (nI (thr A q.1 1 q.2.2.1))]) (st := []) e_X9_crosses_35 (c_X9_beP_2 E a m (thr A q.1 1 q.2.2.1) A q σ ha hl hm) l_X9_173 S_X9_be (rm_ok (by decide) (by decide)) rfl rfl (Nat.le_of_ble_eq_true rfl) ?_
    refine V_aload_n e_X9_crosses_38 rfl rfl ?_
    refine V_iload_n e_X9_crosses_39 rfl rfl ?_
    refine V_iconst (v := nI 1) e_X9_crosses_40 (by decide) ?_
    refine V_iload_n e_X9_crosses_41 rfl rfl ?_
    refine V_if_eq (tgt := 49) e_X9_crosses_42 (by decide) (fun c3 => absurd c3 (by decide)) (fun c3 => ?_)
    refine V_iconst (v := nI 1) e_X9_crosses_45 (by decide) ?_
    refine V_goto (tgt := 50) e_X9_crosses_46 (by decide) ?_
    refine V_csVe (av := [.ref (eB E + a), .int (nI m), .int (nI 1), .int (nI 1)]) (st := []) e_X9_crosses_50 (c_X9_beP_1 E a m 1 A (q.1, q.2.1, thr A q.1 1 q.2.2.1, q.2.2.2.1, q.2.2.2.2.1, q.2.2.2.2.2) σ ha hl hm) l_X9_173 S_X9_be (rm_ok (by decide) (by decide)) rfl rfl (Nat.le_of_ble_eq_true rfl) ?_
    exact V_vret e_X9_crosses_53 rfl (by unfold crossP; rw [ein])
set_option maxRecDepth 100000 in
set_option maxHeartbeats 4000000 in
theorem c_X9_walks_a (E : En) (a m at_ ins of_ fi hu : Nat) (A : Vec) (σ : Sg) (ha : kd a = 10) (hl : ln a = 55) (hA : WE A) (hm : m < 5) (h1 : at_ + 1 < A 0) : Cn E m_X9_walks 2 [.ref (eB E + a), .int (nI m)] (stM σ a (setP A m (at_, ins, of_, 1, fi, hu))) (pV (fun σ' => σ' = stM σ a (setP A m (at_ + 1, ins, of_, 1, fi, hu)))) := by
  obtain ⟨hG2, hG6, h5, h5p, h2a, h2b, h3a, h3b, hgs⟩ := id hA
  refine Cn.of [some (.ref (eB E + a)), some (.int (nI m)), none] (by decide) (Nat.le_of_ble_eq_true rfl) rfl ?_
  refine V_aload_n e_X9_walks_0 rfl rfl ?_
  refine V_iload_n e_X9_walks_1 rfl rfl ?_
  refine V_iconst (v := nI 0) e_X9_walks_2 (by decide) ?_
  refine V_csIe (av := [.ref (eB E + a), .int (nI m), .int (nI 0)]) (st := []) e_X9_walks_3 (c_X9_hisP_0 E a m A (at_, ins, of_, 1, fi, hu) σ ha hl hm) l_X9_166 S_X9_his (rm_ok (by decide) (by decide)) rfl rfl (Nat.le_of_ble_eq_true rfl) ?_
  refine V_topi (y := nI at_) (rfl) ?_
  refine V_aload_n e_X9_walks_6 rfl rfl ?_
  refine V_iload_n e_X9_walks_7 rfl rfl ?_
  refine V_iconst (v := nI 3) e_X9_walks_8 (by decide) ?_
  refine V_csIe (av := [.ref (eB E + a), .int (nI m), .int (nI 3)]) (st := [.int (nI at_)]) e_X9_walks_9 (c_X9_hisP_3 E a m A (at_, ins, of_, 1, fi, hu) σ ha hl hm) l_X9_166 S_X9_his (rm_ok (by decide) (by decide)) rfl rfl (Nat.le_of_ble_eq_true rfl) ?_
  refine V_topi (y := nI 1) (rfl) ?_
  refine V_iconst (v := nI 1) e_X9_walks_12 (by decide) ?_
  refine V_icmp_ne (tgt := 20) e_X9_walks_13 (by decide) (fun c1 => absurd c1 (by decide)) (fun c1 => ?_)
  refine V_iconst (v := nI 1) e_X9_walks_16 (by decide) ?_
  refine V_goto (tgt := 21) e_X9_walks_17 (by decide) ?_
  refine V_iaddN (z := nI (at_ + 1)) e_X9_walks_21 (nI_add _ _) ?_
  refine V_istore_n (L' := [some (.ref (eB E + a)), some (.int (nI m)), some (.int (nI (at_ + 1)))]) e_X9_walks_22 rfl rfl ?_
  refine V_iload_n e_X9_walks_23 rfl rfl ?_
  refine V_if_lt (tgt := 34) e_X9_walks_24 (by decide) (fun c2 => absurd c2 (nI_pos (by omega))) (fun c2 => ?_)
  refine V_iload_n e_X9_walks_27 rfl rfl ?_
  refine V_aload_n e_X9_walks_28 rfl rfl ?_
  refine V_iconst (v := nI 0) e_X9_walks_29 (by decide) ?_
  refine V_ialdv (v := nI (A 0)) (j := 0) e_X9_walks_30 ha rfl (by rw [hl]; omega) ((stM_at (by omega)).trans (congrArg nI (setP_lo (by omega)))) ?_
  refine V_icmp_ne (tgt := 71) e_X9_walks_31 (by decide) (fun c3 => ?_) (fun c3 => ((by have := nq_eq (by omega) (by omega) c3; omega : False)).elim)
  refine V_aload_n e_X9_walks_71 rfl rfl ?_
  refine V_iload_n e_X9_walks_72 rfl rfl ?_
  refine V_iconst (v := nI 0) e_X9_walks_73 (by decide) ?_
  refine V_iload_n e_X9_walks_74 rfl rfl ?_
  refine V_csVe (av := [.ref (eB E + a), .int (nI m), .int (nI 0), .int (nI (at_ + 1))]) (st := []) e_X9_walks_75 (c_X9_beP_0 E a m (at_ + 1) A (at_, ins, of_, 1, fi, hu) σ ha hl hm) l_X9_173 S_X9_be (rm_ok (by decide) (by decide)) rfl rfl (Nat.le_of_ble_eq_true rfl) ?_
  exact V_vret e_X9_walks_78 rfl (rfl)
set_option maxRecDepth 100000 in
set_option maxHeartbeats 4000000 in
theorem c_X9_walks_b (E : En) (a m at_ ins of_ fi hu : Nat) (A : Vec) (σ : Sg) (ha : kd a = 10) (hl : ln a = 55) (hA : WE A) (hm : m < 5) (h1 : at_ + 1 = A 0) : Cn E m_X9_walks 2 [.ref (eB E + a), .int (nI m)] (stM σ a (setP A m (at_, ins, of_, 1, fi, hu))) (pV (fun σ' => σ' = stM σ a (setP A m (at_ - 1, ins, of_, 0, fi, hu)))) := by
  obtain ⟨hG2, hG6, h5, h5p, h2a, h2b, h3a, h3b, hgs⟩ := id hA
  refine Cn.of [some (.ref (eB E + a)), some (.int (nI m)), none] (by decide) (Nat.le_of_ble_eq_true rfl) rfl ?_
  refine V_aload_n e_X9_walks_0 rfl rfl ?_
  refine V_iload_n e_X9_walks_1 rfl rfl ?_
  refine V_iconst (v := nI 0) e_X9_walks_2 (by decide) ?_
  refine V_csIe (av := [.ref (eB E + a), .int (nI m), .int (nI 0)]) (st := []) e_X9_walks_3 (c_X9_hisP_0 E a m A (at_, ins, of_, 1, fi, hu) σ ha hl hm) l_X9_166 S_X9_his (rm_ok (by decide) (by decide)) rfl rfl (Nat.le_of_ble_eq_true rfl) ?_
  refine V_topi (y := nI at_) (rfl) ?_
  refine V_aload_n e_X9_walks_6 rfl rfl ?_
  refine V_iload_n e_X9_walks_7 rfl rfl ?_
  refine V_iconst (v := nI 3) e_X9_walks_8 (by decide) ?_
  refine V_csIe (av := [.ref (eB E + a), .int (nI m), .int (nI 3)]) (st := [.int (nI at_)]) e_X9_walks_9 (c_X9_hisP_3 E a m A (at_, ins, of_, 1, fi, hu) σ ha hl hm) l_X9_166 S_X9_his (rm_ok (by decide) (by decide)) rfl rfl (Nat.le_of_ble_eq_true rfl) ?_
  refine V_topi (y := nI 1) (rfl) ?_
  refine V_iconst (v := nI 1) e_X9_walks_12 (by decide) ?_
  refine V_icmp_ne (tgt := 20) e_X9_walks_13 (by decide) (fun c1 => absurd c1 (by decide)) (fun c1 => ?_)
  refine V_iconst (v := nI 1) e_X9_walks_16 (by decide) ?_
  refine V_goto (tgt := 21) e_X9_walks_17 (by decide) ?_
  refine V_iaddN (z := nI (at_ + 1)) e_X9_walks_21 (nI_add _ _) ?_
  refine V_istore_n (L' := [some (.ref (eB E + a)), some (.int (nI m)), some (.int (nI (at_ + 1)))]) e_X9_walks_22 rfl rfl ?_
  refine V_iload_n e_X9_walks_23 rfl rfl ?_
  refine V_if_lt (tgt := 34) e_X9_walks_24 (by decide) (fun c2 => absurd c2 (nI_pos (by omega))) (fun c2 => ?_)
  refine V_iload_n e_X9_walks_27 rfl rfl ?_
  refine V_aload_n e_X9_walks_28 rfl rfl ?_
  refine V_iconst (v := nI 0) e_X9_walks_29 (by decide) ?_
  refine V_ialdv (v := nI (A 0)) (j := 0) e_X9_walks_30 ha rfl (by rw [hl]; omega) ((stM_at (by omega)).trans (congrArg nI (setP_lo (by omega)))) ?_
  refine V_icmp_ne (tgt := 71) e_X9_walks_31 (by decide) (fun c3 => ((by exact c3 (congrArg nI h1) : False)).elim) (fun c3 => ?_)
  refine V_aload_n e_X9_walks_34 rfl rfl ?_
  refine V_iload_n e_X9_walks_35 rfl rfl ?_
  refine V_iconst (v := nI 3) e_X9_walks_36 (by decide) ?_
  refine V_iconst (v := nI 1) e_X9_walks_37 (by decide) ?_
  refine V_aload_n e_X9_walks_38 rfl rfl ?_
  refine V_iload_n e_X9_walks_39 rfl rfl ?_
  refine V_iconst (v := nI 3) e_X9_walks_40 (by decide) ?_
  refine V_csIe (av := [.ref (eB E + a), .int (nI m), .int (nI 3)]) (st := [.int (nI 1), .int (nI 3), .int (nI m), .ref (eB E + a)]) e_X9_walks_41 (c_X9_hisP_3 E a m A (at_, ins, of_, 1, fi, hu) σ ha hl hm) l_X9_166 S_X9_his (rm_ok (by decide) (by decide)) rfl rfl (Nat.le_of_ble_eq_true rfl) ?_
  refine V_topi (y := nI 1) (rfl) ?_
  refine V_isubN (z := nI 0) e_X9_walks_44 (pk_sub (by decide)) ?_
  refine V_topi (y := nI 0) (rfl) ?_
  refine V_csVe (av := [.ref (eB E + a), .int (nI m), .int (nI 3), .int (nI 0)]) (st := []) e_X9_walks_45 (c_X9_beP_3 E a m 0 A (at_, ins, of_, 1, fi, hu) σ ha hl hm) l_X9_173 S_X9_be (rm_ok (by decide) (by decide)) rfl rfl (Nat.le_of_ble_eq_true rfl) ?_
  refine V_aload_n e_X9_walks_48 rfl rfl ?_
  refine V_iload_n e_X9_walks_49 rfl rfl ?_
  refine V_iconst (v := nI 0) e_X9_walks_50 (by decide) ?_
  refine V_csIe (av := [.ref (eB E + a), .int (nI m), .int (nI 0)]) (st := []) e_X9_walks_51 (c_X9_hisP_0 E a m A (at_, ins, of_, 0, fi, hu) σ ha hl hm) l_X9_166 S_X9_his (rm_ok (by decide) (by decide)) rfl rfl (Nat.le_of_ble_eq_true rfl) ?_
  refine V_topi (y := nI at_) (rfl) ?_
  refine V_aload_n e_X9_walks_54 rfl rfl ?_
  refine V_iload_n e_X9_walks_55 rfl rfl ?_
  refine V_iconst (v := nI 3) e_X9_walks_56 (by decide) ?_
  refine V_csIe (av := [.ref (eB E + a), .int (nI m), .int (nI 3)]) (st := [.int (nI at_)]) e_X9_walks_57 (c_X9_hisP_3 E a m A (at_, ins, of_, 0, fi, hu) σ ha hl hm) l_X9_166 S_X9_his (rm_ok (by decide) (by decide)) rfl rfl (Nat.le_of_ble_eq_true rfl) ?_
  refine V_topi (y := nI 0) (rfl) ?_
  refine V_iconst (v := nI 1) e_X9_walks_60 (by decide) ?_
  refine V_icmp_ne (tgt := 68) e_X9_walks_61 (by decide) (fun c4 => ?_) (fun c4 => absurd c4 (by decide))
  refine V_iconst (v := (-1)) e_X9_walks_68 (by decide) ?_
  refine V_iadd e_X9_walks_69 ?_
  refine V_topi (y := nI (at_ - 1)) (sub1 (by omega)) ?_
  refine V_istore_n (L' := [some (.ref (eB E + a)), some (.int (nI m)), some (.int (nI (at_ - 1)))]) e_X9_walks_70 rfl rfl ?_
  refine V_aload_n e_X9_walks_71 rfl rfl ?_
  refine V_iload_n e_X9_walks_72 rfl rfl ?_
  refine V_iconst (v := nI 0) e_X9_walks_73 (by decide) ?_
  refine V_iload_n e_X9_walks_74 rfl rfl ?_
  refine V_csVe (av := [.ref (eB E + a), .int (nI m), .int (nI 0), .int (nI (at_ - 1))]) (st := []) e_X9_walks_75 (c_X9_beP_0 E a m (at_ - 1) A (at_, ins, of_, 0, fi, hu) σ ha hl hm) l_X9_173 S_X9_be (rm_ok (by decide) (by decide)) rfl rfl (Nat.le_of_ble_eq_true rfl) ?_
  exact V_vret e_X9_walks_78 rfl (rfl)
set_option maxRecDepth 100000 in
set_option maxHeartbeats 4000000 in
theorem c_X9_walks_c (E : En) (a m at_ ins of_ fi hu : Nat) (A : Vec) (σ : Sg) (ha : kd a = 10) (hl : ln a = 55) (hA : WE A) (hm : m < 5)  : Cn E m_X9_walks 2 [.ref (eB E + a), .int (nI m)] (stM σ a (setP A m (0, ins, of_, 0, fi, hu))) (pV (fun σ' => σ' = stM σ a (setP A m (1, ins, of_, 1, fi, hu)))) := by
  obtain ⟨hG2, hG6, h5, h5p, h2a, h2b, h3a, h3b, hgs⟩ := id hA
  refine Cn.of [some (.ref (eB E + a)), some (.int (nI m)), none] (by decide) (Nat.le_of_ble_eq_true rfl) rfl ?_
  refine V_aload_n e_X9_walks_0 rfl rfl ?_
  refine V_iload_n e_X9_walks_1 rfl rfl ?_
  refine V_iconst (v := nI 0) e_X9_walks_2 (by decide) ?_
  refine V_csIe (av := [.ref (eB E + a), .int (nI m), .int (nI 0)]) (st := []) e_X9_walks_3 (c_X9_hisP_0 E a m A (0, ins, of_, 0, fi, hu) σ ha hl hm) l_X9_166 S_X9_his (rm_ok (by decide) (by decide)) rfl rfl (Nat.le_of_ble_eq_true rfl) ?_
  refine V_topi (y := nI 0) (rfl) ?_
  refine V_aload_n e_X9_walks_6 rfl rfl ?_
  refine V_iload_n e_X9_walks_7 rfl rfl ?_
  refine V_iconst (v := nI 3) e_X9_walks_8 (by decide) ?_
  refine V_csIe (av := [.ref (eB E + a), .int (nI m), .int (nI 3)]) (st := [.int (nI 0)]) e_X9_walks_9 (c_X9_hisP_3 E a m A (0, ins, of_, 0, fi, hu) σ ha hl hm) l_X9_166 S_X9_his (rm_ok (by decide) (by decide)) rfl rfl (Nat.le_of_ble_eq_true rfl) ?_
  refine V_topi (y := nI 0) (rfl) ?_
  refine V_iconst (v := nI 1) e_X9_walks_12 (by decide) ?_
  refine V_icmp_ne (tgt := 20) e_X9_walks_13 (by decide) (fun c1 => ?_) (fun c1 => absurd c1 (by decide))
  refine V_iconst (v := (-1)) e_X9_walks_20 (by decide) ?_
  refine V_iadd e_X9_walks_21 ?_
  refine V_topi (y := (-1)) (by decide) ?_
  refine V_istore_n (L' := [some (.ref (eB E + a)), some (.int (nI m)), some (.int (-1))]) e_X9_walks_22 rfl rfl ?_
  refine V_iload_n e_X9_walks_23 rfl rfl ?_
  refine V_if_lt (tgt := 34) e_X9_walks_24 (by decide) (fun c2 => ?_) (fun c2 => absurd c2 (by decide))
  refine V_aload_n e_X9_walks_34 rfl rfl ?_
  refine V_iload_n e_X9_walks_35 rfl rfl ?_
  refine V_iconst (v := nI 3) e_X9_walks_36 (by decide) ?_
  refine V_iconst (v := nI 1) e_X9_walks_37 (by decide) ?_
  refine V_aload_n e_X9_walks_38 rfl rfl ?_
  refine V_iload_n e_X9_walks_39 rfl rfl ?_
  refine V_iconst (v := nI 3) e_X9_walks_40 (by decide) ?_
  refine V_csIe (av := [.ref (eB E + a), .int (nI m), .int (nI 3)]) (st := [.int (nI 1), .int (nI 3), .int (nI m), .ref (eB E + a)]) e_X9_walks_41 (c_X9_hisP_3 E a m A (0, ins, of_, 0, fi, hu) σ ha hl hm) l_X9_166 S_X9_his (rm_ok (by decide) (by decide)) rfl rfl (Nat.le_of_ble_eq_true rfl) ?_
  refine V_topi (y := nI 0) (rfl) ?_
  refine V_isubN (z := nI 1) e_X9_walks_44 (pk_sub (by decide)) ?_
  refine V_topi (y := nI 1) (rfl) ?_
  refine V_csVe (av := [.ref (eB E + a), .int (nI m), .int (nI 3), .int (nI 1)]) (st := []) e_X9_walks_45 (c_X9_beP_3 E a m 1 A (0, ins, of_, 0, fi, hu) σ ha hl hm) l_X9_173 S_X9_be (rm_ok (by decide) (by decide)) rfl rfl (Nat.le_of_ble_eq_true rfl) ?_
  refine V_aload_n e_X9_walks_48 rfl rfl ?_
  refine V_iload_n e_X9_walks_49 rfl rfl ?_
  refine V_iconst (v := nI 0) e_X9_walks_50 (by decide) ?_
  refine V_csIe (av := [.ref (eB E + a), .int (nI m), .int (nI 0)]) (st := []) e_X9_walks_51 (c_X9_hisP_0 E a m A (0, ins, of_, 1, fi, hu) σ ha hl hm) l_X9_166 S_X9_his (rm_ok (by decide) (by decide)) rfl rfl (Nat.le_of_ble_eq_true rfl) ?_
  refine V_topi (y := nI 0) (rfl) ?_
  refine V_aload_n e_X9_walks_54 rfl rfl ?_
  refine V_iload_n e_X9_walks_55 rfl rfl ?_
  refine V_iconst (v := nI 3) e_X9_walks_56 (by decide) ?_
  refine V_csIe (av := [.ref (eB E + a), .int (nI m), .int (nI 3)]) (st := [.int (nI 0)]) e_X9_walks_57 (c_X9_hisP_3 E a m A (0, ins, of_, 1, fi, hu) σ ha hl hm) l_X9_166 S_X9_his (rm_ok (by decide) (by decide)) rfl rfl (Nat.le_of_ble_eq_true rfl) ?_
  refine V_topi (y := nI 1) (rfl) ?_
  refine V_iconst (v := nI 1) e_X9_walks_60 (by decide) ?_
  refine V_icmp_ne (tgt := 68) e_X9_walks_61 (by decide) (fun c3 => absurd c3 (by decide)) (fun c3 => ?_)
  refine V_iconst (v := nI 1) e_X9_walks_64 (by decide) ?_
  refine V_goto (tgt := 69) e_X9_walks_65 (by decide) ?_
  refine V_iaddN (z := nI 1) e_X9_walks_69 (nI_add _ _) ?_
  refine V_istore_n (L' := [some (.ref (eB E + a)), some (.int (nI m)), some (.int (nI 1))]) e_X9_walks_70 rfl rfl ?_
  refine V_aload_n e_X9_walks_71 rfl rfl ?_
  refine V_iload_n e_X9_walks_72 rfl rfl ?_
  refine V_iconst (v := nI 0) e_X9_walks_73 (by decide) ?_
  refine V_iload_n e_X9_walks_74 rfl rfl ?_
  refine V_csVe (av := [.ref (eB E + a), .int (nI m), .int (nI 0), .int (nI 1)]) (st := []) e_X9_walks_75 (c_X9_beP_0 E a m 1 A (0, ins, of_, 1, fi, hu) σ ha hl hm) l_X9_173 S_X9_be (rm_ok (by decide) (by decide)) rfl rfl (Nat.le_of_ble_eq_true rfl) ?_
  exact V_vret e_X9_walks_78 rfl (rfl)
set_option maxRecDepth 100000 in
set_option maxHeartbeats 4000000 in
theorem c_X9_walks_d (E : En) (a m at_ ins of_ fi hu : Nat) (A : Vec) (σ : Sg) (ha : kd a = 10) (hl : ln a = 55) (hA : WE A) (hm : m < 5) (h0 : 0 < at_) (h1 : at_ < A 0) : Cn E m_X9_walks 2 [.ref (eB E + a), .int (nI m)] (stM σ a (setP A m (at_, ins, of_, 0, fi, hu))) (pV (fun σ' => σ' = stM σ a (setP A m (at_ - 1, ins, of_, 0, fi, hu)))) := by
  obtain ⟨hG2, hG6, h5, h5p, h2a, h2b, h3a, h3b, hgs⟩ := id hA
  refine Cn.of [some (.ref (eB E + a)), some (.int (nI m)), none] (by decide) (Nat.le_of_ble_eq_true rfl) rfl ?_
  refine V_aload_n e_X9_walks_0 rfl rfl ?_
  refine V_iload_n e_X9_walks_1 rfl rfl ?_
  refine V_iconst (v := nI 0) e_X9_walks_2 (by decide) ?_
  refine V_csIe (av := [.ref (eB E + a), .int (nI m), .int (nI 0)]) (st := []) e_X9_walks_3 (c_X9_hisP_0 E a m A (at_, ins, of_, 0, fi, hu) σ ha hl hm) l_X9_166 S_X9_his (rm_ok (by decide) (by decide)) rfl rfl (Nat.le_of_ble_eq_true rfl) ?_
  refine V_topi (y := nI at_) (rfl) ?_
  refine V_aload_n e_X9_walks_6 rfl rfl ?_
  refine V_iload_n e_X9_walks_7 rfl rfl ?_
  refine V_iconst (v := nI 3) e_X9_walks_8 (by decide) ?_
  refine V_csIe (av := [.ref (eB E + a), .int (nI m), .int (nI 3)]) (st := [.int (nI at_)]) e_X9_walks_9 (c_X9_hisP_3 E a m A (at_, ins, of_, 0, fi, hu) σ ha hl hm) l_X9_166 S_X9_his (rm_ok (by decide) (by decide)) rfl rfl (Nat.le_of_ble_eq_true rfl) ?_
  refine V_topi (y := nI 0) (rfl) ?_
  refine V_iconst (v := nI 1) e_X9_walks_12 (by decide) ?_
  refine V_icmp_ne (tgt := 20) e_X9_walks_13 (by decide) (fun c1 => ?_) (fun c1 => absurd c1 (by decide))
  refine V_iconst (v := (-1)) e_X9_walks_20 (by decide) ?_
  refine V_iadd e_X9_walks_21 ?_
  refine V_topi (y := nI (at_ - 1)) (sub1 (by omega)) ?_
  refine V_istore_n (L' := [some (.ref (eB E + a)), some (.int (nI m)), some (.int (nI (at_ - 1)))]) e_X9_walks_22 rfl rfl ?_
  refine V_iload_n e_X9_walks_23 rfl rfl ?_
  refine V_if_lt (tgt := 34) e_X9_walks_24 (by decide) (fun c2 => absurd c2 (nI_pos (by omega))) (fun c2 => ?_)
  refine V_iload_n e_X9_walks_27 rfl rfl ?_
  refine V_aload_n e_X9_walks_28 rfl rfl ?_
  refine V_iconst (v := nI 0) e_X9_walks_29 (by decide) ?_
  refine V_ialdv (v := nI (A 0)) (j := 0) e_X9_walks_30 ha rfl (by rw [hl]; omega) ((stM_at (by omega)).trans (congrArg nI (setP_lo (by omega)))) ?_
  refine V_icmp_ne (tgt := 71) e_X9_walks_31 (by decide) (fun c3 => ?_) (fun c3 => ((by have := nq_eq (by omega) (by omega) c3; omega : False)).elim)
  refine V_aload_n e_X9_walks_71 rfl rfl ?_
  refine V_iload_n e_X9_walks_72 rfl rfl ?_
  refine V_iconst (v := nI 0) e_X9_walks_73 (by decide) ?_
  refine V_iload_n e_X9_walks_74 rfl rfl ?_
  refine V_csVe (av := [.ref (eB E + a), .int (nI m), .int (nI 0), .int (nI (at_ - 1))]) (st := []) e_X9_walks_75 (c_X9_beP_0 E a m (at_ - 1) A (at_, ins, of_, 0, fi, hu) σ ha hl hm) l_X9_173 S_X9_be (rm_ok (by decide) (by decide)) rfl rfl (Nat.le_of_ble_eq_true rfl) ?_
  exact V_vret e_X9_walks_78 rfl (rfl)
theorem c_X9_walks (E : En) (a m : Nat) (A : Vec) (q : Pn) (σ : Sg) (ha : kd a = 10) (hl : ln a = 55) (hA : WE A) (hm : m < 5) (hP : WP A q) : Cn E m_X9_walks 2 [.ref (eB E + a), .int (nI m)] (stM σ a (setP A m q)) (pV (fun σ' => σ' = stM σ a (setP A m (walkP A q)))) := by
  obtain ⟨at_, ins, of_, hd, fi, hu⟩ := q
  obtain ⟨p1, p2, p3, p4, p5⟩ := hP
  dsimp only at p1 p4
  have hG2 := hA.1
  rcases (show hd = 0 ∨ hd = 1 by omega) with rfl | rfl
  · by_cases h0 : at_ = 0
    · subst h0
      exact c_X9_walks_c E a m 0 ins of_ fi hu A σ ha hl hA hm
    · have := c_X9_walks_d E a m at_ ins of_ fi hu A σ ha hl hA hm (by omega) p1
      unfold walkP
      rw [if_neg (show ¬ (0 : Nat) = 1 by decide), if_neg h0]
      exact this
  · by_cases h0 : at_ + 1 = A 0
    · have := c_X9_walks_b E a m at_ ins of_ fi hu A σ ha hl hA hm h0
      unfold walkP
      rw [if_pos rfl, if_pos (show at_ = A 0 - 1 by omega)]
      exact this
    · have := c_X9_walks_a E a m at_ ins of_ fi hu A σ ha hl hA hm (by omega)
      unfold walkP
      rw [if_pos rfl, if_neg (show ¬ at_ = A 0 - 1 by omega)]
      exact this
set_option maxRecDepth 100000 in
set_option maxHeartbeats 4000000 in
theorem c_X9_eats (E : En) (a m : Nat) (A : Vec) (q : Pn) (σ : Sg) (ha : kd a = 10) (hl : ln a = 55) (hA : WE A) (hm : m < 5) (hP : WP A q) : Cn E m_X9_eats 3 [.ref (eB E + a), .int (nI m)] (stM σ a (setP A m q)) (pV (fun σ' => σ' = stM σ a (setP A m (eatP A q)))) := by
  obtain ⟨hG2, hG6, h5, h5p, h2a, h2b, h3a, h3b, hgs⟩ := id hA
  obtain ⟨p1, p2, p3, p4, p5⟩ := id hP
  have p36 := hP.of64 hG6
  refine Cn.of [some (.ref (eB E + a)), some (.int (nI m)), none, none] (by decide) (Nat.le_of_ble_eq_true rfl) rfl ?_
  have hor := bitN_or q.2.2.1 (A 5) q.1
  have hkk := hgs q.1 p1
  have hb1 := bitN_le (A 5) q.1
  have hb2 := bitN_le q.2.2.1 q.1
  refine V_aload_n e_X9_eats_0 rfl rfl ?_
  refine V_iload_n e_X9_eats_1 rfl rfl ?_
  refine V_iconst (v := nI 0) e_X9_eats_2 (by decide) ?_
  refine V_csIe (av := [.ref (eB E + a), .int (nI m), .int (nI 0)]) (st := []) e_X9_eats_3 (c_X9_hisP_0 E a m A q σ ha hl hm) l_X9_166 S_X9_his (rm_ok (by decide) (by decide)) rfl rfl (Nat.le_of_ble_eq_true rfl) ?_
  refine V_istore_n (L' := [some (.ref (eB E + a)), some (.int (nI m)), some (.int (nI q.1)), none]) e_X9_eats_6 rfl rfl ?_
  refine V_aload_n e_X9_eats_7 rfl rfl ?_
  refine V_iload_n e_X9_eats_8 rfl rfl ?_
  refine V_iconst (v := nI 4) e_X9_eats_9 (by decide) ?_
  refine V_csIe (av := [.ref (eB E + a), .int (nI m), .int (nI 4)]) (st := []) e_X9_eats_10 (c_X9_hisP_4 E a m A q σ ha hl hm) l_X9_166 S_X9_his (rm_ok (by decide) (by decide)) rfl rfl (Nat.le_of_ble_eq_true rfl) ?_
  refine V_istore_n (L' := [some (.ref (eB E + a)), some (.int (nI m)), some (.int (nI q.1)), some (.int (nI q.2.2.2.2.1))]) e_X9_eats_13 rfl rfl ?_
  refine V_aload_n e_X9_eats_14 rfl rfl ?_
  refine V_iload_n e_X9_eats_15 rfl rfl ?_
  refine V_iconst (v := nI 2) e_X9_eats_16 (by decide) ?_
  refine V_csIe (av := [.ref (eB E + a), .int (nI m), .int (nI 2)]) (st := []) e_X9_eats_17 (c_X9_hisP_2 E a m A q σ ha hl hm) l_X9_166 S_X9_his (rm_ok (by decide) (by decide)) rfl rfl (Nat.le_of_ble_eq_true rfl) ?_
  refine V_iload_n e_X9_eats_20 rfl rfl ?_
  refine V_csIe (av := [.int (nI q.2.2.1), .int (nI q.1)]) (st := []) e_X9_eats_21 (c_X9_has E q.2.2.1 q.1 (stM σ a (setP A m q)) (by omega) (by omega)) l_X9_158 S_X9_has (rm_ok (by decide) (by decide)) rfl rfl (Nat.le_of_ble_eq_true rfl) ?_
  refine V_if_ne (tgt := 47) e_X9_eats_24 (by decide) (fun c1 => ?_) (fun c1 => ?_)
  · have d1 : ¬ bitN q.2.2.1 q.1 = 0 := nq_ne (by omega) (by omega) c1
    refine V_aload_n e_X9_eats_47 rfl rfl ?_
    refine V_iload_n e_X9_eats_48 rfl rfl ?_
    refine V_iconst (v := nI 4) e_X9_eats_49 (by decide) ?_
    refine V_iload_n e_X9_eats_50 rfl rfl ?_
    refine V_aload_n e_X9_eats_51 rfl rfl ?_
    refine V_iconst (v := nI 2) e_X9_eats_52 (by decide) ?_
    refine V_ialdv (v := nI (A 2)) (j := 2) e_X9_eats_53 ha rfl (by rw [hl]; omega) ((stM_at (by omega)).trans (congrArg nI (setP_lo (by omega)))) ?_
    refine V_iaddN (z := nI (q.2.2.2.2.1 + (A 2))) e_X9_eats_54 (nI_add _ _) ?_
    refine V_bipush (v := nI 99) e_X9_eats_55 (by decide) ?_
    refine V_icmp_le (tgt := 65) e_X9_eats_57 (by decide) (fun c2 => ?_) (fun c2 => ?_)
    · have d2 : q.2.2.2.2.1 + (A 2) ≤ 99 := nq_le (by omega) (by omega) c2
      refine V_iload_n e_X9_eats_65 rfl rfl ?_
      refine V_aload_n e_X9_eats_66 rfl rfl ?_
      refine V_iconst (v := nI 2) e_X9_eats_67 (by decide) ?_
      refine V_ialdv (v := nI (A 2)) (j := 2) e_X9_eats_68 ha rfl (by rw [hl]; omega) ((stM_at (by omega)).trans (congrArg nI (setP_lo (by omega)))) ?_
      refine V_iaddN (z := nI (q.2.2.2.2.1 + (A 2))) e_X9_eats_69 (nI_add _ _) ?_
      refine V_csVe (av := [.ref (eB E + a), .int (nI m), .int (nI 4), .int (nI (q.2.2.2.2.1 + (A 2)))]) (st := []) e_X9_eats_70 (c_X9_beP_4 E a m (q.2.2.2.2.1 + (A 2)) A q σ ha hl hm) l_X9_173 S_X9_be (rm_ok (by decide) (by decide)) rfl rfl (Nat.le_of_ble_eq_true rfl) ?_
      refine V_goto (tgt := 111) e_X9_eats_73 (by decide) ?_
      exact V_vret e_X9_eats_111 rfl (by have e : (q.1, q.2.1, q.2.2.1, q.2.2.2.1, q.2.2.2.2.1 + (A 2), q.2.2.2.2.2) = eatP A q := (by unfold eatP fre; (repeat' split) <;> first | (exfalso; omega) | rfl | (congr 5; omega) | (congr 4; congr 1; omega)); rw [e])
    · have d2 : ¬ q.2.2.2.2.1 + (A 2) ≤ 99 := nq_nle (by omega) (by omega) c2
      refine V_bipush (v := nI 99) e_X9_eats_60 (by decide) ?_
      refine V_goto (tgt := 70) e_X9_eats_62 (by decide) ?_
      refine V_csVe (av := [.ref (eB E + a), .int (nI m), .int (nI 4), .int (nI 99)]) (st := []) e_X9_eats_70 (c_X9_beP_4 E a m 99 A q σ ha hl hm) l_X9_173 S_X9_be (rm_ok (by decide) (by decide)) rfl rfl (Nat.le_of_ble_eq_true rfl) ?_
      refine V_goto (tgt := 111) e_X9_eats_73 (by decide) ?_
      exact V_vret e_X9_eats_111 rfl (by have e : (q.1, q.2.1, q.2.2.1, q.2.2.2.1, 99, q.2.2.2.2.2) = eatP A q := (by unfold eatP fre; (repeat' split) <;> first | (exfalso; omega) | rfl | (congr 5; omega) | (congr 4; congr 1; omega)); rw [e])
  · have d1 : bitN q.2.2.1 q.1 = 0 := nq_eq (by omega) (by omega) c1
    refine V_aload_n e_X9_eats_27 rfl rfl ?_
    refine V_iconst (v := nI 5) e_X9_eats_28 (by decide) ?_
    refine V_ialdv (v := nI (A 5)) (j := 5) e_X9_eats_29 ha rfl (by rw [hl]; omega) ((stM_at (by omega)).trans (congrArg nI (setP_lo (by omega)))) ?_
    refine V_iload_n e_X9_eats_30 rfl rfl ?_
    refine V_csIe (av := [.int (nI (A 5)), .int (nI q.1)]) (st := []) e_X9_eats_31 (c_X9_has E (A 5) q.1 (stM σ a (setP A m q)) (by omega) (by omega)) l_X9_158 S_X9_has (rm_ok (by decide) (by decide)) rfl rfl (Nat.le_of_ble_eq_true rfl) ?_
    refine V_if_ne (tgt := 47) e_X9_eats_34 (by decide) (fun c3 => ?_) (fun c3 => ?_)
    · have d3 : ¬ bitN (A 5) q.1 = 0 := nq_ne (by omega) (by omega) c3
      refine V_aload_n e_X9_eats_47 rfl rfl ?_
      refine V_iload_n e_X9_eats_48 rfl rfl ?_
      refine V_iconst (v := nI 4) e_X9_eats_49 (by decide) ?_
      refine V_iload_n e_X9_eats_50 rfl rfl ?_
      refine V_aload_n e_X9_eats_51 rfl rfl ?_
      refine V_iconst (v := nI 2) e_X9_eats_52 (by decide) ?_
      refine V_ialdv (v := nI (A 2)) (j := 2) e_X9_eats_53 ha rfl (by rw [hl]; omega) ((stM_at (by omega)).trans (congrArg nI (setP_lo (by omega)))) ?_
      refine V_iaddN (z := nI (q.2.2.2.2.1 + (A 2))) e_X9_eats_54 (nI_add _ _) ?_
      refine V_bipush (v := nI 99) e_X9_eats_55 (by decide) ?_
      refine V_icmp_le (tgt := 65) e_X9_eats_57 (by decide) (fun c4 => ?_) (fun c4 => ?_)
      · have d4 : q.2.2.2.2.1 + (A 2) ≤ 99 := nq_le (by omega) (by omega) c4
        refine V_iload_n e_X9_eats_65 rfl rfl ?_
        refine V_aload_n e_X9_eats_66 rfl rfl ?_
        refine V_iconst (v := nI 2) e_X9_eats_67 (by decide) ?_
        refine V_ialdv (v := nI (A 2)) (j := 2) e_X9_eats_68 ha rfl (by rw [hl]; omega) ((stM_at (by omega)).trans (congrArg nI (setP_lo (by omega)))) ?_
        refine V_iaddN (z := nI (q.2.2.2.2.1 + (A 2))) e_X9_eats_69 (nI_add _ _) ?_
        refine V_csVe (av := [.ref (eB E + a), .int (nI m), .int (nI 4), .int (nI (q.2.2.2.2.1 + (A 2)))]) (st := []) e_X9_eats_70 (c_X9_beP_4 E a m (q.2.2.2.2.1 + (A 2)) A q σ ha hl hm) l_X9_173 S_X9_be (rm_ok (by decide) (by decide)) rfl rfl (Nat.le_of_ble_eq_true rfl) ?_
        refine V_goto (tgt := 111) e_X9_eats_73 (by decide) ?_
        exact V_vret e_X9_eats_111 rfl (by have e : (q.1, q.2.1, q.2.2.1, q.2.2.2.1, q.2.2.2.2.1 + (A 2), q.2.2.2.2.2) = eatP A q := (by unfold eatP fre; (repeat' split) <;> first | (exfalso; omega) | rfl | (congr 5; omega) | (congr 4; congr 1; omega)); rw [e])
      · have d4 : ¬ q.2.2.2.2.1 + (A 2) ≤ 99 := nq_nle (by omega) (by omega) c4
        refine V_bipush (v := nI 99) e_X9_eats_60 (by decide) ?_
        refine V_goto (tgt := 70) e_X9_eats_62 (by decide) ?_
        refine V_csVe (av := [.ref (eB E + a), .int (nI m), .int (nI 4), .int (nI 99)]) (st := []) e_X9_eats_70 (c_X9_beP_4 E a m 99 A q σ ha hl hm) l_X9_173 S_X9_be (rm_ok (by decide) (by decide)) rfl rfl (Nat.le_of_ble_eq_true rfl) ?_
        refine V_goto (tgt := 111) e_X9_eats_73 (by decide) ?_
        exact V_vret e_X9_eats_111 rfl (by have e : (q.1, q.2.1, q.2.2.1, q.2.2.2.1, 99, q.2.2.2.2.2) = eatP A q := (by unfold eatP fre; (repeat' split) <;> first | (exfalso; omega) | rfl | (congr 5; omega) | (congr 4; congr 1; omega)); rw [e])
    · have d3 : bitN (A 5) q.1 = 0 := nq_eq (by omega) (by omega) c3
      refine V_aload_n e_X9_eats_37 rfl rfl ?_
      refine V_iload_n e_X9_eats_38 rfl rfl ?_
      refine V_iconst (v := nI 0) e_X9_eats_39 (by decide) ?_
      refine V_csIe (av := [.ref (eB E + a), .int (nI q.1), .int (nI 0)]) (st := []) e_X9_eats_40 (c_X9_of_0 E a q.1 (setP A m q) σ ha hl (by omega)) l_X9_162 S_X9_of (rm_ok (by decide) (by decide)) rfl rfl (Nat.le_of_ble_eq_true rfl) ?_
      refine V_topi (y := nI (A (7 + 3 * q.1))) (congrArg nI (setP_lo (by omega))) ?_
      refine V_iconst (v := nI 4) e_X9_eats_43 (by decide) ?_
      refine V_icmp_lt (tgt := 76) e_X9_eats_44 (by decide) (fun c5 => ?_) (fun c5 => ?_)
      · have d5 : A (7 + 3 * q.1) < 4 := nq_lt (by omega) (by omega) c5
        refine V_iload_n e_X9_eats_76 rfl rfl ?_
        refine V_aload_n e_X9_eats_77 rfl rfl ?_
        refine V_iconst (v := nI 3) e_X9_eats_78 (by decide) ?_
        refine V_ialdv (v := nI (A 3)) (j := 3) e_X9_eats_79 ha rfl (by rw [hl]; omega) ((stM_at (by omega)).trans (congrArg nI (setP_lo (by omega)))) ?_
        refine V_icmp_lt (tgt := 97) e_X9_eats_80 (by decide) (fun c6 => ?_) (fun c6 => ?_)
        · have d6 : q.2.2.2.2.1 < A 3 := nq_lt (by omega) (by omega) c6
          refine V_aload_n e_X9_eats_97 rfl rfl ?_
          refine V_iload_n e_X9_eats_98 rfl rfl ?_
          refine V_iconst (v := nI 5) e_X9_eats_99 (by decide) ?_
          refine V_aload_n e_X9_eats_100 rfl rfl ?_
          refine V_iload_n e_X9_eats_101 rfl rfl ?_
          refine V_iconst (v := nI 5) e_X9_eats_102 (by decide) ?_
          refine V_csIe (av := [.ref (eB E + a), .int (nI m), .int (nI 5)]) (st := [.int (nI 5), .int (nI m), .ref (eB E + a)]) e_X9_eats_103 (c_X9_hisP_5 E a m A q σ ha hl hm) l_X9_166 S_X9_his (rm_ok (by decide) (by decide)) rfl rfl (Nat.le_of_ble_eq_true rfl) ?_
          refine V_iconst (v := nI 1) e_X9_eats_106 (by decide) ?_
          refine V_iaddN (z := nI (q.2.2.2.2.2 + 1)) e_X9_eats_107 (nI_add _ _) ?_
          refine V_csVe (av := [.ref (eB E + a), .int (nI m), .int (nI 5), .int (nI (q.2.2.2.2.2 + 1))]) (st := []) e_X9_eats_108 (c_X9_beP_5 E a m (q.2.2.2.2.2 + 1) A q σ ha hl hm) l_X9_173 S_X9_be (rm_ok (by decide) (by decide)) rfl rfl (Nat.le_of_ble_eq_true rfl) ?_
          exact V_vret e_X9_eats_111 rfl (by have e : (q.1, q.2.1, q.2.2.1, q.2.2.2.1, q.2.2.2.2.1, q.2.2.2.2.2 + 1) = eatP A q := (by unfold eatP fre; (repeat' split) <;> first | (exfalso; omega) | rfl | (congr 5; omega) | (congr 4; congr 1; omega)); rw [e])
        · have d6 : ¬ q.2.2.2.2.1 < A 3 := nq_nlt (by omega) (by omega) c6
          refine V_aload_n e_X9_eats_83 rfl rfl ?_
          refine V_iload_n e_X9_eats_84 rfl rfl ?_
          refine V_iconst (v := nI 4) e_X9_eats_85 (by decide) ?_
          refine V_iload_n e_X9_eats_86 rfl rfl ?_
          refine V_aload_n e_X9_eats_87 rfl rfl ?_
          refine V_iconst (v := nI 3) e_X9_eats_88 (by decide) ?_
          refine V_ialdv (v := nI (A 3)) (j := 3) e_X9_eats_89 ha rfl (by rw [hl]; omega) ((stM_at (by omega)).trans (congrArg nI (setP_lo (by omega)))) ?_
          refine V_isubN (z := nI (q.2.2.2.2.1 - (A 3))) e_X9_eats_90 (pk_sub (by omega)) ?_
          refine V_csVe (av := [.ref (eB E + a), .int (nI m), .int (nI 4), .int (nI (q.2.2.2.2.1 - (A 3)))]) (st := []) e_X9_eats_91 (c_X9_beP_4 E a m (q.2.2.2.2.1 - (A 3)) A q σ ha hl hm) l_X9_173 S_X9_be (rm_ok (by decide) (by decide)) rfl rfl (Nat.le_of_ble_eq_true rfl) ?_
          refine V_goto (tgt := 111) e_X9_eats_94 (by decide) ?_
          exact V_vret e_X9_eats_111 rfl (by have e : (q.1, q.2.1, q.2.2.1, q.2.2.2.1, q.2.2.2.2.1 - (A 3), q.2.2.2.2.2) = eatP A q := (by unfold eatP fre; (repeat' split) <;> first | (exfalso; omega) | rfl | (congr 5; omega) | (congr 4; congr 1; omega)); rw [e])
      · have d5 : ¬ A (7 + 3 * q.1) < 4 := nq_nlt (by omega) (by omega) c5
        refine V_aload_n e_X9_eats_47 rfl rfl ?_
        refine V_iload_n e_X9_eats_48 rfl rfl ?_
        refine V_iconst (v := nI 4) e_X9_eats_49 (by decide) ?_
        refine V_iload_n e_X9_eats_50 rfl rfl ?_
        refine V_aload_n e_X9_eats_51 rfl rfl ?_
        refine V_iconst (v := nI 2) e_X9_eats_52 (by decide) ?_
        refine V_ialdv (v := nI (A 2)) (j := 2) e_X9_eats_53 ha rfl (by rw [hl]; omega) ((stM_at (by omega)).trans (congrArg nI (setP_lo (by omega)))) ?_
        refine V_iaddN (z := nI (q.2.2.2.2.1 + (A 2))) e_X9_eats_54 (nI_add _ _) ?_
        refine V_bipush (v := nI 99) e_X9_eats_55 (by decide) ?_
        refine V_icmp_le (tgt := 65) e_X9_eats_57 (by decide) (fun c7 => ?_) (fun c7 => ?_)
        · have d7 : q.2.2.2.2.1 + (A 2) ≤ 99 := nq_le (by omega) (by omega) c7
          refine V_iload_n e_X9_eats_65 rfl rfl ?_
          refine V_aload_n e_X9_eats_66 rfl rfl ?_
          refine V_iconst (v := nI 2) e_X9_eats_67 (by decide) ?_
          refine V_ialdv (v := nI (A 2)) (j := 2) e_X9_eats_68 ha rfl (by rw [hl]; omega) ((stM_at (by omega)).trans (congrArg nI (setP_lo (by omega)))) ?_
          refine V_iaddN (z := nI (q.2.2.2.2.1 + (A 2))) e_X9_eats_69 (nI_add _ _) ?_
          refine V_csVe (av := [.ref (eB E + a), .int (nI m), .int (nI 4), .int (nI (q.2.2.2.2.1 + (A 2)))]) (st := []) e_X9_eats_70 (c_X9_beP_4 E a m (q.2.2.2.2.1 + (A 2)) A q σ ha hl hm) l_X9_173 S_X9_be (rm_ok (by decide) (by decide)) rfl rfl (Nat.le_of_ble_eq_true rfl) ?_
          refine V_goto (tgt := 111) e_X9_eats_73 (by decide) ?_
          exact V_vret e_X9_eats_111 rfl (by have e : (q.1, q.2.1, q.2.2.1, q.2.2.2.1, q.2.2.2.2.1 + (A 2), q.2.2.2.2.2) = eatP A q := (by unfold eatP fre; (repeat' split) <;> first | (exfalso; omega) | rfl | (congr 5; omega) | (congr 4; congr 1; omega)); rw [e])
        · have d7 : ¬ q.2.2.2.2.1 + (A 2) ≤ 99 := nq_nle (by omega) (by omega) c7
          refine V_bipush (v := nI 99) e_X9_eats_60 (by decide) ?_
          refine V_goto (tgt := 70) e_X9_eats_62 (by decide) ?_
          refine V_csVe (av := [.ref (eB E + a), .int (nI m), .int (nI 4), .int (nI 99)]) (st := []) e_X9_eats_70 (c_X9_beP_4 E a m 99 A q σ ha hl hm) l_X9_173 S_X9_be (rm_ok (by decide) (by decide)) rfl rfl (Nat.le_of_ble_eq_true rfl) ?_
          refine V_goto (tgt := 111) e_X9_eats_73 (by decide) ?_
          exact V_vret e_X9_eats_111 rfl (by have e : (q.1, q.2.1, q.2.2.1, q.2.2.2.1, 99, q.2.2.2.2.2) = eatP A q := (by unfold eatP fre; (repeat' split) <;> first | (exfalso; omega) | rfl | (congr 5; omega) | (congr 4; congr 1; omega)); rw [e])

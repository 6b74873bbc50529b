set_option maxRecDepth 100000 in
set_option maxHeartbeats 4000000 in
theorem c_X5_ofBehind (E : En) (n g gi s : Nat) (A : Vec) (σ : Sg) (hn : kd n = 5) (hA : WE A) (hE : EnvC σ n A) (hg : g < A 0) (hgi : gi ≤ 1) (hs : s < 64) : Cn E m_X5_ofBehind 2 [.ref (eB E + n), .int (nI g), .int (nI gi), .int (nI s)] σ (pI (fun σ' r => σ' = σ ∧ r = nI (thr A g gi s))) := by
  obtain ⟨hG2, hG6, h5, h5p, h2a, h2b, h3a, h3b, hgs⟩ := id hA
  obtain ⟨e0, e1, e2, e3, e4, e6, ⟨F, hF, e5, hFb⟩, egs⟩ := id hE
  refine Cn.of [some (.ref (eB E + n)), some (.int (nI g)), some (.int (nI gi)), some (.int (nI s)), none, none] (by decide) (Nat.le_of_ble_eq_true rfl) rfl ?_
  have hFg := hFb g hg
  have hkk := hgs g hg
  have hb1 := bitN_le (A 5) g
  have hb2 := bitN_le F g
  refine V_aload_n e_X5_ofBehind_0 rfl rfl ?_
  refine V_getiv (v := nI (A 5)) e_X5_ofBehind_1 F_X5_fallen f_X5_38 hn e6 ?_
  refine V_iload_n e_X5_ofBehind_4 rfl rfl ?_
  refine V_csNIe (av := [.int (nI (A 5)), .int (nI g)]) (st := []) e_X5_ofBehind_5 (c_X8_bitN E (A 5) g σ (by omega) (by omega)) l_X5_77 S_X8_bit (rm_ok (by decide) (by decide)) rfl rfl (Nat.le_of_ble_eq_true rfl) ?_
  refine V_iconst (v := nI 1) e_X5_ofBehind_8 (by decide) ?_
  refine V_icmp_ne (tgt := 14) e_X5_ofBehind_9 (by decide) (fun c1 => ?_) (fun c1 => ?_)
  · have d1 : ¬ bitN (A 5) g = 1 := nq_ne (by omega) (by omega) c1
    refine V_iconst (v := nI 1) e_X5_ofBehind_14 (by decide) ?_
    refine V_iload_n e_X5_ofBehind_15 rfl rfl ?_
    refine V_ishlN (z := nI (2 ^ g)) e_X5_ofBehind_16 (shl1 (by omega)) ?_
    refine V_istore (L' := [some (.ref (eB E + n)), some (.int (nI g)), some (.int (nI gi)), some (.int (nI s)), some (.int (nI (2 ^ g))), none]) e_X5_ofBehind_17 rfl ?_
    refine V_iload_n e_X5_ofBehind_19 rfl rfl ?_
    refine V_aload_n e_X5_ofBehind_20 rfl rfl ?_
    refine V_getiv (v := nI F) e_X5_ofBehind_21 F_X5_facing f_X5_35 hn e5 ?_
    refine V_iload_n e_X5_ofBehind_24 rfl rfl ?_
    refine V_csNIe (av := [.int (nI F), .int (nI g)]) (st := [.int (nI gi)]) e_X5_ofBehind_25 (c_X8_bitN E F g σ (by omega) (by omega)) l_X5_77 S_X8_bit (rm_ok (by decide) (by decide)) rfl rfl (Nat.le_of_ble_eq_true rfl) ?_
    refine V_if_ne (tgt := 35) e_X5_ofBehind_28 (by decide) (fun c2 => ?_) (fun c2 => ?_)
    · have d2 : ¬ bitN F g = 0 := nq_ne (by omega) (by omega) c2
      refine V_iconst (v := nI 0) e_X5_ofBehind_35 (by decide) ?_
      refine V_icmp_ne (tgt := 43) e_X5_ofBehind_36 (by decide) (fun c3 => ?_) (fun c3 => ?_)
      · have d3 : ¬ gi = 0 := nq_ne (by omega) (by omega) c3
        refine V_iconst (v := nI 0) e_X5_ofBehind_43 (by decide) ?_
        refine V_istore (L' := [some (.ref (eB E + n)), some (.int (nI g)), some (.int (nI gi)), some (.int (nI s)), some (.int (nI (2 ^ g))), some (.int (nI 0))]) e_X5_ofBehind_44 rfl ?_
        refine V_aload_n e_X5_ofBehind_46 rfl rfl ?_
        refine V_getr (r := n + 1) e_X5_ofBehind_47 F_X5_sorts f_X5_9 hn (rf5_7 hn) ?_
        refine V_iload_n e_X5_ofBehind_50 rfl rfl ?_
        refine V_ialdv (v := nI (A (7 + 3 * g))) (j := g) e_X5_ofBehind_51 (kd5_1 hn) rfl (by have q := ln5_1  hn; omega) ((egs g (by omega)).1) ?_
        rcases (show (A (7 + 3 * g)) = 1 ∨ (A (7 + 3 * g)) = 2 ∨ (A (7 + 3 * g)) = 3 ∨ (A (7 + 3 * g)) = 4 ∨ (A (7 + 3 * g)) = 5 by omega) with d4 | d4 | d4 | d4 | d4
        · refine V_tab (j := 1) (tgt := 88) e_X5_ofBehind_52 (congrArg nI d4) (by decide) (by decide +kernel) ?_
          refine V_iload e_X5_ofBehind_88 rfl ?_
          refine V_if_eq (tgt := 98) e_X5_ofBehind_90 (by decide) (fun c5 => ?_) (fun c5 => absurd c5 (by decide))
          refine V_iload_n e_X5_ofBehind_98 rfl rfl ?_
          exact V_iret e_X5_ofBehind_99 rfl (⟨rfl, by congr 1; unfold thr; rw [hFg]; (repeat' split) <;> omega⟩)
        · refine V_tab (j := 2) (tgt := 100) e_X5_ofBehind_52 (congrArg nI d4) (by decide) (by decide +kernel) ?_
          refine V_iload e_X5_ofBehind_100 rfl ?_
          refine V_if_eq (tgt := 112) e_X5_ofBehind_102 (by decide) (fun c6 => ?_) (fun c6 => absurd c6 (by decide))
          refine V_iload_n e_X5_ofBehind_112 rfl rfl ?_
          exact V_iret e_X5_ofBehind_113 rfl (⟨rfl, by congr 1; unfold thr; rw [hFg]; (repeat' split) <;> omega⟩)
        · refine V_tab (j := 3) (tgt := 114) e_X5_ofBehind_52 (congrArg nI d4) (by decide) (by decide +kernel) ?_
          refine V_iload e_X5_ofBehind_114 rfl ?_
          refine V_if_eq (tgt := 124) e_X5_ofBehind_116 (by decide) (fun c7 => ?_) (fun c7 => absurd c7 (by decide))
          refine V_iload_n e_X5_ofBehind_124 rfl rfl ?_
          refine V_iload e_X5_ofBehind_125 rfl ?_
          refine V_iconst (v := (-1)) e_X5_ofBehind_127 (by decide) ?_
          refine V_ixor e_X5_ofBehind_128 ?_
          refine V_iand e_X5_ofBehind_129 ?_
          refine V_topi (y := nI (bclr s g)) (clrI s hs g (by omega)) ?_
          exact V_iret e_X5_ofBehind_130 rfl (⟨rfl, by congr 1; unfold thr; rw [hFg]; (repeat' split) <;> omega⟩)
        · refine V_tab (j := 4) (tgt := 142) e_X5_ofBehind_52 (congrArg nI d4) (by decide) (by decide +kernel) ?_
          refine V_iload_n e_X5_ofBehind_142 rfl rfl ?_
          exact V_iret e_X5_ofBehind_143 rfl (⟨rfl, by congr 1; unfold thr; rw [hFg]; (repeat' split) <;> omega⟩)
        · refine V_tab (j := 5) (tgt := 131) e_X5_ofBehind_52 (congrArg nI d4) (by decide) (by decide +kernel) ?_
          refine V_iload e_X5_ofBehind_131 rfl ?_
          refine V_if_eq (tgt := 140) e_X5_ofBehind_133 (by decide) (fun c8 => ?_) (fun c8 => absurd c8 (by decide))
          refine V_iconst (v := nI 0) e_X5_ofBehind_140 (by decide) ?_
          exact V_iret e_X5_ofBehind_141 rfl (⟨rfl, by congr 1; unfold thr; rw [hFg]; (repeat' split) <;> omega⟩)
      · have d3 : gi = 0 := nq_eq (by omega) (by omega) c3
        refine V_iconst (v := nI 1) e_X5_ofBehind_39 (by decide) ?_
        refine V_goto (tgt := 44) e_X5_ofBehind_40 (by decide) ?_
        refine V_istore (L' := [some (.ref (eB E + n)), some (.int (nI g)), some (.int (nI gi)), some (.int (nI s)), some (.int (nI (2 ^ g))), some (.int (nI 1))]) e_X5_ofBehind_44 rfl ?_
        refine V_aload_n e_X5_ofBehind_46 rfl rfl ?_
        refine V_getr (r := n + 1) e_X5_ofBehind_47 F_X5_sorts f_X5_9 hn (rf5_7 hn) ?_
        refine V_iload_n e_X5_ofBehind_50 rfl rfl ?_
        refine V_ialdv (v := nI (A (7 + 3 * g))) (j := g) e_X5_ofBehind_51 (kd5_1 hn) rfl (by have q := ln5_1  hn; omega) ((egs g (by omega)).1) ?_
        rcases (show (A (7 + 3 * g)) = 1 ∨ (A (7 + 3 * g)) = 2 ∨ (A (7 + 3 * g)) = 3 ∨ (A (7 + 3 * g)) = 4 ∨ (A (7 + 3 * g)) = 5 by omega) with d9 | d9 | d9 | d9 | d9
        · refine V_tab (j := 1) (tgt := 88) e_X5_ofBehind_52 (congrArg nI d9) (by decide) (by decide +kernel) ?_
          refine V_iload e_X5_ofBehind_88 rfl ?_
          refine V_if_eq (tgt := 98) e_X5_ofBehind_90 (by decide) (fun c10 => absurd c10 (by decide)) (fun c10 => ?_)
          refine V_iload e_X5_ofBehind_93 rfl ?_
          refine V_goto (tgt := 99) e_X5_ofBehind_95 (by decide) ?_
          exact V_iret e_X5_ofBehind_99 rfl (⟨rfl, by congr 1; unfold thr; rw [hFg]; (repeat' split) <;> omega⟩)
        · refine V_tab (j := 2) (tgt := 100) e_X5_ofBehind_52 (congrArg nI d9) (by decide) (by decide +kernel) ?_
          refine V_iload e_X5_ofBehind_100 rfl ?_
          refine V_if_eq (tgt := 112) e_X5_ofBehind_102 (by decide) (fun c11 => absurd c11 (by decide)) (fun c11 => ?_)
          refine V_iload_n e_X5_ofBehind_105 rfl rfl ?_
          refine V_iload e_X5_ofBehind_106 rfl ?_
          refine V_iorN (z := nI (s ||| (2 ^ g))) e_X5_ofBehind_108 (lorI _ _) ?_
          refine V_goto (tgt := 113) e_X5_ofBehind_109 (by decide) ?_
          exact V_iret e_X5_ofBehind_113 rfl (⟨rfl, by congr 1; unfold thr; rw [hFg]; (repeat' split) <;> omega⟩)
        · refine V_tab (j := 3) (tgt := 114) e_X5_ofBehind_52 (congrArg nI d9) (by decide) (by decide +kernel) ?_
          refine V_iload e_X5_ofBehind_114 rfl ?_
          refine V_if_eq (tgt := 124) e_X5_ofBehind_116 (by decide) (fun c12 => absurd c12 (by decide)) (fun c12 => ?_)
          refine V_iload e_X5_ofBehind_119 rfl ?_
          refine V_goto (tgt := 130) e_X5_ofBehind_121 (by decide) ?_
          exact V_iret e_X5_ofBehind_130 rfl (⟨rfl, by congr 1; unfold thr; rw [hFg]; (repeat' split) <;> omega⟩)
        · refine V_tab (j := 4) (tgt := 142) e_X5_ofBehind_52 (congrArg nI d9) (by decide) (by decide +kernel) ?_
          refine V_iload_n e_X5_ofBehind_142 rfl rfl ?_
          exact V_iret e_X5_ofBehind_143 rfl (⟨rfl, by congr 1; unfold thr; rw [hFg]; (repeat' split) <;> omega⟩)
        · refine V_tab (j := 5) (tgt := 131) e_X5_ofBehind_52 (congrArg nI d9) (by decide) (by decide +kernel) ?_
          refine V_iload e_X5_ofBehind_131 rfl ?_
          refine V_if_eq (tgt := 140) e_X5_ofBehind_133 (by decide) (fun c13 => absurd c13 (by decide)) (fun c13 => ?_)
          refine V_iload_n e_X5_ofBehind_136 rfl rfl ?_
          refine V_goto (tgt := 141) e_X5_ofBehind_137 (by decide) ?_
          exact V_iret e_X5_ofBehind_141 rfl (⟨rfl, by congr 1; unfold thr; rw [hFg]; (repeat' split) <;> omega⟩)
    · have d2 : bitN F g = 0 := nq_eq (by omega) (by omega) c2
      refine V_iconst (v := nI 1) e_X5_ofBehind_31 (by decide) ?_
      refine V_goto (tgt := 36) e_X5_ofBehind_32 (by decide) ?_
      refine V_icmp_ne (tgt := 43) e_X5_ofBehind_36 (by decide) (fun c14 => ?_) (fun c14 => ?_)
      · have d14 : ¬ gi = 1 := nq_ne (by omega) (by omega) c14
        refine V_iconst (v := nI 0) e_X5_ofBehind_43 (by decide) ?_
        refine V_istore (L' := [some (.ref (eB E + n)), some (.int (nI g)), some (.int (nI gi)), some (.int (nI s)), some (.int (nI (2 ^ g))), some (.int (nI 0))]) e_X5_ofBehind_44 rfl ?_
        refine V_aload_n e_X5_ofBehind_46 rfl rfl ?_
        refine V_getr (r := n + 1) e_X5_ofBehind_47 F_X5_sorts f_X5_9 hn (rf5_7 hn) ?_
        refine V_iload_n e_X5_ofBehind_50 rfl rfl ?_
        refine V_ialdv (v := nI (A (7 + 3 * g))) (j := g) e_X5_ofBehind_51 (kd5_1 hn) rfl (by have q := ln5_1  hn; omega) ((egs g (by omega)).1) ?_
        rcases (show (A (7 + 3 * g)) = 1 ∨ (A (7 + 3 * g)) = 2 ∨ (A (7 + 3 * g)) = 3 ∨ (A (7 + 3 * g)) = 4 ∨ (A (7 + 3 * g)) = 5 by omega) with d15 | d15 | d15 | d15 | d15
        · refine V_tab (j := 1) (tgt := 88) e_X5_ofBehind_52 (congrArg nI d15) (by decide) (by decide +kernel) ?_
          refine V_iload e_X5_ofBehind_88 rfl ?_
          refine V_if_eq (tgt := 98) e_X5_ofBehind_90 (by decide) (fun c16 => ?_) (fun c16 => absurd c16 (by decide))
          refine V_iload_n e_X5_ofBehind_98 rfl rfl ?_
          exact V_iret e_X5_ofBehind_99 rfl (⟨rfl, by congr 1; unfold thr; rw [hFg]; (repeat' split) <;> omega⟩)
        · refine V_tab (j := 2) (tgt := 100) e_X5_ofBehind_52 (congrArg nI d15) (by decide) (by decide +kernel) ?_
          refine V_iload e_X5_ofBehind_100 rfl ?_
          refine V_if_eq (tgt := 112) e_X5_ofBehind_102 (by decide) (fun c17 => ?_) (fun c17 => absurd c17 (by decide))
          refine V_iload_n e_X5_ofBehind_112 rfl rfl ?_
          exact V_iret e_X5_ofBehind_113 rfl (⟨rfl, by congr 1; unfold thr; rw [hFg]; (repeat' split) <;> omega⟩)
        · refine V_tab (j := 3) (tgt := 114) e_X5_ofBehind_52 (congrArg nI d15) (by decide) (by decide +kernel) ?_
          refine V_iload e_X5_ofBehind_114 rfl ?_
          refine V_if_eq (tgt := 124) e_X5_ofBehind_116 (by decide) (fun c18 => ?_) (fun c18 => absurd c18 (by decide))
          refine V_iload_n e_X5_ofBehind_124 rfl rfl ?_
          refine V_iload e_X5_ofBehind_125 rfl ?_
          refine V_iconst (v := (-1)) e_X5_ofBehind_127 (by decide) ?_
          refine V_ixor e_X5_ofBehind_128 ?_
          refine V_iand e_X5_ofBehind_129 ?_
          refine V_topi (y := nI (bclr s g)) (clrI s hs g (by omega)) ?_
          exact V_iret e_X5_ofBehind_130 rfl (⟨rfl, by congr 1; unfold thr; rw [hFg]; (repeat' split) <;> omega⟩)
        · refine V_tab (j := 4) (tgt := 142) e_X5_ofBehind_52 (congrArg nI d15) (by decide) (by decide +kernel) ?_
          refine V_iload_n e_X5_ofBehind_142 rfl rfl ?_
          exact V_iret e_X5_ofBehind_143 rfl (⟨rfl, by congr 1; unfold thr; rw [hFg]; (repeat' split) <;> omega⟩)
        · refine V_tab (j := 5) (tgt := 131) e_X5_ofBehind_52 (congrArg nI d15) (by decide) (by decide +kernel) ?_
          refine V_iload e_X5_ofBehind_131 rfl ?_
          refine V_if_eq (tgt := 140) e_X5_ofBehind_133 (by decide) (fun c19 => ?_) (fun c19 => absurd c19 (by decide))
          refine V_iconst (v := nI 0) e_X5_ofBehind_140 (by decide) ?_
          exact V_iret e_X5_ofBehind_141 rfl (⟨rfl, by congr 1; unfold thr; rw [hFg]; (repeat' split) <;> omega⟩)
      · have d14 : gi = 1 := nq_eq (by omega) (by omega) c14
        refine V_iconst (v := nI 1) e_X5_ofBehind_39 (by decide) ?_
        refine V_goto (tgt := 44) e_X5_ofBehind_40 (by decide) ?_
        refine V_istore (L' := [some (.ref (eB E + n)), some (.int (nI g)), some (.int (nI gi)), some (.int (nI s)), some (.int (nI (2 ^ g))), some (.int (nI 1))]) e_X5_ofBehind_44 rfl ?_
        refine V_aload_n e_X5_ofBehind_46 rfl rfl ?_
        refine V_getr (r := n + 1) e_X5_ofBehind_47 F_X5_sorts f_X5_9 hn (rf5_7 hn) ?_
        refine V_iload_n e_X5_ofBehind_50 rfl rfl ?_
        refine V_ialdv (v := nI (A (7 + 3 * g))) (j := g) e_X5_ofBehind_51 (kd5_1 hn) rfl (by have q := ln5_1  hn; omega) ((egs g (by omega)).1) ?_
        rcases (show (A (7 + 3 * g)) = 1 ∨ (A (7 + 3 * g)) = 2 ∨ (A (7 + 3 * g)) = 3 ∨ (A (7 + 3 * g)) = 4 ∨ (A (7 + 3 * g)) = 5 by omega) with d20 | d20 | d20 | d20 | d20
        · refine V_tab (j := 1) (tgt := 88) e_X5_ofBehind_52 (congrArg nI d20) (by decide) (by decide +kernel) ?_
          refine V_iload e_X5_ofBehind_88 rfl ?_
          refine V_if_eq (tgt := 98) e_X5_ofBehind_90 (by decide) (fun c21 => absurd c21 (by decide)) (fun c21 => ?_)
          refine V_iload e_X5_ofBehind_93 rfl ?_
          refine V_goto (tgt := 99) e_X5_ofBehind_95 (by decide) ?_
          exact V_iret e_X5_ofBehind_99 rfl (⟨rfl, by congr 1; unfold thr; rw [hFg]; (repeat' split) <;> omega⟩)
        · refine V_tab (j := 2) (tgt := 100) e_X5_ofBehind_52 (congrArg nI d20) (by decide) (by decide +kernel) ?_
          refine V_iload e_X5_ofBehind_100 rfl ?_
          refine V_if_eq (tgt := 112) e_X5_ofBehind_102 (by decide) (fun c22 => absurd c22 (by decide)) (fun c22 => ?_)
          refine V_iload_n e_X5_ofBehind_105 rfl rfl ?_
          refine V_iload e_X5_ofBehind_106 rfl ?_
          refine V_iorN (z := nI (s ||| (2 ^ g))) e_X5_ofBehind_108 (lorI _ _) ?_
          refine V_goto (tgt := 113) e_X5_ofBehind_109 (by decide) ?_
          exact V_iret e_X5_ofBehind_113 rfl (⟨rfl, by congr 1; unfold thr; rw [hFg]; (repeat' split) <;> omega⟩)
        · refine V_tab (j := 3) (tgt := 114) e_X5_ofBehind_52 (congrArg nI d20) (by decide) (by decide +kernel) ?_
          refine V_iload e_X5_ofBehind_114 rfl ?_
          refine V_if_eq (tgt := 124) e_X5_ofBehind_116 (by decide) (fun c23 => absurd c23 (by decide)) (fun c23 => ?_)
          refine V_iload e_X5_ofBehind_119 rfl ?_
          refine V_goto (tgt := 130) e_X5_ofBehind_121 (by decide) ?_
          exact V_iret e_X5_ofBehind_130 rfl (⟨rfl, by congr 1; unfold thr; rw [hFg]; (repeat' split) <;> omega⟩)
        · refine V_tab (j := 4) (tgt := 142) e_X5_ofBehind_52 (congrArg nI d20) (by decide) (by decide +kernel) ?_
          refine V_iload_n e_X5_ofBehind_142 rfl rfl ?_
          exact V_iret e_X5_ofBehind_143 rfl (⟨rfl, by congr 1; unfold thr; rw [hFg]; (repeat' split) <;> omega⟩)
        · refine V_tab (j := 5) (tgt := 131) e_X5_ofBehind_52 (congrArg nI d20) (by decide) (by decide +kernel) ?_
          refine V_iload e_X5_ofBehind_131 rfl ?_
          refine V_if_eq (tgt := 140) e_X5_ofBehind_133 (by decide) (fun c24 => absurd c24 (by decide)) (fun c24 => ?_)
          refine V_iload_n e_X5_ofBehind_136 rfl rfl ?_
          refine V_goto (tgt := 141) e_X5_ofBehind_137 (by decide) ?_
          exact V_iret e_X5_ofBehind_141 rfl (⟨rfl, by congr 1; unfold thr; rw [hFg]; (repeat' split) <;> omega⟩)
  · have d1 : bitN (A 5) g = 1 := nq_eq (by omega) (by omega) c1
    refine V_iload_n e_X5_ofBehind_12 rfl rfl ?_
    exact V_iret e_X5_ofBehind_13 rfl (⟨rfl, by congr 1; unfold thr; rw [hFg]; (repeat' split) <;> omega⟩)
set_option maxRecDepth 100000 in
set_option maxHeartbeats 4000000 in
theorem c_X5_feedsFreely (E : En) (n g s : Nat) (A : Vec) (σ : Sg) (hn : kd n = 5) (hA : WE A) (hE : EnvC σ n A) (hg : g < A 0) (hs : s < 64) : Cn E m_X5_feedsFreely 2 [.ref (eB E + n), .int (nI g), .int (nI s)] σ (pI (fun σ' r => σ' = σ ∧ r = nI (fre A g s))) := by
  obtain ⟨hG2, hG6, h5, h5p, h2a, h2b, h3a, h3b, hgs⟩ := id hA
  obtain ⟨e0, e1, e2, e3, e4, e6, ⟨F, hF, e5, hFb⟩, egs⟩ := id hE
  refine Cn.of [some (.ref (eB E + n)), some (.int (nI g)), some (.int (nI s))] (by decide) (Nat.le_of_ble_eq_true rfl) rfl ?_
  have hkk := hgs g hg
  have hb1 := bitN_le (s ||| A 5) g
  have hor := or64 hs h5
  refine V_iload_n e_X5_feedsFreely_0 rfl rfl ?_
  refine V_aload_n e_X5_feedsFreely_1 rfl rfl ?_
  refine V_getiv (v := nI (A 5)) e_X5_feedsFreely_2 F_X5_fallen f_X5_38 hn e6 ?_
  refine V_iorN (z := nI (s ||| (A 5))) e_X5_feedsFreely_5 (lorI _ _) ?_
  refine V_iload_n e_X5_feedsFreely_6 rfl rfl ?_
  refine V_csNIe (av := [.int (nI (s ||| (A 5))), .int (nI g)]) (st := []) e_X5_feedsFreely_7 (c_X8_bitN E (s ||| (A 5)) g σ (by omega) (by omega)) l_X5_77 S_X8_bit (rm_ok (by decide) (by decide)) rfl rfl (Nat.le_of_ble_eq_true rfl) ?_
  refine V_iconst (v := nI 1) e_X5_feedsFreely_10 (by decide) ?_
  refine V_icmp_eq (tgt := 34) e_X5_feedsFreely_11 (by decide) (fun c1 => ?_) (fun c1 => ?_)
  · have d1 : bitN (s ||| (A 5)) g = 1 := nq_eq (by omega) (by omega) c1
    refine V_iconst (v := nI 1) e_X5_feedsFreely_34 (by decide) ?_
    refine V_goto (tgt := 39) e_X5_feedsFreely_35 (by decide) ?_
    exact V_zret e_X5_feedsFreely_39 rfl (by first | exact Or.inl nI_0 | exact Or.inr rfl | assumption) (⟨rfl, by congr 1; unfold fre; (repeat' split) <;> omega⟩)
  · have d1 : ¬ bitN (s ||| (A 5)) g = 1 := nq_ne (by omega) (by omega) c1
    refine V_aload_n e_X5_feedsFreely_14 rfl rfl ?_
    refine V_getr (r := n + 1) e_X5_feedsFreely_15 F_X5_sorts f_X5_9 hn (rf5_7 hn) ?_
    refine V_iload_n e_X5_feedsFreely_18 rfl rfl ?_
    refine V_ialdv (v := nI (A (7 + 3 * g))) (j := g) e_X5_feedsFreely_19 (kd5_1 hn) rfl (by have q := ln5_1  hn; omega) ((egs g (by omega)).1) ?_
    refine V_iconst (v := nI 4) e_X5_feedsFreely_20 (by decide) ?_
    refine V_icmp_eq (tgt := 34) e_X5_feedsFreely_21 (by decide) (fun c2 => ?_) (fun c2 => ?_)
    · have d2 : A (7 + 3 * g) = 4 := nq_eq (by omega) (by omega) c2
      refine V_iconst (v := nI 1) e_X5_feedsFreely_34 (by decide) ?_
      refine V_goto (tgt := 39) e_X5_feedsFreely_35 (by decide) ?_
      exact V_zret e_X5_feedsFreely_39 rfl (by first | exact Or.inl nI_0 | exact Or.inr rfl | assumption) (⟨rfl, by congr 1; unfold fre; (repeat' split) <;> omega⟩)
    · have d2 : ¬ A (7 + 3 * g) = 4 := nq_ne (by omega) (by omega) c2
      refine V_aload_n e_X5_feedsFreely_24 rfl rfl ?_
      refine V_getr (r := n + 1) e_X5_feedsFreely_25 F_X5_sorts f_X5_9 hn (rf5_7 hn) ?_
      refine V_iload_n e_X5_feedsFreely_28 rfl rfl ?_
      refine V_ialdv (v := nI (A (7 + 3 * g))) (j := g) e_X5_feedsFreely_29 (kd5_1 hn) rfl (by have q := ln5_1  hn; omega) ((egs g (by omega)).1) ?_
      refine V_iconst (v := nI 5) e_X5_feedsFreely_30 (by decide) ?_
      refine V_icmp_ne (tgt := 38) e_X5_feedsFreely_31 (by decide) (fun c3 => ?_) (fun c3 => ?_)
      · have d3 : ¬ A (7 + 3 * g) = 5 := nq_ne (by omega) (by omega) c3
        refine V_iconst (v := nI 0) e_X5_feedsFreely_38 (by decide) ?_
        exact V_zret e_X5_feedsFreely_39 rfl (by first | exact Or.inl nI_0 | exact Or.inr rfl | assumption) (⟨rfl, by congr 1; unfold fre; (repeat' split) <;> omega⟩)
      · have d3 : A (7 + 3 * g) = 5 := nq_eq (by omega) (by omega) c3
        refine V_iconst (v := nI 1) e_X5_feedsFreely_34 (by decide) ?_
        refine V_goto (tgt := 39) e_X5_feedsFreely_35 (by decide) ?_
        exact V_zret e_X5_feedsFreely_39 rfl (by first | exact Or.inl nI_0 | exact Or.inr rfl | assumption) (⟨rfl, by congr 1; unfold fre; (repeat' split) <;> omega⟩)

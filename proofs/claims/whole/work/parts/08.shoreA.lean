set_option maxRecDepth 100000 in
set_option maxHeartbeats 4000000 in
theorem c_X5_ofBehind (E : En) (n g gi s : Nat) (A : Vec) (σ : Sg) (hn : kd n = 5) (hA : WE A) (hE : EnvC σ n A) (hg : g < A 0) (hgi : gi ≤ 1) (hs : s < 64) : Cn E m_X5_ofBehind 2 [.ref (eB E + n), .int (nI g), .int (nI gi), .int (nI s)] σ (pI (fun σ' r => σ' = σ ∧ r = nI (thr A g gi s))) := by
  obtain ⟨hG2, hG6, h5, h5p, h2a, h2b, h3a, h3b, hgs⟩ := id hA
  obtain ⟨e0, e1, e2, e3, e4, e6, ⟨F, hF, e5, hFb⟩, egs⟩ := id hE
  refine Cn.of [some (.ref (eB E + n)), some (.int (nI g)), some (.int (nI gi)), some (.int (nI s)), none, none] (by decide) (Nat.le_of_ble_eq_true rfl) rfl ?_
  have hFg := hFb g hg
  have hkk := hgs g hg
  have hb1 := bitN_le (A 5) g
  have hb2 := bitN_le F g
  refine V_aload_n e_X5_ofBehind_0 rfl rfl ?_
  refine V_getiv (v := nI (A 5)) e_X5_ofBehind_1 F_X5_fallen f_X5_38 hn e6 ?_
  refine V_iload_n e_X5_ofBehind_4 rfl rfl ?_
  refine V_csNIe (av := [.int (nI (A 5)), .int (nI g)]) (st := []) e_X5_ofBehind_5 (c_X8_bitN E (A 5) g σ (by omega) (by omega)) l_X5_77 S_X8_bit (rm_ok (by decide) (by decide)) rfl rfl (Nat.le_of_ble_eq_true rfl) ?_
  refine V_iconst (v := nI 1) e_X5_ofBehind_8 (by decide) ?_
  refine V_icmp_ne (tgt := 14) e_X5_ofBehind_9 (by decide) (fun c1 => ?_) (fun c1 => ?_)
  · have d1 : ¬ bitN (A 5) g = 1 := nq_ne (by omega) (by omega) c1
    refine V_iconst (v := nI 1) e_X5_ofBehind_14 (by decide) ?_
    refine V_iload_n e_X5_ofBehind_15 rfl rfl ?_
    refine V_ishlN (z := nI (2 ^ g)) e_X5_ofBehind_16 (shl1 (by omega)) ?_
    refine V_istore (L' := [some (.ref (eB E + n)), some (.int (nI g)), some (.int (nI gi)), some (.int (nI s)), some (.int (nI (2 ^ g))), none]) e_X5_ofBehind_17 rfl ?_
    refine V_iload_n e_X5_ofBehind_19 rfl rfl ?_
    refine V_aload_n e_X5_ofBehind_20 rfl rfl ?_
    refine V_getiv (v := nI F) e_X5_ofBehind_21 F_X5_facing f_X5_35 hn e5 ?_
    refine V_iload_n e_X5_ofBehind_24 rfl rfl ?_
    refine V_csNIe (av := [.int (nI F), .int (nI g)]) (st := [.int (nI gi)]) e_X5_ofBehind_25 (c_X8_bitN E F g σ (by omega) (by omega)) l_X5_77 S_X8_bit (rm_ok (by decide) (by decide)) rfl rfl (Nat.le_of_ble_eq_true rfl) ?_
    refine V_if_ne (tgt := 35) e_X5_ofBehind_28 (by decide) (fun c2 => ?_) (fun c2 => ?_)
    · have d2 : ¬ bitN F g = 0 := nq_ne (by omega) (by omega) c2
      refine V_iconst (v := nI 0) e_X5_ofBehind_35 (by decide) ?_
      refine V_icmp_ne (tgt := 43) e_X5_ofBehind_36 (by decide) (fun c3 => ?_) (fun c3 => ?_)
      · have d3 : ¬ gi = 0 := nq_ne (by omega) (by omega) c3
        refine V_iconst (v := nI 0) e_X5_ofBehind_43 (by decide) ?_
        refine V_istore (L' := [some (.ref (eB E + n)), some (.int (nI g)), some (.int (nI gi)), some (.int (nI s)), some (.int (nI (2 ^ g))), some (.int (nI 0))]) e_X5_ofBehind_44 rfl ?_
        refine V_aload_n e_X5_ofBehind_46 rfl rfl ?_
        refine V_getr (r := n + 1) e_X5_ofBehind_47 F_X5_sorts f_X5_9 hn (rf5_7 hn) ?_
        refine V_iload_n e_X5_ofBehind_50 rfl rfl ?_
        refine V_ialdv (v := nI (A (7 + 3 * g))) (j := g) e_X5_ofBehind_51 (kd5_1 hn) rfl (by have q := ln5_1  hn; omega) ((egs g (by omega)).1) ?_
        rcases (show (A (7 + 3 * g)) = 1 ∨ (A (7 + 3 * g)) = 2 ∨ (A (7 + 3 * g)) = 3 ∨ (A (7 + 3 * g)) = 4 ∨ (A (7 + 3 * g)) = 5 by omega) with d4 | d4 | d4 | d4 | d4
        · refine V_tab (j := 1) (tgt := 88) e_X5_ofBehind_52 (congrArg nI d4) (by decide) (by decide +kernel) ?_
          refine V_iload e_X5_ofBehind_88 rfl ?_
          refine V_if_eq (tgt := 98) e_X5_ofBehind_90 (by decide) (fun c5 => ?_) (fun c5 => absurd c5 (by decide))
          refine V_iload_n e_X5_ofBehind_98 rfl rfl ?_
          exact V_iret e_X5_ofBehind_99 rfl (⟨rfl, by congr 1; unfold thr; rw [hFg]; (repeat' split) <;> omega⟩)
        · refine V_tab (j := 2) (tgt := 100) e_X5_ofBehind_52 (congrArg nI d4) (by decide) (by decide +kernel) ?_
          refine V_iload e_X5_ofBehind_100 rfl ?_
          refine V_if_eq (tgt := 112) e_X5_ofBehind_102 (by decide) (fun c6 => ?_) (fun c6 => absurd c6 (by decide))
          refine V_iload_n e_X5_ofBehind_112 rfl rfl ?_
          exact V_iret e_X5_ofBehind_113 rfl (⟨rfl, by congr 1; unfold thr; rw [hFg]; (repeat' split) <;> omega⟩)
        · refine V_tab (j := 3) (tgt := 114) e_X5_ofBehind_52 (congrArg nI d4) (by decide) (by decide +kernel) ?_
          refine V_iload e_X5_ofBehind_114 rfl ?_
          refine V_if_eq (tgt := 124) e_X5_ofBehind_116 (by decide) (fun c7 => ?_) (fun c7 => absurd c7 (by decide))
          refine V_iload_n e_X5_ofBehind_124 rfl rfl ?_
          refine V_iload e_X5_ofBehind_125 rfl ?_
          refine V_iconst (v := (-1)) e_X5_ofBehind_127 (by decide) ?_
          refine V_ixor e_X5_ofBehind_128 ?_
          refine V_iand e_X5_ofBehind_129 ?_
          refine V_topi (y := nI (bclr s g)) (clrI s hs g (by omega)) ?_
          exact V_iret e_X5_ofBehind_130 rfl (⟨rfl, by congr 1; unfold thr; rw [hFg]; (repeat' split) <;> omega⟩)
        · refine V_tab (j := 4) (tgt := 142) e_X5_ofBehind_52 (congrArg nI d4) (by decide) (by decide +kernel) ?_
          refine V_iload_n e_X5_ofBehind_142 rfl rfl ?_
          exact V_iret e_X5_ofBehind_143 rfl (⟨rfl, by congr 1; unfold thr; rw [hFg]; (repeat' split) <;> omega⟩)
        · refine V_tab (j := 5) (tgt := 131) e_X5_ofBehind_52 (congrArg nI d4) (by decide) (by decide +kernel) ?_
          refine V_iload e_X5_ofBehind_131 rfl ?_
          refine V_if_eq (tgt := 140) e_X5_ofBehind_133 (by decide) (fun c8 => ?_) (fun c8 => absurd c8 (by decide))
          refine V_iconst (v := nI 0) e_X5_ofBehind_140 (by decide) ?_
          exact V_iret e_X5_ofBehind_141 rfl (⟨rfl, by congr 1; unfold thr; rw [hFg]; (repeat' split) <;> omega⟩)
      · have d3 : gi = 0 := nq_eq (by omega) (by omega) c3
        refine V_iconst (v := nI 1) e_X5_ofBehind_39 (by decide) ?_
        refine V_goto (tgt := 44) e_X5_ofBehind_40 (by decide) ?_
        refine V_istore (L' := [some (.ref (eB E + n)), some (.int (nI g)), some (.int (nI gi)), some (.int (nI s)), some (.int (nI (2 ^ g))), some (.int (nI 1))]) e_X5_ofBehind_44 rfl ?_
        refine V_aload_n e_X5_ofBehind_46 rfl rfl ?_
        refine V_getr (r := n + 1) e_X5_ofBehind_47 F_X5_sorts f_X5_9 hn (rf5_7 hn) ?_
        refine V_iload_n e_X5_ofBehind_50 rfl rfl ?_
        refine V_ialdv (v := nI (A (7 + 3 * g))) (j := g) e_X5_ofBehind_51 (kd5_1 hn) rfl (by have q := ln5_1  hn; omega) ((egs g (by omega)).1) ?_
        rcases (show (A (7 + 3 * g)) = 1 ∨ (A (7 + 3 * g)) = 2 ∨ (A (7 + 3 * g)) = 3 ∨ (A (7 + 3 * g)) = 4 ∨ (A (7 + 3 * g)) = 5 by omega) with d9 | d9 | d9 | d9 | d9
        · refine V_tab (j := 1) (tgt := 88) e_X5_ofBehind_52 (congrArg nI d9) (by decide) (by decide +kernel) ?_
          refine V_iload e_X5_ofBehind_88 rfl ?_
          refine V_if_eq (tgt := 98) e_X5_ofBehind_90 (by decide) (fun c10 => absurd c10 (by decide)) (fun c10 => ?_)
          refine V_iload e_X5_ofBehind_93 rfl ?_
          refine V_goto (tgt := 99) e_X5_ofBehind_95 (by decide) ?_
          exact V_iret e_X5_ofBehind_99 rfl (⟨rfl, by congr 1; unfold thr; rw [hFg]; (repeat' split) <;> omega⟩)
        · refine V_tab (j := 2) (tgt := 100) e_X5_ofBehind_52 (congrArg nI d9) (by decide) (by decide +kernel) ?_
          refine V_iload e_X5_ofBehind_100 rfl ?_
          refine V_if_eq (tgt := 112) e_X5_ofBehind_102 (by decide) (fun c11 => absurd c11 (by decide)) (fun c11 => ?_)
          refine V_iload_n e_X5_ofBehind_105 rfl rfl ?_
          refine V_iload e_X5_ofBehind_106 rfl ?_
          refine V_iorN (z := nI (s ||| (2 ^ g))) e_X5_ofBehind_108 (lorI _ _) ?_
          refine V_goto (tgt := 113) e_X5_ofBehind_109 (by decide) ?_
          exact V_iret e_X5_ofBehind_113 rfl (⟨rfl, by congr 1; unfold thr; rw [hFg]; (repeat' split) <;> omega⟩)
        · refine V_tab (j := 3) (tgt := 114) e_X5_ofBehind_52 (congrArg nI d9) (by decide) (by decide +kernel) ?_
          refine V_iload e_X5_ofBehind_114 rfl ?_
          refine V_if_eq (tgt := 124) e_X5_ofBehind_116 (by decide) (fun c12 => absurd c12 (by decide)) (fun c12 => ?_)
          refine V_iload e_X5_ofBehind_119 rfl ?_
          refine V_goto (tgt := 130) e_X5_ofBehind_121 (by decide) ?_
          exact V_iret e_X5_ofBehind_130 rfl (⟨rfl, by congr 1; unfold thr; rw [hFg]; (repeat' split) <;> omega⟩)
        · refine V_tab (j := 4) (tgt := 142) e_X5_ofBehind_52 (congrArg nI d9) (by decide) (by decide +kernel) ?_
          refine V_iload_n e_X5_ofBehind_142 rfl rfl ?_
          exact V_iret e_X5_ofBehind_143 rfl (⟨rfl, by congr 1; unfold thr; rw [hFg]; (repeat' split) <;> omega⟩)
        · refine V_tab (j := 5) (tgt := 131) e_X5_ofBehind_52 (congrArg nI d9) (by decide) (by decide +kernel) ?_
          refine V_iload e_X5_ofBehind_131 rfl ?_
          refine V_if_eq (tgt := 140) e_X5_ofBehind_133 (by decide) (fun c13 => absurd c13 (by decide)) (fun c13 => ?_)
          refine V_iload_n e_X5_ofBehind_136 rfl rfl ?_
          refine V_goto (tgt := 141) e_X5_ofBehind_137 (by decide) ?_
          exact V_iret e_X5_ofBehind_141 rfl (⟨rfl, by congr 1; unfold thr; rw [hFg]; (repeat' split) <;> omega⟩)
    · have d2 : bitN F g = 0 := nq_eq (by omega) (by omega) c2
      refine V_iconst (v := nI 1) e_X5_ofBehind_31 (by decide) ?_
      refine V_goto (tgt := 36) e_X5_ofBehind_32 (by decide) ?_
      refine V_icmp_ne (tgt := 43) e_X5_ofBehind_36 (by decide) (fun c14 => ?_) (fun c14 => ?_)
      · have d14 : ¬ gi = 1 := nq_ne (by omega) (by omega) c14
        refine V_iconst (v := nI 0) e_X5_ofBehind_43 (by decide) ?_
        refine V_istore (L' := [some (.ref (eB E + n)), some (.int (nI g)), some (.int (nI gi)), some (.int (nI s)), some (.int (nI (2 ^ g))), some (.int (nI 0))]) e_X5_ofBehind_44 rfl ?_
        refine V_aload_n e_X5_ofBehind_46 rfl rfl ?_
        refine V_getr (r := n + 1) e_X5_ofBehind_47 F_X5_sorts f_X5_9 hn (rf5_7 hn) ?_
        refine V_iload_n e_X5_ofBehind_50 rfl rfl ?_
        refine V_ialdv (v := nI (A (7 + 3 * g))) (j := g) e_X5_ofBehind_51 (kd5_1 hn) rfl (by have q := ln5_1  hn; omega) ((egs g (by omega)).1) ?_
        rcases (show (A (7 + 3 * g)) = 1 ∨ (A (7 + 3 * g)) = 2 ∨ (A (7 + 3 * g)) = 3 ∨ (A (7 + 3 * g)) = 4 ∨ (A (7 + 3 * g)) = 5 by omega) with d15 | d15 | d15 | d15 | d15
        · refine V_tab (j := 1) (tgt := 88) e_X5_ofBehind_52 (congrArg nI d15) (by decide) (by decide +kernel) ?_
          refine V_iload e_X5_ofBehind_88 rfl ?_
          refine V_if_eq (tgt := 98) e_X5_ofBehind_90 (by decide) (fun c16 => ?_) (fun c16 => absurd c16 (by decide))
          refine V_iload_n e_X5_ofBehind_98 rfl rfl ?_
          exact V_iret e_X5_ofBehind_99 rfl (⟨rfl, by congr 1; unfold thr; rw [hFg]; (repeat' split) <;> omega⟩)
        · refine V_tab (j := 2) (tgt := 100) e_X5_ofBehind_52 (congrArg nI d15) (by decide) (by decide +kernel) ?_
          refine V_iload e_X5_ofBehind_100 rfl ?_
          refine V_if_eq (tgt := 112) e_X5_ofBehind_102 (by decide) (fun c17 => ?_) (fun c17 => absurd c17 (by decide))
          refine V_iload_n e_X5_ofBehind_112 rfl rfl ?_
          exact V_iret e_X5_ofBehind_113 rfl (⟨rfl, by congr 1; unfold thr; rw [hFg]; (repeat' split) <;> omega⟩)
        · refine V_tab (j := 3) (tgt := 114) e_X5_ofBehind_52 (congrArg nI d15) (by decide) (by decide +kernel) ?_
          refine V_iload e_X5_ofBehind_114 rfl ?_
          refine V_if_eq (tgt := 124) e_X5_ofBehind_116 (by decide) (fun c18 => ?_) (fun c18 => absurd c18 (by decide))
          refine V_iload_n e_X5_ofBehind_124 rfl rfl ?_
          refine V_iload e_X5_ofBehind_125 rfl ?_
          refine V_iconst (v := (-1)) e_X5_ofBehind_127 (by decide) ?_
          refine V_ixor e_X5_ofBehind_128 ?_
          refine V_iand e_X5_ofBehind_129 ?_
          refine V_topi (y := nI (bclr s g)) (clrI s hs g (by omega)) ?_
          exact V_iret e_X5_ofBehind_130 rfl (⟨rfl, by congr 1; unfold thr; rw [hFg]; (repeat' split) <;> omega⟩)
        · refine V_tab (j := 4) (tgt := 142) e_X5_ofBehind_52 (congrArg nI d15) (by decide) (by decide +kernel) ?_
          refine V_iload_n e_X5_ofBehind_142 rfl rfl ?_
          exact V_iret e_X5_ofBehind_143 rfl (⟨rfl, by congr 1; unfold thr; rw [hFg]; (repeat' split) <;> omega⟩)
        · refine V_tab (j := 5) (tgt := 131) e_X5_ofBehind_52 (congrArg nI d15) (by decide) (by decide +kernel) ?_
          refine V_iload e_X5_ofBehind_131 rfl ?_
          refine V_if_eq (tgt := 140) e_X5_ofBehind_133 (by decide) (fun c19 => ?_) (fun c19 => absurd c19 (by decide))
          refine V_iconst (v := nI 0) e_X5_ofBehind_140 (by decide) ?_
          exact V_iret e_X5_ofBehind_141 rfl (⟨rfl, by congr 1; unfold thr; rw [hFg]; (repeat' split) <;> omega⟩)
      · have d14 : gi = 1 := nq_eq (by omega) (by omega) c14
        refine V_iconst (v := nI 1) e_X5_ofBehind_39 (by decide) ?_
        refine V_goto (tgt := 44) e_X5_ofBehind_40 (by decide) ?_
        refine V_istore (L' := [some (.ref (eB E + n)), some (.int (nI g)), some (.int (nI gi)), some (.int (nI s)), some (.int (nI (2 ^ g))), some (.int (nI 1))]) e_X5_ofBehind_44 rfl ?_
        refine V_aload_n e_X5_ofBehind_46 rfl rfl ?_
        refine V_getr (r := n + 1) e_X5_ofBehind_47 F_X5_sorts f_X5_9 hn (rf5_7 hn) ?_
        refine V_iload_n e_X5_ofBehind_50 rfl rfl ?_
        refine V_ialdv (v := nI (A (7 + 3 * g))) (j := g) e_X5_ofBehind_51 (kd5_1 hn) rfl (by have q := ln5_1  hn; omega) ((egs g (by omega)).1) ?_
        rcases (show (A (7 + 3 * g)) = 1 ∨ (A (7 + 3 * g)) = 2 ∨ (A (7 + 3 * g)) = 3 ∨ (A (7 + 3 * g)) = 4 ∨ (A (7 + 3 * g)) = 5 by omega) with d20 | d20 | d20 | d20 | d20
        · refine V_tab (j := 1) (tgt := 88) e_X5_ofBehind_52 (congrArg nI d20) (by decide) (by decide +kernel) ?_
          refine V_iload e_X5_ofBehind_88 rfl ?_
          refine V_if_eq (tgt := 98) e_X5_ofBehind_90 (by decide) (fun c21 => absurd c21 (by decide)) (fun c21 => ?_)
          refine V_iload e_X5_ofBehind_93 rfl ?_
          refine V_goto (tgt := 99) e_X5_ofBehind_95 (by decide) ?_
          exact V_iret e_X5_ofBehind_99 rfl (⟨rfl, by congr 1; unfold thr; rw [hFg]; (repeat' split) <;> omega⟩)
        · refine V_tab (j := 2) (tgt := 100) e_X5_ofBehind_52 (congrArg nI d20) (by decide) (by decide +kernel) ?_
          refine V_iload e_X5_ofBehind_100 rfl ?_
          refine V_if_eq (tgt := 112) e_X5_ofBehind_102 (by decide) (fun c22 => absurd c22 (by decide)) (fun c22 => ?_)
          refine V_iload_n e_X5_ofBehind_105 rfl rfl ?_
          refine V_iload e_X5_ofBehind_106 rfl ?_
          refine V_iorN (z := nI (s ||| (2 ^ g))) e_X5_ofBehind_108 (lorI _ _) ?_
          refine V_goto (tgt := 113) e_X5_ofBehind_109 (by decide) ?_
          exact V_iret e_X5_ofBehind_113 rfl (⟨rfl, by congr 1; unfold thr; rw [hFg]; (repeat' split) <;> omega⟩)
        · refine V_tab (j := 3) (tgt := 114) e_X5_ofBehind_52 (congrArg nI d20) (by decide) (by decide +kernel) ?_
          refine V_iload e_X5_ofBehind_114 rfl ?_
          refine V_if_eq (tgt := 124) e_X5_ofBehind_116 (by decide) (fun c23 => absurd c23 (by decide)) (fun c23 => ?_)
          refine V_iload e_X5_ofBehind_119 rfl ?_
          refine V_goto (tgt := 130) e_X5_ofBehind_121 (by decide) ?_
          exact V_iret e_X5_ofBehind_130 rfl (⟨rfl, by congr 1; unfold thr; rw [hFg]; (repeat' split) <;> omega⟩)
        · refine V_tab (j := 4) (tgt := 142) e_X5_ofBehind_52 (congrArg nI d20) (by decide) (by decide +kernel) ?_
          refine V_iload_n e_X5_ofBehind_142 rfl rfl ?_
          exact V_iret e_X5_ofBehind_143 rfl (⟨rfl, by congr 1; unfold thr; rw [hFg]; (repeat' split) <;> omega⟩)
        · refine V_tab (j := 5) (tgt := 131) e_X5_ofBehind_52 (congrArg nI d20) (by decide) (by decide +kernel) ?_
          refine V_iload e_X5_ofBehind_131 rfl ?_
          refine V_if_eq (tgt := 140) e_X5_ofBehind_133 (by decide) (fun c24 => absurd c24 (by decide)) (fun c24 => ?_)
          refine V_iload_n e_X5_ofBehind_136 rfl rfl ?_
          refine V_goto (tgt := 141) e_X5_ofBehind_137 (by decide) ?_
          exact V_iret e_X5_ofBehind_141 rfl (⟨rfl, by congr 1; unfold thr; rw [hFg]; (repeat' split) <;> omega⟩)
  · have d1 : bitN (A 5) g = 1 := nq_eq (by omega) (by omega) c1
    refine V_iload_n e_X5_ofBehind_12 rfl rfl ?_
    exact V_iret e_X5_ofBehind_13 rfl (⟨rfl, by congr 1; unfold thr; rw [hFg]; (repeat' split) <;> omega⟩)
set_option maxRecDepth 100000 in
set_option maxHeartbeats 4000000 in
theorem c_X5_feedsFreely (E : En) (n g s : Nat) (A : Vec) (σ : Sg) (hn : kd n = 5) (hA : WE A) (hE : EnvC σ n A) (hg : g < A 0) (hs : s < 64) : Cn E m_X5_feedsFreely 2 [.ref (eB E + n), .int (nI g), .int (nI s)] σ (pI (fun σ' r => σ' = σ ∧ r = nI (fre A g s))) := by
  obtain ⟨hG2, hG6, h5, h5p, h2a, h2b, h3a, h3b, hgs⟩ := id hA
  obtain ⟨e0, e1, e2, e3, e4, e6, ⟨F, hF, e5, hFb⟩, egs⟩ := id hE
  refine Cn.of [some (.ref (eB E + n)), some (.int (nI g)), some (.int (nI s))] (by decide) (Nat.le_of_ble_eq_true rfl) rfl ?_
  have hkk := hgs g hg
  have hb1 := bitN_le (s ||| A 5) g
  have hor := or64 hs h5
  refine V_iload_n e_X5_feedsFreely_0 rfl rfl ?_
  refine V_aload_n e_X5_feedsFreely_1 rfl rfl ?_
  refine V_getiv (v := nI (A 5)) e_X5_feedsFreely_2 F_X5_fallen f_X5_38 hn e6 ?_
  refine V_iorN (z := nI (s ||| (A 5))) e_X5_feedsFreely_5 (lorI _ _) ?_
  refine V_iload_n e_X5_feedsFreely_6 rfl rfl ?_
  refine V_csNIe (av := [.int (nI (s ||| (A 5))), .int (nI g)]) (st := []) e_X5_feedsFreely_7 (c_X8_bitN E (s ||| (A 5)) g σ (by omega) (by omega)) l_X5_77 S_X8_bit (rm_ok (by decide) (by decide)) rfl rfl (Nat.le_of_ble_eq_true rfl) ?_
  refine V_iconst (v := nI 1) e_X5_feedsFreely_10 (by decide) ?_
  refine V_icmp_eq (tgt := 34) e_X5_feedsFreely_11 (by decide) (fun c1 => ?_) (fun c1 => ?_)
  · have d1 : bitN (s ||| (A 5)) g = 1 := nq_eq (by omega) (by omega) c1
    refine V_iconst (v := nI 1) e_X5_feedsFreely_34 (by decide) ?_
    refine V_goto (tgt := 39) e_X5_feedsFreely_35 (by decide) ?_
    exact V_zret e_X5_feedsFreely_39 rfl (by first | exact Or.inl nI_0 | exact Or.inr rfl | assumption) (⟨rfl, by congr 1; unfold fre; (repeat' split) <;> omega⟩)
  · have d1 : ¬ bitN (s ||| (A 5)) g = 1 := nq_ne (by omega) (by omega) c1
    refine V_aload_n e_X5_feedsFreely_14 rfl rfl ?_
    refine V_getr (r := n + 1) e_X5_feedsFreely_15 F_X5_sorts f_X5_9 hn (rf5_7 hn) ?_
    refine V_iload_n e_X5_feedsFreely_18 rfl rfl ?_
    refine V_ialdv (v := nI (A (7 + 3 * g))) (j := g) e_X5_feedsFreely_19 (kd5_1 hn) rfl (by have q := ln5_1  hn; omega) ((egs g (by omega)).1) ?_
    refine V_iconst (v := nI 4) e_X5_feedsFreely_20 (by decide) ?_
    refine V_icmp_eq (tgt := 34) e_X5_feedsFreely_21 (by decide) (fun c2 => ?_) (fun c2 => ?_)
    · have d2 : A (7 + 3 * g) = 4 := nq_eq (by omega) (by omega) c2
      refine V_iconst (v := nI 1) e_X5_feedsFreely_34 (by decide) ?_
      refine V_goto (tgt := 39) e_X5_feedsFreely_35 (by decide) ?_
      exact V_zret e_X5_feedsFreely_39 rfl (by first | exact Or.inl nI_0 | exact Or.inr rfl | assumption) (⟨rfl, by congr 1; unfold fre; (repeat' split) <;> omega⟩)
    · have d2 : ¬ A (7 + 3 * g) = 4 := nq_ne (by omega) (by omega) c2
      refine V_aload_n e_X5_feedsFreely_24 rfl rfl ?_
      refine V_getr (r := n + 1) e_X5_feedsFreely_25 F_X5_sorts f_X5_9 hn (rf5_7 hn) ?_
      refine V_iload_n e_X5_feedsFreely_28 rfl rfl ?_
      refine V_ialdv (v := nI (A (7 + 3 * g))) (j := g) e_X5_feedsFreely_29 (kd5_1 hn) rfl (by have q := ln5_1  hn; omega) ((egs g (by omega)).1) ?_
      refine V_iconst (v := nI 5) e_X5_feedsFreely_30 (by decide) ?_
      refine V_icmp_ne (tgt := 38) e_X5_feedsFreely_31 (by decide) (fun c3 => ?_) (fun c3 => ?_)
      · have d3 : ¬ A (7 + 3 * g) = 5 := nq_ne (by omega) (by omega) c3
        refine V_iconst (v := nI 0) e_X5_feedsFreely_38 (by decide) ?_
        exact V_zret e_X5_feedsFreely_39 rfl (by first | exact Or.inl nI_0 | exact Or.inr rfl | assumption) (⟨rfl, by congr 1; unfold fre; (repeat' split) <;> omega⟩)
      · have d3 : A (7 + 3 * g) = 5 := nq_eq (by omega) (by omega) c3
        refine V_iconst (v := nI 1) e_X5_feedsFreely_34 (by decide) ?_
        refine V_goto (tgt := 39) e_X5_feedsFreely_35 (by decide) ?_
        exact V_zret e_X5_feedsFreely_39 rfl (by first | exact Or.inl nI_0 | exact Or.inr rfl | assumption) (⟨rfl, by congr 1; unfold fre; (repeat' split) <;> omega⟩)
set_option maxRecDepth 100000 in
set_option maxHeartbeats 4000000 in
theorem c_X5_passGate (E : En) (n w : Nat) (A : Vec) (q : Pn) (σ : Sg) (hn : kd n = 5) (hA : WE A) (hE : EnvC σ n A) (hw : kd w = 7) (hq : Wk σ w q) (hP : WP A q) : Cn E m_X5_passGate 3 [.ref (eB E + n), .ref (eB E + w)] σ (pV (fun σ' => Wk σ' w (crossP A q) ∧ Fw σ σ' w)) := by
  obtain ⟨hG2, hG6, h5, h5p, h2a, h2b, h3a, h3b, hgs⟩ := id hA
  obtain ⟨e0, e1, e2, e3, e4, e6, ⟨F, hF, e5, hFb⟩, egs⟩ := id hE
  obtain ⟨q0, q5, q1, q2, q3, q4⟩ := id hq
  obtain ⟨p1, p2, p3, p4, p5⟩ := id hP
  have p36 := hP.of64 hG6
  refine Cn.of [some (.ref (eB E + n)), some (.ref (eB E + w))] (by decide) (Nat.le_of_ble_eq_true rfl) rfl ?_
  refine V_aload_n e_X5_passGate_0 rfl rfl ?_
  refine V_aload_n e_X5_passGate_1 rfl rfl ?_
  refine V_aload_n e_X5_passGate_2 rfl rfl ?_
  refine V_getiv (v := nI q.1) e_X5_passGate_3 F_X7_at f_X5_55 hw q0 ?_
  refine V_aload_n e_X5_passGate_6 rfl rfl ?_
  refine V_getiv (v := nI q.2.1) e_X5_passGate_7 F_X7_inside f_X5_70 hw q5 ?_
  refine V_if_ne (tgt := 17) e_X5_passGate_10 (by decide) (fun c1 => ?_) (fun c1 => ?_)
  · have d1 : ¬ q.2.1 = 0 := nq_ne (by omega) (by omega) c1
    have ein : q.2.1 = 1 := by omega
    refine V_iconst (v := nI 0) e_X5_passGate_17 (by decide) ?_
    refine V_aload_n e_X5_passGate_18 rfl rfl ?_
    refine V_getiv (v := nI q.2.2.1) e_X5_passGate_19 F_X7_of f_X5_58 hw q1 ?_
    refine V_cvIe (av := [.int (nI q.1), .int (nI 0), .int (nI q.2.2.1)]) (st := [.ref (eB E + w)]) e_X5_passGate_22 (c_X5_ofBehind E n q.1 0 q.2.2.1 A σ hn hA hE (by omega) (by omega) (by omega)) l_X5_81 S_X5_ofBehind hn (rm_ok (by decide) (by decide)) rfl rfl (Nat.le_of_ble_eq_true rfl) ?_
    refine V_puti e_X5_passGate_25 F_X7_of f_X5_58 hw ?_
    refine V_aload_n e_X5_passGate_28 rfl rfl ?_
    refine V_aload_n e_X5_passGate_29 rfl rfl ?_
    refine V_getiv (v := nI q.2.1) e_X5_passGate_30 F_X7_inside f_X5_70 hw (by simp [up2, q5]) ?_
    refine V_if_ne (tgt := 40) e_X5_passGate_33 (by decide) (fun c2 => ?_) (fun c2 => absurd c2 (by rw [ein]; decide))
    refine V_iconst (v := nI 0) e_X5_passGate_40 (by decide) ?_
    refine V_putz e_X5_passGate_41 F_X7_inside f_X5_70 hw (by first | exact Or.inl nI_0 | exact Or.inl rfl | exact Or.inr rfl | assumption) ?_
    exact V_vret e_X5_passGate_44 rfl (⟨by unfold crossP; rw [ein]; refine ⟨?_, ?_, ?_, ?_, ?_, ?_⟩ <;> simp [up2, q0, q1, q2, q3, q4, q5], (Fw.rf.up (by decide)).up (by decide)⟩)
  · have d1 : q.2.1 = 0 := nq_eq (by omega) (by omega) c1
    have ein : q.2.1 = 0 := by omega
    refine V_iconst (v := nI 1) e_X5_passGate_13 (by decide) ?_
    refine V_goto (tgt := 18) e_X5_passGate_14 (by decide) ?_
    refine V_aload_n e_X5_passGate_18 rfl rfl ?_
    refine V_getiv (v := nI q.2.2.1) e_X5_passGate_19 F_X7_of f_X5_58 hw q1 ?_
    refine V_cvIe (av := [.int (nI q.1), .int (nI 1), .int (nI q.2.2.1)]) (st := [.ref (eB E + w)]) e_X5_passGate_22 (c_X5_ofBehind E n q.1 1 q.2.2.1 A σ hn hA hE (by omega) (by omega) (by omega)) l_X5_81 S_X5_ofBehind hn (rm_ok (by decide) (by decide)) rfl rfl (Nat.le_of_ble_eq_true rfl) ?_
    refine V_puti e_X5_passGate_25 F_X7_of f_X5_58 hw ?_
    refine V_aload_n e_X5_passGate_28 rfl rfl ?_
    refine V_aload_n e_X5_passGate_29 rfl rfl ?_
    refine V_getiv (v := nI q.2.1) e_X5_passGate_30 F_X7_inside f_X5_70 hw (by simp [up2, q5]) ?_
    refine V_if_ne (tgt := 40) e_X5_passGate_33 (by decide) (fun c3 => absurd c3 (by rw [ein]; decide)) (fun c3 => ?_)
    refine V_iconst (v := nI 1) e_X5_passGate_36 (by decide) ?_
    refine V_goto (tgt := 41) e_X5_passGate_37 (by decide) ?_
    refine V_putz e_X5_passGate_41 F_X7_inside f_X5_70 hw (by first | exact Or.inl nI_0 | exact Or.inl rfl | exact Or.inr rfl | assumption) ?_
    exact V_vret e_X5_passGate_44 rfl (⟨by unfold crossP; rw [ein]; refine ⟨?_, ?_, ?_, ?_, ?_, ?_⟩ <;> simp [up2, q0, q1, q2, q3, q4, q5], (Fw.rf.up (by decide)).up (by decide)⟩)
set_option maxRecDepth 100000 in
set_option maxHeartbeats 4000000 in
theorem c_X5_walkOn (E : En) (n w : Nat) (A : Vec) (q : Pn) (σ : Sg) (hn : kd n = 5) (hA : WE A) (hE : EnvC σ n A) (hw : kd w = 7) (hq : Wk σ w q) (hP : WP A q) : Cn E m_X5_walkOn 3 [.ref (eB E + n), .ref (eB E + w)] σ (pV (fun σ' => Wk σ' w (walkP A q) ∧ Fw σ σ' w)) := by
  obtain ⟨hG2, hG6, h5, h5p, h2a, h2b, h3a, h3b, hgs⟩ := id hA
  obtain ⟨e0, e1, e2, e3, e4, e6, ⟨F, hF, e5, hFb⟩, egs⟩ := id hE
  obtain ⟨q0, q5, q1, q2, q3, q4⟩ := id hq
  obtain ⟨p1, p2, p3, p4, p5⟩ := id hP
  have p36 := hP.of64 hG6
  refine Cn.of [some (.ref (eB E + n)), some (.ref (eB E + w)), none] (by decide) (Nat.le_of_ble_eq_true rfl) rfl ?_
  refine V_aload_n e_X5_walkOn_0 rfl rfl ?_
  refine V_getiv (v := nI q.2.2.2.1) e_X5_walkOn_1 F_X7_heading f_X5_61 hw q2 ?_
  refine V_iconst (v := nI 1) e_X5_walkOn_4 (by decide) ?_
  refine V_icmp_ne (tgt := 17) e_X5_walkOn_5 (by decide) (fun c1 => ?_) (fun c1 => ?_)
  · have d1 : ¬ q.2.2.2.1 = 1 := nq_ne (by omega) (by omega) c1
    refine V_iconst (v := nI 0) e_X5_walkOn_17 (by decide) ?_
    refine V_istore_n (L' := [some (.ref (eB E + n)), some (.ref (eB E + w)), some (.int (nI 0))]) e_X5_walkOn_18 rfl rfl ?_
    refine V_aload_n e_X5_walkOn_19 rfl rfl ?_
    refine V_getiv (v := nI q.1) e_X5_walkOn_20 F_X7_at f_X5_55 hw q0 ?_
    refine V_iload_n e_X5_walkOn_23 rfl rfl ?_
    refine V_icmp_ne (tgt := 37) e_X5_walkOn_24 (by decide) (fun c2 => ?_) (fun c2 => ?_)
    · have d2 : ¬ q.1 = 0 := nq_ne (by omega) (by omega) c2
      refine V_aload_n e_X5_walkOn_37 rfl rfl ?_
      refine V_dup e_X5_walkOn_38 rfl ?_
      refine V_getiv (v := nI q.1) e_X5_walkOn_39 F_X7_at f_X5_55 hw q0 ?_
      refine V_aload_n e_X5_walkOn_42 rfl rfl ?_
      refine V_getiv (v := nI q.2.2.2.1) e_X5_walkOn_43 F_X7_heading f_X5_61 hw q2 ?_
      refine V_iconst (v := nI 1) e_X5_walkOn_46 (by decide) ?_
      refine V_icmp_ne (tgt := 54) e_X5_walkOn_47 (by decide) (fun c3 => ?_) (fun c3 => ?_)
      · have d3 : ¬ q.2.2.2.1 = 1 := nq_ne (by omega) (by omega) c3
        refine V_iconst (v := (-1)) e_X5_walkOn_54 (by decide) ?_
        refine V_iadd e_X5_walkOn_55 ?_
        refine V_topi (y := nI (q.1 - 1)) (sub1 (by omega)) ?_
        refine V_puti e_X5_walkOn_56 F_X7_at f_X5_55 hw ?_
        exact V_vret e_X5_walkOn_59 rfl (by first | (exfalso; omega) | exact ⟨by unfold walkP; (repeat' split) <;> first | (exfalso; omega) | (refine ⟨?_, ?_, ?_, ?_, ?_, ?_⟩ <;> simp [up2, q0, q1, q2, q3, q4, q5] <;> (congr 1 <;> omega)), by first | exact (Fw.rf.up (by decide)).up (by decide) | exact Fw.rf.up (by decide)⟩)
      · have d3 : q.2.2.2.1 = 1 := nq_eq (by omega) (by omega) c3
        refine V_iconst (v := nI 1) e_X5_walkOn_50 (by decide) ?_
        refine V_goto (tgt := 55) e_X5_walkOn_51 (by decide) ?_
        refine V_iaddN (z := nI (q.1 + 1)) e_X5_walkOn_55 (nI_add _ _) ?_
        refine V_puti e_X5_walkOn_56 F_X7_at f_X5_55 hw ?_
        exact V_vret e_X5_walkOn_59 rfl (by first | (exfalso; omega) | exact ⟨by unfold walkP; (repeat' split) <;> first | (exfalso; omega) | (refine ⟨?_, ?_, ?_, ?_, ?_, ?_⟩ <;> simp [up2, q0, q1, q2, q3, q4, q5] <;> (congr 1 <;> omega)), by first | exact (Fw.rf.up (by decide)).up (by decide) | exact Fw.rf.up (by decide)⟩)
    · have d2 : q.1 = 0 := nq_eq (by omega) (by omega) c2
      refine V_aload_n e_X5_walkOn_27 rfl rfl ?_
      refine V_iconst (v := nI 1) e_X5_walkOn_28 (by decide) ?_
      refine V_aload_n e_X5_walkOn_29 rfl rfl ?_
      refine V_getiv (v := nI q.2.2.2.1) e_X5_walkOn_30 F_X7_heading f_X5_61 hw q2 ?_
      refine V_isubN (z := nI (1 - q.2.2.2.1)) e_X5_walkOn_33 (pk_sub (by omega)) ?_
      refine V_puti e_X5_walkOn_34 F_X7_heading f_X5_61 hw ?_
      refine V_aload_n e_X5_walkOn_37 rfl rfl ?_
      refine V_dup e_X5_walkOn_38 rfl ?_
      refine V_getiv (v := nI q.1) e_X5_walkOn_39 F_X7_at f_X5_55 hw (by simp [up2, q0]) ?_
      refine V_aload_n e_X5_walkOn_42 rfl rfl ?_
      refine V_getiv (v := nI (1 - q.2.2.2.1)) e_X5_walkOn_43 F_X7_heading f_X5_61 hw (by simp [up2]) ?_
      refine V_iconst (v := nI 1) e_X5_walkOn_46 (by decide) ?_
      refine V_icmp_ne (tgt := 54) e_X5_walkOn_47 (by decide) (fun c4 => ?_) (fun c4 => ?_)
      · have d4 : ¬ 1 - q.2.2.2.1 = 1 := nq_ne (by omega) (by omega) c4
        refine V_iconst (v := (-1)) e_X5_walkOn_54 (by decide) ?_
        refine V_iadd e_X5_walkOn_55 ?_
        refine V_topi (y := nI (q.1 - 1)) (sub1 (by omega)) ?_
        refine V_puti e_X5_walkOn_56 F_X7_at f_X5_55 hw ?_
        exact V_vret e_X5_walkOn_59 rfl (by first | (exfalso; omega) | exact ⟨by unfold walkP; (repeat' split) <;> first | (exfalso; omega) | (refine ⟨?_, ?_, ?_, ?_, ?_, ?_⟩ <;> simp [up2, q0, q1, q2, q3, q4, q5] <;> (congr 1 <;> omega)), by first | exact (Fw.rf.up (by decide)).up (by decide) | exact Fw.rf.up (by decide)⟩)
      · have d4 : 1 - q.2.2.2.1 = 1 := nq_eq (by omega) (by omega) c4
        refine V_iconst (v := nI 1) e_X5_walkOn_50 (by decide) ?_
        refine V_goto (tgt := 55) e_X5_walkOn_51 (by decide) ?_
        refine V_iaddN (z := nI (q.1 + 1)) e_X5_walkOn_55 (nI_add _ _) ?_
        refine V_puti e_X5_walkOn_56 F_X7_at f_X5_55 hw ?_
        exact V_vret e_X5_walkOn_59 rfl (by first | (exfalso; omega) | exact ⟨by unfold walkP; (repeat' split) <;> first | (exfalso; omega) | (refine ⟨?_, ?_, ?_, ?_, ?_, ?_⟩ <;> simp [up2, q0, q1, q2, q3, q4, q5] <;> (congr 1 <;> omega)), by first | exact (Fw.rf.up (by decide)).up (by decide) | exact Fw.rf.up (by decide)⟩)
  · have d1 : q.2.2.2.1 = 1 := nq_eq (by omega) (by omega) c1
    refine V_aload_n e_X5_walkOn_8 rfl rfl ?_
    refine V_getiv (v := nI (A 0)) e_X5_walkOn_9 F_X5_gates f_X5_29 hn e3 ?_
    refine V_iconst (v := nI 1) e_X5_walkOn_12 (by decide) ?_
    refine V_isubN (z := nI (A 0 - 1)) e_X5_walkOn_13 (pk_sub (by omega)) ?_
    refine V_goto (tgt := 18) e_X5_walkOn_14 (by decide) ?_
    refine V_istore_n (L' := [some (.ref (eB E + n)), some (.ref (eB E + w)), some (.int (nI (A 0 - 1)))]) e_X5_walkOn_18 rfl rfl ?_
    refine V_aload_n e_X5_walkOn_19 rfl rfl ?_
    refine V_getiv (v := nI q.1) e_X5_walkOn_20 F_X7_at f_X5_55 hw q0 ?_
    refine V_iload_n e_X5_walkOn_23 rfl rfl ?_
    refine V_icmp_ne (tgt := 37) e_X5_walkOn_24 (by decide) (fun c5 => ?_) (fun c5 => ?_)
    · have d5 : ¬ q.1 = A 0 - 1 := nq_ne (by omega) (by omega) c5
      refine V_aload_n e_X5_walkOn_37 rfl rfl ?_
      refine V_dup e_X5_walkOn_38 rfl ?_
      refine V_getiv (v := nI q.1) e_X5_walkOn_39 F_X7_at f_X5_55 hw q0 ?_
      refine V_aload_n e_X5_walkOn_42 rfl rfl ?_
      refine V_getiv (v := nI q.2.2.2.1) e_X5_walkOn_43 F_X7_heading f_X5_61 hw q2 ?_
      refine V_iconst (v := nI 1) e_X5_walkOn_46 (by decide) ?_
      refine V_icmp_ne (tgt := 54) e_X5_walkOn_47 (by decide) (fun c6 => ?_) (fun c6 => ?_)
      · have d6 : ¬ q.2.2.2.1 = 1 := nq_ne (by omega) (by omega) c6
        refine V_iconst (v := (-1)) e_X5_walkOn_54 (by decide) ?_
        refine V_iadd e_X5_walkOn_55 ?_
        refine V_topi (y := nI (q.1 - 1)) (sub1 (by omega)) ?_
        refine V_puti e_X5_walkOn_56 F_X7_at f_X5_55 hw ?_
        exact V_vret e_X5_walkOn_59 rfl (by first | (exfalso; omega) | exact ⟨by unfold walkP; (repeat' split) <;> first | (exfalso; omega) | (refine ⟨?_, ?_, ?_, ?_, ?_, ?_⟩ <;> simp [up2, q0, q1, q2, q3, q4, q5] <;> (congr 1 <;> omega)), by first | exact (Fw.rf.up (by decide)).up (by decide) | exact Fw.rf.up (by decide)⟩)
      · have d6 : q.2.2.2.1 = 1 := nq_eq (by omega) (by omega) c6
        refine V_iconst (v := nI 1) e_X5_walkOn_50 (by decide) ?_
        refine V_goto (tgt := 55) e_X5_walkOn_51 (by decide) ?_
        refine V_iaddN (z := nI (q.1 + 1)) e_X5_walkOn_55 (nI_add _ _) ?_
        refine V_puti e_X5_walkOn_56 F_X7_at f_X5_55 hw ?_
        exact V_vret e_X5_walkOn_59 rfl (by first | (exfalso; omega) | exact ⟨by unfold walkP; (repeat' split) <;> first | (exfalso; omega) | (refine ⟨?_, ?_, ?_, ?_, ?_, ?_⟩ <;> simp [up2, q0, q1, q2, q3, q4, q5] <;> (congr 1 <;> omega)), by first | exact (Fw.rf.up (by decide)).up (by decide) | exact Fw.rf.up (by decide)⟩)
    · have d5 : q.1 = A 0 - 1 := nq_eq (by omega) (by omega) c5
      refine V_aload_n e_X5_walkOn_27 rfl rfl ?_
      refine V_iconst (v := nI 1) e_X5_walkOn_28 (by decide) ?_
      refine V_aload_n e_X5_walkOn_29 rfl rfl ?_
      refine V_getiv (v := nI q.2.2.2.1) e_X5_walkOn_30 F_X7_heading f_X5_61 hw q2 ?_
      refine V_isubN (z := nI (1 - q.2.2.2.1)) e_X5_walkOn_33 (pk_sub (by omega)) ?_
      refine V_puti e_X5_walkOn_34 F_X7_heading f_X5_61 hw ?_
      refine V_aload_n e_X5_walkOn_37 rfl rfl ?_
      refine V_dup e_X5_walkOn_38 rfl ?_
      refine V_getiv (v := nI q.1) e_X5_walkOn_39 F_X7_at f_X5_55 hw (by simp [up2, q0]) ?_
      refine V_aload_n e_X5_walkOn_42 rfl rfl ?_
      refine V_getiv (v := nI (1 - q.2.2.2.1)) e_X5_walkOn_43 F_X7_heading f_X5_61 hw (by simp [up2]) ?_
      refine V_iconst (v := nI 1) e_X5_walkOn_46 (by decide) ?_
      refine V_icmp_ne (tgt := 54) e_X5_walkOn_47 (by decide) (fun c7 => ?_) (fun c7 => ?_)
      · have d7 : ¬ 1 - q.2.2.2.1 = 1 := nq_ne (by omega) (by omega) c7
        refine V_iconst (v := (-1)) e_X5_walkOn_54 (by decide) ?_
        refine V_iadd e_X5_walkOn_55 ?_
        refine V_topi (y := nI (q.1 - 1)) (sub1 (by omega)) ?_
        refine V_puti e_X5_walkOn_56 F_X7_at f_X5_55 hw ?_
        exact V_vret e_X5_walkOn_59 rfl (by first | (exfalso; omega) | exact ⟨by unfold walkP; (repeat' split) <;> first | (exfalso; omega) | (refine ⟨?_, ?_, ?_, ?_, ?_, ?_⟩ <;> simp [up2, q0, q1, q2, q3, q4, q5] <;> (congr 1 <;> omega)), by first | exact (Fw.rf.up (by decide)).up (by decide) | exact Fw.rf.up (by decide)⟩)
      · have d7 : 1 - q.2.2.2.1 = 1 := nq_eq (by omega) (by omega) c7
        refine V_iconst (v := nI 1) e_X5_walkOn_50 (by decide) ?_
        refine V_goto (tgt := 55) e_X5_walkOn_51 (by decide) ?_
        refine V_iaddN (z := nI (q.1 + 1)) e_X5_walkOn_55 (nI_add _ _) ?_
        refine V_puti e_X5_walkOn_56 F_X7_at f_X5_55 hw ?_
        exact V_vret e_X5_walkOn_59 rfl (by first | (exfalso; omega) | exact ⟨by unfold walkP; (repeat' split) <;> first | (exfalso; omega) | (refine ⟨?_, ?_, ?_, ?_, ?_, ?_⟩ <;> simp [up2, q0, q1, q2, q3, q4, q5] <;> (congr 1 <;> omega)), by first | exact (Fw.rf.up (by decide)).up (by decide) | exact Fw.rf.up (by decide)⟩)
set_option maxRecDepth 100000 in
set_option maxHeartbeats 4000000 in
theorem c_X5_dine (E : En) (n w : Nat) (A : Vec) (q : Pn) (σ : Sg) (hn : kd n = 5) (hA : WE A) (hE : EnvC σ n A) (hw : kd w = 7) (hq : Wk σ w q) (hP : WP A q) (hnw : n ≠ w) : Cn E m_X5_dine 3 [.ref (eB E + n), .ref (eB E + w)] σ (pI (fun σ' r => (Wk σ' w (eatP A q) ∧ Fw σ σ' w) ∧ r = nI (fedP A q))) := by
  obtain ⟨hG2, hG6, h5, h5p, h2a, h2b, h3a, h3b, hgs⟩ := id hA
  obtain ⟨e0, e1, e2, e3, e4, e6, ⟨F, hF, e5, hFb⟩, egs⟩ := id hE
  obtain ⟨q0, q5, q1, q2, q3, q4⟩ := id hq
  obtain ⟨p1, p2, p3, p4, p5⟩ := id hP
  have p36 := hP.of64 hG6
  refine Cn.of [some (.ref (eB E + n)), some (.ref (eB E + w))] (by decide) (Nat.le_of_ble_eq_true rfl) rfl ?_
  have hfr := fre_le A q.1 q.2.2.1
  refine V_aload_n e_X5_dine_0 rfl rfl ?_
  refine V_aload_n e_X5_dine_1 rfl rfl ?_
  refine V_getiv (v := nI q.1) e_X5_dine_2 F_X7_at f_X5_55 hw q0 ?_
  refine V_aload_n e_X5_dine_5 rfl rfl ?_
  refine V_getiv (v := nI q.2.2.1) e_X5_dine_6 F_X7_of f_X5_58 hw q1 ?_
  refine V_cvIe (av := [.int (nI q.1), .int (nI q.2.2.1)]) (st := []) e_X5_dine_9 (c_X5_feedsFreely E n q.1 q.2.2.1 A σ hn hA hE (by omega) (by omega)) l_X5_98 S_X5_feedsFreely hn (rm_ok (by decide) (by decide)) rfl rfl (Nat.le_of_ble_eq_true rfl) ?_
  refine V_if_eq (tgt := 35) e_X5_dine_12 (by decide) (fun c1 => ?_) (fun c1 => ?_)
  · have d1 : fre A q.1 q.2.2.1 = 0 := nq_eq (by omega) (by omega) c1
    refine V_aload_n e_X5_dine_35 rfl rfl ?_
    refine V_getiv (v := nI q.2.2.2.2.1) e_X5_dine_36 F_X7_fish f_X5_64 hw q3 ?_
    refine V_aload_n e_X5_dine_39 rfl rfl ?_
    refine V_getiv (v := nI (A 3)) e_X5_dine_40 F_X5_toll f_X5_44 hn e1 ?_
    refine V_icmp_lt (tgt := 61) e_X5_dine_43 (by decide) (fun c2 => ?_) (fun c2 => ?_)
    · have d2 : q.2.2.2.2.1 < A 3 := nq_lt (by omega) (by omega) c2
      refine V_aload_n e_X5_dine_61 rfl rfl ?_
      refine V_dup e_X5_dine_62 rfl ?_
      refine V_getiv (v := nI q.2.2.2.2.2) e_X5_dine_63 F_X7_hunger f_X5_67 hw q4 ?_
      refine V_iconst (v := nI 1) e_X5_dine_66 (by decide) ?_
      refine V_iaddN (z := nI (q.2.2.2.2.2 + 1)) e_X5_dine_67 (nI_add _ _) ?_
      refine V_puti e_X5_dine_68 F_X7_hunger f_X5_67 hw ?_
      refine V_iconst (v := nI 0) e_X5_dine_71 (by decide) ?_
      exact V_zret e_X5_dine_72 rfl (by first | exact Or.inl nI_0 | exact Or.inr rfl | assumption) (by first | (exfalso; omega) | exact ⟨⟨by unfold eatP; (repeat' split) <;> first | (exfalso; omega) | (refine ⟨?_, ?_, ?_, ?_, ?_, ?_⟩ <;> simp [up2, q0, q1, q2, q3, q4, q5]), by exact Fw.rf.up (by decide)⟩, by congr 1; unfold fedP; (repeat' split) <;> omega⟩)
    · have d2 : ¬ q.2.2.2.2.1 < A 3 := nq_nlt (by omega) (by omega) c2
      refine V_aload_n e_X5_dine_46 rfl rfl ?_
      refine V_dup e_X5_dine_47 rfl ?_
      refine V_getiv (v := nI q.2.2.2.2.1) e_X5_dine_48 F_X7_fish f_X5_64 hw q3 ?_
      refine V_aload_n e_X5_dine_51 rfl rfl ?_
      refine V_getiv (v := nI (A 3)) e_X5_dine_52 F_X5_toll f_X5_44 hn e1 ?_
      refine V_isubN (z := nI (q.2.2.2.2.1 - (A 3))) e_X5_dine_55 (pk_sub (by omega)) ?_
      refine V_puti e_X5_dine_56 F_X7_fish f_X5_64 hw ?_
      refine V_iconst (v := nI 1) e_X5_dine_59 (by decide) ?_
      exact V_zret e_X5_dine_60 rfl (by first | exact Or.inl nI_0 | exact Or.inr rfl | assumption) (by first | (exfalso; omega) | exact ⟨⟨by unfold eatP; (repeat' split) <;> first | (exfalso; omega) | (refine ⟨?_, ?_, ?_, ?_, ?_, ?_⟩ <;> simp [up2, q0, q1, q2, q3, q4, q5]), by exact Fw.rf.up (by decide)⟩, by congr 1; unfold fedP; (repeat' split) <;> omega⟩)
  · have d1 : ¬ fre A q.1 q.2.2.1 = 0 := nq_ne (by omega) (by omega) c1
    refine V_aload_n e_X5_dine_15 rfl rfl ?_
    refine V_bipush (v := nI 99) e_X5_dine_16 (by decide) ?_
    refine V_aload_n e_X5_dine_18 rfl rfl ?_
    refine V_getiv (v := nI q.2.2.2.2.1) e_X5_dine_19 F_X7_fish f_X5_64 hw q3 ?_
    refine V_aload_n e_X5_dine_22 rfl rfl ?_
    refine V_getiv (v := nI (A 2)) e_X5_dine_23 F_X5_dinner f_X5_41 hn e0 ?_
    refine V_iaddN (z := nI (q.2.2.2.2.1 + (A 2))) e_X5_dine_26 (nI_add _ _) ?_
    refine V_mmin e_X5_dine_27 l_X5_102 (rm_ok (by decide) (by decide)) (Nat.le_of_ble_eq_true rfl) ?_
    rw [show (if nI (q.2.2.2.2.1 + (A 2)) < nI 99 then nI (q.2.2.2.2.1 + (A 2)) else nI 99) = mn (nI 99) (nI (q.2.2.2.2.1 + (A 2))) from rfl]
    refine V_topi (y := nI (min 99 (q.2.2.2.2.1 + (A 2)))) (mnN (by omega) (by omega)) ?_
    refine V_puti e_X5_dine_30 F_X7_fish f_X5_64 hw ?_
    refine V_iconst (v := nI 1) e_X5_dine_33 (by decide) ?_
    exact V_zret e_X5_dine_34 rfl (by first | exact Or.inl nI_0 | exact Or.inr rfl | assumption) (by first | (exfalso; omega) | exact ⟨⟨by unfold eatP; (repeat' split) <;> first | (exfalso; omega) | (refine ⟨?_, ?_, ?_, ?_, ?_, ?_⟩ <;> simp [up2, q0, q1, q2, q3, q4, q5]), by exact Fw.rf.up (by decide)⟩, by congr 1; unfold fedP; (repeat' split) <;> omega⟩)
set_option maxRecDepth 100000 in
set_option maxHeartbeats 4000000 in
theorem c_X5_liveDay (E : En) (n w st : Nat) (A : Vec) (q : Pn) (σ : Sg) (hn : kd n = 5) (hA : WE A) (hE : EnvC σ n A) (hw : kd w = 7) (hq : Wk σ w q) (hP : WP A q) (hst : σ w 6 = nI st) (hst1 : st ≤ 1) (hnw : n ≠ w) (hnw1 : n + 1 ≠ w) (hnw2 : n + 2 ≠ w) : Cn E m_X5_liveDay 4 [.ref (eB E + n), .ref (eB E + w)] σ (pI (fun σ' r => (Wk σ' w (dayPn A st q) ∧ Fw σ σ' w) ∧ r = nI (eatsP A st q))) := by
  obtain ⟨hG2, hG6, h5, h5p, h2a, h2b, h3a, h3b, hgs⟩ := id hA
  obtain ⟨e0, e1, e2, e3, e4, e6, ⟨F, hF, e5, hFb⟩, egs⟩ := id hE
  obtain ⟨q0, q5, q1, q2, q3, q4⟩ := id hq
  obtain ⟨p1, p2, p3, p4, p5⟩ := id hP
  have p36 := hP.of64 hG6
  refine Cn.of [some (.ref (eB E + n)), some (.ref (eB E + w))] (by decide) (Nat.le_of_ble_eq_true rfl) rfl ?_
  refine V_aload_n e_X5_liveDay_0 rfl rfl ?_
  refine V_getiv (v := nI st) e_X5_liveDay_1 F_X7_stays f_X5_74 hw hst ?_
  refine V_if_ne (tgt := 29) e_X5_liveDay_4 (by decide) (fun c1 => ?_) (fun c1 => ?_)
  · have d1 : ¬ st = 0 := nq_ne (by omega) (by omega) c1
    refine V_aload_n e_X5_liveDay_29 rfl rfl ?_
    refine V_getiv (v := nI q.2.1) e_X5_liveDay_30 F_X7_inside f_X5_70 hw hq.2.1 ?_
    refine V_if_eq (tgt := 48) e_X5_liveDay_33 (by decide) (fun c2 => ?_) (fun c2 => ?_)
    · have d2 : q.2.1 = 0 := nq_eq (by omega) (by omega) c2
      refine V_iconst (v := nI 0) e_X5_liveDay_48 (by decide) ?_
      exact V_zret e_X5_liveDay_49 rfl (by first | exact Or.inl nI_0 | exact Or.inr rfl | assumption) (by have hgo : goP A st q = q := (by unfold goP; (first | rw [if_pos d1] | rw [if_neg d1])); exact ⟨⟨by unfold dayPn; rw [hgo]; (first | rw [if_pos d2] | rw [if_neg d2]); exact hq, Fw.rf⟩, by congr 1; unfold eatsP; rw [hgo]; (first | rw [if_pos d2] | rw [if_neg d2]); try omega⟩)
    · have d2 : ¬ q.2.1 = 0 := nq_ne (by omega) (by omega) c2
      have hfd := fedP_le A q
      refine V_aload_n e_X5_liveDay_36 rfl rfl ?_
      refine V_aload_n e_X5_liveDay_37 rfl rfl ?_
      refine V_cvI (av := [.ref (eB E + w)]) (st := []) e_X5_liveDay_38 (c_X5_dine E n w A q σ hn hA hE hw hq hP hnw) l_X5_95 S_X5_dine hn (rm_ok (by decide) (by decide)) rfl rfl (Nat.le_of_ble_eq_true rfl) ?_
      intro σ1 r1 hh1
      obtain ⟨⟨hq1, hf1⟩, rfl⟩ := hh1
      have hE1 : EnvC σ1 n A := hE.fw hf1 (by omega) (by omega) (by omega)
      have hP1 := WP.eat (A := A) hP
      have hI1 := hP1.2.1
      refine V_if_eq (tgt := 48) e_X5_liveDay_41 (by decide) (fun c3 => ?_) (fun c3 => ?_)
      · have d3 : fedP A q = 0 := nq_eq (by omega) (by omega) c3
        refine V_iconst (v := nI 0) e_X5_liveDay_48 (by decide) ?_
        exact V_zret e_X5_liveDay_49 rfl (by first | exact Or.inl nI_0 | exact Or.inr rfl | assumption) (by have hgo : goP A st q = q := (by unfold goP; (first | rw [if_pos d1] | rw [if_neg d1])); exact ⟨⟨by unfold dayPn; rw [hgo]; (first | rw [if_pos d2] | rw [if_neg d2]); exact hq1, (Fw.rf).tr hf1⟩, by congr 1; unfold eatsP; rw [hgo]; (first | rw [if_pos d2] | rw [if_neg d2]); try omega⟩)
      · have d3 : ¬ fedP A q = 0 := nq_ne (by omega) (by omega) c3
        refine V_iconst (v := nI 1) e_X5_liveDay_44 (by decide) ?_
        refine V_goto (tgt := 49) e_X5_liveDay_45 (by decide) ?_
        exact V_zret e_X5_liveDay_49 rfl (by first | exact Or.inl nI_0 | exact Or.inr rfl | assumption) (by have hgo : goP A st q = q := (by unfold goP; (first | rw [if_pos d1] | rw [if_neg d1])); exact ⟨⟨by unfold dayPn; rw [hgo]; (first | rw [if_pos d2] | rw [if_neg d2]); exact hq1, (Fw.rf).tr hf1⟩, by congr 1; unfold eatsP; rw [hgo]; (first | rw [if_pos d2] | rw [if_neg d2]); try omega⟩)
  · have d1 : st = 0 := nq_eq (by omega) (by omega) c1
    refine V_aload_n e_X5_liveDay_7 rfl rfl ?_
    refine V_getiv (v := nI q.2.1) e_X5_liveDay_8 F_X7_inside f_X5_70 hw hq.2.1 ?_
    refine V_if_eq (tgt := 19) e_X5_liveDay_11 (by decide) (fun c4 => ?_) (fun c4 => ?_)
    · have d4 : q.2.1 = 0 := nq_eq (by omega) (by omega) c4
      refine V_aload_n e_X5_liveDay_19 rfl rfl ?_
      refine V_aload_n e_X5_liveDay_20 rfl rfl ?_
      refine V_cvV (av := [.ref (eB E + w)]) (st := []) e_X5_liveDay_21 (c_X5_walkOn E n w A q σ hn hA hE hw hq hP) l_X5_92 S_X5_walkOn hn (rm_ok (by decide) (by decide)) rfl rfl (Nat.le_of_ble_eq_true rfl) ?_
      intro σ1 hh1
      obtain ⟨hq1, hf1⟩ := hh1
      have hE1 : EnvC σ1 n A := hE.fw hf1 (by omega) (by omega) (by omega)
      have hP1 := WP.walk (A := A) hG2 hP
      have hI1 := hP1.2.1
      refine V_aload_n e_X5_liveDay_24 rfl rfl ?_
      refine V_aload_n e_X5_liveDay_25 rfl rfl ?_
      refine V_cvV (av := [.ref (eB E + w)]) (st := []) e_X5_liveDay_26 (c_X5_passGate E n w A (walkP A q) σ1 hn hA hE1 hw hq1 hP1) l_X5_89 S_X5_passGate hn (rm_ok (by decide) (by decide)) rfl rfl (Nat.le_of_ble_eq_true rfl) ?_
      intro σ2 hh2
      obtain ⟨hq2, hf2⟩ := hh2
      have hE2 : EnvC σ2 n A := hE1.fw hf2 (by omega) (by omega) (by omega)
      have hP2 := WP.cross (A := A) hP1
      have hI2 := hP2.2.1
      refine V_aload_n e_X5_liveDay_29 rfl rfl ?_
      refine V_getiv (v := nI ((crossP A (walkP A q)).2.1)) e_X5_liveDay_30 F_X7_inside f_X5_70 hw hq2.2.1 ?_
      refine V_if_eq (tgt := 48) e_X5_liveDay_33 (by decide) (fun c5 => ?_) (fun c5 => ?_)
      · have d5 : (crossP A (walkP A q)).2.1 = 0 := nq_eq (by omega) (by omega) c5
        refine V_iconst (v := nI 0) e_X5_liveDay_48 (by decide) ?_
        exact V_zret e_X5_liveDay_49 rfl (by first | exact Or.inl nI_0 | exact Or.inr rfl | assumption) (by have hgo : goP A st q = (crossP A (walkP A q)) := (by unfold goP; (first | rw [if_pos d1] | rw [if_neg d1]); (first | rw [if_pos d4] | rw [if_neg d4])); exact ⟨⟨by unfold dayPn; rw [hgo]; (first | rw [if_pos d5] | rw [if_neg d5]); exact hq2, ((Fw.rf).tr hf1).tr hf2⟩, by congr 1; unfold eatsP; rw [hgo]; (first | rw [if_pos d5] | rw [if_neg d5]); try omega⟩)
      · have d5 : ¬ (crossP A (walkP A q)).2.1 = 0 := nq_ne (by omega) (by omega) c5
        have hfd := fedP_le A (crossP A (walkP A q))
        refine V_aload_n e_X5_liveDay_36 rfl rfl ?_
        refine V_aload_n e_X5_liveDay_37 rfl rfl ?_
        refine V_cvI (av := [.ref (eB E + w)]) (st := []) e_X5_liveDay_38 (c_X5_dine E n w A (crossP A (walkP A q)) σ2 hn hA hE2 hw hq2 hP2 hnw) l_X5_95 S_X5_dine hn (rm_ok (by decide) (by decide)) rfl rfl (Nat.le_of_ble_eq_true rfl) ?_
        intro σ3 r3 hh3
        obtain ⟨⟨hq3, hf3⟩, rfl⟩ := hh3
        have hE3 : EnvC σ3 n A := hE2.fw hf3 (by omega) (by omega) (by omega)
        have hP3 := WP.eat (A := A) hP2
        have hI3 := hP3.2.1
        refine V_if_eq (tgt := 48) e_X5_liveDay_41 (by decide) (fun c6 => ?_) (fun c6 => ?_)
        · have d6 : fedP A (crossP A (walkP A q)) = 0 := nq_eq (by omega) (by omega) c6
          refine V_iconst (v := nI 0) e_X5_liveDay_48 (by decide) ?_
          exact V_zret e_X5_liveDay_49 rfl (by first | exact Or.inl nI_0 | exact Or.inr rfl | assumption) (by have hgo : goP A st q = (crossP A (walkP A q)) := (by unfold goP; (first | rw [if_pos d1] | rw [if_neg d1]); (first | rw [if_pos d4] | rw [if_neg d4])); exact ⟨⟨by unfold dayPn; rw [hgo]; (first | rw [if_pos d5] | rw [if_neg d5]); exact hq3, (((Fw.rf).tr hf1).tr hf2).tr hf3⟩, by congr 1; unfold eatsP; rw [hgo]; (first | rw [if_pos d5] | rw [if_neg d5]); try omega⟩)
        · have d6 : ¬ fedP A (crossP A (walkP A q)) = 0 := nq_ne (by omega) (by omega) c6
          refine V_iconst (v := nI 1) e_X5_liveDay_44 (by decide) ?_
          refine V_goto (tgt := 49) e_X5_liveDay_45 (by decide) ?_
          exact V_zret e_X5_liveDay_49 rfl (by first | exact Or.inl nI_0 | exact Or.inr rfl | assumption) (by have hgo : goP A st q = (crossP A (walkP A q)) := (by unfold goP; (first | rw [if_pos d1] | rw [if_neg d1]); (first | rw [if_pos d4] | rw [if_neg d4])); exact ⟨⟨by unfold dayPn; rw [hgo]; (first | rw [if_pos d5] | rw [if_neg d5]); exact hq3, (((Fw.rf).tr hf1).tr hf2).tr hf3⟩, by congr 1; unfold eatsP; rw [hgo]; (first | rw [if_pos d5] | rw [if_neg d5]); try omega⟩)
    · have d4 : ¬ q.2.1 = 0 := nq_ne (by omega) (by omega) c4
      refine V_aload_n e_X5_liveDay_14 rfl rfl ?_
      refine V_aload_n e_X5_liveDay_15 rfl rfl ?_
      refine V_cvV (av := [.ref (eB E + w)]) (st := []) e_X5_liveDay_16 (c_X5_passGate E n w A q σ hn hA hE hw hq hP) l_X5_89 S_X5_passGate hn (rm_ok (by decide) (by decide)) rfl rfl (Nat.le_of_ble_eq_true rfl) ?_
      intro σ1 hh1
      obtain ⟨hq1, hf1⟩ := hh1
      have hE1 : EnvC σ1 n A := hE.fw hf1 (by omega) (by omega) (by omega)
      have hP1 := WP.cross (A := A) hP
      have hI1 := hP1.2.1
      refine V_aload_n e_X5_liveDay_19 rfl rfl ?_
      refine V_aload_n e_X5_liveDay_20 rfl rfl ?_
      refine V_cvV (av := [.ref (eB E + w)]) (st := []) e_X5_liveDay_21 (c_X5_walkOn E n w A (crossP A q) σ1 hn hA hE1 hw hq1 hP1) l_X5_92 S_X5_walkOn hn (rm_ok (by decide) (by decide)) rfl rfl (Nat.le_of_ble_eq_true rfl) ?_
      intro σ2 hh2
      obtain ⟨hq2, hf2⟩ := hh2
      have hE2 : EnvC σ2 n A := hE1.fw hf2 (by omega) (by omega) (by omega)
      have hP2 := WP.walk (A := A) hG2 hP1
      have hI2 := hP2.2.1
      refine V_aload_n e_X5_liveDay_24 rfl rfl ?_
      refine V_aload_n e_X5_liveDay_25 rfl rfl ?_
      refine V_cvV (av := [.ref (eB E + w)]) (st := []) e_X5_liveDay_26 (c_X5_passGate E n w A (walkP A (crossP A q)) σ2 hn hA hE2 hw hq2 hP2) l_X5_89 S_X5_passGate hn (rm_ok (by decide) (by decide)) rfl rfl (Nat.le_of_ble_eq_true rfl) ?_
      intro σ3 hh3
      obtain ⟨hq3, hf3⟩ := hh3
      have hE3 : EnvC σ3 n A := hE2.fw hf3 (by omega) (by omega) (by omega)
      have hP3 := WP.cross (A := A) hP2
      have hI3 := hP3.2.1
      refine V_aload_n e_X5_liveDay_29 rfl rfl ?_
      refine V_getiv (v := nI ((crossP A (walkP A (crossP A q))).2.1)) e_X5_liveDay_30 F_X7_inside f_X5_70 hw hq3.2.1 ?_
      refine V_if_eq (tgt := 48) e_X5_liveDay_33 (by decide) (fun c7 => ?_) (fun c7 => ?_)
      · have d7 : (crossP A (walkP A (crossP A q))).2.1 = 0 := nq_eq (by omega) (by omega) c7
        refine V_iconst (v := nI 0) e_X5_liveDay_48 (by decide) ?_
        exact V_zret e_X5_liveDay_49 rfl (by first | exact Or.inl nI_0 | exact Or.inr rfl | assumption) (by have hgo : goP A st q = (crossP A (walkP A (crossP A q))) := (by unfold goP; (first | rw [if_pos d1] | rw [if_neg d1]); (first | rw [if_pos d4] | rw [if_neg d4])); exact ⟨⟨by unfold dayPn; rw [hgo]; (first | rw [if_pos d7] | rw [if_neg d7]); exact hq3, (((Fw.rf).tr hf1).tr hf2).tr hf3⟩, by congr 1; unfold eatsP; rw [hgo]; (first | rw [if_pos d7] | rw [if_neg d7]); try omega⟩)
      · have d7 : ¬ (crossP A (walkP A (crossP A q))).2.1 = 0 := nq_ne (by omega) (by omega) c7
        have hfd := fedP_le A (crossP A (walkP A (crossP A q)))
        refine V_aload_n e_X5_liveDay_36 rfl rfl ?_
        refine V_aload_n e_X5_liveDay_37 rfl rfl ?_
        refine V_cvI (av := [.ref (eB E + w)]) (st := []) e_X5_liveDay_38 (c_X5_dine E n w A (crossP A (walkP A (crossP A q))) σ3 hn hA hE3 hw hq3 hP3 hnw) l_X5_95 S_X5_dine hn (rm_ok (by decide) (by decide)) rfl rfl (Nat.le_of_ble_eq_true rfl) ?_
        intro σ4 r4 hh4
        obtain ⟨⟨hq4, hf4⟩, rfl⟩ := hh4
        have hE4 : EnvC σ4 n A := hE3.fw hf4 (by omega) (by omega) (by omega)
        have hP4 := WP.eat (A := A) hP3
        have hI4 := hP4.2.1
        refine V_if_eq (tgt := 48) e_X5_liveDay_41 (by decide) (fun c8 => ?_) (fun c8 => ?_)
        · have d8 : fedP A (crossP A (walkP A (crossP A q))) = 0 := nq_eq (by omega) (by omega) c8
          refine V_iconst (v := nI 0) e_X5_liveDay_48 (by decide) ?_
          exact V_zret e_X5_liveDay_49 rfl (by first | exact Or.inl nI_0 | exact Or.inr rfl | assumption) (by have hgo : goP A st q = (crossP A (walkP A (crossP A q))) := (by unfold goP; (first | rw [if_pos d1] | rw [if_neg d1]); (first | rw [if_pos d4] | rw [if_neg d4])); exact ⟨⟨by unfold dayPn; rw [hgo]; (first | rw [if_pos d7] | rw [if_neg d7]); exact hq4, ((((Fw.rf).tr hf1).tr hf2).tr hf3).tr hf4⟩, by congr 1; unfold eatsP; rw [hgo]; (first | rw [if_pos d7] | rw [if_neg d7]); try omega⟩)
        · have d8 : ¬ fedP A (crossP A (walkP A (crossP A q))) = 0 := nq_ne (by omega) (by omega) c8
          refine V_iconst (v := nI 1) e_X5_liveDay_44 (by decide) ?_
          refine V_goto (tgt := 49) e_X5_liveDay_45 (by decide) ?_
          exact V_zret e_X5_liveDay_49 rfl (by first | exact Or.inl nI_0 | exact Or.inr rfl | assumption) (by have hgo : goP A st q = (crossP A (walkP A (crossP A q))) := (by unfold goP; (first | rw [if_pos d1] | rw [if_neg d1]); (first | rw [if_pos d4] | rw [if_neg d4])); exact ⟨⟨by unfold dayPn; rw [hgo]; (first | rw [if_pos d7] | rw [if_neg d7]); exact hq4, ((((Fw.rf).tr hf1).tr hf2).tr hf3).tr hf4⟩, by congr 1; unfold eatsP; rw [hgo]; (first | rw [if_pos d7] | rw [if_neg d7]); try omega⟩)

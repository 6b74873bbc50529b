set_option maxRecDepth 100000 in
set_option maxHeartbeats 4000000 in
theorem lp_X5_whoIsAt (E : En) (n : Nat) (A : Vec) (g i : Nat) (σ : Sg) (hn : kd n = 5) (hR : RepC σ n A) (h5 : A 1 ≤ 5) (hF : WF A) (hg : g < 6) (hi : i ≤ 1) : ∀ (mm : Nat) (p : Nat), A 1 - p = mm → (p ≤ A 1) → V E m_X5_whoIsAt (kM E 2 (pI (fun σ' r => σ' = σ ∧ r = nI (mkN (atF A g i) (A 1))))) 5 [some (.ref (eB E + n)), some (.int (nI g)), some (.int (nI i)), some (.int (nI (mkN (atF A g i) p))), some (.int (nI p))] [] σ := by
  intro mm
  induction mm using Nat.strongRecOn with
  | ind mm ih =>
    intro p hmm hp
    refine V_iload e_X5_whoIsAt_5 rfl ?_
    refine V_aload_n e_X5_whoIsAt_7 rfl rfl ?_
    refine V_getiv (v := nI (A 1)) e_X5_whoIsAt_8 F_X5_people f_X5_32 hn hR.1.2.2.2.2.1 ?_
    refine V_icmp_ge (tgt := 59) e_X5_whoIsAt_11 (by decide) (fun c1 => ?_) (fun c1 => ?_)
    · have d1 : A 1 ≤ p := nq_le (by omega) (by omega) c1
      refine V_iload_n e_X5_whoIsAt_59 rfl rfl ?_
      exact V_iret e_X5_whoIsAt_60 rfl (⟨rfl, by rw [show p = A 1 by omega]⟩)
    · have d1 : ¬ A 1 ≤ p := nq_nle (by omega) (by omega) c1
      obtain ⟨w1, w2, w3, w4, w5, w6⟩ := hF.per (show p < A 1 by omega)
      have hG6 := hF.1.2.1
      refine V_iload_n e_X5_whoIsAt_14 rfl rfl ?_
      refine V_aload_n e_X5_whoIsAt_15 rfl rfl ?_
      refine V_getr (r := n + 3) e_X5_whoIsAt_16 F_X5_walkers f_X5_20 hn (rf5_9 hn) ?_
      refine V_iload e_X5_whoIsAt_19 rfl ?_
      refine V_aald (j := p) (r := n + 4 + p) e_X5_whoIsAt_21 (by rw [kd5_3 hn]; decide) (by rw [kd5_3 hn]; decide) rfl (by have q := ln5_3  hn; omega) (rf14 hn) ?_
      refine V_getiv (v := nI (A (25 + 6 * p))) e_X5_whoIsAt_22 F_X7_at f_X5_55 (kd5_w hn (by have q := ln5_3  hn; omega)) ((hR.2 p (by omega)).1.1) ?_
      refine V_iload_n e_X5_whoIsAt_25 rfl rfl ?_
      refine V_icmp_ne (tgt := 50) e_X5_whoIsAt_26 (by decide) (fun c2 => ?_) (fun c2 => ?_)
      · have d2 : ¬ A (25 + 6 * p) = g := nq_ne (by omega) (by omega) c2
        refine V_iconst (v := nI 0) e_X5_whoIsAt_50 (by decide) ?_
        refine V_iorN (z := nI ((mkN (atF A g i) p) ||| 0)) e_X5_whoIsAt_51 (lorI _ _) ?_
        refine V_istore_n (L' := [some (.ref (eB E + n)), some (.int (nI g)), some (.int (nI i)), some (.int (nI ((mkN (atF A g i) p) ||| 0))), some (.int (nI p))]) e_X5_whoIsAt_52 rfl rfl ?_
        refine V_iinc (v := nI (p + 1)) (L' := [some (.ref (eB E + n)), some (.int (nI g)), some (.int (nI i)), some (.int (nI ((mkN (atF A g i) p) ||| 0))), some (.int (nI (p + 1)))]) e_X5_whoIsAt_53 rfl (nI_add _ 1) rfl ?_
        refine V_goto (tgt := 5) e_X5_whoIsAt_56 (by decide) ?_
        rw [show (mkN (atF A g i) p) ||| 0 = mkN (atF A g i) (p + 1) from (by rw [mkN, atF]; (first | rw [if_pos d2] | rw [if_neg d2] | skip))]; exact ih (A 1 - (p + 1)) (by omega) (p + 1) rfl (by omega)
      · have d2 : A (25 + 6 * p) = g := nq_eq (by omega) (by omega) c2
        refine V_aload_n e_X5_whoIsAt_29 rfl rfl ?_
        refine V_getr (r := n + 3) e_X5_whoIsAt_30 F_X5_walkers f_X5_20 hn (rf5_9 hn) ?_
        refine V_iload e_X5_whoIsAt_33 rfl ?_
        refine V_aald (j := p) (r := n + 4 + p) e_X5_whoIsAt_35 (by rw [kd5_3 hn]; decide) (by rw [kd5_3 hn]; decide) rfl (by have q := ln5_3  hn; omega) (rf14 hn) ?_
        refine V_getiv (v := nI (A (26 + 6 * p))) e_X5_whoIsAt_36 F_X7_inside f_X5_70 (kd5_w hn (by have q := ln5_3  hn; omega)) ((hR.2 p (by omega)).1.2.1) ?_
        refine V_iload_n e_X5_whoIsAt_39 rfl rfl ?_
        refine V_icmp_ne (tgt := 50) e_X5_whoIsAt_40 (by decide) (fun c3 => ?_) (fun c3 => ?_)
        · have d3 : ¬ A (26 + 6 * p) = i := nq_ne (by omega) (by omega) c3
          refine V_iconst (v := nI 0) e_X5_whoIsAt_50 (by decide) ?_
          refine V_iorN (z := nI ((mkN (atF A g i) p) ||| 0)) e_X5_whoIsAt_51 (lorI _ _) ?_
          refine V_istore_n (L' := [some (.ref (eB E + n)), some (.int (nI g)), some (.int (nI i)), some (.int (nI ((mkN (atF A g i) p) ||| 0))), some (.int (nI p))]) e_X5_whoIsAt_52 rfl rfl ?_
          refine V_iinc (v := nI (p + 1)) (L' := [some (.ref (eB E + n)), some (.int (nI g)), some (.int (nI i)), some (.int (nI ((mkN (atF A g i) p) ||| 0))), some (.int (nI (p + 1)))]) e_X5_whoIsAt_53 rfl (nI_add _ 1) rfl ?_
          refine V_goto (tgt := 5) e_X5_whoIsAt_56 (by decide) ?_
          rw [show (mkN (atF A g i) p) ||| 0 = mkN (atF A g i) (p + 1) from (by rw [mkN, atF]; (first | rw [if_pos d2] | rw [if_neg d2] | skip); (first | rw [if_pos d3] | rw [if_neg d3] | skip))]; exact ih (A 1 - (p + 1)) (by omega) (p + 1) rfl (by omega)
        · have d3 : A (26 + 6 * p) = i := nq_eq (by omega) (by omega) c3
          refine V_iconst (v := nI 1) e_X5_whoIsAt_43 (by decide) ?_
          refine V_iload e_X5_whoIsAt_44 rfl ?_
          refine V_ishlN (z := nI (2 ^ p)) e_X5_whoIsAt_46 (shl1 (by omega)) ?_
          refine V_goto (tgt := 51) e_X5_whoIsAt_47 (by decide) ?_
          refine V_iorN (z := nI ((mkN (atF A g i) p) ||| (2 ^ p))) e_X5_whoIsAt_51 (lorI _ _) ?_
          refine V_istore_n (L' := [some (.ref (eB E + n)), some (.int (nI g)), some (.int (nI i)), some (.int (nI ((mkN (atF A g i) p) ||| (2 ^ p)))), some (.int (nI p))]) e_X5_whoIsAt_52 rfl rfl ?_
          refine V_iinc (v := nI (p + 1)) (L' := [some (.ref (eB E + n)), some (.int (nI g)), some (.int (nI i)), some (.int (nI ((mkN (atF A g i) p) ||| (2 ^ p)))), some (.int (nI (p + 1)))]) e_X5_whoIsAt_53 rfl (nI_add _ 1) rfl ?_
          refine V_goto (tgt := 5) e_X5_whoIsAt_56 (by decide) ?_
          rw [show (mkN (atF A g i) p) ||| (2 ^ p) = mkN (atF A g i) (p + 1) from (by rw [mkN, atF]; (first | rw [if_pos d2] | rw [if_neg d2] | skip); (first | rw [if_pos d3] | rw [if_neg d3] | skip))]; exact ih (A 1 - (p + 1)) (by omega) (p + 1) rfl (by omega)
set_option maxRecDepth 100000 in
set_option maxHeartbeats 4000000 in
theorem c_X5_whoIsAt (E : En) (n : Nat) (A : Vec) (g i : Nat) (σ : Sg) (hn : kd n = 5) (hR : RepC σ n A) (h5 : A 1 ≤ 5) (hF : WF A) (hg : g < 6) (hi : i ≤ 1) : Cn E m_X5_whoIsAt 2 [.ref (eB E + n), .int (nI g), .int (nI i)] σ (pI (fun σ' r => σ' = σ ∧ r = nI (mkN (atF A g i) (A 1)))) := by
  refine Cn.of [some (.ref (eB E + n)), some (.int (nI g)), some (.int (nI i)), none, none] (by decide) (Nat.le_of_ble_eq_true rfl) rfl ?_
  refine V_iconst (v := nI 0) e_X5_whoIsAt_0 (by decide) ?_
  refine V_istore_n (L' := [some (.ref (eB E + n)), some (.int (nI g)), some (.int (nI i)), some (.int (nI 0)), none]) e_X5_whoIsAt_1 rfl rfl ?_
  refine V_iconst (v := nI 0) e_X5_whoIsAt_2 (by decide) ?_
  refine V_istore (L' := [some (.ref (eB E + n)), some (.int (nI g)), some (.int (nI i)), some (.int (nI 0)), some (.int (nI 0))]) e_X5_whoIsAt_3 rfl ?_
  exact lp_X5_whoIsAt E n A g i σ hn hR h5 hF hg hi (A 1) 0 rfl (by omega)
set_option maxRecDepth 100000 in
set_option maxHeartbeats 4000000 in
theorem lp_X5_whoIsOf (E : En) (n : Nat) (A : Vec) (g : Nat) (σ : Sg) (hn : kd n = 5) (hR : RepC σ n A) (h5 : A 1 ≤ 5) (hF : WF A) (hg : g < 6) : ∀ (mm : Nat) (p : Nat), A 1 - p = mm → (p ≤ A 1) → V E m_X5_whoIsOf (kM E 2 (pI (fun σ' r => σ' = σ ∧ r = nI (mkN (ofF A g) (A 1))))) 4 [some (.ref (eB E + n)), some (.int (nI g)), some (.int (nI (mkN (ofF A g) p))), some (.int (nI p))] [] σ := by
  intro mm
  induction mm using Nat.strongRecOn with
  | ind mm ih =>
    intro p hmm hp
    refine V_iload_n e_X5_whoIsOf_4 rfl rfl ?_
    refine V_aload_n e_X5_whoIsOf_5 rfl rfl ?_
    refine V_getiv (v := nI (A 1)) e_X5_whoIsOf_6 F_X5_people f_X5_32 hn hR.1.2.2.2.2.1 ?_
    refine V_icmp_ge (tgt := 36) e_X5_whoIsOf_9 (by decide) (fun c1 => ?_) (fun c1 => ?_)
    · have d1 : A 1 ≤ p := nq_le (by omega) (by omega) c1
      refine V_iload_n e_X5_whoIsOf_36 rfl rfl ?_
      exact V_iret e_X5_whoIsOf_37 rfl (⟨rfl, by rw [show p = A 1 by omega]⟩)
    · have d1 : ¬ A 1 ≤ p := nq_nle (by omega) (by omega) c1
      obtain ⟨w1, w2, w3, w4, w5, w6⟩ := hF.per (show p < A 1 by omega)
      refine V_iload_n e_X5_whoIsOf_12 rfl rfl ?_
      refine V_aload_n e_X5_whoIsOf_13 rfl rfl ?_
      refine V_getr (r := n + 3) e_X5_whoIsOf_14 F_X5_walkers f_X5_20 hn (rf5_9 hn) ?_
      refine V_iload_n e_X5_whoIsOf_17 rfl rfl ?_
      refine V_aald (j := p) (r := n + 4 + p) e_X5_whoIsOf_18 (by rw [kd5_3 hn]; decide) (by rw [kd5_3 hn]; decide) rfl (by have q := ln5_3  hn; omega) (rf14 hn) ?_
      refine V_getiv (v := nI (A (27 + 6 * p))) e_X5_whoIsOf_19 F_X7_of f_X5_58 (kd5_w hn (by have q := ln5_3  hn; omega)) ((hR.2 p (by omega)).1.2.2.1) ?_
      refine V_iload_n e_X5_whoIsOf_22 rfl rfl ?_
      refine V_csNIe (av := [.int (nI (A (27 + 6 * p))), .int (nI g)]) (st := [.int (nI (mkN (ofF A g) p))]) e_X5_whoIsOf_23 (c_X8_bitN E (A (27 + 6 * p)) g σ (by omega) (by omega)) l_X5_77 S_X8_bit (rm_ok (by decide) (by decide)) rfl rfl (Nat.le_of_ble_eq_true rfl) ?_
      refine V_iload_n e_X5_whoIsOf_26 rfl rfl ?_
      refine V_ishlN (z := nI ((bitN (A (27 + 6 * p)) g) * 2 ^ p)) e_X5_whoIsOf_27 (shlN (shz (bitN_le _ _) (by omega))) ?_
      refine V_iorN (z := nI ((mkN (ofF A g) p) ||| ((bitN (A (27 + 6 * p)) g) * 2 ^ p))) e_X5_whoIsOf_28 (lorI _ _) ?_
      refine V_istore_n (L' := [some (.ref (eB E + n)), some (.int (nI g)), some (.int (nI ((mkN (ofF A g) p) ||| ((bitN (A (27 + 6 * p)) g) * 2 ^ p)))), some (.int (nI p))]) e_X5_whoIsOf_29 rfl rfl ?_
      refine V_iinc (v := nI (p + 1)) (L' := [some (.ref (eB E + n)), some (.int (nI g)), some (.int (nI ((mkN (ofF A g) p) ||| ((bitN (A (27 + 6 * p)) g) * 2 ^ p)))), some (.int (nI (p + 1)))]) e_X5_whoIsOf_30 rfl (nI_add _ 1) rfl ?_
      refine V_goto (tgt := 4) e_X5_whoIsOf_33 (by decide) ?_
      exact ih (A 1 - (p + 1)) (by omega) (p + 1) rfl (by omega)
set_option maxRecDepth 100000 in
set_option maxHeartbeats 4000000 in
theorem c_X5_whoIsOf (E : En) (n : Nat) (A : Vec) (g : Nat) (σ : Sg) (hn : kd n = 5) (hR : RepC σ n A) (h5 : A 1 ≤ 5) (hF : WF A) (hg : g < 6) : Cn E m_X5_whoIsOf 2 [.ref (eB E + n), .int (nI g)] σ (pI (fun σ' r => σ' = σ ∧ r = nI (mkN (ofF A g) (A 1)))) := by
  refine Cn.of [some (.ref (eB E + n)), some (.int (nI g)), none, none] (by decide) (Nat.le_of_ble_eq_true rfl) rfl ?_
  refine V_iconst (v := nI 0) e_X5_whoIsOf_0 (by decide) ?_
  refine V_istore_n (L' := [some (.ref (eB E + n)), some (.int (nI g)), some (.int (nI 0)), none]) e_X5_whoIsOf_1 rfl rfl ?_
  refine V_iconst (v := nI 0) e_X5_whoIsOf_2 (by decide) ?_
  refine V_istore_n (L' := [some (.ref (eB E + n)), some (.int (nI g)), some (.int (nI 0)), some (.int (nI 0))]) e_X5_whoIsOf_3 rfl rfl ?_
  exact lp_X5_whoIsOf E n A g σ hn hR h5 hF hg (A 1) 0 rfl (by omega)
set_option maxRecDepth 100000 in
set_option maxHeartbeats 4000000 in
theorem lp_X5_fellowsOf (E : En) (n : Nat) (A : Vec) (x : Nat) (σ : Sg) (hn : kd n = 5) (hR : RepC σ n A) (h5 : A 1 ≤ 5) (hF : WF A) (hx : x < A 1) : ∀ (mm : Nat) (p : Nat), A 1 - p = mm → (p ≤ A 1) → V E m_X5_fellowsOf (kM E 2 (pI (fun σ' r => σ' = σ ∧ r = nI (mkN (felF A x) (A 1))))) 4 [some (.ref (eB E + n)), some (.int (nI x)), some (.int (nI (mkN (felF A x) p))), some (.int (nI p))] [] σ := by
  intro mm
  induction mm using Nat.strongRecOn with
  | ind mm ih =>
    intro p hmm hp
    refine V_iload_n e_X5_fellowsOf_4 rfl rfl ?_
    refine V_aload_n e_X5_fellowsOf_5 rfl rfl ?_
    refine V_getiv (v := nI (A 1)) e_X5_fellowsOf_6 F_X5_people f_X5_32 hn hR.1.2.2.2.2.1 ?_
    refine V_icmp_ge (tgt := 54) e_X5_fellowsOf_9 (by decide) (fun c1 => ?_) (fun c1 => ?_)
    · have d1 : A 1 ≤ p := nq_le (by omega) (by omega) c1
      refine V_iload_n e_X5_fellowsOf_54 rfl rfl ?_
      exact V_iret e_X5_fellowsOf_55 rfl (⟨rfl, by rw [show p = A 1 by omega]⟩)
    · have d1 : ¬ A 1 ≤ p := nq_nle (by omega) (by omega) c1
      obtain ⟨w1, w2, w3, w4, w5, w6⟩ := hF.per (show p < A 1 by omega)
      obtain ⟨v1, v2, v3, v4, v5, v6⟩ := hF.per hx
      refine V_iload_n e_X5_fellowsOf_12 rfl rfl ?_
      refine V_iload_n e_X5_fellowsOf_13 rfl rfl ?_
      refine V_iload_n e_X5_fellowsOf_14 rfl rfl ?_
      refine V_icmp_eq (tgt := 45) e_X5_fellowsOf_15 (by decide) (fun c2 => ?_) (fun c2 => ?_)
      · have d2 : p = x := nq_eq (by omega) (by omega) c2
        refine V_iconst (v := nI 0) e_X5_fellowsOf_45 (by decide) ?_
        refine V_iorN (z := nI ((mkN (felF A x) p) ||| 0)) e_X5_fellowsOf_46 (lorI _ _) ?_
        refine V_istore_n (L' := [some (.ref (eB E + n)), some (.int (nI x)), some (.int (nI ((mkN (felF A x) p) ||| 0))), some (.int (nI p))]) e_X5_fellowsOf_47 rfl rfl ?_
        refine V_iinc (v := nI (p + 1)) (L' := [some (.ref (eB E + n)), some (.int (nI x)), some (.int (nI ((mkN (felF A x) p) ||| 0))), some (.int (nI (p + 1)))]) e_X5_fellowsOf_48 rfl (nI_add _ 1) rfl ?_
        refine V_goto (tgt := 4) e_X5_fellowsOf_51 (by decide) ?_
        rw [show (mkN (felF A x) p) ||| 0 = mkN (felF A x) (p + 1) from (by rw [mkN, felF]; (first | rw [if_pos d2] | rw [if_neg d2] | skip))]; exact ih (A 1 - (p + 1)) (by omega) (p + 1) rfl (by omega)
      · have d2 : ¬ p = x := nq_ne (by omega) (by omega) c2
        refine V_aload_n e_X5_fellowsOf_18 rfl rfl ?_
        refine V_getr (r := n + 3) e_X5_fellowsOf_19 F_X5_walkers f_X5_20 hn (rf5_9 hn) ?_
        refine V_iload_n e_X5_fellowsOf_22 rfl rfl ?_
        refine V_aald (j := p) (r := n + 4 + p) e_X5_fellowsOf_23 (by rw [kd5_3 hn]; decide) (by rw [kd5_3 hn]; decide) rfl (by have q := ln5_3  hn; omega) (rf14 hn) ?_
        refine V_getiv (v := nI (A (27 + 6 * p))) e_X5_fellowsOf_24 F_X7_of f_X5_58 (kd5_w hn (by have q := ln5_3  hn; omega)) ((hR.2 p (by omega)).1.2.2.1) ?_
        refine V_aload_n e_X5_fellowsOf_27 rfl rfl ?_
        refine V_getr (r := n + 3) e_X5_fellowsOf_28 F_X5_walkers f_X5_20 hn (rf5_9 hn) ?_
        refine V_iload_n e_X5_fellowsOf_31 rfl rfl ?_
        refine V_aald (j := x) (r := n + 4 + x) e_X5_fellowsOf_32 (by rw [kd5_3 hn]; decide) (by rw [kd5_3 hn]; decide) rfl (by have q := ln5_3  hn; omega) (rf14 hn) ?_
        refine V_getiv (v := nI (A (27 + 6 * x))) e_X5_fellowsOf_33 F_X7_of f_X5_58 (kd5_w hn (by have q := ln5_3  hn; omega)) ((hR.2 x (by omega)).1.2.2.1) ?_
        refine V_icmp_ne (tgt := 45) e_X5_fellowsOf_36 (by decide) (fun c3 => ?_) (fun c3 => ?_)
        · have d3 : ¬ A (27 + 6 * p) = A (27 + 6 * x) := nq_ne (by omega) (by omega) c3
          refine V_iconst (v := nI 0) e_X5_fellowsOf_45 (by decide) ?_
          refine V_iorN (z := nI ((mkN (felF A x) p) ||| 0)) e_X5_fellowsOf_46 (lorI _ _) ?_
          refine V_istore_n (L' := [some (.ref (eB E + n)), some (.int (nI x)), some (.int (nI ((mkN (felF A x) p) ||| 0))), some (.int (nI p))]) e_X5_fellowsOf_47 rfl rfl ?_
          refine V_iinc (v := nI (p + 1)) (L' := [some (.ref (eB E + n)), some (.int (nI x)), some (.int (nI ((mkN (felF A x) p) ||| 0))), some (.int (nI (p + 1)))]) e_X5_fellowsOf_48 rfl (nI_add _ 1) rfl ?_
          refine V_goto (tgt := 4) e_X5_fellowsOf_51 (by decide) ?_
          rw [show (mkN (felF A x) p) ||| 0 = mkN (felF A x) (p + 1) from (by rw [mkN, felF]; (first | rw [if_pos d2] | rw [if_neg d2] | skip); (first | rw [if_pos d3] | rw [if_neg d3] | skip))]; exact ih (A 1 - (p + 1)) (by omega) (p + 1) rfl (by omega)
        · have d3 : A (27 + 6 * p) = A (27 + 6 * x) := nq_eq (by omega) (by omega) c3
          refine V_iconst (v := nI 1) e_X5_fellowsOf_39 (by decide) ?_
          refine V_iload_n e_X5_fellowsOf_40 rfl rfl ?_
          refine V_ishlN (z := nI (2 ^ p)) e_X5_fellowsOf_41 (shl1 (by omega)) ?_
          refine V_goto (tgt := 46) e_X5_fellowsOf_42 (by decide) ?_
          refine V_iorN (z := nI ((mkN (felF A x) p) ||| (2 ^ p))) e_X5_fellowsOf_46 (lorI _ _) ?_
          refine V_istore_n (L' := [some (.ref (eB E + n)), some (.int (nI x)), some (.int (nI ((mkN (felF A x) p) ||| (2 ^ p)))), some (.int (nI p))]) e_X5_fellowsOf_47 rfl rfl ?_
          refine V_iinc (v := nI (p + 1)) (L' := [some (.ref (eB E + n)), some (.int (nI x)), some (.int (nI ((mkN (felF A x) p) ||| (2 ^ p)))), some (.int (nI (p + 1)))]) e_X5_fellowsOf_48 rfl (nI_add _ 1) rfl ?_
          refine V_goto (tgt := 4) e_X5_fellowsOf_51 (by decide) ?_
          rw [show (mkN (felF A x) p) ||| (2 ^ p) = mkN (felF A x) (p + 1) from (by rw [mkN, felF]; (first | rw [if_pos d2] | rw [if_neg d2] | skip); (first | rw [if_pos d3] | rw [if_neg d3] | skip))]; exact ih (A 1 - (p + 1)) (by omega) (p + 1) rfl (by omega)
set_option maxRecDepth 100000 in
set_option maxHeartbeats 4000000 in
theorem c_X5_fellowsOf (E : En) (n : Nat) (A : Vec) (x : Nat) (σ : Sg) (hn : kd n = 5) (hR : RepC σ n A) (h5 : A 1 ≤ 5) (hF : WF A) (hx : x < A 1) : Cn E m_X5_fellowsOf 2 [.ref (eB E + n), .int (nI x)] σ (pI (fun σ' r => σ' = σ ∧ r = nI (mkN (felF A x) (A 1)))) := by
  refine Cn.of [some (.ref (eB E + n)), some (.int (nI x)), none, none] (by decide) (Nat.le_of_ble_eq_true rfl) rfl ?_
  refine V_iconst (v := nI 0) e_X5_fellowsOf_0 (by decide) ?_
  refine V_istore_n (L' := [some (.ref (eB E + n)), some (.int (nI x)), some (.int (nI 0)), none]) e_X5_fellowsOf_1 rfl rfl ?_
  refine V_iconst (v := nI 0) e_X5_fellowsOf_2 (by decide) ?_
  refine V_istore_n (L' := [some (.ref (eB E + n)), some (.int (nI x)), some (.int (nI 0)), some (.int (nI 0))]) e_X5_fellowsOf_3 rfl rfl ?_
  exact lp_X5_fellowsOf E n A x σ hn hR h5 hF hx (A 1) 0 rfl (by omega)
set_option maxRecDepth 100000 in
set_option maxHeartbeats 4000000 in
theorem lp_X5_passDay (E : En) (n : Nat) (A : Vec) (σ : Sg) (hn : kd n = 5) (hR : RepC σ n A) (hF : WF A) : ∀ (mm : Nat) (p : Nat) (τ : Sg), A 1 - p = mm → (p ≤ A 1) → (PD σ n A p τ) → V E m_X5_passDay (kM E 5 (pV (fun σ' => RepC σ' n (dayV A) ∧ FdS σ σ' n))) 2 [some (.ref (eB E + n)), some (.int (nI p))] [] τ := by
  intro mm
  induction mm using Nat.strongRecOn with
  | ind mm ih =>
    intro p τ hmm hp hI
    have h5 := hF.2.2.1
    refine V_iload_n e_X5_passDay_2 rfl rfl ?_
    refine V_aload_n e_X5_passDay_3 rfl rfl ?_
    refine V_getiv (v := nI (A 1)) e_X5_passDay_4 F_X5_people f_X5_32 hn ((hI.1 n 4 (by omega)).trans hR.1.2.2.2.2.1) ?_
    refine V_icmp_ge (tgt := 27) e_X5_passDay_7 (by decide) (fun c1 => ?_) (fun c1 => ?_)
    · have d1 : A 1 ≤ p := nq_le (by omega) (by omega) c1
      refine V_aload_n e_X5_passDay_27 rfl rfl ?_
      refine V_dup e_X5_passDay_28 rfl ?_
      refine V_getiv (v := nI (A 4)) e_X5_passDay_29 F_X5_day f_X5_25 hn ((hI.1 n 2 (by omega)).trans hR.1.2.2.1) ?_
      refine V_iconst (v := nI 1) e_X5_passDay_32 (by decide) ?_
      refine V_iaddN (z := nI (A 4 + 1)) e_X5_passDay_33 (nI_add _ _) ?_
      refine V_puti e_X5_passDay_34 F_X5_day f_X5_25 hn ?_
      exact V_vret e_X5_passDay_37 rfl (PD.end hF hR (by rw [show A 1 = p by omega]; exact hI))
    · have d1 : ¬ A 1 ≤ p := nq_nle (by omega) (by omega) c1
      refine V_aload_n e_X5_passDay_10 rfl rfl ?_
      refine V_aload_n e_X5_passDay_11 rfl rfl ?_
      refine V_getr (r := n + 3) e_X5_passDay_12 F_X5_walkers f_X5_20 hn (rf5_9 hn) ?_
      refine V_iload_n e_X5_passDay_15 rfl rfl ?_
      refine V_aald (j := p) (r := n + 4 + p) e_X5_passDay_16 (by rw [kd5_3 hn]; decide) (by rw [kd5_3 hn]; decide) rfl (by have q := ln5_3  hn; omega) (rf14 hn) ?_
      refine V_cvI (av := [.ref (eB E + (n + 4 + p))]) (st := []) e_X5_passDay_17 (c_X5_liveDay E n (n + 4 + p) (bitN (A 6) p) A (pn A p) τ hn hF.1 (hR.1.fp hI.1) (kd5_w hn (by have q := ln5_3  hn; omega)) (hI.2.2 p (by omega) (by omega)) (hF.2.2.2.2.2 p (by omega)) ((hI.1 _ 6 (by omega)).trans (hR.2 p (by omega)).2) (bitN_le _ _) (by omega) (by omega) (by omega)) l_X5_85 S_X5_liveDay hn (rm_ok (by decide) (by decide)) rfl rfl (Nat.le_of_ble_eq_true rfl) ?_
      intro τ' r hh
      obtain ⟨⟨hq', hf'⟩, rfl⟩ := hh
      refine V_pop e_X5_passDay_20 rfl ?_
      refine V_iinc (v := nI (p + 1)) (L' := [some (.ref (eB E + n)), some (.int (nI (p + 1)))]) e_X5_passDay_21 rfl (nI_add _ 1) rfl ?_
      refine V_goto (tgt := 2) e_X5_passDay_24 (by decide) ?_
      exact ih (A 1 - (p + 1)) (by omega) (p + 1) τ' rfl (by omega) (hI.step (by omega) hq' hf')
set_option maxRecDepth 100000 in
set_option maxHeartbeats 4000000 in
theorem c_X5_passDay (E : En) (n : Nat) (A : Vec) (σ : Sg) (hn : kd n = 5) (hR : RepC σ n A) (hF : WF A) : Cn E m_X5_passDay 5 [.ref (eB E + n)] σ (pV (fun σ' => RepC σ' n (dayV A) ∧ FdS σ σ' n)) := by
  refine Cn.of [some (.ref (eB E + n)), none] (by decide) (Nat.le_of_ble_eq_true rfl) rfl ?_
  refine V_iconst (v := nI 0) e_X5_passDay_0 (by decide) ?_
  refine V_istore_n (L' := [some (.ref (eB E + n)), some (.int (nI 0))]) e_X5_passDay_1 rfl rfl ?_
  exact lp_X5_passDay E n A σ hn hR hF (A 1) 0 σ rfl (by omega) (PD.zero hR)

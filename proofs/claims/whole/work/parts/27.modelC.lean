set_option maxRecDepth 100000 in
set_option maxHeartbeats 4000000 in
theorem lp_X9_day (E : En) (a : Nat) (A : Vec) (σ : Sg) (ha : kd a = 10) (hl : ln a = 55) (hF : WF A) (hA : WE A) (hp5 : A 1 ≤ 5) (hG2 : 2 ≤ A 0) (hG6 : A 0 ≤ 6) : ∀ (mm : Nat) (p : Nat), A 1 - p = mm → (p ≤ A 1) → V E m_X9_day (kM E 4 (pV (fun σ' => σ' = stM σ a (dayV A)))) 2 [some (.ref (eB E + a)), some (.int (nI p))] [] (stM σ a (dayW A p)) := by
  intro mm
  induction mm using Nat.strongRecOn with
  | ind mm ih =>
    intro p hmm hp
    refine V_iload_n e_X9_day_2 rfl rfl ?_
    refine V_aload_n e_X9_day_3 rfl rfl ?_
    refine V_iconst (v := nI 1) e_X9_day_4 (by decide) ?_
    refine V_ialdv (v := nI (A 1)) (j := 1) e_X9_day_5 ha rfl (by rw [hl]; omega) ((stM_at (by omega)).trans (congrArg nI (dayW_lo (by omega)))) ?_
    refine V_icmp_ge (tgt := 66) e_X9_day_6 (by decide) (fun c1 => ?_) (fun c1 => ?_)
    · have d1 : A 1 ≤ p := nq_le (by omega) (by omega) c1
      refine V_aload_n e_X9_day_66 rfl rfl ?_
      refine V_iconst (v := nI 4) e_X9_day_67 (by decide) ?_
      refine V_dup2 e_X9_day_68 rfl rfl ?_
      refine V_ialdv (v := nI (A 4)) (j := 4) e_X9_day_69 ha rfl (by rw [hl]; omega) ((stM_at (by omega)).trans (congrArg nI (dayW_lo (by omega)))) ?_
      refine V_iconst (v := nI 1) e_X9_day_70 (by decide) ?_
      refine V_iaddN (z := nI (A 4 + 1)) e_X9_day_71 (nI_add _ _) ?_
      refine V_iast (j := 4) e_X9_day_72 ha rfl (by rw [hl]; omega) ?_
      rw [show up2 (stM σ a (dayW A p)) a 4 (nI (A 4 + 1)) = stM σ a (updN (dayW A p) 4 (A 4 + 1)) from stM_up (by omega)]
      exact V_vret e_X9_day_73 rfl (by rw [show p = A 1 by omega, dayW_end])
    · have d1 : ¬ A 1 ≤ p := nq_nle (by omega) (by omega) c1
      have hAw : WE (dayW A p) := hA.cg (fun k hk _ => dayW_lo hk)
      have hcg : ∀ k, k < 25 → k ≠ 4 → dayW A p k = A k := fun k hk _ => dayW_lo hk
      have hWp : WP A (pn A p) := hF.2.2.2.2.2 p (by omega)
      have hPp : WP (dayW A p) (pn A p) := hWp.env (dayW_lo (by omega))
      have hst := bitN_le (A 6) p
      have h632 := hF.2.2.2.1
      refine V_sig (show stM σ a (dayW A p) = stM σ a (setP (dayW A p) p (pn A p)) by rw [← dayW_pn (A := A) (p := p), setP_pn]) ?_
      refine V_aload_n e_X9_day_9 rfl rfl ?_
      refine V_bipush (v := nI 6) e_X9_day_10 (by decide) ?_
      refine V_ialdv (v := nI (A 6)) (j := 6) e_X9_day_12 ha rfl (by rw [hl]; omega) ((stM_at (by omega)).trans (congrArg nI ((setP_lo (by omega)).trans (dayW_lo (by omega))))) ?_
      refine V_iload_n e_X9_day_13 rfl rfl ?_
      refine V_csIe (av := [.int (nI (A 6)), .int (nI p)]) (st := []) e_X9_day_14 (c_X9_has E (A 6) p (stM σ a (setP (dayW A p) p (pn A p))) (by omega) (by omega)) l_X9_158 S_X9_has (rm_ok (by decide) (by decide)) rfl rfl (Nat.le_of_ble_eq_true rfl) ?_
      refine V_if_ne (tgt := 45) e_X9_day_17 (by decide) (fun c2 => ?_) (fun c2 => ?_)
      · have d2 : ¬ bitN (A 6) p = 0 := nq_ne (by omega) (by omega) c2
        have hI9 := hPp.2.1
        refine V_aload_n e_X9_day_45 rfl rfl ?_
        refine V_iload_n e_X9_day_46 rfl rfl ?_
        refine V_iconst (v := nI 1) e_X9_day_47 (by decide) ?_
        refine V_csIe (av := [.ref (eB E + a), .int (nI p), .int (nI 1)]) (st := []) e_X9_day_48 (c_X9_hisP_1 E a p (dayW A p) (pn A p) σ ha hl (by omega)) l_X9_166 S_X9_his (rm_ok (by decide) (by decide)) rfl rfl (Nat.le_of_ble_eq_true rfl) ?_
        refine V_iconst (v := nI 1) e_X9_day_51 (by decide) ?_
        refine V_icmp_ne (tgt := 60) e_X9_day_52 (by decide) (fun c3 => ?_) (fun c3 => ?_)
        · have d3 : ¬ (pn A p).2.1 = 1 := nq_ne (by omega) (by omega) c3
          refine V_iinc (v := nI (p + 1)) (L' := [some (.ref (eB E + a)), some (.int (nI (p + 1)))]) e_X9_day_60 rfl (nI_add _ 1) rfl ?_
          refine V_goto (tgt := 2) e_X9_day_63 (by decide) ?_
          have hgo : goP (dayW A p) (bitN (A 6) p) (pn A p) = pn A p := (by unfold goP; (first | rw [if_pos (show _ by omega)] | rw [if_neg (show ¬ _ by omega)])); have hdy : dayPn A (bitN (A 6) p) (pn A p) = pn A p := (by rw [← dayPn_cg hcg hA hWp]; unfold dayPn; rw [hgo]; (first | rw [if_pos (show _ by omega)] | rw [if_neg (show ¬ _ by omega)])); rw [show stM σ a (setP (dayW A p) p (pn A p)) = stM σ a (dayW A (p + 1)) from (by rw [← hdy, dayW_step])]; exact ih (A 1 - (p + 1)) (by omega) (p + 1) rfl (by omega)
        · have d3 : (pn A p).2.1 = 1 := nq_eq (by omega) (by omega) c3
          refine V_aload_n e_X9_day_55 rfl rfl ?_
          refine V_iload_n e_X9_day_56 rfl rfl ?_
          refine V_csVe (av := [.ref (eB E + a), .int (nI p)]) (st := []) e_X9_day_57 (c_X9_eats E a p (dayW A p) (pn A p) σ ha hl hAw (by omega) hPp) l_X9_184 S_X9_eats (rm_ok (by decide) (by decide)) rfl rfl (Nat.le_of_ble_eq_true rfl) ?_
          refine V_iinc (v := nI (p + 1)) (L' := [some (.ref (eB E + a)), some (.int (nI (p + 1)))]) e_X9_day_60 rfl (nI_add _ 1) rfl ?_
          refine V_goto (tgt := 2) e_X9_day_63 (by decide) ?_
          have hgo : goP (dayW A p) (bitN (A 6) p) (pn A p) = pn A p := (by unfold goP; (first | rw [if_pos (show _ by omega)] | rw [if_neg (show ¬ _ by omega)])); have hdy : dayPn A (bitN (A 6) p) (pn A p) = eatP (dayW A p) (pn A p) := (by rw [← dayPn_cg hcg hA hWp]; unfold dayPn; rw [hgo]; (first | rw [if_pos (show _ by omega)] | rw [if_neg (show ¬ _ by omega)])); rw [show stM σ a (setP (dayW A p) p (eatP (dayW A p) (pn A p))) = stM σ a (dayW A (p + 1)) from (by rw [← hdy, dayW_step])]; exact ih (A 1 - (p + 1)) (by omega) (p + 1) rfl (by omega)
      · have d2 : bitN (A 6) p = 0 := nq_eq (by omega) (by omega) c2
        have hI8 := hPp.2.1
        refine V_aload_n e_X9_day_20 rfl rfl ?_
        refine V_iload_n e_X9_day_21 rfl rfl ?_
        refine V_iconst (v := nI 1) e_X9_day_22 (by decide) ?_
        refine V_csIe (av := [.ref (eB E + a), .int (nI p), .int (nI 1)]) (st := []) e_X9_day_23 (c_X9_hisP_1 E a p (dayW A p) (pn A p) σ ha hl (by omega)) l_X9_166 S_X9_his (rm_ok (by decide) (by decide)) rfl rfl (Nat.le_of_ble_eq_true rfl) ?_
        refine V_iconst (v := nI 1) e_X9_day_26 (by decide) ?_
        refine V_icmp_ne (tgt := 35) e_X9_day_27 (by decide) (fun c4 => ?_) (fun c4 => ?_)
        · have d4 : ¬ (pn A p).2.1 = 1 := nq_ne (by omega) (by omega) c4
          refine V_aload_n e_X9_day_35 rfl rfl ?_
          refine V_iload_n e_X9_day_36 rfl rfl ?_
          refine V_csVe (av := [.ref (eB E + a), .int (nI p)]) (st := []) e_X9_day_37 (c_X9_walks E a p (dayW A p) (pn A p) σ ha hl hAw (by omega) hPp) l_X9_181 S_X9_walks (rm_ok (by decide) (by decide)) rfl rfl (Nat.le_of_ble_eq_true rfl) ?_
          refine V_aload_n e_X9_day_40 rfl rfl ?_
          refine V_iload_n e_X9_day_41 rfl rfl ?_
          refine V_csVe (av := [.ref (eB E + a), .int (nI p)]) (st := []) e_X9_day_42 (c_X9_crosses E a p (dayW A p) (walkP (dayW A p) (pn A p)) σ ha hl hAw (by omega) (WP.walk hAw.1 hPp)) l_X9_177 S_X9_crosses (rm_ok (by decide) (by decide)) rfl rfl (Nat.le_of_ble_eq_true rfl) ?_
          have hI9 := (WP.cross (WP.walk hAw.1 hPp)).2.1
          refine V_aload_n e_X9_day_45 rfl rfl ?_
          refine V_iload_n e_X9_day_46 rfl rfl ?_
          refine V_iconst (v := nI 1) e_X9_day_47 (by decide) ?_
          refine V_csIe (av := [.ref (eB E + a), .int (nI p), .int (nI 1)]) (st := []) e_X9_day_48 (c_X9_hisP_1 E a p (dayW A p) (crossP (dayW A p) (walkP (dayW A p) (pn A p))) σ ha hl (by omega)) l_X9_166 S_X9_his (rm_ok (by decide) (by decide)) rfl rfl (Nat.le_of_ble_eq_true rfl) ?_
          refine V_iconst (v := nI 1) e_X9_day_51 (by decide) ?_
          refine V_icmp_ne (tgt := 60) e_X9_day_52 (by decide) (fun c5 => ?_) (fun c5 => ?_)
          · have d5 : ¬ (crossP (dayW A p) (walkP (dayW A p) (pn A p))).2.1 = 1 := nq_ne (by omega) (by omega) c5
            refine V_iinc (v := nI (p + 1)) (L' := [some (.ref (eB E + a)), some (.int (nI (p + 1)))]) e_X9_day_60 rfl (nI_add _ 1) rfl ?_
            refine V_goto (tgt := 2) e_X9_day_63 (by decide) ?_
            have hgo : goP (dayW A p) (bitN (A 6) p) (pn A p) = crossP (dayW A p) (walkP (dayW A p) (pn A p)) := (by unfold goP; (first | rw [if_pos (show _ by omega)] | rw [if_neg (show ¬ _ by omega)]); (first | rw [if_pos (show _ by omega)] | rw [if_neg (show ¬ _ by omega)])); have hdy : dayPn A (bitN (A 6) p) (pn A p) = crossP (dayW A p) (walkP (dayW A p) (pn A p)) := (by rw [← dayPn_cg hcg hA hWp]; unfold dayPn; rw [hgo]; (first | rw [if_pos (show _ by omega)] | rw [if_neg (show ¬ _ by omega)])); rw [show stM σ a (setP (dayW A p) p (crossP (dayW A p) (walkP (dayW A p) (pn A p)))) = stM σ a (dayW A (p + 1)) from (by rw [← hdy, dayW_step])]; exact ih (A 1 - (p + 1)) (by omega) (p + 1) rfl (by omega)
          · have d5 : (crossP (dayW A p) (walkP (dayW A p) (pn A p))).2.1 = 1 := nq_eq (by omega) (by omega) c5
            refine V_aload_n e_X9_day_55 rfl rfl ?_
            refine V_iload_n e_X9_day_56 rfl rfl ?_
            refine V_csVe (av := [.ref (eB E + a), .int (nI p)]) (st := []) e_X9_day_57 (c_X9_eats E a p (dayW A p) (crossP (dayW A p) (walkP (dayW A p) (pn A p))) σ ha hl hAw (by omega) (WP.cross (WP.walk hAw.1 hPp))) l_X9_184 S_X9_eats (rm_ok (by decide) (by decide)) rfl rfl (Nat.le_of_ble_eq_true rfl) ?_
            refine V_iinc (v := nI (p + 1)) (L' := [some (.ref (eB E + a)), some (.int (nI (p + 1)))]) e_X9_day_60 rfl (nI_add _ 1) rfl ?_
            refine V_goto (tgt := 2) e_X9_day_63 (by decide) ?_
            have hgo : goP (dayW A p) (bitN (A 6) p) (pn A p) = crossP (dayW A p) (walkP (dayW A p) (pn A p)) := (by unfold goP; (first | rw [if_pos (show _ by omega)] | rw [if_neg (show ¬ _ by omega)]); (first | rw [if_pos (show _ by omega)] | rw [if_neg (show ¬ _ by omega)])); have hdy : dayPn A (bitN (A 6) p) (pn A p) = eatP (dayW A p) (crossP (dayW A p) (walkP (dayW A p) (pn A p))) := (by rw [← dayPn_cg hcg hA hWp]; unfold dayPn; rw [hgo]; (first | rw [if_pos (show _ by omega)] | rw [if_neg (show ¬ _ by omega)])); rw [show stM σ a (setP (dayW A p) p (eatP (dayW A p) (crossP (dayW A p) (walkP (dayW A p) (pn A p))))) = stM σ a (dayW A (p + 1)) from (by rw [← hdy, dayW_step])]; exact ih (A 1 - (p + 1)) (by omega) (p + 1) rfl (by omega)
        · have d4 : (pn A p).2.1 = 1 := nq_eq (by omega) (by omega) c4
          refine V_aload_n e_X9_day_30 rfl rfl ?_
          refine V_iload_n e_X9_day_31 rfl rfl ?_
          refine V_csVe (av := [.ref (eB E + a), .int (nI p)]) (st := []) e_X9_day_32 (c_X9_crosses E a p (dayW A p) (pn A p) σ ha hl hAw (by omega) hPp) l_X9_177 S_X9_crosses (rm_ok (by decide) (by decide)) rfl rfl (Nat.le_of_ble_eq_true rfl) ?_
          refine V_aload_n e_X9_day_35 rfl rfl ?_
          refine V_iload_n e_X9_day_36 rfl rfl ?_
          refine V_csVe (av := [.ref (eB E + a), .int (nI p)]) (st := []) e_X9_day_37 (c_X9_walks E a p (dayW A p) (crossP (dayW A p) (pn A p)) σ ha hl hAw (by omega) (WP.cross hPp)) l_X9_181 S_X9_walks (rm_ok (by decide) (by decide)) rfl rfl (Nat.le_of_ble_eq_true rfl) ?_
          refine V_aload_n e_X9_day_40 rfl rfl ?_
          refine V_iload_n e_X9_day_41 rfl rfl ?_
          refine V_csVe (av := [.ref (eB E + a), .int (nI p)]) (st := []) e_X9_day_42 (c_X9_crosses E a p (dayW A p) (walkP (dayW A p) (crossP (dayW A p) (pn A p))) σ ha hl hAw (by omega) (WP.walk hAw.1 (WP.cross hPp))) l_X9_177 S_X9_crosses (rm_ok (by decide) (by decide)) rfl rfl (Nat.le_of_ble_eq_true rfl) ?_
          have hI9 := (WP.cross (WP.walk hAw.1 (WP.cross hPp))).2.1
          refine V_aload_n e_X9_day_45 rfl rfl ?_
          refine V_iload_n e_X9_day_46 rfl rfl ?_
          refine V_iconst (v := nI 1) e_X9_day_47 (by decide) ?_
          refine V_csIe (av := [.ref (eB E + a), .int (nI p), .int (nI 1)]) (st := []) e_X9_day_48 (c_X9_hisP_1 E a p (dayW A p) (crossP (dayW A p) (walkP (dayW A p) (crossP (dayW A p) (pn A p)))) σ ha hl (by omega)) l_X9_166 S_X9_his (rm_ok (by decide) (by decide)) rfl rfl (Nat.le_of_ble_eq_true rfl) ?_
          refine V_iconst (v := nI 1) e_X9_day_51 (by decide) ?_
          refine V_icmp_ne (tgt := 60) e_X9_day_52 (by decide) (fun c6 => ?_) (fun c6 => ?_)
          · have d6 : ¬ (crossP (dayW A p) (walkP (dayW A p) (crossP (dayW A p) (pn A p)))).2.1 = 1 := nq_ne (by omega) (by omega) c6
            refine V_iinc (v := nI (p + 1)) (L' := [some (.ref (eB E + a)), some (.int (nI (p + 1)))]) e_X9_day_60 rfl (nI_add _ 1) rfl ?_
            refine V_goto (tgt := 2) e_X9_day_63 (by decide) ?_
            have hgo : goP (dayW A p) (bitN (A 6) p) (pn A p) = crossP (dayW A p) (walkP (dayW A p) (crossP (dayW A p) (pn A p))) := (by unfold goP; (first | rw [if_pos (show _ by omega)] | rw [if_neg (show ¬ _ by omega)]); (first | rw [if_pos (show _ by omega)] | rw [if_neg (show ¬ _ by omega)])); have hdy : dayPn A (bitN (A 6) p) (pn A p) = crossP (dayW A p) (walkP (dayW A p) (crossP (dayW A p) (pn A p))) := (by rw [← dayPn_cg hcg hA hWp]; unfold dayPn; rw [hgo]; (first | rw [if_pos (show _ by omega)] | rw [if_neg (show ¬ _ by omega)])); rw [show stM σ a (setP (dayW A p) p (crossP (dayW A p) (walkP (dayW A p) (crossP (dayW A p) (pn A p))))) = stM σ a (dayW A (p + 1)) from (by rw [← hdy, dayW_step])]; exact ih (A 1 - (p + 1)) (by omega) (p + 1) rfl (by omega)
          · have d6 : (crossP (dayW A p) (walkP (dayW A p) (crossP (dayW A p) (pn A p)))).2.1 = 1 := nq_eq (by omega) (by omega) c6
            refine V_aload_n e_X9_day_55 rfl rfl ?_
            refine V_iload_n e_X9_day_56 rfl rfl ?_
            refine V_csVe (av := [.ref (eB E + a), .int (nI p)]) (st := []) e_X9_day_57 (c_X9_eats E a p (dayW A p) (crossP (dayW A p) (walkP (dayW A p) (crossP (dayW A p) (pn A p)))) σ ha hl hAw (by omega) (WP.cross (WP.walk hAw.1 (WP.cross hPp)))) l_X9_184 S_X9_eats (rm_ok (by decide) (by decide)) rfl rfl (Nat.le_of_ble_eq_true rfl) ?_
            refine V_iinc (v := nI (p + 1)) (L' := [some (.ref (eB E + a)), some (.int (nI (p + 1)))]) e_X9_day_60 rfl (nI_add _ 1) rfl ?_
            refine V_goto (tgt := 2) e_X9_day_63 (by decide) ?_
            have hgo : goP (dayW A p) (bitN (A 6) p) (pn A p) = crossP (dayW A p) (walkP (dayW A p) (crossP (dayW A p) (pn A p))) := (by unfold goP; (first | rw [if_pos (show _ by omega)] | rw [if_neg (show ¬ _ by omega)]); (first | rw [if_pos (show _ by omega)] | rw [if_neg (show ¬ _ by omega)])); have hdy : dayPn A (bitN (A 6) p) (pn A p) = eatP (dayW A p) (crossP (dayW A p) (walkP (dayW A p) (crossP (dayW A p) (pn A p)))) := (by rw [← dayPn_cg hcg hA hWp]; unfold dayPn; rw [hgo]; (first | rw [if_pos (show _ by omega)] | rw [if_neg (show ¬ _ by omega)])); rw [show stM σ a (setP (dayW A p) p (eatP (dayW A p) (crossP (dayW A p) (walkP (dayW A p) (crossP (dayW A p) (pn A p)))))) = stM σ a (dayW A (p + 1)) from (by rw [← hdy, dayW_step])]; exact ih (A 1 - (p + 1)) (by omega) (p + 1) rfl (by omega)
set_option maxRecDepth 100000 in
set_option maxHeartbeats 4000000 in
theorem c_X9_day (E : En) (a : Nat) (A : Vec) (σ : Sg) (ha : kd a = 10) (hl : ln a = 55) (hF : WF A) : Cn E m_X9_day 4 [.ref (eB E + a)] (stM σ a A) (pV (fun σ' => σ' = stM σ a (dayV A))) := by
  have hA := hF.1
  obtain ⟨hG2, hG6, h5, h5p, h2a, h2b, h3a, h3b, hgs⟩ := id hA
  have hp5 := hF.2.2.1
  refine Cn.of [some (.ref (eB E + a)), none] (by decide) (Nat.le_of_ble_eq_true rfl) rfl ?_
  refine V_iconst (v := nI 0) e_X9_day_0 (by decide) ?_
  refine V_istore_n (L' := [some (.ref (eB E + a)), some (.int (nI 0))]) e_X9_day_1 rfl rfl ?_
  have hX := lp_X9_day E a A σ ha hl hF hA hp5 hG2 hG6 (A 1) 0 rfl (by omega); rw [dayW_0] at hX; exact hX
theorem WF.days {A : Vec} (h : WF A) : ∀ n, WF (daysV A n)
  | 0 => h
  | n + 1 => (WF.days h n).day
set_option maxRecDepth 100000 in
set_option maxHeartbeats 4000000 in
theorem lp_X9_daysOf (E : En) (a n : Nat) (A : Vec) (σ : Sg) (ha : kd a = 10) (hl : ln a = 55) (hF : WF A) (hn : n ≤ 60) : ∀ (mm : Nat) (i : Nat), n - i = mm → (i ≤ n) → V E m_X9_daysOf (kM E 5 (pV (fun σ' => σ' = stM σ a (daysV A n)))) 2 [some (.ref (eB E + a)), some (.int (nI n)), some (.int (nI i))] [] (stM σ a (daysV A i)) := by
  intro mm
  induction mm using Nat.strongRecOn with
  | ind mm ih =>
    intro i hmm hi
    refine V_iload_n e_X9_daysOf_2 rfl rfl ?_
    refine V_iload_n e_X9_daysOf_3 rfl rfl ?_
    refine V_icmp_ge (tgt := 17) e_X9_daysOf_4 (by decide) (fun c1 => ?_) (fun c1 => ?_)
    · have d1 : n ≤ i := nq_le (by omega) (by omega) c1
      exact V_vret e_X9_daysOf_17 rfl (by rw [show n = i by omega])
    · have d1 : ¬ n ≤ i := nq_nle (by omega) (by omega) c1
      refine V_aload_n e_X9_daysOf_7 rfl rfl ?_
      refine V_csVe (av := [.ref (eB E + a)]) (st := []) e_X9_daysOf_8 (c_X9_day E a (daysV A i) σ ha hl (hF.days i)) l_X9_187 S_X9_day (rm_ok (by decide) (by decide)) rfl rfl (Nat.le_of_ble_eq_true rfl) ?_
      refine V_iinc (v := nI (i + 1)) (L' := [some (.ref (eB E + a)), some (.int (nI n)), some (.int (nI (i + 1)))]) e_X9_daysOf_11 rfl (nI_add _ 1) rfl ?_
      refine V_goto (tgt := 2) e_X9_daysOf_14 (by decide) ?_
      exact ih (n - (i + 1)) (by omega) (i + 1) rfl (by omega)
set_option maxRecDepth 100000 in
set_option maxHeartbeats 4000000 in
theorem c_X9_daysOf (E : En) (a n : Nat) (A : Vec) (σ : Sg) (ha : kd a = 10) (hl : ln a = 55) (hF : WF A) (hn : n ≤ 60) : Cn E m_X9_daysOf 5 [.ref (eB E + a), .int (nI n)] (stM σ a A) (pV (fun σ' => σ' = stM σ a (daysV A n))) := by
  refine Cn.of [some (.ref (eB E + a)), some (.int (nI n)), none] (by decide) (Nat.le_of_ble_eq_true rfl) rfl ?_
  refine V_iconst (v := nI 0) e_X9_daysOf_0 (by decide) ?_
  refine V_istore_n (L' := [some (.ref (eB E + a)), some (.int (nI n)), some (.int (nI 0))]) e_X9_daysOf_1 rfl rfl ?_
  exact lp_X9_daysOf E a n A σ ha hl hF hn n 0 rfl (by omega)
set_option maxRecDepth 100000 in
set_option maxHeartbeats 4000000 in
theorem lp_X9_hungry (E : En) (a : Nat) (A : Vec) (σ : Sg) (ha : kd a = 10) (hl : ln a = 55) (hp5 : A 1 ≤ 5) : ∀ (mm : Nat) (p : Nat), A 1 - p = mm → (p ≤ A 1) → V E m_X9_hungry (kM E 2 (pI (fun σ' r => σ' = stM σ a A ∧ r = nI (hung A)))) 4 [some (.ref (eB E + a)), some (.int (nI (sumN (fun m => A (30 + 6 * m)) p))), some (.int (nI p))] [] (stM σ a A) := by
  intro mm
  induction mm using Nat.strongRecOn with
  | ind mm ih =>
    intro p hmm hp
    refine V_iload_n e_X9_hungry_4 rfl rfl ?_
    refine V_aload_n e_X9_hungry_5 rfl rfl ?_
    refine V_iconst (v := nI 1) e_X9_hungry_6 (by decide) ?_
    refine V_ialdv (v := nI (A 1)) (j := 1) e_X9_hungry_7 ha rfl (by rw [hl]; omega) (stM_at (by omega)) ?_
    refine V_icmp_ge (tgt := 26) e_X9_hungry_8 (by decide) (fun c1 => ?_) (fun c1 => ?_)
    · have d1 : A 1 ≤ p := nq_le (by omega) (by omega) c1
      refine V_iload_n e_X9_hungry_26 rfl rfl ?_
      exact V_iret e_X9_hungry_27 rfl (⟨rfl, by rw [show p = A 1 by omega]; rfl⟩)
    · have d1 : ¬ A 1 ≤ p := nq_nle (by omega) (by omega) c1
      refine V_iload_n e_X9_hungry_11 rfl rfl ?_
      refine V_aload_n e_X9_hungry_12 rfl rfl ?_
      refine V_iload_n e_X9_hungry_13 rfl rfl ?_
      refine V_iconst (v := nI 5) e_X9_hungry_14 (by decide) ?_
      refine V_csIe (av := [.ref (eB E + a), .int (nI p), .int (nI 5)]) (st := [.int (nI (sumN (fun m => A (30 + 6 * m)) p))]) e_X9_hungry_15 (c_X9_his_5 E a p A σ ha hl (by omega)) l_X9_166 S_X9_his (rm_ok (by decide) (by decide)) rfl rfl (Nat.le_of_ble_eq_true rfl) ?_
      refine V_iaddN (z := nI (sumN (fun m => A (30 + 6 * m)) p + (A (30 + 6 * p)))) e_X9_hungry_18 (nI_add _ _) ?_
      refine V_istore_n (L' := [some (.ref (eB E + a)), some (.int (nI (sumN (fun m => A (30 + 6 * m)) p + (A (30 + 6 * p))))), some (.int (nI p))]) e_X9_hungry_19 rfl rfl ?_
      refine V_iinc (v := nI (p + 1)) (L' := [some (.ref (eB E + a)), some (.int (nI (sumN (fun m => A (30 + 6 * m)) p + (A (30 + 6 * p))))), some (.int (nI (p + 1)))]) e_X9_hungry_20 rfl (nI_add _ 1) rfl ?_
      refine V_goto (tgt := 4) e_X9_hungry_23 (by decide) ?_
      exact ih (A 1 - (p + 1)) (by omega) (p + 1) rfl (by omega)
set_option maxRecDepth 100000 in
set_option maxHeartbeats 4000000 in
theorem c_X9_hungry (E : En) (a : Nat) (A : Vec) (σ : Sg) (ha : kd a = 10) (hl : ln a = 55) (hp5 : A 1 ≤ 5) : Cn E m_X9_hungry 2 [.ref (eB E + a)] (stM σ a A) (pI (fun σ' r => σ' = stM σ a A ∧ r = nI (hung A))) := by
  refine Cn.of [some (.ref (eB E + a)), none, none] (by decide) (Nat.le_of_ble_eq_true rfl) rfl ?_
  refine V_iconst (v := nI 0) e_X9_hungry_0 (by decide) ?_
  refine V_istore_n (L' := [some (.ref (eB E + a)), some (.int (nI 0)), none]) e_X9_hungry_1 rfl rfl ?_
  refine V_iconst (v := nI 0) e_X9_hungry_2 (by decide) ?_
  refine V_istore_n (L' := [some (.ref (eB E + a)), some (.int (nI 0)), some (.int (nI 0))]) e_X9_hungry_3 rfl rfl ?_
  exact lp_X9_hungry E a A σ ha hl hp5 (A 1) 0 rfl (by omega)
def lay (i : Nat) (A : Vec) (σ : Sg) : Sg := fun b k => if b = 298 ∧ k < i then nI (A k) else σ b k
theorem lay_step {i : Nat} {A : Vec} {σ : Sg} : up2 (lay i A σ) 298 i (nI (A i)) = lay (i + 1) A σ := by
  funext b k
  unfold up2 lay
  (repeat' split) <;> first | rfl | (exfalso; omega) | (rename_i h _; rw [h.2]) | (rename_i h; rw [h.2])
theorem lay_0 {A : Vec} {σ : Sg} : lay 0 A σ = σ := by funext b k; exact if_neg (by omega)
set_option maxRecDepth 100000 in
set_option maxHeartbeats 4000000 in
theorem lp_X9_layThen (E : En) (A : Vec) (σ : Sg) (hM : RepM σ 296 A) : ∀ (mm : Nat) (i : Nat), 55 - i = mm → (i ≤ 55) → V E m_X9_layThen (kM E 1 (pV (fun σ' => σ' = stM σ 298 A))) 2 [some (.ref (eB E + 292)), some (.int (nI i))] [] (lay i A σ) := by
  intro mm
  induction mm using Nat.strongRecOn with
  | ind mm ih =>
    intro i hmm hi
    refine V_iload_n e_X9_layThen_2 rfl rfl ?_
    refine V_bipush (v := nI 55) e_X9_layThen_3 (by decide) ?_
    refine V_icmp_ge (tgt := 26) e_X9_layThen_5 (by decide) (fun c1 => ?_) (fun c1 => ?_)
    · have d1 : 55 ≤ i := nq_le (by omega) (by omega) c1
      exact V_vret e_X9_layThen_26 rfl (by rw [show i = 55 by omega]; rfl)
    · have d1 : ¬ 55 ≤ i := nq_nle (by omega) (by omega) c1
      refine V_aload_n e_X9_layThen_8 rfl rfl ?_
      refine V_getr (r := 298) e_X9_layThen_9 F_X9_then f_X9_25 rfl rfl ?_
      refine V_iload_n e_X9_layThen_12 rfl rfl ?_
      refine V_aload_n e_X9_layThen_13 rfl rfl ?_
      refine V_getr (r := 296) e_X9_layThen_14 F_X9_shore f_X9_19 rfl rfl ?_
      refine V_iload_n e_X9_layThen_17 rfl rfl ?_
      refine V_ialdv (v := nI (A i)) (j := i) e_X9_layThen_18 rfl rfl (by have q : ln 296 = 55 := rfl; omega) (by unfold lay; rw [if_neg (by omega)]; exact hM i (by omega)) ?_
      refine V_iast (j := i) e_X9_layThen_19 rfl rfl (by have q : ln 298 = 55 := rfl; omega) ?_
      rw [show up2 (lay i A σ) 298 i (nI (A i)) = lay (i + 1) A σ from lay_step]
      refine V_iinc (v := nI (i + 1)) (L' := [some (.ref (eB E + 292)), some (.int (nI (i + 1)))]) e_X9_layThen_20 rfl (nI_add _ 1) rfl ?_
      refine V_goto (tgt := 2) e_X9_layThen_23 (by decide) ?_
      exact ih (55 - (i + 1)) (by omega) (i + 1) rfl (by omega)
set_option maxRecDepth 100000 in
set_option maxHeartbeats 4000000 in
theorem c_X9_layThen (E : En) (A : Vec) (σ : Sg) (hM : RepM σ 296 A) : Cn E m_X9_layThen 1 [.ref (eB E + 292)] σ (pV (fun σ' => σ' = stM σ 298 A)) := by
  refine Cn.of [some (.ref (eB E + 292)), none] (by decide) (Nat.le_of_ble_eq_true rfl) rfl ?_
  refine V_iconst (v := nI 0) e_X9_layThen_0 (by decide) ?_
  refine V_istore_n (L' := [some (.ref (eB E + 292)), some (.int (nI 0))]) e_X9_layThen_1 rfl rfl ?_
  have hX := lp_X9_layThen E A σ hM 55 0 rfl (by omega); rw [lay_0] at hX; exact hX

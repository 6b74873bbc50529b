set_option maxRecDepth 100000 in
set_option maxHeartbeats 4000000 in
theorem lpQ_X9_when (E : En) (p g : Nat) (A : Vec) (Q : Sg → Int32 → Prop) (σ : Sg) (hF : WF A) (hp : p < A 1) (hg : g < A 0) (h5 : A 1 ≤ 5) (hG6 : A 0 ≤ 6) (hQ : ∀ B, Q (stM σ 298 B) (whenR (fun i => bitN (pds A A p i).2.2.1 g) 61 0)) : ∀ (mm : Nat) (i : Nat), 61 - i = mm → (i ≤ 61) → (whenR (fun i => bitN (pds A A p i).2.2.1 g) 61 0 = whenR (fun i => bitN (pds A A p i).2.2.1 g) (61 - i) i) → V E m_X9_when (kM E 12 (pI Q)) 30 [some (.ref (eB E + 292)), some (.int (nI p)), some (.int (nI g)), some (.int (nI i))] [] (stM σ 298 (daysV A i)) := by
  intro mm
  induction mm using Nat.strongRecOn with
  | ind mm ih =>
    intro i hmm hi hw
    refine V_iload_n e_X9_when_30 rfl rfl ?_
    refine V_bipush (v := nI 60) e_X9_when_31 (by decide) ?_
    refine V_icmp_gt (tgt := 67) e_X9_when_33 (by decide) (fun c1 => ?_) (fun c1 => ?_)
    · have d1 : 60 < i := nq_lt (by omega) (by omega) c1
      refine V_ldc (v := (-1000000)) e_X9_when_67 k_X9_96 ?_
      exact V_iret e_X9_when_69 rfl (by have hq := hQ (daysV A i); rw [hw, show 61 - i = 0 by omega] at hq; exact hq)
    · have d1 : ¬ 60 < i := nq_nlt (by omega) (by omega) c1
      have ho := (pds_WP (i := i) hF hp (rfl : A 0 = A 0)).of64 hG6
      have hb1 := bitN_le (pds A A p i).2.2.1 g
      refine V_aload_n e_X9_when_36 rfl rfl ?_
      refine V_getr (r := 298) e_X9_when_37 F_X9_then f_X9_25 rfl rfl ?_
      refine V_iload_n e_X9_when_40 rfl rfl ?_
      refine V_iconst (v := nI 2) e_X9_when_41 (by decide) ?_
      refine V_csIe (av := [.ref (eB E + 298), .int (nI p), .int (nI 2)]) (st := []) e_X9_when_42 (c_X9_hisT_w E p 2 (daysV A i) σ (by omega) (by omega)) l_X9_166 S_X9_his (rm_ok (by decide) (by decide)) rfl rfl (Nat.le_of_ble_eq_true rfl) ?_
      refine V_topi (y := nI ((pds A A p i).2.2.1)) (congrArg nI (by rw [show 25 + 6 * p + 2 = 27 + 6 * p by omega]; exact (daysV_at hF hp).2.2.1)) ?_
      refine V_iload_n e_X9_when_45 rfl rfl ?_
      refine V_csIe (av := [.int (nI ((pds A A p i).2.2.1)), .int (nI g)]) (st := []) e_X9_when_46 (c_X9_has E ((pds A A p i).2.2.1) g (stM σ 298 (daysV A i)) (by omega) (by omega)) l_X9_158 S_X9_has (rm_ok (by decide) (by decide)) rfl rfl (Nat.le_of_ble_eq_true rfl) ?_
      refine V_if_eq (tgt := 54) e_X9_when_49 (by decide) (fun c2 => ?_) (fun c2 => ?_)
      · have d2 : bitN ((pds A A p i).2.2.1) g = 0 := nq_eq (by omega) (by omega) c2
        refine V_aload_n e_X9_when_54 rfl rfl ?_
        refine V_getr (r := 298) e_X9_when_55 F_X9_then f_X9_25 rfl rfl ?_
        refine V_csVe (av := [.ref (eB E + 298)]) (st := []) e_X9_when_58 (c_X9_day E 298 (daysV A i) σ rfl rfl (hF.days i)) l_X9_187 S_X9_day (rm_ok (by decide) (by decide)) rfl rfl (Nat.le_of_ble_eq_true rfl) ?_
        refine V_iinc (v := nI (i + 1)) (L' := [some (.ref (eB E + 292)), some (.int (nI p)), some (.int (nI g)), some (.int (nI (i + 1)))]) e_X9_when_61 rfl (nI_add _ 1) rfl ?_
        refine V_goto (tgt := 30) e_X9_when_64 (by decide) ?_
        exact ih (61 - (i + 1)) (by omega) (i + 1) rfl (by omega) (by rw [hw]; exact whenR_step (by omega) (show ¬ bitN (pds A A p i).2.2.1 g = 1 by omega))
      · have d2 : ¬ bitN ((pds A A p i).2.2.1) g = 0 := nq_ne (by omega) (by omega) c2
        refine V_iload_n e_X9_when_52 rfl rfl ?_
        exact V_iret e_X9_when_53 rfl (by have hq := hQ (daysV A i); rw [hw, whenR_hit (f := (fun i => bitN (pds A A p i).2.2.1 g)) (by omega) (show bitN (pds A A p i).2.2.1 g = 1 by omega)] at hq; exact hq)
set_option maxRecDepth 100000 in
set_option maxHeartbeats 4000000 in
theorem c_X9_when (E : En) (x y : Int32) (A : Vec) (σ : Sg) (hM : RepM σ 296 A) (hN : WN A) : Cn E m_X9_when 12 [.ref (eB E + 292), .int x, .int y] σ (pI (fun σ' r => Fm σ σ' ∧ r = sWhen A x y)) := by
  have hNl := hN.le
  have hM1 : RepM (up2 σ 292 0 (nI 0)) 296 A := hM.fm Fm.th (by decide) (by decide)
  refine Cn.of [some (.ref (eB E + 292)), some (.int x), some (.int y), none] (by decide) (Nat.le_of_ble_eq_true rfl) rfl ?_
  refine V_aload_n e_X9_when_0 rfl rfl ?_
  refine V_iconst (v := nI 0) e_X9_when_1 (by decide) ?_
  refine V_puti e_X9_when_2 F_X9_thrown f_X9_53 rfl ?_
  refine V_aload_n e_X9_when_5 rfl rfl ?_
  refine V_iload_n e_X9_when_6 rfl rfl ?_
  refine V_cvIe (av := [.int x]) (st := []) e_X9_when_7 (c_X9_isMan E x A (up2 σ 292 0 (nI 0)) hM1) l_X9_204 S_X9_isMan rfl (rm_ok (by decide) (by decide)) rfl rfl (Nat.le_of_ble_eq_true rfl) ?_
  refine V_if_eq (tgt := 21) e_X9_when_10 (by decide) (fun c1 => ?_) (fun c1 => ?_)
  · refine V_ldc (v := (-1000001)) e_X9_when_21 k_X9_73 ?_
    exact V_iret e_X9_when_23 rfl (⟨Fm.th, by unfold sWhen; (try unfold gIn); (first | rw [if_pos c1] | rw [if_neg c1] | skip); (try dsimp only); (repeat rw [ixN (by omega)]); try rfl⟩)
  · obtain ⟨p, hp, rfl⟩ := (wi_nat (by omega)).mp c1
    have hF : WF A := hN.wf (by omega)
    refine V_aload_n e_X9_when_13 rfl rfl ?_
    refine V_iload_n e_X9_when_14 rfl rfl ?_
    refine V_cvIe (av := [.int y]) (st := []) e_X9_when_15 (c_X9_isGate E y A (up2 σ 292 0 (nI 0)) hM1) l_X9_207 S_X9_isGate rfl (rm_ok (by decide) (by decide)) rfl rfl (Nat.le_of_ble_eq_true rfl) ?_
    refine V_if_ne (tgt := 24) e_X9_when_18 (by decide) (fun c2 => ?_) (fun c2 => ?_)
    · obtain ⟨g, hg, rfl⟩ := (wi_nat (by omega)).mp c2
      refine V_aload_n e_X9_when_24 rfl rfl ?_
      refine V_cvVe (av := []) (st := []) e_X9_when_25 (c_X9_layThen E A (up2 σ 292 0 (nI 0)) hM1) l_X9_223 S_X9_layThen rfl (rm_ok (by decide) (by decide)) rfl rfl (Nat.le_of_ble_eq_true rfl) ?_
      refine V_iconst (v := nI 0) e_X9_when_28 (by decide) ?_
      refine V_istore_n (L' := [some (.ref (eB E + 292)), some (.int (nI p)), some (.int (nI g)), some (.int (nI 0))]) e_X9_when_29 rfl rfl ?_
      exact lpQ_X9_when E p g A _ (up2 σ 292 0 (nI 0)) hF hp hg hNl.2 hNl.1 (fun B => ⟨Fm.th.st, by unfold sWhen gIn; rw [if_neg c1, if_neg c2, ixN (by omega), ixN (by omega)]⟩) 61 0 rfl (by omega) rfl
    · refine V_ldc (v := (-1000001)) e_X9_when_21 k_X9_73 ?_
      exact V_iret e_X9_when_23 rfl (⟨Fm.th, by unfold sWhen; (try unfold gIn); (first | rw [if_pos c1] | rw [if_neg c1] | skip); (first | rw [if_pos c2] | rw [if_neg c2] | skip); (try dsimp only); (repeat rw [ixN (by omega)]); try rfl⟩)
set_option maxRecDepth 100000 in
set_option maxHeartbeats 4000000 in
theorem lp_X9_first_p (E : En) (w d : Nat) (A : Vec) (Q : Sg → Int32 → Prop) (σ : Sg) (hM : RepM σ 296 A) (hF : WF A) (hw : w ≤ 1) (hB : HBd A) (h5 : A 1 ≤ 5) (h1d : 1 ≤ d) (hd60 : d ≤ 60) (hd : hfn A 60 1 = hfn A (61 - d) d) (hQ : ∀ B q, hfn A 60 1 = some q → Q (stM σ 298 B) (if w = 0 then nI q.1 else nI q.2)) (hQ0 : ∀ B, hfn A 60 1 = none → Q (stM σ 298 B) (-1000000)) (hout : hfp A d (A 1) 0 = none → V E m_X9_first (kM E 12 (pI Q)) 96 [some (.ref (eB E + 292)), some (.int (nI w)), some (.int (nI d)), some (.int (nI (A 1)))] [] (stM σ 298 (daysV A d))) : ∀ (mm : Nat) (p : Nat), A 1 - p = mm → (p ≤ A 1) → (hfp A d (A 1) 0 = hfp A d (A 1 - p) p) → V E m_X9_first (kM E 12 (pI Q)) 49 [some (.ref (eB E + 292)), some (.int (nI w)), some (.int (nI d)), some (.int (nI p))] [] (stM σ 298 (daysV A d)) := by
  intro mm
  induction mm using Nat.strongRecOn with
  | ind mm ih =>
    intro p hmm hp hp9
    refine V_iload_n e_X9_first_49 rfl rfl ?_
    refine V_aload_n e_X9_first_50 rfl rfl ?_
    refine V_getr (r := 296) e_X9_first_51 F_X9_shore f_X9_19 rfl rfl ?_
    refine V_iconst (v := nI 1) e_X9_first_54 (by decide) ?_
    refine V_ialdv (v := nI (A 1)) (j := 1) e_X9_first_55 rfl rfl (by decide) (hM.t 1 (by omega)) ?_
    refine V_icmp_ge (tgt := 96) e_X9_first_56 (by decide) (fun c1 => ?_) (fun c1 => ?_)
    · have d1 : A 1 ≤ p := nq_le (by omega) (by omega) c1
      have hz9 : hfp A d (A 1) 0 = none := hp9.trans (by rw [show A 1 - p = 0 by omega]; rfl); obtain rfl : p = A 1 := (by omega); exact hout hz9
    · have d1 : ¬ A 1 ≤ p := nq_nle (by omega) (by omega) c1
      have hu1 := hB.b (B := A) (show p < A 1 by omega) (show d ≤ 60 by omega)
      have hu2 := hB p (by omega)
      refine V_aload_n e_X9_first_59 rfl rfl ?_
      refine V_getr (r := 298) e_X9_first_60 F_X9_then f_X9_25 rfl rfl ?_
      refine V_iload_n e_X9_first_63 rfl rfl ?_
      refine V_iconst (v := nI 5) e_X9_first_64 (by decide) ?_
      refine V_csIe (av := [.ref (eB E + 298), .int (nI p), .int (nI 5)]) (st := []) e_X9_first_65 (c_X9_hisT_w E p 5 (daysV A d) σ (by omega) (by omega)) l_X9_166 S_X9_his (rm_ok (by decide) (by decide)) rfl rfl (Nat.le_of_ble_eq_true rfl) ?_
      refine V_topi (y := nI ((pds A A p d).2.2.2.2.2)) (congrArg nI (by rw [show 25 + 6 * p + 5 = 30 + 6 * p by omega]; exact (daysV_at hF (by omega)).2.2.2.2.2)) ?_
      refine V_aload_n e_X9_first_68 rfl rfl ?_
      refine V_getr (r := 296) e_X9_first_69 F_X9_shore f_X9_19 rfl rfl ?_
      refine V_iload_n e_X9_first_72 rfl rfl ?_
      refine V_iconst (v := nI 5) e_X9_first_73 (by decide) ?_
      refine V_csIe (av := [.ref (eB E + 296), .int (nI p), .int (nI 5)]) (st := [.int (nI ((pds A A p d).2.2.2.2.2))]) e_X9_first_74 (c_X9_hisR_5 E 296 p A (stM σ 298 (daysV A d)) rfl rfl hM.t (by omega)) l_X9_166 S_X9_his (rm_ok (by decide) (by decide)) rfl rfl (Nat.le_of_ble_eq_true rfl) ?_
      refine V_icmp_le (tgt := 90) e_X9_first_77 (by decide) (fun c2 => ?_) (fun c2 => ?_)
      · have d2 : (pds A A p d).2.2.2.2.2 ≤ A (30 + 6 * p) := nq_le (by omega) (by omega) c2
        refine V_iinc (v := nI (p + 1)) (L' := [some (.ref (eB E + 292)), some (.int (nI w)), some (.int (nI d)), some (.int (nI (p + 1)))]) e_X9_first_90 rfl (nI_add _ 1) rfl ?_
        refine V_goto (tgt := 49) e_X9_first_93 (by decide) ?_
        exact ih (A 1 - (p + 1)) (by omega) (p + 1) rfl (by omega) (by rw [hp9]; exact hfp_no (by omega) d2)
      · have d2 : ¬ (pds A A p d).2.2.2.2.2 ≤ A (30 + 6 * p) := nq_nle (by omega) (by omega) c2
        refine V_iload_n e_X9_first_80 rfl rfl ?_
        refine V_if_ne (tgt := 88) e_X9_first_81 (by decide) (fun c3 => ?_) (fun c3 => ?_)
        · have d3 : ¬ w = 0 := nq_ne (by omega) (by omega) c3
          refine V_iload_n e_X9_first_88 rfl rfl ?_
          exact V_iret e_X9_first_89 rfl (by have hq := hQ (daysV A d) _ (hd.trans (hfn_yes (by omega) (hp9.trans (hfp_yes (by omega) d2)))); rw [if_neg d3] at hq; exact hq)
        · have d3 : w = 0 := nq_eq (by omega) (by omega) c3
          refine V_iload_n e_X9_first_84 rfl rfl ?_
          refine V_goto (tgt := 89) e_X9_first_85 (by decide) ?_
          exact V_iret e_X9_first_89 rfl (by have hq := hQ (daysV A d) _ (hd.trans (hfn_yes (by omega) (hp9.trans (hfp_yes (by omega) d2)))); rw [if_pos d3] at hq; exact hq)
set_option maxRecDepth 100000 in
set_option maxHeartbeats 4000000 in
theorem lp_X9_first_d (E : En) (w : Nat) (A : Vec) (Q : Sg → Int32 → Prop) (σ : Sg) (hM : RepM σ 296 A) (hF : WF A) (hw : w ≤ 1) (hB : HBd A) (h5 : A 1 ≤ 5) (hQ : ∀ B q, hfn A 60 1 = some q → Q (stM σ 298 B) (if w = 0 then nI q.1 else nI q.2)) (hQ0 : ∀ B, hfn A 60 1 = none → Q (stM σ 298 B) (-1000000)) : ∀ (mm : Nat) (d : Nat), 61 - d = mm → (1 ≤ d) → (d ≤ 61) → (hfn A 60 1 = hfn A (61 - d) d) → V E m_X9_first (kM E 12 (pI Q)) 34 [some (.ref (eB E + 292)), some (.int (nI w)), some (.int (nI d)), none] [] (stM σ 298 (daysV A (d - 1))) := by
  intro mm
  induction mm using Nat.strongRecOn with
  | ind mm ih =>
    intro d hmm h1d hd61 hd
    refine V_iload_n e_X9_first_34 rfl rfl ?_
    refine V_bipush (v := nI 60) e_X9_first_35 (by decide) ?_
    refine V_icmp_gt (tgt := 102) e_X9_first_37 (by decide) (fun c1 => ?_) (fun c1 => ?_)
    · have d1 : 60 < d := nq_lt (by omega) (by omega) c1
      refine V_ldc (v := (-1000000)) e_X9_first_102 k_X9_96 ?_
      exact V_iret e_X9_first_104 rfl (hQ0 _ (by rw [hd, show 61 - d = 0 by omega]; rfl))
    · have d1 : ¬ 60 < d := nq_nlt (by omega) (by omega) c1
      refine V_aload_n e_X9_first_40 rfl rfl ?_
      refine V_getr (r := 298) e_X9_first_41 F_X9_then f_X9_25 rfl rfl ?_
      refine V_csVe (av := [.ref (eB E + 298)]) (st := []) e_X9_first_44 (c_X9_day E 298 (daysV A (d - 1)) σ rfl rfl (hF.days _)) l_X9_187 S_X9_day (rm_ok (by decide) (by decide)) rfl rfl (Nat.le_of_ble_eq_true rfl) ?_
      refine V_iconst (v := nI 0) e_X9_first_47 (by decide) ?_
      refine V_istore_n (L' := [some (.ref (eB E + 292)), some (.int (nI w)), some (.int (nI d)), some (.int (nI 0))]) e_X9_first_48 rfl rfl ?_
      rw [show dayV (daysV A (d - 1)) = daysV A d from (by rw [show d = (d - 1) + 1 by omega]; rfl)]; exact lp_X9_first_p E w d A Q σ hM hF hw hB h5 h1d (by omega) hd hQ hQ0 (fun hn2 => V_iinc (v := nI (d + 1)) (L' := [some (.ref (eB E + 292)), some (.int (nI w)), some (.int (nI (d + 1))), some (.int (nI (A 1)))]) e_X9_first_96 rfl (nI_add _ 1) rfl (V_goto (tgt := 34) e_X9_first_99 (by decide) (V_forget 3 (ih (61 - (d + 1)) (by omega) (d + 1) rfl (by omega) (by omega) (by rw [hd]; exact hfn_no (by omega) hn2))))) (A 1) 0 rfl (by omega) rfl
set_option maxRecDepth 100000 in
set_option maxHeartbeats 4000000 in
theorem c_X9_first (E : En) (x : Int32) (A : Vec) (σ : Sg) (hM : RepM σ 296 A) (hN : WN A) (hB : HBd A) : Cn E m_X9_first 12 [.ref (eB E + 292), .int x] σ (pI (fun σ' r => Fm σ σ' ∧ r = sFirst A x)) := by
  have hNl := hN.le
  have hM1 : RepM (up2 σ 292 0 (nI 0)) 296 A := hM.fm Fm.th (by decide) (by decide)
  refine Cn.of [some (.ref (eB E + 292)), some (.int x), none, none] (by decide) (Nat.le_of_ble_eq_true rfl) rfl ?_
  refine V_aload_n e_X9_first_0 rfl rfl ?_
  refine V_iconst (v := nI 0) e_X9_first_1 (by decide) ?_
  refine V_puti e_X9_first_2 F_X9_thrown f_X9_53 rfl ?_
  refine V_aload_n e_X9_first_5 rfl rfl ?_
  refine V_cvIe (av := []) (st := []) e_X9_first_6 (c_X9_isThere E A (up2 σ 292 0 (nI 0)) hM1 hNl.1) l_X9_191 S_X9_isThere rfl (rm_ok (by decide) (by decide)) rfl rfl (Nat.le_of_ble_eq_true rfl) ?_
  refine V_if_ne (tgt := 15) e_X9_first_9 (by decide) (fun c1 => ?_) (fun c1 => ?_)
  · have d1 : ¬ (if A 0 = 0 then 0 else 1) = 0 := nq_ne (by first | omega | (split <;> omega)) (by first | omega | (split <;> omega)) c1
    have hA0 : ¬ A 0 = 0 := fun q => by rw [if_pos q] at d1; omega
    have hF : WF A := hN.wf (by omega)
    refine V_iload_n e_X9_first_15 rfl rfl ?_
    refine V_i2l e_X9_first_16 ?_
    refine V_lconst (v := lN 0) e_X9_first_17 (by decide) ?_
    refine V_lconst (v := lN 1) e_X9_first_18 (by decide) ?_
    refine V_csIe (av := [.long x.toInt64, .long (lN 0), .long (lN 1)]) (st := []) e_X9_first_19 (c_X9_inN E x (nI 0) (nI 1) (lN 0) (lN 1) (up2 σ 292 0 (nI 0)) (nI_l (by omega)) (nI_l (by omega))) l_X9_63 S_X9_in (rm_ok (by decide) (by decide)) rfl rfl (Nat.le_of_ble_eq_true rfl) ?_
    refine V_if_ne (tgt := 28) e_X9_first_22 (by decide) (fun c2 => ?_) (fun c2 => ?_)
    · obtain ⟨w, hwa, hw, rfl⟩ := (wi_le (by omega) (by omega)).mp c2
      refine V_aload_n e_X9_first_28 rfl rfl ?_
      refine V_cvVe (av := []) (st := []) e_X9_first_29 (c_X9_layThen E A (up2 σ 292 0 (nI 0)) hM1) l_X9_223 S_X9_layThen rfl (rm_ok (by decide) (by decide)) rfl rfl (Nat.le_of_ble_eq_true rfl) ?_
      refine V_iconst (v := nI 1) e_X9_first_32 (by decide) ?_
      refine V_istore_n (L' := [some (.ref (eB E + 292)), some (.int (nI w)), some (.int (nI 1)), none]) e_X9_first_33 rfl rfl ?_
      exact lp_X9_first_d E w A _ (up2 σ 292 0 (nI 0)) hM1 hF (by omega) hB hNl.2 (fun B q hq => ⟨Fm.th.st, by unfold sFirst; rw [if_neg hA0, if_neg c2, ixN (by omega), hfR_of hq]⟩) (fun B hq => ⟨Fm.th.st, by unfold sFirst; rw [if_neg hA0, if_neg c2, ixN (by omega), hfR_no hq]⟩) 60 1 rfl (by omega) (by omega) rfl
    · refine V_ldc (v := (-1000001)) e_X9_first_25 k_X9_73 ?_
      exact V_iret e_X9_first_27 rfl (⟨Fm.th, by unfold sFirst; (try unfold gIn); (first | rw [if_pos hA0] | rw [if_neg hA0] | skip); (first | rw [if_pos d1] | rw [if_neg d1] | skip); (first | rw [if_pos c2] | rw [if_neg c2] | skip); (try dsimp only); (repeat rw [ixN (by omega)]); try rfl⟩)
  · have d1 : (if A 0 = 0 then 0 else 1) = 0 := nq_eq (by first | omega | (split <;> omega)) (by first | omega | (split <;> omega)) c1
    have hA0 : A 0 = 0 := Decidable.byContradiction (fun q => by rw [if_neg q] at d1; omega)
    refine V_ldc (v := (-1000002)) e_X9_first_12 k_X9_194 ?_
    exact V_iret e_X9_first_14 rfl (⟨Fm.th, by unfold sFirst; (try unfold gIn); (first | rw [if_pos hA0] | rw [if_neg hA0] | skip); (first | rw [if_pos d1] | rw [if_neg d1] | skip); (try dsimp only); (repeat rw [ixN (by omega)]); try rfl⟩)
set_option maxRecDepth 100000 in
set_option maxHeartbeats 4000000 in
theorem lp_X9_rounds_k (E : En) (p g n s : Nat) (w : Int32) (A : Vec) (K : Kk) (b : Int32) (τ : Sg) (hT : RepM τ 296 A) (hG6 : A 0 ≤ 6) (hs : s < 64) (hout : V E m_X9_rounds K 135 [some (.ref (eB E + 292)), some (.int (nI p)), some (.int (nI g)), some (.int (nI n)), some (.int w), some (.int b), some (.int (nI s)), some (.int (nI (A 0)))] [] (stM τ 298 (turnV A s))) : ∀ (mm : Nat) (k : Nat), A 0 - k = mm → (k ≤ A 0) → V E m_X9_rounds (K) 94 [some (.ref (eB E + 292)), some (.int (nI p)), some (.int (nI g)), some (.int (nI n)), some (.int w), some (.int b), some (.int (nI s)), some (.int (nI k))] [] (stM τ 298 (turnK A s k)) := by
  intro mm
  induction mm using Nat.strongRecOn with
  | ind mm ih =>
    intro k hmm hk
    refine V_iload e_X9_rounds_94 rfl ?_
    refine V_aload_n e_X9_rounds_96 rfl rfl ?_
    refine V_getr (r := 296) e_X9_rounds_97 F_X9_shore f_X9_19 rfl rfl ?_
    refine V_iconst (v := nI 0) e_X9_rounds_100 (by decide) ?_
    refine V_ialdv (v := nI (A 0)) (j := 0) e_X9_rounds_101 rfl rfl (by decide) (hT.t 0 (by omega)) ?_
    refine V_icmp_ge (tgt := 135) e_X9_rounds_102 (by decide) (fun c1 => ?_) (fun c1 => ?_)
    · have d1 : A 0 ≤ k := nq_le (by omega) (by omega) c1
      obtain rfl : k = A 0 := (by omega); rw [turnK_e]; exact hout
    · have d1 : ¬ A 0 ≤ k := nq_nle (by omega) (by omega) c1
      refine V_aload_n e_X9_rounds_105 rfl rfl ?_
      refine V_getr (r := 298) e_X9_rounds_106 F_X9_then f_X9_25 rfl rfl ?_
      refine V_bipush (v := nI 7) e_X9_rounds_109 (by decide) ?_
      refine V_iconst (v := nI 3) e_X9_rounds_111 (by decide) ?_
      refine V_iload e_X9_rounds_112 rfl ?_
      refine V_imulN (z := nI (3 * k)) e_X9_rounds_114 (pk_mul _ _) ?_
      refine V_iaddN (z := nI (7 + (3 * k))) e_X9_rounds_115 (nI_add _ _) ?_
      refine V_iconst (v := nI 2) e_X9_rounds_116 (by decide) ?_
      refine V_iaddN (z := nI (7 + (3 * k) + 2)) e_X9_rounds_117 (nI_add _ _) ?_
      refine V_dup2 e_X9_rounds_118 rfl rfl ?_
      refine V_ialdv (v := nI (A (9 + 3 * k))) (j := (7 + (3 * k) + 2)) e_X9_rounds_119 rfl rfl (by have q : ln 298 = 55 := rfl; omega) ((stM_at (by omega)).trans (congrArg nI (by rw [show 7 + 3 * k + 2 = 9 + 3 * k by omega]; exact turnK_f))) ?_
      refine V_iload e_X9_rounds_120 rfl ?_
      refine V_iload e_X9_rounds_122 rfl ?_
      refine V_ishrN (z := nI (s / 2 ^ k)) e_X9_rounds_124 (shrN (by omega) (by omega)) ?_
      refine V_iconst (v := nI 1) e_X9_rounds_125 (by decide) ?_
      refine V_iandN (z := nI ((s / 2 ^ k) &&& 1)) e_X9_rounds_126 (andI _ _) ?_
      refine V_topi (y := nI (bitN s k)) (congrArg nI (Nat.and_one_is_mod _)) ?_
      refine V_ixorN (z := nI ((A (9 + 3 * k)) ^^^ (bitN s k))) e_X9_rounds_127 (xorI _ _) ?_
      refine V_iast (j := (7 + (3 * k) + 2)) e_X9_rounds_128 rfl rfl (by have q : ln 298 = 55 := rfl; omega) ?_
      rw [show up2 (stM τ 298 (turnK A s k)) 298 (7 + (3 * k) + 2) (nI ((A (9 + 3 * k)) ^^^ (bitN s k))) = stM τ 298 (turnK A s (k + 1)) from (by rw [show 7 + 3 * k + 2 = 9 + 3 * k by omega, stM_up (by omega), turnK_step (by omega)])]
      refine V_iinc (v := nI (k + 1)) (L' := [some (.ref (eB E + 292)), some (.int (nI p)), some (.int (nI g)), some (.int (nI n)), some (.int w), some (.int b), some (.int (nI s)), some (.int (nI (k + 1)))]) e_X9_rounds_129 rfl (nI_add _ 1) rfl ?_
      refine V_goto (tgt := 94) e_X9_rounds_132 (by decide) ?_
      exact ih (A 0 - (k + 1)) (by omega) (k + 1) rfl (by omega)


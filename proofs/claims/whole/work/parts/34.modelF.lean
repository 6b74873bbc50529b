theorem sum_le {f : Nat → Nat} {c : Nat} : ∀ p, (∀ m, m < p → f m ≤ c) → sumN f p ≤ c * p
  | 0, _ => Nat.zero_le _
  | p + 1, h => by
    have e : c * (p + 1) = c * p + c := Nat.mul_succ c p
    rw [e]
    exact Nat.add_le_add (sum_le p (fun m hm => h m (by omega))) (h p (by omega))
theorem hung_lt {A : Vec} (hB : HBd A) (h5 : A 1 ≤ 5) : hung A < 2 ^ 31 := by
  have h := sum_le (A 1) (fun m hm => hB m hm)
  have h2 : 1000000 * A 1 ≤ 1000000 * 5 := Nat.mul_le_mul_left _ h5
  exact Nat.lt_of_le_of_lt (Nat.le_trans h h2) (by decide)
theorem hungd_lt {A : Vec} {n s : Nat} (hF : WF A) (hB : HBd A) (h5 : A 1 ≤ 5) (hs : s < 2 ^ A 0) (hn : n ≤ 30) : hung (daysV (fallV A s) n) < 2 ^ 31 := by
  rw [hung_days (hF.fall hs), fallV_lo (by omega)]
  have h := sum_le (f := fun m => (pds (fallV A s) (fallV A s) m n).2.2.2.2.2) (c := 1000030) (A 1) (fun m hm => by
    have h1 := pdays_hu1 (B := fallV A s) (st := bitN (fallV A s 6) m) (q := pn (fallV A s) m) n
    have h2 := hB m hm
    have h3 : (pn (fallV A s) m).2.2.2.2.2 = A (30 + 6 * m) := by rw [fallV_pn]; rfl
    rw [h3] at h1
    exact Nat.le_trans h1 (Nat.add_le_add h2 hn))
  have h2 : 1000030 * A 1 ≤ 1000030 * 5 := Nat.mul_le_mul_left _ h5
  exact Nat.lt_of_le_of_lt (Nat.le_trans h h2) (by decide)
set_option maxRecDepth 100000 in
set_option maxHeartbeats 4000000 in
theorem lpQ_X9_when (E : En) (p g : Nat) (A : Vec) (Q : Sg → Int32 → Prop) (σ : Sg) (hF : WF A) (hp : p < A 1) (hg : g < A 0) (h5 : A 1 ≤ 5) (hG6 : A 0 ≤ 6) (hQ : ∀ B, Q (stM σ 298 B) (whenR (fun i => bitN (pds A A p i).2.2.1 g) 61 0)) : ∀ (mm : Nat) (i : Nat), 61 - i = mm → (i ≤ 61) → (whenR (fun i => bitN (pds A A p i).2.2.1 g) 61 0 = whenR (fun i => bitN (pds A A p i).2.2.1 g) (61 - i) i) → V E m_X9_when (kM E 12 (pI Q)) 30 [some (.ref (eB E + 292)), some (.int (nI p)), some (.int (nI g)), some (.int (nI i))] [] (stM σ 298 (daysV A i)) := by
  intro mm
  induction mm using Nat.strongRecOn with
  | ind mm ih =>
    intro i hmm hi hw
    refine V_iload_n e_X9_when_30 rfl rfl ?_
    refine V_bipush (v := nI 60) e_X9_when_31 (by decide) ?_
    refine V_icmp_gt (tgt := 67) e_X9_when_33 (by decide) (fun c1 => ?_) (fun c1 => ?_)
    · have d1 : 60 < i := nq_lt (by omega) (by omega) c1
      refine V_ldc (v := (-1000000)) e_X9_when_67 k_X9_96 ?_
      exact V_iret e_X9_when_69 rfl (by have hq := hQ (daysV A i); rw [hw, show 61 - i = 0 by omega] at hq; exact hq)
    · have d1 : ¬ 60 < i := nq_nlt (by omega) (by omega) c1
      have ho := (pds_WP (i := i) hF hp (rfl : A 0 = A 0)).of64 hG6
      have hb1 := bitN_le (pds A A p i).2.2.1 g
      refine V_aload_n e_X9_when_36 rfl rfl ?_
      refine V_getr (r := 298) e_X9_when_37 F_X9_then f_X9_25 rfl rfl ?_
      refine V_iload_n e_X9_when_40 rfl rfl ?_
      refine V_iconst (v := nI 2) e_X9_when_41 (by decide) ?_
      refine V_csIe (av := [.ref (eB E + 298), .int (nI p), .int (nI 2)]) (st := []) e_X9_when_42 (c_X9_hisT_w E p 2 (daysV A i) σ (by omega) (by omega)) l_X9_166 S_X9_his (rm_ok (by decide) (by decide)) rfl rfl (Nat.le_of_ble_eq_true rfl) ?_
      refine V_topi (y := nI ((pds A A p i).2.2.1)) (congrArg nI (by rw [show 25 + 6 * p + 2 = 27 + 6 * p by omega]; exact (daysV_at hF hp).2.2.1)) ?_
      refine V_iload_n e_X9_when_45 rfl rfl ?_
      refine V_csIe (av := [.int (nI ((pds A A p i).2.2.1)), .int (nI g)]) (st := []) e_X9_when_46 (c_X9_has E ((pds A A p i).2.2.1) g (stM σ 298 (daysV A i)) (by omega) (by omega)) l_X9_158 S_X9_has (rm_ok (by decide) (by decide)) rfl rfl (Nat.le_of_ble_eq_true rfl) ?_
      refine V_if_eq (tgt := 54) e_X9_when_49 (by decide) (fun c2 => ?_) (fun c2 => ?_)
      · have d2 : bitN ((pds A A p i).2.2.1) g = 0 := nq_eq (by omega) (by omega) c2
        refine V_aload_n e_X9_when_54 rfl rfl ?_
        refine V_getr (r := 298) e_X9_when_55 F_X9_then f_X9_25 rfl rfl ?_
        refine V_csVe (av := [.ref (eB E + 298)]) (st := []) e_X9_when_58 (c_X9_day E 298 (daysV A i) σ rfl rfl (hF.days i)) l_X9_187 S_X9_day (rm_ok (by decide) (by decide)) rfl rfl (Nat.le_of_ble_eq_true rfl) ?_
        refine V_iinc (v := nI (i + 1)) (L' := [some (.ref (eB E + 292)), some (.int (nI p)), some (.int (nI g)), some (.int (nI (i + 1)))]) e_X9_when_61 rfl (nI_add _ 1) rfl ?_
        refine V_goto (tgt := 30) e_X9_when_64 (by decide) ?_
        exact ih (61 - (i + 1)) (by omega) (i + 1) rfl (by omega) (by rw [hw]; exact whenR_step (by omega) (show ¬ bitN (pds A A p i).2.2.1 g = 1 by omega))
      · have d2 : ¬ bitN ((pds A A p i).2.2.1) g = 0 := nq_ne (by omega) (by omega) c2
        refine V_iload_n e_X9_when_52 rfl rfl ?_
        exact V_iret e_X9_when_53 rfl (by have hq := hQ (daysV A i); rw [hw, whenR_hit (f := (fun i => bitN (pds A A p i).2.2.1 g)) (by omega) (show bitN (pds A A p i).2.2.1 g = 1 by omega)] at hq; exact hq)
set_option maxRecDepth 100000 in
set_option maxHeartbeats 4000000 in
theorem c_X9_when (E : En) (x y : Int32) (A : Vec) (σ : Sg) (hM : RepM σ 296 A) (hN : WN A) : Cn E m_X9_when 12 [.ref (eB E + 292), .int x, .int y] σ (pI (fun σ' r => Fm σ σ' ∧ r = sWhen A x y)) := by
  have hNl := hN.le
  have hM1 : RepM (up2 σ 292 0 (nI 0)) 296 A := hM.fm Fm.th (by decide) (by decide)
  refine Cn.of [some (.ref (eB E + 292)), some (.int x), some (.int y), none] (by decide) (Nat.le_of_ble_eq_true rfl) rfl ?_
  refine V_aload_n e_X9_when_0 rfl rfl ?_
  refine V_iconst (v := nI 0) e_X9_when_1 (by decide) ?_
  refine V_puti e_X9_when_2 F_X9_thrown f_X9_53 rfl ?_
  refine V_aload_n e_X9_when_5 rfl rfl ?_
  refine V_iload_n e_X9_when_6 rfl rfl ?_
  refine V_cvIe (av := [.int x]) (st := []) e_X9_when_7 (c_X9_isMan E x A (up2 σ 292 0 (nI 0)) hM1) l_X9_204 S_X9_isMan rfl (rm_ok (by decide) (by decide)) rfl rfl (Nat.le_of_ble_eq_true rfl) ?_
  refine V_if_eq (tgt := 21) e_X9_when_10 (by decide) (fun c1 => ?_) (fun c1 => ?_)
  · refine V_ldc (v := (-1000001)) e_X9_when_21 k_X9_73 ?_
    exact V_iret e_X9_when_23 rfl (⟨Fm.th, by unfold sWhen; (try unfold gIn); (first | rw [if_pos c1] | rw [if_neg c1] | skip); (try dsimp only); (repeat rw [ixN (by omega)]); try rfl⟩)
  · obtain ⟨p, hp, rfl⟩ := (wi_nat (by omega)).mp c1
    have hF : WF A := hN.wf (by omega)
    refine V_aload_n e_X9_when_13 rfl rfl ?_
    refine V_iload_n e_X9_when_14 rfl rfl ?_
    refine V_cvIe (av := [.int y]) (st := []) e_X9_when_15 (c_X9_isGate E y A (up2 σ 292 0 (nI 0)) hM1) l_X9_207 S_X9_isGate rfl (rm_ok (by decide) (by decide)) rfl rfl (Nat.le_of_ble_eq_true rfl) ?_
    refine V_if_ne (tgt := 24) e_X9_when_18 (by decide) (fun c2 => ?_) (fun c2 => ?_)
    · obtain ⟨g, hg, rfl⟩ := (wi_nat (by omega)).mp c2
      refine V_aload_n e_X9_when_24 rfl rfl ?_
      refine V_cvVe (av := []) (st := []) e_X9_when_25 (c_X9_layThen E A (up2 σ 292 0 (nI 0)) hM1) l_X9_223 S_X9_layThen rfl (rm_ok (by decide) (by decide)) rfl rfl (Nat.le_of_ble_eq_true rfl) ?_
      refine V_iconst (v := nI 0) e_X9_when_28 (by decide) ?_
      refine V_istore_n (L' := [some (.ref (eB E + 292)), some (.int (nI p)), some (.int (nI g)), some (.int (nI 0))]) e_X9_when_29 rfl rfl ?_
      exact lpQ_X9_when E p g A _ (up2 σ 292 0 (nI 0)) hF hp hg hNl.2 hNl.1 (fun B => ⟨Fm.th.st, by unfold sWhen gIn; rw [if_neg c1, if_neg c2, ixN (by omega), ixN (by omega)]⟩) 61 0 rfl (by omega) rfl
    · refine V_ldc (v := (-1000001)) e_X9_when_21 k_X9_73 ?_
      exact V_iret e_X9_when_23 rfl (⟨Fm.th, by unfold sWhen; (try unfold gIn); (first | rw [if_pos c1] | rw [if_neg c1] | skip); (first | rw [if_pos c2] | rw [if_neg c2] | skip); (try dsimp only); (repeat rw [ixN (by omega)]); try rfl⟩)
set_option maxRecDepth 100000 in
set_option maxHeartbeats 4000000 in
theorem lp_X9_first_p (E : En) (w d : Nat) (A : Vec) (Q : Sg → Int32 → Prop) (σ : Sg) (hM : RepM σ 296 A) (hF : WF A) (hw : w ≤ 1) (hB : HBd A) (h5 : A 1 ≤ 5) (h1d : 1 ≤ d) (hd60 : d ≤ 60) (hd : hfn A 60 1 = hfn A (61 - d) d) (hQ : ∀ B q, hfn A 60 1 = some q → Q (stM σ 298 B) (if w = 0 then nI q.1 else nI q.2)) (hQ0 : ∀ B, hfn A 60 1 = none → Q (stM σ 298 B) (-1000000)) (hout : hfp A d (A 1) 0 = none → V E m_X9_first (kM E 12 (pI Q)) 96 [some (.ref (eB E + 292)), some (.int (nI w)), some (.int (nI d)), some (.int (nI (A 1)))] [] (stM σ 298 (daysV A d))) : ∀ (mm : Nat) (p : Nat), A 1 - p = mm → (p ≤ A 1) → (hfp A d (A 1) 0 = hfp A d (A 1 - p) p) → V E m_X9_first (kM E 12 (pI Q)) 49 [some (.ref (eB E + 292)), some (.int (nI w)), some (.int (nI d)), some (.int (nI p))] [] (stM σ 298 (daysV A d)) := by
  intro mm
  induction mm using Nat.strongRecOn with
  | ind mm ih =>
    intro p hmm hp hp9
    refine V_iload_n e_X9_first_49 rfl rfl ?_
    refine V_aload_n e_X9_first_50 rfl rfl ?_
    refine V_getr (r := 296) e_X9_first_51 F_X9_shore f_X9_19 rfl rfl ?_
    refine V_iconst (v := nI 1) e_X9_first_54 (by decide) ?_
    refine V_ialdv (v := nI (A 1)) (j := 1) e_X9_first_55 rfl rfl (by decide) (hM.t 1 (by omega)) ?_
    refine V_icmp_ge (tgt := 96) e_X9_first_56 (by decide) (fun c1 => ?_) (fun c1 => ?_)
    · have d1 : A 1 ≤ p := nq_le (by omega) (by omega) c1
      have hz9 : hfp A d (A 1) 0 = none := hp9.trans (by rw [show A 1 - p = 0 by omega]; rfl); obtain rfl : p = A 1 := (by omega); exact hout hz9
    · have d1 : ¬ A 1 ≤ p := nq_nle (by omega) (by omega) c1
      have hu1 := hB.b (B := A) (show p < A 1 by omega) (show d ≤ 60 by omega)
      have hu2 := hB p (by omega)
      refine V_aload_n e_X9_first_59 rfl rfl ?_
      refine V_getr (r := 298) e_X9_first_60 F_X9_then f_X9_25 rfl rfl ?_
      refine V_iload_n e_X9_first_63 rfl rfl ?_
      refine V_iconst (v := nI 5) e_X9_first_64 (by decide) ?_
      refine V_csIe (av := [.ref (eB E + 298), .int (nI p), .int (nI 5)]) (st := []) e_X9_first_65 (c_X9_hisT_w E p 5 (daysV A d) σ (by omega) (by omega)) l_X9_166 S_X9_his (rm_ok (by decide) (by decide)) rfl rfl (Nat.le_of_ble_eq_true rfl) ?_
      refine V_topi (y := nI ((pds A A p d).2.2.2.2.2)) (congrArg nI (by rw [show 25 + 6 * p + 5 = 30 + 6 * p by omega]; exact (daysV_at hF (by omega)).2.2.2.2.2)) ?_
      refine V_aload_n e_X9_first_68 rfl rfl ?_
      refine V_getr (r := 296) e_X9_first_69 F_X9_shore f_X9_19 rfl rfl ?_
      refine V_iload_n e_X9_first_72 rfl rfl ?_
      refine V_iconst (v := nI 5) e_X9_first_73 (by decide) ?_
      refine V_csIe (av := [.ref (eB E + 296), .int (nI p), .int (nI 5)]) (st := [.int (nI ((pds A A p d).2.2.2.2.2))]) e_X9_first_74 (c_X9_hisR_5 E 296 p A (stM σ 298 (daysV A d)) rfl rfl hM.t (by omega)) l_X9_166 S_X9_his (rm_ok (by decide) (by decide)) rfl rfl (Nat.le_of_ble_eq_true rfl) ?_
      refine V_icmp_le (tgt := 90) e_X9_first_77 (by decide) (fun c2 => ?_) (fun c2 => ?_)
      · have d2 : (pds A A p d).2.2.2.2.2 ≤ A (30 + 6 * p) := nq_le (by omega) (by omega) c2
        refine V_iinc (v := nI (p + 1)) (L' := [some (.ref (eB E + 292)), some (.int (nI w)), some (.int (nI d)), some (.int (nI (p + 1)))]) e_X9_first_90 rfl (nI_add _ 1) rfl ?_
        refine V_goto (tgt := 49) e_X9_first_93 (by decide) ?_
        exact ih (A 1 - (p + 1)) (by omega) (p + 1) rfl (by omega) (by rw [hp9]; exact hfp_no (by omega) d2)
      · have d2 : ¬ (pds A A p d).2.2.2.2.2 ≤ A (30 + 6 * p) := nq_nle (by omega) (by omega) c2
        refine V_iload_n e_X9_first_80 rfl rfl ?_
        refine V_if_ne (tgt := 88) e_X9_first_81 (by decide) (fun c3 => ?_) (fun c3 => ?_)
        · have d3 : ¬ w = 0 := nq_ne (by omega) (by omega) c3
          refine V_iload_n e_X9_first_88 rfl rfl ?_
          exact V_iret e_X9_first_89 rfl (by have hq := hQ (daysV A d) _ (hd.trans (hfn_yes (by omega) (hp9.trans (hfp_yes (by omega) d2)))); rw [if_neg d3] at hq; exact hq)
        · have d3 : w = 0 := nq_eq (by omega) (by omega) c3
          refine V_iload_n e_X9_first_84 rfl rfl ?_
          refine V_goto (tgt := 89) e_X9_first_85 (by decide) ?_
          exact V_iret e_X9_first_89 rfl (by have hq := hQ (daysV A d) _ (hd.trans (hfn_yes (by omega) (hp9.trans (hfp_yes (by omega) d2)))); rw [if_pos d3] at hq; exact hq)
set_option maxRecDepth 100000 in
set_option maxHeartbeats 4000000 in
theorem lp_X9_first_d (E : En) (w : Nat) (A : Vec) (Q : Sg → Int32 → Prop) (σ : Sg) (hM : RepM σ 296 A) (hF : WF A) (hw : w ≤ 1) (hB : HBd A) (h5 : A 1 ≤ 5) (hQ : ∀ B q, hfn A 60 1 = some q → Q (stM σ 298 B) (if w = 0 then nI q.1 else nI q.2)) (hQ0 : ∀ B, hfn A 60 1 = none → Q (stM σ 298 B) (-1000000)) : ∀ (mm : Nat) (d : Nat), 61 - d = mm → (1 ≤ d) → (d ≤ 61) → (hfn A 60 1 = hfn A (61 - d) d) → V E m_X9_first (kM E 12 (pI Q)) 34 [some (.ref (eB E + 292)), some (.int (nI w)), some (.int (nI d)), none] [] (stM σ 298 (daysV A (d - 1))) := by
  intro mm
  induction mm using Nat.strongRecOn with
  | ind mm ih =>
    intro d hmm h1d hd61 hd
    refine V_iload_n e_X9_first_34 rfl rfl ?_
    refine V_bipush (v := nI 60) e_X9_first_35 (by decide) ?_
    refine V_icmp_gt (tgt := 102) e_X9_first_37 (by decide) (fun c1 => ?_) (fun c1 => ?_)
    · have d1 : 60 < d := nq_lt (by omega) (by omega) c1
      refine V_ldc (v := (-1000000)) e_X9_first_102 k_X9_96 ?_
      exact V_iret e_X9_first_104 rfl (hQ0 _ (by rw [hd, show 61 - d = 0 by omega]; rfl))
    · have d1 : ¬ 60 < d := nq_nlt (by omega) (by omega) c1
      refine V_aload_n e_X9_first_40 rfl rfl ?_
      refine V_getr (r := 298) e_X9_first_41 F_X9_then f_X9_25 rfl rfl ?_
      refine V_csVe (av := [.ref (eB E + 298)]) (st := []) e_X9_first_44 (c_X9_day E 298 (daysV A (d - 1)) σ rfl rfl (hF.days _)) l_X9_187 S_X9_day (rm_ok (by decide) (by decide)) rfl rfl (Nat.le_of_ble_eq_true rfl) ?_
      refine V_iconst (v := nI 0) e_X9_first_47 (by decide) ?_
      refine V_istore_n (L' := [some (.ref (eB E + 292)), some (.int (nI w)), some (.int (nI d)), some (.int (nI 0))]) e_X9_first_48 rfl rfl ?_
      rw [show dayV (daysV A (d - 1)) = daysV A d from (by rw [show d = (d - 1) + 1 by omega]; rfl)]; exact lp_X9_first_p E w d A Q σ hM hF hw hB h5 h1d (by omega) hd hQ hQ0 (fun hn2 => V_iinc (v := nI (d + 1)) (L' := [some (.ref (eB E + 292)), some (.int (nI w)), some (.int (nI (d + 1))), some (.int (nI (A 1)))]) e_X9_first_96 rfl (nI_add _ 1) rfl (V_goto (tgt := 34) e_X9_first_99 (by decide) (V_forget 3 (ih (61 - (d + 1)) (by omega) (d + 1) rfl (by omega) (by omega) (by rw [hd]; exact hfn_no (by omega) hn2))))) (A 1) 0 rfl (by omega) rfl
set_option maxRecDepth 100000 in
set_option maxHeartbeats 4000000 in
theorem c_X9_first (E : En) (x : Int32) (A : Vec) (σ : Sg) (hM : RepM σ 296 A) (hN : WN A) (hB : HBd A) : Cn E m_X9_first 12 [.ref (eB E + 292), .int x] σ (pI (fun σ' r => Fm σ σ' ∧ r = sFirst A x)) := by
  have hNl := hN.le
  have hM1 : RepM (up2 σ 292 0 (nI 0)) 296 A := hM.fm Fm.th (by decide) (by decide)
  refine Cn.of [some (.ref (eB E + 292)), some (.int x), none, none] (by decide) (Nat.le_of_ble_eq_true rfl) rfl ?_
  refine V_aload_n e_X9_first_0 rfl rfl ?_
  refine V_iconst (v := nI 0) e_X9_first_1 (by decide) ?_
  refine V_puti e_X9_first_2 F_X9_thrown f_X9_53 rfl ?_
  refine V_aload_n e_X9_first_5 rfl rfl ?_
  refine V_cvIe (av := []) (st := []) e_X9_first_6 (c_X9_isThere E A (up2 σ 292 0 (nI 0)) hM1 hNl.1) l_X9_191 S_X9_isThere rfl (rm_ok (by decide) (by decide)) rfl rfl (Nat.le_of_ble_eq_true rfl) ?_
  refine V_if_ne (tgt := 15) e_X9_first_9 (by decide) (fun c1 => ?_) (fun c1 => ?_)
  · have d1 : ¬ (if A 0 = 0 then 0 else 1) = 0 := nq_ne (by first | omega | (split <;> omega)) (by first | omega | (split <;> omega)) c1
    have hA0 : ¬ A 0 = 0 := fun q => by rw [if_pos q] at d1; omega
    have hF : WF A := hN.wf (by omega)
    refine V_iload_n e_X9_first_15 rfl rfl ?_
    refine V_i2l e_X9_first_16 ?_
    refine V_lconst (v := lN 0) e_X9_first_17 (by decide) ?_
    refine V_lconst (v := lN 1) e_X9_first_18 (by decide) ?_
    refine V_csIe (av := [.long x.toInt64, .long (lN 0), .long (lN 1)]) (st := []) e_X9_first_19 (c_X9_inN E x (nI 0) (nI 1) (lN 0) (lN 1) (up2 σ 292 0 (nI 0)) (nI_l (by omega)) (nI_l (by omega))) l_X9_63 S_X9_in (rm_ok (by decide) (by decide)) rfl rfl (Nat.le_of_ble_eq_true rfl) ?_
    refine V_if_ne (tgt := 28) e_X9_first_22 (by decide) (fun c2 => ?_) (fun c2 => ?_)
    · obtain ⟨w, hwa, hw, rfl⟩ := (wi_le (by omega) (by omega)).mp c2
      refine V_aload_n e_X9_first_28 rfl rfl ?_
      refine V_cvVe (av := []) (st := []) e_X9_first_29 (c_X9_layThen E A (up2 σ 292 0 (nI 0)) hM1) l_X9_223 S_X9_layThen rfl (rm_ok (by decide) (by decide)) rfl rfl (Nat.le_of_ble_eq_true rfl) ?_
      refine V_iconst (v := nI 1) e_X9_first_32 (by decide) ?_
      refine V_istore_n (L' := [some (.ref (eB E + 292)), some (.int (nI w)), some (.int (nI 1)), none]) e_X9_first_33 rfl rfl ?_
      exact lp_X9_first_d E w A _ (up2 σ 292 0 (nI 0)) hM1 hF (by omega) hB hNl.2 (fun B q hq => ⟨Fm.th.st, by unfold sFirst; rw [if_neg hA0, if_neg c2, ixN (by omega), hfR_of hq]⟩) (fun B hq => ⟨Fm.th.st, by unfold sFirst; rw [if_neg hA0, if_neg c2, ixN (by omega), hfR_no hq]⟩) 60 1 rfl (by omega) (by omega) rfl
    · refine V_ldc (v := (-1000001)) e_X9_first_25 k_X9_73 ?_
      exact V_iret e_X9_first_27 rfl (⟨Fm.th, by unfold sFirst; (try unfold gIn); (first | rw [if_pos hA0] | rw [if_neg hA0] | skip); (first | rw [if_pos d1] | rw [if_neg d1] | skip); (first | rw [if_pos c2] | rw [if_neg c2] | skip); (try dsimp only); (repeat rw [ixN (by omega)]); try rfl⟩)
  · have d1 : (if A 0 = 0 then 0 else 1) = 0 := nq_eq (by first | omega | (split <;> omega)) (by first | omega | (split <;> omega)) c1
    have hA0 : A 0 = 0 := Decidable.byContradiction (fun q => by rw [if_neg q] at d1; omega)
    refine V_ldc (v := (-1000002)) e_X9_first_12 k_X9_194 ?_
    exact V_iret e_X9_first_14 rfl (⟨Fm.th, by unfold sFirst; (try unfold gIn); (first | rw [if_pos hA0] | rw [if_neg hA0] | skip); (first | rw [if_pos d1] | rw [if_neg d1] | skip); (try dsimp only); (repeat rw [ixN (by omega)]); try rfl⟩)
set_option maxRecDepth 100000 in
set_option maxHeartbeats 4000000 in
theorem lp_X9_rounds_k (E : En) (p g n s : Nat) (w : Int32) (A : Vec) (K : Kk) (b : Int32) (τ : Sg) (hT : RepM τ 296 A) (hG6 : A 0 ≤ 6) (hs : s < 64) (hout : V E m_X9_rounds K 135 [some (.ref (eB E + 292)), some (.int (nI p)), some (.int (nI g)), some (.int (nI n)), some (.int w), some (.int b), some (.int (nI s)), some (.int (nI (A 0)))] [] (stM τ 298 (turnV A s))) : ∀ (mm : Nat) (k : Nat), A 0 - k = mm → (k ≤ A 0) → V E m_X9_rounds (K) 94 [some (.ref (eB E + 292)), some (.int (nI p)), some (.int (nI g)), some (.int (nI n)), some (.int w), some (.int b), some (.int (nI s)), some (.int (nI k))] [] (stM τ 298 (turnK A s k)) := by
  intro mm
  induction mm using Nat.strongRecOn with
  | ind mm ih =>
    intro k hmm hk
    refine V_iload e_X9_rounds_94 rfl ?_
    refine V_aload_n e_X9_rounds_96 rfl rfl ?_
    refine V_getr (r := 296) e_X9_rounds_97 F_X9_shore f_X9_19 rfl rfl ?_
    refine V_iconst (v := nI 0) e_X9_rounds_100 (by decide) ?_
    refine V_ialdv (v := nI (A 0)) (j := 0) e_X9_rounds_101 rfl rfl (by decide) (hT.t 0 (by omega)) ?_
    refine V_icmp_ge (tgt := 135) e_X9_rounds_102 (by decide) (fun c1 => ?_) (fun c1 => ?_)
    · have d1 : A 0 ≤ k := nq_le (by omega) (by omega) c1
      obtain rfl : k = A 0 := (by omega); rw [turnK_e]; exact hout
    · have d1 : ¬ A 0 ≤ k := nq_nle (by omega) (by omega) c1
      refine V_aload_n e_X9_rounds_105 rfl rfl ?_
      refine V_getr (r := 298) e_X9_rounds_106 F_X9_then f_X9_25 rfl rfl ?_
      refine V_bipush (v := nI 7) e_X9_rounds_109 (by decide) ?_
      refine V_iconst (v := nI 3) e_X9_rounds_111 (by decide) ?_
      refine V_iload e_X9_rounds_112 rfl ?_
      refine V_imulN (z := nI (3 * k)) e_X9_rounds_114 (pk_mul _ _) ?_
      refine V_iaddN (z := nI (7 + (3 * k))) e_X9_rounds_115 (nI_add _ _) ?_
      refine V_iconst (v := nI 2) e_X9_rounds_116 (by decide) ?_
      refine V_iaddN (z := nI (7 + (3 * k) + 2)) e_X9_rounds_117 (nI_add _ _) ?_
      refine V_dup2 e_X9_rounds_118 rfl rfl ?_
      refine V_ialdv (v := nI (A (9 + 3 * k))) (j := (7 + (3 * k) + 2)) e_X9_rounds_119 rfl rfl (by have q : ln 298 = 55 := rfl; omega) ((stM_at (by omega)).trans (congrArg nI (by rw [show 7 + 3 * k + 2 = 9 + 3 * k by omega]; exact turnK_f))) ?_
      refine V_iload e_X9_rounds_120 rfl ?_
      refine V_iload e_X9_rounds_122 rfl ?_
      refine V_ishrN (z := nI (s / 2 ^ k)) e_X9_rounds_124 (shrN (by omega) (by omega)) ?_
      refine V_iconst (v := nI 1) e_X9_rounds_125 (by decide) ?_
      refine V_iandN (z := nI ((s / 2 ^ k) &&& 1)) e_X9_rounds_126 (andI _ _) ?_
      refine V_topi (y := nI (bitN s k)) (congrArg nI (Nat.and_one_is_mod _)) ?_
      refine V_ixorN (z := nI ((A (9 + 3 * k)) ^^^ (bitN s k))) e_X9_rounds_127 (xorI _ _) ?_
      refine V_iast (j := (7 + (3 * k) + 2)) e_X9_rounds_128 rfl rfl (by have q : ln 298 = 55 := rfl; omega) ?_
      rw [show up2 (stM τ 298 (turnK A s k)) 298 (7 + (3 * k) + 2) (nI ((A (9 + 3 * k)) ^^^ (bitN s k))) = stM τ 298 (turnK A s (k + 1)) from (by rw [show 7 + 3 * k + 2 = 9 + 3 * k by omega, stM_up (by omega), turnK_step (by omega)])]
      refine V_iinc (v := nI (k + 1)) (L' := [some (.ref (eB E + 292)), some (.int (nI p)), some (.int (nI g)), some (.int (nI n)), some (.int w), some (.int b), some (.int (nI s)), some (.int (nI (k + 1)))]) e_X9_rounds_129 rfl (nI_add _ 1) rfl ?_
      refine V_goto (tgt := 94) e_X9_rounds_132 (by decide) ?_
      exact ih (A 0 - (k + 1)) (by omega) (k + 1) rfl (by omega)
set_option maxRecDepth 100000 in
set_option maxHeartbeats 4000000 in
theorem lp_X9_rounds_s (E : En) (p g n : Nat) (w : Int32) (A : Vec) (Q : Sg → Int32 → Prop) (σ : Sg) (hM : RepM σ 296 A) (hF : WF A) (hp : p < A 1) (hg : g < A 0) (hn : n ≤ 30) (h5 : A 1 ≤ 5) (hG6 : A 0 ≤ 6) (h2G : 2 ^ A 0 ≤ 64) (hQ : ∀ τ, F8 σ τ → ∀ r, r = szs (ov (bestS (otS A p g n) (2 ^ A 0))) w → Q τ r) : ∀ (mm : Nat) (s : Nat) (τ : Sg), 2 ^ A 0 - s = mm → (s ≤ 2 ^ A 0) → (F8 σ τ) → V E m_X9_rounds (kM E 12 (pI Q)) 54 [some (.ref (eB E + 292)), some (.int (nI p)), some (.int (nI g)), some (.int (nI n)), some (.int w), some (.int (ov (bestS (otS A p g n) s))), some (.int (nI s)), none] [] τ := by
  intro mm
  induction mm using Nat.strongRecOn with
  | ind mm ih =>
    intro s τ hmm hs hI
    refine V_iload e_X9_rounds_54 rfl ?_
    refine V_iconst (v := nI 1) e_X9_rounds_56 (by decide) ?_
    refine V_aload_n e_X9_rounds_57 rfl rfl ?_
    refine V_getr (r := 296) e_X9_rounds_58 F_X9_shore f_X9_19 rfl rfl ?_
    refine V_iconst (v := nI 0) e_X9_rounds_61 (by decide) ?_
    refine V_ialdv (v := nI (A 0)) (j := 0) e_X9_rounds_62 rfl rfl (by decide) ((hI.rep hM) 0 (by omega)) ?_
    refine V_ishlN (z := nI (2 ^ (A 0))) e_X9_rounds_63 (shl1 (by omega)) ?_
    refine V_icmp_ge (tgt := 174) e_X9_rounds_64 (by decide) (fun c1 => ?_) (fun c1 => ?_)
    · have d1 : 2 ^ (A 0) ≤ s := nq_le (by first | omega | (have hq9 := bitN_le (pds A (turnV A s) p n).2.2.1 g; unfold otS; omega)) (by first | omega | (have hq9 := bitN_le (pds A (turnV A s) p n).2.2.1 g; unfold otS; omega)) c1
      rcases hbb : bestS (otS A p g n) s with _ | y
      · have hz0 := hI
        refine V_iload e_X9_rounds_174 rfl ?_
        refine V_topi (y := (-1000000)) (rfl) ?_
        refine V_ldc (v := (-1000000)) e_X9_rounds_176 k_X9_96 ?_
        refine V_icmp_eq (tgt := 187) e_X9_rounds_178 (by decide) (fun c2 => ?_) (fun c2 => absurd c2 (by decide))
        refine V_iload e_X9_rounds_187 rfl ?_
        refine V_topi (y := (-1000000)) (rfl) ?_
        refine V_goto (tgt := 197) e_X9_rounds_189 (by decide) ?_
        exact V_iret e_X9_rounds_197 rfl (hQ _ hI _ (by rw [show 2 ^ A 0 = s by omega, hbb]; unfold szs; rw [if_pos (show ov none = (-1000000) from rfl)]; rfl))
      · have hy64 : y < 64 := ov_lt (ok := (otS A p g n)) (n := s) (by omega) hG6 y hbb
        refine V_iload e_X9_rounds_174 rfl ?_
        refine V_topi (y := nI y) (rfl) ?_
        refine V_ldc (v := (-1000000)) e_X9_rounds_176 k_X9_96 ?_
        refine V_icmp_eq (tgt := 187) e_X9_rounds_178 (by decide) (fun c3 => absurd c3 (fewn hy64)) (fun c3 => ?_)
        refine V_iload e_X9_rounds_181 rfl ?_
        refine V_iconst (v := nI 1) e_X9_rounds_183 (by decide) ?_
        refine V_icmp_ne (tgt := 192) e_X9_rounds_184 (by decide) (fun c4 => ?_) (fun c4 => ?_)
        · refine V_iload e_X9_rounds_192 rfl ?_
          refine V_topi (y := nI y) (rfl) ?_
          refine V_csIe (av := [.int (nI y)]) (st := []) e_X9_rounds_194 (c_X9_bits E y τ (by omega)) l_X9_248 S_X9_bits (rm_ok (by decide) (by decide)) rfl rfl (Nat.le_of_ble_eq_true rfl) ?_
          exact V_iret e_X9_rounds_197 rfl (hQ _ hI _ (by rw [show 2 ^ A 0 = s by omega, hbb]; unfold szs; rw [if_neg (show ¬ ov (some y) = (-1000000) from fewn hy64)]; (first | rw [if_pos c4] | (rw [if_neg c4]; exact (bcN y hy64).symm)); try rfl))
        · refine V_iload e_X9_rounds_187 rfl ?_
          refine V_topi (y := nI y) (rfl) ?_
          refine V_goto (tgt := 197) e_X9_rounds_189 (by decide) ?_
          exact V_iret e_X9_rounds_197 rfl (hQ _ hI _ (by rw [show 2 ^ A 0 = s by omega, hbb]; unfold szs; rw [if_neg (show ¬ ov (some y) = (-1000000) from fewn hy64)]; (first | rw [if_pos c4] | (rw [if_neg c4]; exact (bcN y hy64).symm)); try rfl))
    · have d1 : ¬ 2 ^ (A 0) ≤ s := nq_nle (by first | omega | (have hq9 := bitN_le (pds A (turnV A s) p n).2.2.1 g; unfold otS; omega)) (by first | omega | (have hq9 := bitN_le (pds A (turnV A s) p n).2.2.1 g; unfold otS; omega)) c1
      rcases hbb : bestS (otS A p g n) s with _ | y
      · have hz0 := hI
        refine V_iload e_X9_rounds_67 rfl ?_
        refine V_topi (y := (-1000000)) (rfl) ?_
        refine V_ldc (v := (-1000000)) e_X9_rounds_69 k_X9_96 ?_
        refine V_icmp_eq (tgt := 87) e_X9_rounds_71 (by decide) (fun c5 => ?_) (fun c5 => absurd c5 (by decide))
        refine V_aload_n e_X9_rounds_87 rfl rfl ?_
        refine V_cvVe (av := []) (st := []) e_X9_rounds_88 (c_X9_layThen E A τ (hI.rep hM)) l_X9_223 S_X9_layThen rfl (rm_ok (by decide) (by decide)) rfl rfl (Nat.le_of_ble_eq_true rfl) ?_
        refine V_iconst (v := nI 0) e_X9_rounds_91 (by decide) ?_
        refine V_istore (L' := [some (.ref (eB E + 292)), some (.int (nI p)), some (.int (nI g)), some (.int (nI n)), some (.int w), some (.int (ov none)), some (.int (nI s)), some (.int (nI 0))]) e_X9_rounds_92 rfl ?_
        refine V_sig (show stM τ 298 A = stM τ 298 (turnK A s 0) by rw [turnK_0]) ?_
        refine lp_X9_rounds_k E p g n s w A _ _ τ (hI.rep hM) hG6 (by omega) ?_ (A 0) 0 rfl (by omega)
        refine V_aload_n e_X9_rounds_135 rfl rfl ?_
        refine V_getr (r := 298) e_X9_rounds_136 F_X9_then f_X9_25 rfl rfl ?_
        refine V_iload_n e_X9_rounds_139 rfl rfl ?_
        refine V_csVe (av := [.ref (eB E + 298), .int (nI n)]) (st := []) e_X9_rounds_140 (c_X9_daysOf E 298 n (turnV A s) τ rfl rfl hF.turn (by omega)) l_X9_226 S_X9_daysOf (rm_ok (by decide) (by decide)) rfl rfl (Nat.le_of_ble_eq_true rfl) ?_
        refine V_aload_n e_X9_rounds_143 rfl rfl ?_
        refine V_getr (r := 298) e_X9_rounds_144 F_X9_then f_X9_25 rfl rfl ?_
        refine V_iload_n e_X9_rounds_147 rfl rfl ?_
        refine V_iconst (v := nI 2) e_X9_rounds_148 (by decide) ?_
        refine V_csIe (av := [.ref (eB E + 298), .int (nI p), .int (nI 2)]) (st := []) e_X9_rounds_149 (c_X9_hisT_w E p 2 (daysV (turnV A s) n) τ (by omega) (by omega)) l_X9_166 S_X9_his (rm_ok (by decide) (by decide)) rfl rfl (Nat.le_of_ble_eq_true rfl) ?_
        refine V_topi (y := nI ((pds A (turnV A s) p n).2.2.1)) (congrArg nI (by rw [show 25 + 6 * p + 2 = 27 + 6 * p by omega]; exact ((daysV_at hF.turn (by rw [turnV_lo (by omega)]; exact hp)).2.2.1).trans (by rw [pds_chg (turnV_lo (by omega)) pn_turn]))) ?_
        refine V_iload_n e_X9_rounds_152 rfl rfl ?_
        refine V_csIe (av := [.int (nI ((pds A (turnV A s) p n).2.2.1)), .int (nI g)]) (st := []) e_X9_rounds_153 (c_X9_has E (pds A (turnV A s) p n).2.2.1 g (stM τ 298 (daysV (turnV A s) n)) (by have hz9 := (pds_WP (B := turnV A s) (i := n) hF hp (turnV_lo (by omega))).of64 (by rw [turnV_lo (by omega)]; exact hG6); omega) (by omega)) l_X9_158 S_X9_has (rm_ok (by decide) (by decide)) rfl rfl (Nat.le_of_ble_eq_true rfl) ?_
        refine V_if_eq (tgt := 164) e_X9_rounds_156 (by decide) (fun c6 => ?_) (fun c6 => ?_)
        · have d6 : otS A p g n s = 0 := nq_eq (by first | omega | (have hq9 := bitN_le (pds A (turnV A s) p n).2.2.1 g; unfold otS; omega)) (by first | omega | (have hq9 := bitN_le (pds A (turnV A s) p n).2.2.1 g; unfold otS; omega)) c6
          refine V_iload e_X9_rounds_164 rfl ?_
          refine V_istore (L' := [some (.ref (eB E + 292)), some (.int (nI p)), some (.int (nI g)), some (.int (nI n)), some (.int w), some (.int (ov none)), some (.int (nI s)), some (.int (nI (A 0)))]) e_X9_rounds_166 rfl ?_
          refine V_iinc (v := nI (s + 1)) (L' := [some (.ref (eB E + 292)), some (.int (nI p)), some (.int (nI g)), some (.int (nI n)), some (.int w), some (.int (ov none)), some (.int (nI (s + 1))), some (.int (nI (A 0)))]) e_X9_rounds_168 rfl (nI_add _ 1) rfl ?_
          refine V_goto (tgt := 54) e_X9_rounds_171 (by decide) ?_
          refine V_forget 7 ?_; rw [show ov none = ov (bestS (otS A p g n) (s + 1)) from (by rw [best_n0 hbb d6])]; exact ih (2 ^ A 0 - (s + 1)) (by omega) (s + 1) (stM τ 298 (daysV (turnV A s) n)) rfl (by omega) hI.st
        · have d6 : ¬ otS A p g n s = 0 := nq_ne (by first | omega | (have hq9 := bitN_le (pds A (turnV A s) p n).2.2.1 g; unfold otS; omega)) (by first | omega | (have hq9 := bitN_le (pds A (turnV A s) p n).2.2.1 g; unfold otS; omega)) c6
          refine V_iload e_X9_rounds_159 rfl ?_
          refine V_goto (tgt := 166) e_X9_rounds_161 (by decide) ?_
          refine V_istore (L' := [some (.ref (eB E + 292)), some (.int (nI p)), some (.int (nI g)), some (.int (nI n)), some (.int w), some (.int (nI s)), some (.int (nI s)), some (.int (nI (A 0)))]) e_X9_rounds_166 rfl ?_
          refine V_iinc (v := nI (s + 1)) (L' := [some (.ref (eB E + 292)), some (.int (nI p)), some (.int (nI g)), some (.int (nI n)), some (.int w), some (.int (nI s)), some (.int (nI (s + 1))), some (.int (nI (A 0)))]) e_X9_rounds_168 rfl (nI_add _ 1) rfl ?_
          refine V_goto (tgt := 54) e_X9_rounds_171 (by decide) ?_
          refine V_forget 7 ?_; rw [show nI s = ov (bestS (otS A p g n) (s + 1)) from (by rw [best_n1 hbb d6]; rfl)]; exact ih (2 ^ A 0 - (s + 1)) (by omega) (s + 1) (stM τ 298 (daysV (turnV A s) n)) rfl (by omega) hI.st
      · have hy64 : y < 64 := ov_lt (ok := (otS A p g n)) (n := s) (by omega) hG6 y hbb
        refine V_iload e_X9_rounds_67 rfl ?_
        refine V_topi (y := nI y) (rfl) ?_
        refine V_ldc (v := (-1000000)) e_X9_rounds_69 k_X9_96 ?_
        refine V_icmp_eq (tgt := 87) e_X9_rounds_71 (by decide) (fun c7 => absurd c7 (fewn hy64)) (fun c7 => ?_)
        have hc1 := cnt_le s
        have hc2 := cnt_le y
        refine V_iload e_X9_rounds_74 rfl ?_
        refine V_csIe (av := [.int (nI s)]) (st := []) e_X9_rounds_76 (c_X9_bits E s τ (by omega)) l_X9_248 S_X9_bits (rm_ok (by decide) (by decide)) rfl rfl (Nat.le_of_ble_eq_true rfl) ?_
        refine V_iload e_X9_rounds_79 rfl ?_
        refine V_topi (y := nI y) (rfl) ?_
        refine V_csIe (av := [.int (nI y)]) (st := [.int (nI (cntN s))]) e_X9_rounds_81 (c_X9_bits E y τ (by omega)) l_X9_248 S_X9_bits (rm_ok (by decide) (by decide)) rfl rfl (Nat.le_of_ble_eq_true rfl) ?_
        refine V_icmp_ge (tgt := 168) e_X9_rounds_84 (by decide) (fun c8 => ?_) (fun c8 => ?_)
        · have d8 : cntN y ≤ cntN s := nq_le (by first | omega | (have hq9 := bitN_le (pds A (turnV A s) p n).2.2.1 g; unfold otS; omega)) (by first | omega | (have hq9 := bitN_le (pds A (turnV A s) p n).2.2.1 g; unfold otS; omega)) c8
          refine V_iinc (v := nI (s + 1)) (L' := [some (.ref (eB E + 292)), some (.int (nI p)), some (.int (nI g)), some (.int (nI n)), some (.int w), some (.int (ov (some y))), some (.int (nI (s + 1))), none]) e_X9_rounds_168 rfl (nI_add _ 1) rfl ?_
          refine V_goto (tgt := 54) e_X9_rounds_171 (by decide) ?_
          rw [show ov (some y) = ov (bestS (otS A p g n) (s + 1)) from (by rw [best_sx hbb d8])]; exact ih (2 ^ A 0 - (s + 1)) (by omega) (s + 1) τ rfl (by omega) hI
        · have d8 : ¬ cntN y ≤ cntN s := nq_nle (by first | omega | (have hq9 := bitN_le (pds A (turnV A s) p n).2.2.1 g; unfold otS; omega)) (by first | omega | (have hq9 := bitN_le (pds A (turnV A s) p n).2.2.1 g; unfold otS; omega)) c8
          refine V_aload_n e_X9_rounds_87 rfl rfl ?_
          refine V_cvVe (av := []) (st := []) e_X9_rounds_88 (c_X9_layThen E A τ (hI.rep hM)) l_X9_223 S_X9_layThen rfl (rm_ok (by decide) (by decide)) rfl rfl (Nat.le_of_ble_eq_true rfl) ?_
          refine V_iconst (v := nI 0) e_X9_rounds_91 (by decide) ?_
          refine V_istore (L' := [some (.ref (eB E + 292)), some (.int (nI p)), some (.int (nI g)), some (.int (nI n)), some (.int w), some (.int (ov (some y))), some (.int (nI s)), some (.int (nI 0))]) e_X9_rounds_92 rfl ?_
          refine V_sig (show stM τ 298 A = stM τ 298 (turnK A s 0) by rw [turnK_0]) ?_
          refine lp_X9_rounds_k E p g n s w A _ _ τ (hI.rep hM) hG6 (by omega) ?_ (A 0) 0 rfl (by omega)
          refine V_aload_n e_X9_rounds_135 rfl rfl ?_
          refine V_getr (r := 298) e_X9_rounds_136 F_X9_then f_X9_25 rfl rfl ?_
          refine V_iload_n e_X9_rounds_139 rfl rfl ?_
          refine V_csVe (av := [.ref (eB E + 298), .int (nI n)]) (st := []) e_X9_rounds_140 (c_X9_daysOf E 298 n (turnV A s) τ rfl rfl hF.turn (by omega)) l_X9_226 S_X9_daysOf (rm_ok (by decide) (by decide)) rfl rfl (Nat.le_of_ble_eq_true rfl) ?_
          refine V_aload_n e_X9_rounds_143 rfl rfl ?_
          refine V_getr (r := 298) e_X9_rounds_144 F_X9_then f_X9_25 rfl rfl ?_
          refine V_iload_n e_X9_rounds_147 rfl rfl ?_
          refine V_iconst (v := nI 2) e_X9_rounds_148 (by decide) ?_
          refine V_csIe (av := [.ref (eB E + 298), .int (nI p), .int (nI 2)]) (st := []) e_X9_rounds_149 (c_X9_hisT_w E p 2 (daysV (turnV A s) n) τ (by omega) (by omega)) l_X9_166 S_X9_his (rm_ok (by decide) (by decide)) rfl rfl (Nat.le_of_ble_eq_true rfl) ?_
          refine V_topi (y := nI ((pds A (turnV A s) p n).2.2.1)) (congrArg nI (by rw [show 25 + 6 * p + 2 = 27 + 6 * p by omega]; exact ((daysV_at hF.turn (by rw [turnV_lo (by omega)]; exact hp)).2.2.1).trans (by rw [pds_chg (turnV_lo (by omega)) pn_turn]))) ?_
          refine V_iload_n e_X9_rounds_152 rfl rfl ?_
          refine V_csIe (av := [.int (nI ((pds A (turnV A s) p n).2.2.1)), .int (nI g)]) (st := []) e_X9_rounds_153 (c_X9_has E (pds A (turnV A s) p n).2.2.1 g (stM τ 298 (daysV (turnV A s) n)) (by have hz9 := (pds_WP (B := turnV A s) (i := n) hF hp (turnV_lo (by omega))).of64 (by rw [turnV_lo (by omega)]; exact hG6); omega) (by omega)) l_X9_158 S_X9_has (rm_ok (by decide) (by decide)) rfl rfl (Nat.le_of_ble_eq_true rfl) ?_
          refine V_if_eq (tgt := 164) e_X9_rounds_156 (by decide) (fun c9 => ?_) (fun c9 => ?_)
          · have d9 : otS A p g n s = 0 := nq_eq (by first | omega | (have hq9 := bitN_le (pds A (turnV A s) p n).2.2.1 g; unfold otS; omega)) (by first | omega | (have hq9 := bitN_le (pds A (turnV A s) p n).2.2.1 g; unfold otS; omega)) c9
            refine V_iload e_X9_rounds_164 rfl ?_
            refine V_istore (L' := [some (.ref (eB E + 292)), some (.int (nI p)), some (.int (nI g)), some (.int (nI n)), some (.int w), some (.int (ov (some y))), some (.int (nI s)), some (.int (nI (A 0)))]) e_X9_rounds_166 rfl ?_
            refine V_iinc (v := nI (s + 1)) (L' := [some (.ref (eB E + 292)), some (.int (nI p)), some (.int (nI g)), some (.int (nI n)), some (.int w), some (.int (ov (some y))), some (.int (nI (s + 1))), some (.int (nI (A 0)))]) e_X9_rounds_168 rfl (nI_add _ 1) rfl ?_
            refine V_goto (tgt := 54) e_X9_rounds_171 (by decide) ?_
            refine V_forget 7 ?_; rw [show ov (some y) = ov (bestS (otS A p g n) (s + 1)) from (by rw [best_s0 hbb d9])]; exact ih (2 ^ A 0 - (s + 1)) (by omega) (s + 1) (stM τ 298 (daysV (turnV A s) n)) rfl (by omega) hI.st
          · have d9 : ¬ otS A p g n s = 0 := nq_ne (by first | omega | (have hq9 := bitN_le (pds A (turnV A s) p n).2.2.1 g; unfold otS; omega)) (by first | omega | (have hq9 := bitN_le (pds A (turnV A s) p n).2.2.1 g; unfold otS; omega)) c9
            refine V_iload e_X9_rounds_159 rfl ?_
            refine V_goto (tgt := 166) e_X9_rounds_161 (by decide) ?_
            refine V_istore (L' := [some (.ref (eB E + 292)), some (.int (nI p)), some (.int (nI g)), some (.int (nI n)), some (.int w), some (.int (nI s)), some (.int (nI s)), some (.int (nI (A 0)))]) e_X9_rounds_166 rfl ?_
            refine V_iinc (v := nI (s + 1)) (L' := [some (.ref (eB E + 292)), some (.int (nI p)), some (.int (nI g)), some (.int (nI n)), some (.int w), some (.int (nI s)), some (.int (nI (s + 1))), some (.int (nI (A 0)))]) e_X9_rounds_168 rfl (nI_add _ 1) rfl ?_
            refine V_goto (tgt := 54) e_X9_rounds_171 (by decide) ?_
            refine V_forget 7 ?_; rw [show nI s = ov (bestS (otS A p g n) (s + 1)) from (by rw [best_s1 hbb d8 d9]; rfl)]; exact ih (2 ^ A 0 - (s + 1)) (by omega) (s + 1) (stM τ 298 (daysV (turnV A s) n)) rfl (by omega) hI.st
set_option maxRecDepth 100000 in
set_option maxHeartbeats 4000000 in
theorem c_X9_rounds (E : En) (x y z w : Int32) (A : Vec) (σ : Sg) (hM : RepM σ 296 A) (hN : WN A) : Cn E m_X9_rounds 12 [.ref (eB E + 292), .int x, .int y, .int z, .int w] σ (pI (fun σ' r => Fm σ σ' ∧ r = sRounds A x y z w)) := by
  have hNl := hN.le
  have hM1 : RepM (up2 σ 292 0 (nI 0)) 296 A := hM.fm Fm.th (by decide) (by decide)
  refine Cn.of [some (.ref (eB E + 292)), some (.int x), some (.int y), some (.int z), some (.int w), none, none, none] (by decide) (Nat.le_of_ble_eq_true rfl) rfl ?_
  refine V_aload_n e_X9_rounds_0 rfl rfl ?_
  refine V_iconst (v := nI 0) e_X9_rounds_1 (by decide) ?_
  refine V_puti e_X9_rounds_2 F_X9_thrown f_X9_53 rfl ?_
  refine V_aload_n e_X9_rounds_5 rfl rfl ?_
  refine V_iload_n e_X9_rounds_6 rfl rfl ?_
  refine V_cvIe (av := [.int x]) (st := []) e_X9_rounds_7 (c_X9_isMan E x A (up2 σ 292 0 (nI 0)) hM1) l_X9_204 S_X9_isMan rfl (rm_ok (by decide) (by decide)) rfl rfl (Nat.le_of_ble_eq_true rfl) ?_
  refine V_if_eq (tgt := 44) e_X9_rounds_10 (by decide) (fun c1 => ?_) (fun c1 => ?_)
  · refine V_ldc (v := (-1000001)) e_X9_rounds_44 k_X9_73 ?_
    exact V_iret e_X9_rounds_46 rfl (⟨Fm.th, by unfold sRounds; (try unfold gIn); (first | rw [if_pos c1] | rw [if_neg c1] | skip); (try dsimp only); (repeat rw [ixN (by omega)]); try rfl⟩)
  · obtain ⟨p, hp, rfl⟩ := (wi_nat (by omega)).mp c1
    have hF : WF A := hN.wf (by omega)
    refine V_aload_n e_X9_rounds_13 rfl rfl ?_
    refine V_iload_n e_X9_rounds_14 rfl rfl ?_
    refine V_cvIe (av := [.int y]) (st := []) e_X9_rounds_15 (c_X9_isGate E y A (up2 σ 292 0 (nI 0)) hM1) l_X9_207 S_X9_isGate rfl (rm_ok (by decide) (by decide)) rfl rfl (Nat.le_of_ble_eq_true rfl) ?_
    refine V_if_eq (tgt := 44) e_X9_rounds_18 (by decide) (fun c2 => ?_) (fun c2 => ?_)
    · refine V_ldc (v := (-1000001)) e_X9_rounds_44 k_X9_73 ?_
      exact V_iret e_X9_rounds_46 rfl (⟨Fm.th, by unfold sRounds; (try unfold gIn); (first | rw [if_pos c1] | rw [if_neg c1] | skip); (first | rw [if_pos c2] | rw [if_neg c2] | skip); (try dsimp only); (repeat rw [ixN (by omega)]); try rfl⟩)
    · obtain ⟨g, hg, rfl⟩ := (wi_nat (by omega)).mp c2
      refine V_iload_n e_X9_rounds_21 rfl rfl ?_
      refine V_i2l e_X9_rounds_22 ?_
      refine V_lconst (v := lN 1) e_X9_rounds_23 (by decide) ?_
      refine V_ldc2_w (v := lN 30) e_X9_rounds_24 kl_X9_246 ?_
      refine V_csIe (av := [.long z.toInt64, .long (lN 1), .long (lN 30)]) (st := []) e_X9_rounds_27 (c_X9_inN E z (nI 1) (nI 30) (lN 1) (lN 30) (up2 σ 292 0 (nI 0)) (nI_l (by omega)) (nI_l (by omega))) l_X9_63 S_X9_in (rm_ok (by decide) (by decide)) rfl rfl (Nat.le_of_ble_eq_true rfl) ?_
      refine V_if_eq (tgt := 44) e_X9_rounds_30 (by decide) (fun c3 => ?_) (fun c3 => ?_)
      · refine V_ldc (v := (-1000001)) e_X9_rounds_44 k_X9_73 ?_
        exact V_iret e_X9_rounds_46 rfl (⟨Fm.th, by unfold sRounds; (try unfold gIn); (first | rw [if_pos c1] | rw [if_neg c1] | skip); (first | rw [if_pos c2] | rw [if_neg c2] | skip); (first | rw [if_pos c3] | rw [if_neg c3] | skip); (try dsimp only); (repeat rw [ixN (by omega)]); try rfl⟩)
      · obtain ⟨n, hna, hn, rfl⟩ := (wi_le (by omega) (by omega)).mp c3
        refine V_iload e_X9_rounds_33 rfl ?_
        refine V_i2l e_X9_rounds_35 ?_
        refine V_lconst (v := lN 0) e_X9_rounds_36 (by decide) ?_
        refine V_lconst (v := lN 1) e_X9_rounds_37 (by decide) ?_
        refine V_csIe (av := [.long w.toInt64, .long (lN 0), .long (lN 1)]) (st := []) e_X9_rounds_38 (c_X9_inN E w (nI 0) (nI 1) (lN 0) (lN 1) (up2 σ 292 0 (nI 0)) (nI_l (by omega)) (nI_l (by omega))) l_X9_63 S_X9_in (rm_ok (by decide) (by decide)) rfl rfl (Nat.le_of_ble_eq_true rfl) ?_
        refine V_if_ne (tgt := 47) e_X9_rounds_41 (by decide) (fun c4 => ?_) (fun c4 => ?_)
        · refine V_ldc (v := (-1000000)) e_X9_rounds_47 k_X9_96 ?_
          refine V_istore (L' := [some (.ref (eB E + 292)), some (.int (nI p)), some (.int (nI g)), some (.int (nI n)), some (.int w), some (.int (-1000000)), none, none]) e_X9_rounds_49 rfl ?_
          refine V_iconst (v := nI 0) e_X9_rounds_51 (by decide) ?_
          refine V_istore (L' := [some (.ref (eB E + 292)), some (.int (nI p)), some (.int (nI g)), some (.int (nI n)), some (.int w), some (.int (-1000000)), some (.int (nI 0)), none]) e_X9_rounds_52 rfl ?_
          have hX := lp_X9_rounds_s E p g n w A (fun σ' r => Fm σ σ' ∧ r = sRounds A (nI p) (nI g) (nI n) w) (up2 σ 292 0 (nI 0)) hM1 hF hp hg (by omega) hNl.2 hNl.1 (pow6 hNl.1) (fun τ hτ r hr => ⟨Fm.th.f8 hτ, by rw [hr]; unfold sRounds gIn; rw [if_neg c1, if_neg c2, if_neg c3, if_neg c4, ixN (by omega), ixN (by omega), ixN (by omega)]⟩) (2 ^ A 0) 0 _ rfl (Nat.zero_le _) F8.rf; exact hX
        · refine V_ldc (v := (-1000001)) e_X9_rounds_44 k_X9_73 ?_
          exact V_iret e_X9_rounds_46 rfl (⟨Fm.th, by unfold sRounds; (try unfold gIn); (first | rw [if_pos c1] | rw [if_neg c1] | skip); (first | rw [if_pos c2] | rw [if_neg c2] | skip); (first | rw [if_pos c3] | rw [if_neg c3] | skip); (first | rw [if_pos c4] | rw [if_neg c4] | skip); (try dsimp only); (repeat rw [ixN (by omega)]); try rfl⟩)
set_option maxRecDepth 100000 in
set_option maxHeartbeats 4000000 in
theorem lp_X9_falls_s (E : En) (n : Nat) (w : Int32) (A : Vec) (Q : Sg → Int32 → Prop) (σ : Sg) (hM : RepM σ 296 A) (hF : WF A) (hB : HBd A) (hn : n ≤ 30) (h5 : A 1 ≤ 5) (hG6 : A 0 ≤ 6) (h2G : 2 ^ A 0 ≤ 64) (hQ : ∀ τ, F8 σ τ → ∀ r, r = szs (ov (bestS (okF A n) (2 ^ A 0))) w → Q τ r) : ∀ (mm : Nat) (s : Nat) (τ : Sg), 2 ^ A 0 - s = mm → (s ≤ 2 ^ A 0) → (F8 σ τ) → V E m_X9_falls (kM E 12 (pI Q)) 46 [some (.ref (eB E + 292)), some (.int (nI n)), some (.int w), some (.int (ov (bestS (okF A n) s))), some (.int (nI s))] [] τ := by
  intro mm
  induction mm using Nat.strongRecOn with
  | ind mm ih =>
    intro s τ hmm hs hI
    refine V_iload e_X9_falls_46 rfl ?_
    refine V_iconst (v := nI 1) e_X9_falls_48 (by decide) ?_
    refine V_aload_n e_X9_falls_49 rfl rfl ?_
    refine V_getr (r := 296) e_X9_falls_50 F_X9_shore f_X9_19 rfl rfl ?_
    refine V_iconst (v := nI 0) e_X9_falls_53 (by decide) ?_
    refine V_ialdv (v := nI (A 0)) (j := 0) e_X9_falls_54 rfl rfl (by decide) ((hI.rep hM) 0 (by omega)) ?_
    refine V_ishlN (z := nI (2 ^ (A 0))) e_X9_falls_55 (shl1 (by omega)) ?_
    refine V_icmp_ge (tgt := 142) e_X9_falls_56 (by decide) (fun c1 => ?_) (fun c1 => ?_)
    · have d1 : 2 ^ (A 0) ≤ s := nq_le (by first | omega | exact Nat.lt_of_le_of_lt Nat.and_le_left (by omega) | exact hung_lt hB h5 | exact hungd_lt hF hB h5 (by omega) (by omega)) (by first | omega | exact Nat.lt_of_le_of_lt Nat.and_le_left (by omega) | exact hung_lt hB h5 | exact hungd_lt hF hB h5 (by omega) (by omega)) c1
      rcases hbb : bestS (okF A n) s with _ | y
      · have hz0 := hI
        refine V_iload_n e_X9_falls_142 rfl rfl ?_
        refine V_topi (y := (-1000000)) (rfl) ?_
        refine V_ldc (v := (-1000000)) e_X9_falls_143 k_X9_96 ?_
        refine V_icmp_eq (tgt := 153) e_X9_falls_145 (by decide) (fun c2 => ?_) (fun c2 => absurd c2 (by decide))
        refine V_iload_n e_X9_falls_153 rfl rfl ?_
        refine V_topi (y := (-1000000)) (rfl) ?_
        refine V_goto (tgt := 161) e_X9_falls_154 (by decide) ?_
        exact V_iret e_X9_falls_161 rfl (hQ _ hI _ (by rw [show 2 ^ A 0 = s by omega, hbb]; unfold szs; rw [if_pos (show ov none = (-1000000) from rfl)]; rfl))
      · have hy64 : y < 64 := ov_lt (ok := (okF A n)) (n := s) (by omega) hG6 y hbb
        refine V_iload_n e_X9_falls_142 rfl rfl ?_
        refine V_topi (y := nI y) (rfl) ?_
        refine V_ldc (v := (-1000000)) e_X9_falls_143 k_X9_96 ?_
        refine V_icmp_eq (tgt := 153) e_X9_falls_145 (by decide) (fun c3 => absurd c3 (fewn hy64)) (fun c3 => ?_)
        refine V_iload_n e_X9_falls_148 rfl rfl ?_
        refine V_iconst (v := nI 1) e_X9_falls_149 (by decide) ?_
        refine V_icmp_ne (tgt := 157) e_X9_falls_150 (by decide) (fun c4 => ?_) (fun c4 => ?_)
        · refine V_iload_n e_X9_falls_157 rfl rfl ?_
          refine V_topi (y := nI y) (rfl) ?_
          refine V_csIe (av := [.int (nI y)]) (st := []) e_X9_falls_158 (c_X9_bits E y τ (by omega)) l_X9_248 S_X9_bits (rm_ok (by decide) (by decide)) rfl rfl (Nat.le_of_ble_eq_true rfl) ?_
          exact V_iret e_X9_falls_161 rfl (hQ _ hI _ (by rw [show 2 ^ A 0 = s by omega, hbb]; unfold szs; rw [if_neg (show ¬ ov (some y) = (-1000000) from fewn hy64)]; (first | rw [if_pos c4] | (rw [if_neg c4]; exact (bcN y hy64).symm)); try rfl))
        · refine V_iload_n e_X9_falls_153 rfl rfl ?_
          refine V_topi (y := nI y) (rfl) ?_
          refine V_goto (tgt := 161) e_X9_falls_154 (by decide) ?_
          exact V_iret e_X9_falls_161 rfl (hQ _ hI _ (by rw [show 2 ^ A 0 = s by omega, hbb]; unfold szs; rw [if_neg (show ¬ ov (some y) = (-1000000) from fewn hy64)]; (first | rw [if_pos c4] | (rw [if_neg c4]; exact (bcN y hy64).symm)); try rfl))
    · have d1 : ¬ 2 ^ (A 0) ≤ s := nq_nle (by first | omega | exact Nat.lt_of_le_of_lt Nat.and_le_left (by omega) | exact hung_lt hB h5 | exact hungd_lt hF hB h5 (by omega) (by omega)) (by first | omega | exact Nat.lt_of_le_of_lt Nat.and_le_left (by omega) | exact hung_lt hB h5 | exact hungd_lt hF hB h5 (by omega) (by omega)) c1
      refine V_iload e_X9_falls_59 rfl ?_
      refine V_aload_n e_X9_falls_61 rfl rfl ?_
      refine V_getr (r := 296) e_X9_falls_62 F_X9_shore f_X9_19 rfl rfl ?_
      refine V_iconst (v := nI 5) e_X9_falls_65 (by decide) ?_
      refine V_ialdv (v := nI (A 5)) (j := 5) e_X9_falls_66 rfl rfl (by decide) ((hI.rep hM) 5 (by omega)) ?_
      refine V_iandN (z := nI (s &&& (A 5))) e_X9_falls_67 (andI _ _) ?_
      refine V_if_ne (tgt := 136) e_X9_falls_68 (by decide) (fun c5 => ?_) (fun c5 => ?_)
      · have d5 : ¬ s &&& (A 5) = 0 := nq_ne (by first | omega | exact Nat.lt_of_le_of_lt Nat.and_le_left (by omega) | exact hung_lt hB h5 | exact hungd_lt hF hB h5 (by omega) (by omega)) (by first | omega | exact Nat.lt_of_le_of_lt Nat.and_le_left (by omega) | exact hung_lt hB h5 | exact hungd_lt hF hB h5 (by omega) (by omega)) c5
        have hok9 : okF A n s = 0 := by unfold okF; rw [if_neg d5]
        refine V_iinc (v := nI (s + 1)) (L' := [some (.ref (eB E + 292)), some (.int (nI n)), some (.int w), some (.int (ov (bestS (okF A n) s))), some (.int (nI (s + 1)))]) e_X9_falls_136 rfl (nI_add _ 1) rfl ?_
        refine V_goto (tgt := 46) e_X9_falls_139 (by decide) ?_
        rw [show ov (bestS (okF A n) s) = ov (bestS (okF A n) (s + 1)) from (by rw [best_sk hok9])]; exact ih (2 ^ A 0 - (s + 1)) (by omega) (s + 1) τ rfl (by omega) hI
      · have d5 : s &&& (A 5) = 0 := nq_eq (by first | omega | exact Nat.lt_of_le_of_lt Nat.and_le_left (by omega) | exact hung_lt hB h5 | exact hungd_lt hF hB h5 (by omega) (by omega)) (by first | omega | exact Nat.lt_of_le_of_lt Nat.and_le_left (by omega) | exact hung_lt hB h5 | exact hungd_lt hF hB h5 (by omega) (by omega)) c5
        have hza := d5
        rcases hbb : bestS (okF A n) s with _ | y
        · have hz0 := hI
          refine V_iload_n e_X9_falls_71 rfl rfl ?_
          refine V_topi (y := (-1000000)) (rfl) ?_
          refine V_ldc (v := (-1000000)) e_X9_falls_72 k_X9_96 ?_
          refine V_icmp_eq (tgt := 89) e_X9_falls_74 (by decide) (fun c6 => ?_) (fun c6 => absurd c6 (by decide))
          refine V_aload_n e_X9_falls_89 rfl rfl ?_
          refine V_cvVe (av := []) (st := []) e_X9_falls_90 (c_X9_layThen E A τ (hI.rep hM)) l_X9_223 S_X9_layThen rfl (rm_ok (by decide) (by decide)) rfl rfl (Nat.le_of_ble_eq_true rfl) ?_
          refine V_aload_n e_X9_falls_93 rfl rfl ?_
          refine V_getr (r := 298) e_X9_falls_94 F_X9_then f_X9_25 rfl rfl ?_
          refine V_iconst (v := nI 5) e_X9_falls_97 (by decide) ?_
          refine V_dup2 e_X9_falls_98 rfl rfl ?_
          refine V_ialdv (v := nI (A 5)) (j := 5) e_X9_falls_99 rfl rfl (by decide) (stM_at (by omega)) ?_
          refine V_iload e_X9_falls_100 rfl ?_
          refine V_iorN (z := nI ((A 5) ||| s)) e_X9_falls_102 (lorI _ _) ?_
          refine V_iast (j := 5) e_X9_falls_103 rfl rfl (by decide) ?_
          rw [show up2 (stM τ 298 A) 298 5 (nI ((A 5) ||| s)) = stM τ 298 (fallV A s) from (by rw [stM_up (by omega)]; rfl)]
          refine V_aload_n e_X9_falls_104 rfl rfl ?_
          refine V_getr (r := 298) e_X9_falls_105 F_X9_then f_X9_25 rfl rfl ?_
          refine V_iload_n e_X9_falls_108 rfl rfl ?_
          refine V_csVe (av := [.ref (eB E + 298), .int (nI n)]) (st := []) e_X9_falls_109 (c_X9_daysOf E 298 n (fallV A s) τ rfl rfl (hF.fall (by omega)) (by omega)) l_X9_226 S_X9_daysOf (rm_ok (by decide) (by decide)) rfl rfl (Nat.le_of_ble_eq_true rfl) ?_
          refine V_aload_n e_X9_falls_112 rfl rfl ?_
          refine V_getr (r := 298) e_X9_falls_113 F_X9_then f_X9_25 rfl rfl ?_
          refine V_csIe (av := [.ref (eB E + 298)]) (st := []) e_X9_falls_116 (c_X9_hungry E 298 (daysV (fallV A s) n) τ rfl rfl (by rw [daysV_lo (by omega) (by omega), fallV_lo (by omega)]; exact h5)) l_X9_200 S_X9_hungry (rm_ok (by decide) (by decide)) rfl rfl (Nat.le_of_ble_eq_true rfl) ?_
          refine V_aload_n e_X9_falls_119 rfl rfl ?_
          refine V_getr (r := 296) e_X9_falls_120 F_X9_shore f_X9_19 rfl rfl ?_
          refine V_csIe (av := [.ref (eB E + 296)]) (st := [.int (nI (hung (daysV (fallV A s) n)))]) e_X9_falls_123 (c_X9_hungryR E 296 A (stM τ 298 (daysV (fallV A s) n)) rfl rfl (hI.rep hM).t h5) l_X9_200 S_X9_hungry (rm_ok (by decide) (by decide)) rfl rfl (Nat.le_of_ble_eq_true rfl) ?_
          refine V_icmp_ne (tgt := 134) e_X9_falls_126 (by decide) (fun c7 => ?_) (fun c7 => ?_)
          · have d7 : ¬ hung (daysV (fallV A s) n) = hung A := nq_ne (by first | omega | exact Nat.lt_of_le_of_lt Nat.and_le_left (by omega) | exact hung_lt hB h5 | exact hungd_lt hF hB h5 (by omega) (by omega)) (by first | omega | exact Nat.lt_of_le_of_lt Nat.and_le_left (by omega) | exact hung_lt hB h5 | exact hungd_lt hF hB h5 (by omega) (by omega)) c7
            have hok9 : okF A n s = 0 := by unfold okF; rw [if_pos hza]; exact Decidable.byContradiction (fun q => d7 ((falls_ok hF (by omega)).mpr q))
            refine V_iload_n e_X9_falls_134 rfl rfl ?_
            refine V_istore_n (L' := [some (.ref (eB E + 292)), some (.int (nI n)), some (.int w), some (.int (ov none)), some (.int (nI s))]) e_X9_falls_135 rfl rfl ?_
            refine V_iinc (v := nI (s + 1)) (L' := [some (.ref (eB E + 292)), some (.int (nI n)), some (.int w), some (.int (ov none)), some (.int (nI (s + 1)))]) e_X9_falls_136 rfl (nI_add _ 1) rfl ?_
            refine V_goto (tgt := 46) e_X9_falls_139 (by decide) ?_
            rw [show ov none = ov (bestS (okF A n) (s + 1)) from (by rw [best_n0 hbb hok9])]; exact ih (2 ^ A 0 - (s + 1)) (by omega) (s + 1) (stM τ 298 (daysV (fallV A s) n)) rfl (by omega) hI.st
          · have d7 : hung (daysV (fallV A s) n) = hung A := nq_eq (by first | omega | exact Nat.lt_of_le_of_lt Nat.and_le_left (by omega) | exact hung_lt hB h5 | exact hungd_lt hF hB h5 (by omega) (by omega)) (by first | omega | exact Nat.lt_of_le_of_lt Nat.and_le_left (by omega) | exact hung_lt hB h5 | exact hungd_lt hF hB h5 (by omega) (by omega)) c7
            have hok9 : ¬ okF A n s = 0 := by unfold okF; rw [if_pos hza]; exact (falls_ok hF (by omega)).mp d7
            refine V_iload e_X9_falls_129 rfl ?_
            refine V_goto (tgt := 135) e_X9_falls_131 (by decide) ?_
            refine V_istore_n (L' := [some (.ref (eB E + 292)), some (.int (nI n)), some (.int w), some (.int (nI s)), some (.int (nI s))]) e_X9_falls_135 rfl rfl ?_
            refine V_iinc (v := nI (s + 1)) (L' := [some (.ref (eB E + 292)), some (.int (nI n)), some (.int w), some (.int (nI s)), some (.int (nI (s + 1)))]) e_X9_falls_136 rfl (nI_add _ 1) rfl ?_
            refine V_goto (tgt := 46) e_X9_falls_139 (by decide) ?_
            rw [show nI s = ov (bestS (okF A n) (s + 1)) from (by rw [best_n1 hbb hok9]; rfl)]; exact ih (2 ^ A 0 - (s + 1)) (by omega) (s + 1) (stM τ 298 (daysV (fallV A s) n)) rfl (by omega) hI.st
        · have hy64 : y < 64 := ov_lt (ok := (okF A n)) (n := s) (by omega) hG6 y hbb
          refine V_iload_n e_X9_falls_71 rfl rfl ?_
          refine V_topi (y := nI y) (rfl) ?_
          refine V_ldc (v := (-1000000)) e_X9_falls_72 k_X9_96 ?_
          refine V_icmp_eq (tgt := 89) e_X9_falls_74 (by decide) (fun c8 => absurd c8 (fewn hy64)) (fun c8 => ?_)
          have hc1 := cnt_le s
          have hc2 := cnt_le y
          refine V_iload e_X9_falls_77 rfl ?_
          refine V_csIe (av := [.int (nI s)]) (st := []) e_X9_falls_79 (c_X9_bits E s τ (by omega)) l_X9_248 S_X9_bits (rm_ok (by decide) (by decide)) rfl rfl (Nat.le_of_ble_eq_true rfl) ?_
          refine V_iload_n e_X9_falls_82 rfl rfl ?_
          refine V_topi (y := nI y) (rfl) ?_
          refine V_csIe (av := [.int (nI y)]) (st := [.int (nI (cntN s))]) e_X9_falls_83 (c_X9_bits E y τ (by omega)) l_X9_248 S_X9_bits (rm_ok (by decide) (by decide)) rfl rfl (Nat.le_of_ble_eq_true rfl) ?_
          refine V_icmp_ge (tgt := 136) e_X9_falls_86 (by decide) (fun c9 => ?_) (fun c9 => ?_)
          · have d9 : cntN y ≤ cntN s := nq_le (by first | omega | exact Nat.lt_of_le_of_lt Nat.and_le_left (by omega) | exact hung_lt hB h5 | exact hungd_lt hF hB h5 (by omega) (by omega)) (by first | omega | exact Nat.lt_of_le_of_lt Nat.and_le_left (by omega) | exact hung_lt hB h5 | exact hungd_lt hF hB h5 (by omega) (by omega)) c9
            refine V_iinc (v := nI (s + 1)) (L' := [some (.ref (eB E + 292)), some (.int (nI n)), some (.int w), some (.int (ov (some y))), some (.int (nI (s + 1)))]) e_X9_falls_136 rfl (nI_add _ 1) rfl ?_
            refine V_goto (tgt := 46) e_X9_falls_139 (by decide) ?_
            rw [show ov (some y) = ov (bestS (okF A n) (s + 1)) from (by rw [best_sx hbb d9])]; exact ih (2 ^ A 0 - (s + 1)) (by omega) (s + 1) τ rfl (by omega) hI
          · have d9 : ¬ cntN y ≤ cntN s := nq_nle (by first | omega | exact Nat.lt_of_le_of_lt Nat.and_le_left (by omega) | exact hung_lt hB h5 | exact hungd_lt hF hB h5 (by omega) (by omega)) (by first | omega | exact Nat.lt_of_le_of_lt Nat.and_le_left (by omega) | exact hung_lt hB h5 | exact hungd_lt hF hB h5 (by omega) (by omega)) c9
            refine V_aload_n e_X9_falls_89 rfl rfl ?_
            refine V_cvVe (av := []) (st := []) e_X9_falls_90 (c_X9_layThen E A τ (hI.rep hM)) l_X9_223 S_X9_layThen rfl (rm_ok (by decide) (by decide)) rfl rfl (Nat.le_of_ble_eq_true rfl) ?_
            refine V_aload_n e_X9_falls_93 rfl rfl ?_
            refine V_getr (r := 298) e_X9_falls_94 F_X9_then f_X9_25 rfl rfl ?_
            refine V_iconst (v := nI 5) e_X9_falls_97 (by decide) ?_
            refine V_dup2 e_X9_falls_98 rfl rfl ?_
            refine V_ialdv (v := nI (A 5)) (j := 5) e_X9_falls_99 rfl rfl (by decide) (stM_at (by omega)) ?_
            refine V_iload e_X9_falls_100 rfl ?_
            refine V_iorN (z := nI ((A 5) ||| s)) e_X9_falls_102 (lorI _ _) ?_
            refine V_iast (j := 5) e_X9_falls_103 rfl rfl (by decide) ?_
            rw [show up2 (stM τ 298 A) 298 5 (nI ((A 5) ||| s)) = stM τ 298 (fallV A s) from (by rw [stM_up (by omega)]; rfl)]
            refine V_aload_n e_X9_falls_104 rfl rfl ?_
            refine V_getr (r := 298) e_X9_falls_105 F_X9_then f_X9_25 rfl rfl ?_
            refine V_iload_n e_X9_falls_108 rfl rfl ?_
            refine V_csVe (av := [.ref (eB E + 298), .int (nI n)]) (st := []) e_X9_falls_109 (c_X9_daysOf E 298 n (fallV A s) τ rfl rfl (hF.fall (by omega)) (by omega)) l_X9_226 S_X9_daysOf (rm_ok (by decide) (by decide)) rfl rfl (Nat.le_of_ble_eq_true rfl) ?_
            refine V_aload_n e_X9_falls_112 rfl rfl ?_
            refine V_getr (r := 298) e_X9_falls_113 F_X9_then f_X9_25 rfl rfl ?_
            refine V_csIe (av := [.ref (eB E + 298)]) (st := []) e_X9_falls_116 (c_X9_hungry E 298 (daysV (fallV A s) n) τ rfl rfl (by rw [daysV_lo (by omega) (by omega), fallV_lo (by omega)]; exact h5)) l_X9_200 S_X9_hungry (rm_ok (by decide) (by decide)) rfl rfl (Nat.le_of_ble_eq_true rfl) ?_
            refine V_aload_n e_X9_falls_119 rfl rfl ?_
            refine V_getr (r := 296) e_X9_falls_120 F_X9_shore f_X9_19 rfl rfl ?_
            refine V_csIe (av := [.ref (eB E + 296)]) (st := [.int (nI (hung (daysV (fallV A s) n)))]) e_X9_falls_123 (c_X9_hungryR E 296 A (stM τ 298 (daysV (fallV A s) n)) rfl rfl (hI.rep hM).t h5) l_X9_200 S_X9_hungry (rm_ok (by decide) (by decide)) rfl rfl (Nat.le_of_ble_eq_true rfl) ?_
            refine V_icmp_ne (tgt := 134) e_X9_falls_126 (by decide) (fun c10 => ?_) (fun c10 => ?_)
            · have d10 : ¬ hung (daysV (fallV A s) n) = hung A := nq_ne (by first | omega | exact Nat.lt_of_le_of_lt Nat.and_le_left (by omega) | exact hung_lt hB h5 | exact hungd_lt hF hB h5 (by omega) (by omega)) (by first | omega | exact Nat.lt_of_le_of_lt Nat.and_le_left (by omega) | exact hung_lt hB h5 | exact hungd_lt hF hB h5 (by omega) (by omega)) c10
              have hok9 : okF A n s = 0 := by unfold okF; rw [if_pos hza]; exact Decidable.byContradiction (fun q => d10 ((falls_ok hF (by omega)).mpr q))
              refine V_iload_n e_X9_falls_134 rfl rfl ?_
              refine V_istore_n (L' := [some (.ref (eB E + 292)), some (.int (nI n)), some (.int w), some (.int (ov (some y))), some (.int (nI s))]) e_X9_falls_135 rfl rfl ?_
              refine V_iinc (v := nI (s + 1)) (L' := [some (.ref (eB E + 292)), some (.int (nI n)), some (.int w), some (.int (ov (some y))), some (.int (nI (s + 1)))]) e_X9_falls_136 rfl (nI_add _ 1) rfl ?_
              refine V_goto (tgt := 46) e_X9_falls_139 (by decide) ?_
              rw [show ov (some y) = ov (bestS (okF A n) (s + 1)) from (by rw [best_s0 hbb hok9])]; exact ih (2 ^ A 0 - (s + 1)) (by omega) (s + 1) (stM τ 298 (daysV (fallV A s) n)) rfl (by omega) hI.st
            · have d10 : hung (daysV (fallV A s) n) = hung A := nq_eq (by first | omega | exact Nat.lt_of_le_of_lt Nat.and_le_left (by omega) | exact hung_lt hB h5 | exact hungd_lt hF hB h5 (by omega) (by omega)) (by first | omega | exact Nat.lt_of_le_of_lt Nat.and_le_left (by omega) | exact hung_lt hB h5 | exact hungd_lt hF hB h5 (by omega) (by omega)) c10
              have hok9 : ¬ okF A n s = 0 := by unfold okF; rw [if_pos hza]; exact (falls_ok hF (by omega)).mp d10
              refine V_iload e_X9_falls_129 rfl ?_
              refine V_goto (tgt := 135) e_X9_falls_131 (by decide) ?_
              refine V_istore_n (L' := [some (.ref (eB E + 292)), some (.int (nI n)), some (.int w), some (.int (nI s)), some (.int (nI s))]) e_X9_falls_135 rfl rfl ?_
              refine V_iinc (v := nI (s + 1)) (L' := [some (.ref (eB E + 292)), some (.int (nI n)), some (.int w), some (.int (nI s)), some (.int (nI (s + 1)))]) e_X9_falls_136 rfl (nI_add _ 1) rfl ?_
              refine V_goto (tgt := 46) e_X9_falls_139 (by decide) ?_
              rw [show nI s = ov (bestS (okF A n) (s + 1)) from (by rw [best_s1 hbb d9 hok9]; rfl)]; exact ih (2 ^ A 0 - (s + 1)) (by omega) (s + 1) (stM τ 298 (daysV (fallV A s) n)) rfl (by omega) hI.st
set_option maxRecDepth 100000 in
set_option maxHeartbeats 4000000 in
theorem c_X9_falls (E : En) (x y : Int32) (A : Vec) (σ : Sg) (hM : RepM σ 296 A) (hN : WN A) (hB : HBd A) : Cn E m_X9_falls 12 [.ref (eB E + 292), .int x, .int y] σ (pI (fun σ' r => Fm σ σ' ∧ r = sFalls A x y)) := by
  have hNl := hN.le
  have hM1 : RepM (up2 σ 292 0 (nI 0)) 296 A := hM.fm Fm.th (by decide) (by decide)
  refine Cn.of [some (.ref (eB E + 292)), some (.int x), some (.int y), none, none] (by decide) (Nat.le_of_ble_eq_true rfl) rfl ?_
  refine V_aload_n e_X9_falls_0 rfl rfl ?_
  refine V_iconst (v := nI 0) e_X9_falls_1 (by decide) ?_
  refine V_puti e_X9_falls_2 F_X9_thrown f_X9_53 rfl ?_
  refine V_aload_n e_X9_falls_5 rfl rfl ?_
  refine V_cvIe (av := []) (st := []) e_X9_falls_6 (c_X9_isThere E A (up2 σ 292 0 (nI 0)) hM1 hNl.1) l_X9_191 S_X9_isThere rfl (rm_ok (by decide) (by decide)) rfl rfl (Nat.le_of_ble_eq_true rfl) ?_
  refine V_if_ne (tgt := 15) e_X9_falls_9 (by decide) (fun c1 => ?_) (fun c1 => ?_)
  · have d1 : ¬ (if A 0 = 0 then 0 else 1) = 0 := nq_ne (by first | omega | (split <;> omega)) (by first | omega | (split <;> omega)) c1
    have hA0 : ¬ A 0 = 0 := fun q => by rw [if_pos q] at d1; omega
    have hF : WF A := hN.wf (by omega)
    refine V_iload_n e_X9_falls_15 rfl rfl ?_
    refine V_i2l e_X9_falls_16 ?_
    refine V_lconst (v := lN 1) e_X9_falls_17 (by decide) ?_
    refine V_ldc2_w (v := lN 30) e_X9_falls_18 kl_X9_246 ?_
    refine V_csIe (av := [.long x.toInt64, .long (lN 1), .long (lN 30)]) (st := []) e_X9_falls_21 (c_X9_inN E x (nI 1) (nI 30) (lN 1) (lN 30) (up2 σ 292 0 (nI 0)) (nI_l (by omega)) (nI_l (by omega))) l_X9_63 S_X9_in (rm_ok (by decide) (by decide)) rfl rfl (Nat.le_of_ble_eq_true rfl) ?_
    refine V_if_eq (tgt := 37) e_X9_falls_24 (by decide) (fun c2 => ?_) (fun c2 => ?_)
    · refine V_ldc (v := (-1000001)) e_X9_falls_37 k_X9_73 ?_
      exact V_iret e_X9_falls_39 rfl (⟨Fm.th, by unfold sFalls; (try unfold gIn); (first | rw [if_pos hA0] | rw [if_neg hA0] | skip); (first | rw [if_pos d1] | rw [if_neg d1] | skip); (first | rw [if_pos c2] | rw [if_neg c2] | skip); (try dsimp only); (repeat rw [ixN (by omega)]); try rfl⟩)
    · obtain ⟨n, hna, hn, rfl⟩ := (wi_le (by omega) (by omega)).mp c2
      refine V_iload_n e_X9_falls_27 rfl rfl ?_
      refine V_i2l e_X9_falls_28 ?_
      refine V_lconst (v := lN 0) e_X9_falls_29 (by decide) ?_
      refine V_lconst (v := lN 1) e_X9_falls_30 (by decide) ?_
      refine V_csIe (av := [.long y.toInt64, .long (lN 0), .long (lN 1)]) (st := []) e_X9_falls_31 (c_X9_inN E y (nI 0) (nI 1) (lN 0) (lN 1) (up2 σ 292 0 (nI 0)) (nI_l (by omega)) (nI_l (by omega))) l_X9_63 S_X9_in (rm_ok (by decide) (by decide)) rfl rfl (Nat.le_of_ble_eq_true rfl) ?_
      refine V_if_ne (tgt := 40) e_X9_falls_34 (by decide) (fun c3 => ?_) (fun c3 => ?_)
      · refine V_ldc (v := (-1000000)) e_X9_falls_40 k_X9_96 ?_
        refine V_istore_n (L' := [some (.ref (eB E + 292)), some (.int (nI n)), some (.int y), some (.int (-1000000)), none]) e_X9_falls_42 rfl rfl ?_
        refine V_iconst (v := nI 0) e_X9_falls_43 (by decide) ?_
        refine V_istore (L' := [some (.ref (eB E + 292)), some (.int (nI n)), some (.int y), some (.int (-1000000)), some (.int (nI 0))]) e_X9_falls_44 rfl ?_
        have hX := lp_X9_falls_s E n y A (fun σ' r => Fm σ σ' ∧ r = sFalls A (nI n) y) (up2 σ 292 0 (nI 0)) hM1 hF hB (by omega) hNl.2 hNl.1 (pow6 hNl.1) (fun τ hτ r hr => ⟨Fm.th.f8 hτ, by rw [hr]; unfold sFalls; rw [if_neg hA0, if_neg c2, if_neg c3, ixN (by omega)]⟩) (2 ^ A 0) 0 _ rfl (Nat.zero_le _) F8.rf; exact hX
      · refine V_ldc (v := (-1000001)) e_X9_falls_37 k_X9_73 ?_
        exact V_iret e_X9_falls_39 rfl (⟨Fm.th, by unfold sFalls; (try unfold gIn); (first | rw [if_pos hA0] | rw [if_neg hA0] | skip); (first | rw [if_pos d1] | rw [if_neg d1] | skip); (first | rw [if_pos c2] | rw [if_neg c2] | skip); (first | rw [if_pos c3] | rw [if_neg c3] | skip); (try dsimp only); (repeat rw [ixN (by omega)]); try rfl⟩)
  · have d1 : (if A 0 = 0 then 0 else 1) = 0 := nq_eq (by first | omega | (split <;> omega)) (by first | omega | (split <;> omega)) c1
    have hA0 : A 0 = 0 := Decidable.byContradiction (fun q => by rw [if_neg q] at d1; omega)
    refine V_ldc (v := (-1000002)) e_X9_falls_12 k_X9_194 ?_
    exact V_iret e_X9_falls_14 rfl (⟨Fm.th, by unfold sFalls; (try unfold gIn); (first | rw [if_pos hA0] | rw [if_neg hA0] | skip); (first | rw [if_pos d1] | rw [if_neg d1] | skip); (try dsimp only); (repeat rw [ixN (by omega)]); try rfl⟩)

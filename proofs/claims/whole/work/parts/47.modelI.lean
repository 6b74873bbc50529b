theorem im_rw {σ τ : Sg} {S : Ab} {R : Rw} {f : Nat} (h : IM σ (wS S f)) (hA : ∀ r, r < 8 → R.1 r ≤ 3 ∧ R.2.1 r ≤ 40) (hR : MR τ R) (e : ∀ a k, 0 < mrg a k → ¬ mrg a k = 4 → τ a k = σ a k) : IM τ (wS (wR S R) f) := by
  have h2 := IM.wR h hA hR e
  exact h2
set_option maxRecDepth 100000 in
set_option maxHeartbeats 4000000 in
theorem lp_X9_row (E : En) (r l n : Nat) (Q : Sg → Int32 → Prop) (ρ : Sg) (hr : r < 8) (hQ : Q (zrM r 40 ρ) (nI n)) : ∀ (mm : Nat) (i : Nat), 40 - i = mm → (i ≤ 40) → V E m_X9_row (kM E 12 (pI Q)) 65 [some (.ref (eB E + 292)), some (.int (nI r)), some (.int (nI l)), some (.int (nI n)), some (.int (nI i))] [] (zrM r i ρ) := by
  intro mm
  induction mm using Nat.strongRecOn with
  | ind mm ih =>
    intro i hmm hi
    refine V_iload e_X9_row_65 rfl ?_
    refine V_bipush (v := nI 40) e_X9_row_67 (by decide) ?_
    refine V_icmp_ge (tgt := 91) e_X9_row_69 (by decide) (fun c1 => ?_) (fun c1 => ?_)
    · have d1 : 40 ≤ i := nq_le (by omega) (by omega) c1
      refine V_iload_n e_X9_row_91 rfl rfl ?_
      exact V_iret e_X9_row_92 rfl (by rw [show i = 40 by omega]; exact hQ)
    · have d1 : ¬ 40 ≤ i := nq_nle (by omega) (by omega) c1
      refine V_aload_n e_X9_row_72 rfl rfl ?_
      refine V_getr (r := 295) e_X9_row_73 F_X9_item f_X9_16 rfl rfl ?_
      refine V_bipush (v := nI 40) e_X9_row_76 (by decide) ?_
      refine V_iload_n e_X9_row_78 rfl rfl ?_
      refine V_imulN (z := nI (40 * r)) e_X9_row_79 (pk_mul _ _) ?_
      refine V_iload e_X9_row_80 rfl ?_
      refine V_iaddN (z := nI (40 * r + i)) e_X9_row_82 (nI_add _ _) ?_
      refine V_iconst (v := nI 0) e_X9_row_83 (by decide) ?_
      refine V_iast (j := (40 * r + i)) e_X9_row_84 rfl rfl (by have q : ln 295 = 320 := rfl; omega) ?_
      rw [show up2 (zrM r i ρ) 295 (40 * r + i) (nI 0) = zrM r (i + 1) ρ from zrM_s]
      refine V_iinc (v := nI (i + 1)) (L' := [some (.ref (eB E + 292)), some (.int (nI r)), some (.int (nI l)), some (.int (nI n)), some (.int (nI (i + 1)))]) e_X9_row_85 rfl (nI_add _ 1) rfl ?_
      refine V_goto (tgt := 65) e_X9_row_88 (by decide) ?_
      exact ih (40 - (i + 1)) (by omega) (i + 1) rfl (by omega)
set_option maxRecDepth 100000 in
set_option maxHeartbeats 4000000 in
theorem c9_row (E : En) (x y z : Int32) (A : Vec) (T : AbT) (σ : Sg) (hJ0 : IM σ (A, T)) : Cn E m_X9_row 12 [.ref (eB E + 292), .int x, .int y, .int z] σ (pM σ (oRow (A, T) x y z)) := by
  have hGD : GD A := hJ0.1.1
  have hN : WN A := hGD.1
  have hNl := hN.le
  have hA4 : A 4 ≤ 999 := hGD.2.2
  have hG := hJ0.1
  refine Cn.of [some (.ref (eB E + 292)), some (.int x), some (.int y), some (.int z), none] (by decide) (Nat.le_of_ble_eq_true rfl) rfl ?_
  refine V_aload_n e_X9_row_0 rfl rfl ?_
  refine V_iconst (v := nI 0) e_X9_row_1 (by decide) ?_
  refine V_puti e_X9_row_2 F_X9_thrown f_X9_53 rfl ?_
  generalize hτ : up2 σ 292 0 (nI 0) = τ
  have hfb : Fb 292 307 σ τ := hτ ▸ th_fb
  have hJ : IM τ (A, T) := hτ ▸ hJ0.fm Fm.th
  have hM : RepM τ 296 A := hJ.2.1
  refine V_iload_n e_X9_row_5 rfl rfl ?_
  refine V_csIe (av := [.int x]) (st := []) e_X9_row_6 (c_X9_isRow E x τ) l_X9_67 S_X9_isRow (rm_ok (by decide) (by decide)) rfl rfl (Nat.le_of_ble_eq_true rfl) ?_
  refine V_if_eq (tgt := 30) e_X9_row_9 (by decide) (fun c1 => ?_) (fun c1 => ?_)
  · refine V_ldc (v := (-1000001)) e_X9_row_30 k_X9_73 ?_
    exact V_iret e_X9_row_32 rfl (by rw [show oRow (A, T) x y z = ((A, T), (-1000001)) from (by unfold oRow; (try unfold gIn); (try dsimp only); (try (repeat rw [ixN (by omega)])); (first | rw [if_pos c1] | rw [if_neg c1] | skip); try rfl)]; exact ⟨hfb, hJ, rfl⟩)
  · obtain ⟨r, hra, hr, rfl⟩ := (wi_le (by omega) (by omega)).mp c1
    have hGr := hG.rows r (by omega)
    refine V_iload_n e_X9_row_12 rfl rfl ?_
    refine V_i2l e_X9_row_13 ?_
    refine V_lconst (v := lN 0) e_X9_row_14 (by decide) ?_
    refine V_ldc2_w (v := lN 2) e_X9_row_15 kl_X9_71 ?_
    refine V_csIe (av := [.long y.toInt64, .long (lN 0), .long (lN 2)]) (st := []) e_X9_row_18 (c_X9_inN E y (nI 0) (nI 2) (lN 0) (lN 2) τ (nI_l (by omega)) (nI_l (by omega))) l_X9_63 S_X9_in (rm_ok (by decide) (by decide)) rfl rfl (Nat.le_of_ble_eq_true rfl) ?_
    refine V_if_eq (tgt := 30) e_X9_row_21 (by decide) (fun c2 => ?_) (fun c2 => ?_)
    · refine V_ldc (v := (-1000001)) e_X9_row_30 k_X9_73 ?_
      exact V_iret e_X9_row_32 rfl (by rw [show oRow (A, T) (nI r) y z = ((A, T), (-1000001)) from (by unfold oRow; (try unfold gIn); (try dsimp only); (try (repeat rw [ixN (by omega)])); (first | rw [if_pos c1] | rw [if_neg c1] | skip); (first | rw [if_pos c2] | rw [if_neg c2] | skip); try rfl)]; exact ⟨hfb, hJ, rfl⟩)
    · obtain ⟨l, hla, hl, rfl⟩ := (wi_le (by omega) (by omega)).mp c2
      refine V_iload_n e_X9_row_24 rfl rfl ?_
      refine V_bipush (v := nI 40) e_X9_row_25 (by decide) ?_
      refine V_icmp_le (tgt := 33) e_X9_row_27 (by decide) (fun c3 => ?_) (fun c3 => ?_)
      · have g40 : ¬ nI 40 < z := i_nlt.mpr c3
        refine V_aload_n e_X9_row_33 rfl rfl ?_
        refine V_iconst (v := nI 0) e_X9_row_34 (by decide) ?_
        refine V_puti e_X9_row_35 F_X9_status f_X9_57 rfl ?_
        generalize hρ : up2 τ 292 1 (nI 0) = ρ
        have hfb0 : Fb 292 307 σ ρ := hρ ▸ hfb.tr th_fb
        have hK : IM ρ (wS (A, T) 0) := hρ ▸ imst hJ (by omega)
        have hMk : RepM ρ 296 A := hK.2.1
        have hMR : MR ρ (aR (A, T)) := hK.2.2.2.2.1
        refine V_iload_n e_X9_row_38 rfl rfl ?_
        refine V_if_ge (tgt := 48) e_X9_row_39 (by decide) (fun c4 => ?_) (fun c4 => ?_)
        · have g0 : ¬ z < 0 := i_nlt.mpr c4
          obtain ⟨n, hn, rfl⟩ := n40 g40 g0
          refine V_aload_n e_X9_row_48 rfl rfl ?_
          refine V_getr (r := 293) e_X9_row_49 F_X9_lane f_X9_7 rfl rfl ?_
          refine V_iload_n e_X9_row_52 rfl rfl ?_
          refine V_iload_n e_X9_row_53 rfl rfl ?_
          refine V_iast (j := r) e_X9_row_54 rfl rfl (by have q : ln 293 = 8 := rfl; omega) ?_
          refine V_aload_n e_X9_row_55 rfl rfl ?_
          refine V_getr (r := 294) e_X9_row_56 F_X9_many f_X9_13 rfl rfl ?_
          refine V_iload_n e_X9_row_59 rfl rfl ?_
          refine V_iload_n e_X9_row_60 rfl rfl ?_
          refine V_iast (j := r) e_X9_row_61 rfl rfl (by have q : ln 294 = 8 := rfl; omega) ?_
          refine V_iconst (v := nI 0) e_X9_row_62 (by decide) ?_
          refine V_istore (L' := [some (.ref (eB E + 292)), some (.int (nI r)), some (.int (nI l)), some (.int (nI n)), some (.int (nI 0))]) e_X9_row_63 rfl ?_
          have hX := lp_X9_row E r l n (fun σ' q => Fb 292 307 σ σ' ∧ IM σ' (oRow (A, T) (nI r) (nI l) (nI n)).1 ∧ q = (oRow (A, T) (nI r) (nI l) (nI n)).2) (up2 (up2 ρ 293 r (nI l)) 294 r (nI n)) (by omega) (by rw [show oRow (A, T) (nI r) (nI l) (nI n) = (wS (wR (A, T) (begR (aR (A, T)) r l n)) 0, nI n) from (by unfold oRow; rw [if_neg c1, if_neg c2, if_neg g40, if_neg g0, ixN (by omega), ixN (by omega), ixN (by omega)])]; exact ⟨hfb0.tr (fun a k hk => by rw [zrM_ne (by omega), up2_ne (by omega), up2_ne (by omega)]), im_rw hK (begR_ok hG.rows (by omega) (by omega)) (hMR.beg (by omega)) (fun a k h1 h2 => by rw [zrM_ne (fun q => h2 (by rw [q]; rfl)), mup (b := 294) (j := r) rfl a k h1 h2, mup (b := 293) (j := r) rfl a k h1 h2]), rfl⟩) 40 0 rfl (by omega); rw [zrM_0] at hX; exact hX
        · have g0 : z < 0 := i_nle.mp c4
          refine V_aload_n e_X9_row_42 rfl rfl ?_
          refine V_iconst (v := nI 4) e_X9_row_43 (by decide) ?_
          refine V_cvIe (av := [.int (nI 4)]) (st := []) e_X9_row_44 (c_X9_finding E 4 ρ) l_X9_74 S_X9_finding rfl (rm_ok (by decide) (by decide)) rfl rfl (Nat.le_of_ble_eq_true rfl) ?_
          exact V_iret e_X9_row_47 rfl (by rw [show oRow (A, T) (nI r) (nI l) z = (wS (A, T) 4, (-1000010) - nI 4) from (by unfold oRow; (try unfold gIn); (try dsimp only); (try (repeat rw [ixN (by omega)])); (first | rw [if_pos c1] | rw [if_neg c1] | skip); (first | rw [if_pos c2] | rw [if_neg c2] | skip); (first | rw [if_pos g40] | rw [if_neg g40] | skip); (first | rw [if_pos g0] | rw [if_neg g0] | skip); try rfl)]; exact ⟨hfb0.tr th_fb, (show IM (up2 ρ 292 1 (nI 4)) (wS (A, T) 4) from imst2 hK (f := 4) (by omega)), rfl⟩)
      · have g40 : nI 40 < z := i_nle.mp c3
        refine V_ldc (v := (-1000001)) e_X9_row_30 k_X9_73 ?_
        exact V_iret e_X9_row_32 rfl (by rw [show oRow (A, T) (nI r) (nI l) z = ((A, T), (-1000001)) from (by unfold oRow; (try unfold gIn); (try dsimp only); (try (repeat rw [ixN (by omega)])); (first | rw [if_pos c1] | rw [if_neg c1] | skip); (first | rw [if_pos c2] | rw [if_neg c2] | skip); (first | rw [if_pos g40] | rw [if_neg g40] | skip); try rfl)]; exact ⟨hfb, hJ, rfl⟩)
set_option maxRecDepth 100000 in
set_option maxHeartbeats 4000000 in
theorem c9_set (E : En) (x y z : Int32) (A : Vec) (T : AbT) (σ : Sg) (hJ0 : IM σ (A, T)) : Cn E m_X9_set 12 [.ref (eB E + 292), .int x, .int y, .int z] σ (pM σ (oSet (A, T) x y z)) := by
  have hGD : GD A := hJ0.1.1
  have hN : WN A := hGD.1
  have hNl := hN.le
  have hA4 : A 4 ≤ 999 := hGD.2.2
  have hG := hJ0.1
  refine Cn.of [some (.ref (eB E + 292)), some (.int x), some (.int y), some (.int z)] (by decide) (Nat.le_of_ble_eq_true rfl) rfl ?_
  refine V_aload_n e_X9_set_0 rfl rfl ?_
  refine V_iconst (v := nI 0) e_X9_set_1 (by decide) ?_
  refine V_puti e_X9_set_2 F_X9_thrown f_X9_53 rfl ?_
  generalize hτ : up2 σ 292 0 (nI 0) = τ
  have hfb : Fb 292 307 σ τ := hτ ▸ th_fb
  have hJ : IM τ (A, T) := hτ ▸ hJ0.fm Fm.th
  have hM : RepM τ 296 A := hJ.2.1
  refine V_iload_n e_X9_set_5 rfl rfl ?_
  refine V_csIe (av := [.int x]) (st := []) e_X9_set_6 (c_X9_isRow E x τ) l_X9_67 S_X9_isRow (rm_ok (by decide) (by decide)) rfl rfl (Nat.le_of_ble_eq_true rfl) ?_
  refine V_if_ne (tgt := 15) e_X9_set_9 (by decide) (fun c1 => ?_) (fun c1 => ?_)
  · obtain ⟨r, hra, hr, rfl⟩ := (wi_le (by omega) (by omega)).mp c1
    have hGr := hG.rows r (by omega)
    refine V_aload_n e_X9_set_15 rfl rfl ?_
    refine V_iconst (v := nI 0) e_X9_set_16 (by decide) ?_
    refine V_puti e_X9_set_17 F_X9_status f_X9_57 rfl ?_
    generalize hρ : up2 τ 292 1 (nI 0) = ρ
    have hfb0 : Fb 292 307 σ ρ := hρ ▸ hfb.tr th_fb
    have hK : IM ρ (wS (A, T) 0) := hρ ▸ imst hJ (by omega)
    have hMk : RepM ρ 296 A := hK.2.1
    have hMR : MR ρ (aR (A, T)) := hK.2.2.2.2.1
    obtain ⟨er1, er2, er3⟩ := hMR r (by omega)
    refine V_aload_n e_X9_set_20 rfl rfl ?_
    refine V_getr (r := 293) e_X9_set_21 F_X9_lane f_X9_7 rfl rfl ?_
    refine V_iload_n e_X9_set_24 rfl rfl ?_
    refine V_ialdv (v := nI ((aR (A, T)).1 r) - nI 1) (j := r) e_X9_set_25 rfl rfl (by have q : ln 293 = 8 := rfl; omega) er1 ?_
    refine V_if_ge (tgt := 35) e_X9_set_26 (by decide) (fun c2 => ?_) (fun c2 => ?_)
    · have hlr : ¬ (aR (A, T)).1 r = 0 := ln_ge hGr.1 c2
      refine V_iload_n e_X9_set_35 rfl rfl ?_
      refine V_i2l e_X9_set_36 ?_
      refine V_lconst (v := lN 0) e_X9_set_37 (by decide) ?_
      refine V_aload_n e_X9_set_38 rfl rfl ?_
      refine V_getr (r := 294) e_X9_set_39 F_X9_many f_X9_13 rfl rfl ?_
      refine V_iload_n e_X9_set_42 rfl rfl ?_
      refine V_ialdv (v := nI ((aR (A, T)).2.1 r)) (j := r) e_X9_set_43 rfl rfl (by have q : ln 294 = 8 := rfl; omega) er2 ?_
      refine V_iconst (v := nI 1) e_X9_set_44 (by decide) ?_
      refine V_isub e_X9_set_45 ?_
      refine V_i2l e_X9_set_46 ?_
      refine V_csIe (av := [.long y.toInt64, .long (lN 0), .long (((nI ((aR (A, T)).2.1 r)) - (nI 1)).toInt64)]) (st := []) e_X9_set_47 (c_X9_inN E y (nI 0) ((nI ((aR (A, T)).2.1 r)) - (nI 1)) (lN 0) (((nI ((aR (A, T)).2.1 r)) - (nI 1)).toInt64) ρ (nI_l (by omega)) (rfl)) l_X9_63 S_X9_in (rm_ok (by decide) (by decide)) rfl rfl (Nat.le_of_ble_eq_true rfl) ?_
      refine V_if_ne (tgt := 59) e_X9_set_50 (by decide) (fun c3 => ?_) (fun c3 => ?_)
      · have hgz := fndS_g (y := y) hlr hGr.2
        rw [if_neg c3] at hgz
        obtain ⟨j, hj, rfl⟩ := (wi_nat (by omega)).mp c3
        refine V_aload_n e_X9_set_59 rfl rfl ?_
        refine V_getr (r := 295) e_X9_set_60 F_X9_item f_X9_16 rfl rfl ?_
        refine V_bipush (v := nI 40) e_X9_set_63 (by decide) ?_
        refine V_iload_n e_X9_set_65 rfl rfl ?_
        refine V_imulN (z := nI (40 * r)) e_X9_set_66 (pk_mul _ _) ?_
        refine V_iload_n e_X9_set_67 rfl rfl ?_
        refine V_iaddN (z := nI (40 * r + j)) e_X9_set_68 (nI_add _ _) ?_
        refine V_aload_n e_X9_set_69 rfl rfl ?_
        refine V_getr (r := 293) e_X9_set_70 F_X9_lane f_X9_7 rfl rfl ?_
        refine V_iload_n e_X9_set_73 rfl rfl ?_
        refine V_ialdv (v := nI ((aR (A, T)).1 r - 1)) (j := r) e_X9_set_74 rfl rfl (by have q : ln 293 = 8 := rfl; omega) (er1.trans (pk_sub (by omega))) ?_
        refine V_if_ne (tgt := 83) e_X9_set_75 (by decide) (fun c4 => ?_) (fun c4 => ?_)
        · have d4 : ¬ (aR (A, T)).1 r - 1 = 0 := nq_ne (by omega) (by omega) c4
          have h0l : ¬ nI ((aR (A, T)).1 r - 1) = 0 := fun q => by have hz9 := nq_eq (b := 0) (by omega) (by omega) q; omega
          refine V_aload_n e_X9_set_83 rfl rfl ?_
          refine V_getr (r := 293) e_X9_set_84 F_X9_lane f_X9_7 rfl rfl ?_
          refine V_iload_n e_X9_set_87 rfl rfl ?_
          refine V_ialdv (v := nI ((aR (A, T)).1 r - 1)) (j := r) e_X9_set_88 rfl rfl (by have q : ln 293 = 8 := rfl; omega) (er1.trans (pk_sub (by omega))) ?_
          refine V_iconst (v := nI 1) e_X9_set_89 (by decide) ?_
          refine V_icmp_ne (tgt := 98) e_X9_set_90 (by decide) (fun c5 => ?_) (fun c5 => ?_)
          · have d5 : ¬ (aR (A, T)).1 r - 1 = 1 := nq_ne (by omega) (by omega) c5
            have h1l : ¬ nI ((aR (A, T)).1 r - 1) = nI 1 := fun q => by have hz9 := nq_eq (by omega) (by omega) q; omega
            refine V_iload_n e_X9_set_98 rfl rfl ?_
            refine V_iast (j := (40 * r + j)) e_X9_set_99 rfl rfl (by have q : ln 295 = 320 := rfl; omega) ?_
            refine V_aload_n e_X9_set_100 rfl rfl ?_
            refine V_getr (r := 295) e_X9_set_101 F_X9_item f_X9_16 rfl rfl ?_
            refine V_bipush (v := nI 40) e_X9_set_104 (by decide) ?_
            refine V_iload_n e_X9_set_106 rfl rfl ?_
            refine V_imulN (z := nI (40 * r)) e_X9_set_107 (pk_mul _ _) ?_
            refine V_iload_n e_X9_set_108 rfl rfl ?_
            refine V_iaddN (z := nI (40 * r + j)) e_X9_set_109 (nI_add _ _) ?_
            refine V_ialdv (v := z) (j := (40 * r + j)) e_X9_set_110 rfl rfl (by have q : ln 295 = 320 := rfl; omega) up2_at ?_
            exact V_iret e_X9_set_111 rfl (by have hv9 : z = put3 (nI ((aR (A, T)).1 r - 1)) z := (by unfold put3; (first | (rw [if_pos h0l]; done) | (rw [if_neg h0l, if_pos h1l]; done) | (rw [if_neg h0l, if_neg h1l]))); rw [show oSet (A, T) (nI r) (nI j) z = (wS (wR (A, T) (putR (aR (A, T)) r j (put3 (nI ((aR (A, T)).1 r - 1)) z))) 0, put3 (nI ((aR (A, T)).1 r - 1)) z) from (by unfold oSet; rw [if_neg c1, ixN (by omega)]; rw [if_pos hgz, ixN (by omega)])]; exact ⟨(show Fb 292 307 σ (up2 ρ 295 (40 * r + j) z) from hfb0.up (by decide) (by decide)), (show IM (up2 ρ 295 (40 * r + j) z) (wS (wR (A, T) (putR (aR (A, T)) r j (put3 (nI ((aR (A, T)).1 r - 1)) z))) 0) from im_rw hK hG.rows (Eq.mp (congrArg (fun q => MR (up2 ρ 295 (40 * r + j) q) (putR (aR (A, T)) r j (put3 (nI ((aR (A, T)).1 r - 1)) z))) hv9.symm) (hMR.put (by omega))) (mup rfl)), hv9⟩)
          · have d5 : (aR (A, T)).1 r - 1 = 1 := nq_eq (by omega) (by omega) c5
            have h1l : nI ((aR (A, T)).1 r - 1) = nI 1 := by rw [show (aR (A, T)).1 r - 1 = 1 by omega]
            refine V_iload_n e_X9_set_93 rfl rfl ?_
            refine V_i2s e_X9_set_94 ?_
            refine V_goto (tgt := 99) e_X9_set_95 (by decide) ?_
            refine V_iast (j := (40 * r + j)) e_X9_set_99 rfl rfl (by have q : ln 295 = 320 := rfl; omega) ?_
            refine V_aload_n e_X9_set_100 rfl rfl ?_
            refine V_getr (r := 295) e_X9_set_101 F_X9_item f_X9_16 rfl rfl ?_
            refine V_bipush (v := nI 40) e_X9_set_104 (by decide) ?_
            refine V_iload_n e_X9_set_106 rfl rfl ?_
            refine V_imulN (z := nI (40 * r)) e_X9_set_107 (pk_mul _ _) ?_
            refine V_iload_n e_X9_set_108 rfl rfl ?_
            refine V_iaddN (z := nI (40 * r + j)) e_X9_set_109 (nI_add _ _) ?_
            refine V_ialdv (v := z.toInt16.toInt32) (j := (40 * r + j)) e_X9_set_110 rfl rfl (by have q : ln 295 = 320 := rfl; omega) up2_at ?_
            exact V_iret e_X9_set_111 rfl (by have hv9 : z.toInt16.toInt32 = put3 (nI ((aR (A, T)).1 r - 1)) z := (by unfold put3; (first | (rw [if_pos h0l]; done) | (rw [if_neg h0l, if_pos h1l]; done) | (rw [if_neg h0l, if_neg h1l]))); rw [show oSet (A, T) (nI r) (nI j) z = (wS (wR (A, T) (putR (aR (A, T)) r j (put3 (nI ((aR (A, T)).1 r - 1)) z))) 0, put3 (nI ((aR (A, T)).1 r - 1)) z) from (by unfold oSet; rw [if_neg c1, ixN (by omega)]; rw [if_pos hgz, ixN (by omega)])]; exact ⟨(show Fb 292 307 σ (up2 ρ 295 (40 * r + j) z.toInt16.toInt32) from hfb0.up (by decide) (by decide)), (show IM (up2 ρ 295 (40 * r + j) z.toInt16.toInt32) (wS (wR (A, T) (putR (aR (A, T)) r j (put3 (nI ((aR (A, T)).1 r - 1)) z))) 0) from im_rw hK hG.rows (Eq.mp (congrArg (fun q => MR (up2 ρ 295 (40 * r + j) q) (putR (aR (A, T)) r j (put3 (nI ((aR (A, T)).1 r - 1)) z))) hv9.symm) (hMR.put (by omega))) (mup rfl)), hv9⟩)
        · have d4 : (aR (A, T)).1 r - 1 = 0 := nq_eq (by omega) (by omega) c4
          have h0l : nI ((aR (A, T)).1 r - 1) = 0 := by rw [show (aR (A, T)).1 r - 1 = 0 by omega]; rfl
          refine V_iload_n e_X9_set_78 rfl rfl ?_
          refine V_i2b e_X9_set_79 ?_
          refine V_goto (tgt := 99) e_X9_set_80 (by decide) ?_
          refine V_iast (j := (40 * r + j)) e_X9_set_99 rfl rfl (by have q : ln 295 = 320 := rfl; omega) ?_
          refine V_aload_n e_X9_set_100 rfl rfl ?_
          refine V_getr (r := 295) e_X9_set_101 F_X9_item f_X9_16 rfl rfl ?_
          refine V_bipush (v := nI 40) e_X9_set_104 (by decide) ?_
          refine V_iload_n e_X9_set_106 rfl rfl ?_
          refine V_imulN (z := nI (40 * r)) e_X9_set_107 (pk_mul _ _) ?_
          refine V_iload_n e_X9_set_108 rfl rfl ?_
          refine V_iaddN (z := nI (40 * r + j)) e_X9_set_109 (nI_add _ _) ?_
          refine V_ialdv (v := z.toInt8.toInt32) (j := (40 * r + j)) e_X9_set_110 rfl rfl (by have q : ln 295 = 320 := rfl; omega) up2_at ?_
          exact V_iret e_X9_set_111 rfl (by have hv9 : z.toInt8.toInt32 = put3 (nI ((aR (A, T)).1 r - 1)) z := (by unfold put3; (first | (rw [if_pos h0l]; done) | (rw [if_neg h0l, if_pos h1l]; done) | (rw [if_neg h0l, if_neg h1l]))); rw [show oSet (A, T) (nI r) (nI j) z = (wS (wR (A, T) (putR (aR (A, T)) r j (put3 (nI ((aR (A, T)).1 r - 1)) z))) 0, put3 (nI ((aR (A, T)).1 r - 1)) z) from (by unfold oSet; rw [if_neg c1, ixN (by omega)]; rw [if_pos hgz, ixN (by omega)])]; exact ⟨(show Fb 292 307 σ (up2 ρ 295 (40 * r + j) z.toInt8.toInt32) from hfb0.up (by decide) (by decide)), (show IM (up2 ρ 295 (40 * r + j) z.toInt8.toInt32) (wS (wR (A, T) (putR (aR (A, T)) r j (put3 (nI ((aR (A, T)).1 r - 1)) z))) 0) from im_rw hK hG.rows (Eq.mp (congrArg (fun q => MR (up2 ρ 295 (40 * r + j) q) (putR (aR (A, T)) r j (put3 (nI ((aR (A, T)).1 r - 1)) z))) hv9.symm) (hMR.put (by omega))) (mup rfl)), hv9⟩)
      · have hgz := fndS_g (y := y) hlr hGr.2
        rw [if_pos c3] at hgz
        refine V_aload_n e_X9_set_53 rfl rfl ?_
        refine V_iconst (v := nI 2) e_X9_set_54 (by decide) ?_
        refine V_cvIe (av := [.int (nI 2)]) (st := []) e_X9_set_55 (c_X9_finding E 2 ρ) l_X9_74 S_X9_finding rfl (rm_ok (by decide) (by decide)) rfl rfl (Nat.le_of_ble_eq_true rfl) ?_
        exact V_iret e_X9_set_58 rfl (by rw [show oSet (A, T) (nI r) y z = (wS (A, T) 2, (-1000010) - nI 2) from (by unfold oSet; rw [if_neg c1, ixN (by omega)]; rw [hgz]; rfl)]; exact ⟨hfb0.tr th_fb, imst2 hK (by omega), rfl⟩)
    · have hlr : (aR (A, T)).1 r = 0 := ln_nge hGr.1 c2
      refine V_aload_n e_X9_set_29 rfl rfl ?_
      refine V_iconst (v := nI 1) e_X9_set_30 (by decide) ?_
      refine V_cvIe (av := [.int (nI 1)]) (st := []) e_X9_set_31 (c_X9_finding E 1 ρ) l_X9_74 S_X9_finding rfl (rm_ok (by decide) (by decide)) rfl rfl (Nat.le_of_ble_eq_true rfl) ?_
      exact V_iret e_X9_set_34 rfl (by rw [show oSet (A, T) (nI r) y z = (wS (A, T) 1, (-1000010) - nI 1) from (by unfold oSet; rw [if_neg c1, ixN (by omega)]; rw [hlr, fndS_l0]; rfl)]; exact ⟨hfb0.tr th_fb, imst2 hK (by omega), rfl⟩)
  · refine V_ldc (v := (-1000001)) e_X9_set_12 k_X9_73 ?_
    exact V_iret e_X9_set_14 rfl (by rw [show oSet (A, T) x y z = ((A, T), (-1000001)) from (by unfold oSet; (try unfold gIn); (try dsimp only); (try (repeat rw [ixN (by omega)])); (first | rw [if_pos c1] | rw [if_neg c1] | skip); try rfl)]; exact ⟨hfb, hJ, rfl⟩)
set_option maxRecDepth 100000 in
set_option maxHeartbeats 4000000 in
theorem c9_drop (E : En) (x : Int32) (A : Vec) (T : AbT) (σ : Sg) (hJ0 : IM σ (A, T)) : Cn E m_X9_drop 12 [.ref (eB E + 292), .int x] σ (pM σ (oDrop (A, T) x)) := by
  have hGD : GD A := hJ0.1.1
  have hN : WN A := hGD.1
  have hNl := hN.le
  have hA4 : A 4 ≤ 999 := hGD.2.2
  have hG := hJ0.1
  refine Cn.of [some (.ref (eB E + 292)), some (.int x)] (by decide) (Nat.le_of_ble_eq_true rfl) rfl ?_
  refine V_aload_n e_X9_drop_0 rfl rfl ?_
  refine V_iconst (v := nI 0) e_X9_drop_1 (by decide) ?_
  refine V_puti e_X9_drop_2 F_X9_thrown f_X9_53 rfl ?_
  generalize hτ : up2 σ 292 0 (nI 0) = τ
  have hfb : Fb 292 307 σ τ := hτ ▸ th_fb
  have hJ : IM τ (A, T) := hτ ▸ hJ0.fm Fm.th
  have hM : RepM τ 296 A := hJ.2.1
  refine V_iload_n e_X9_drop_5 rfl rfl ?_
  refine V_csIe (av := [.int x]) (st := []) e_X9_drop_6 (c_X9_isRow E x τ) l_X9_67 S_X9_isRow (rm_ok (by decide) (by decide)) rfl rfl (Nat.le_of_ble_eq_true rfl) ?_
  refine V_if_ne (tgt := 15) e_X9_drop_9 (by decide) (fun c1 => ?_) (fun c1 => ?_)
  · obtain ⟨r, hra, hr, rfl⟩ := (wi_le (by omega) (by omega)).mp c1
    have hGr := hG.rows r (by omega)
    refine V_aload_n e_X9_drop_15 rfl rfl ?_
    refine V_iconst (v := nI 0) e_X9_drop_16 (by decide) ?_
    refine V_puti e_X9_drop_17 F_X9_status f_X9_57 rfl ?_
    generalize hρ : up2 τ 292 1 (nI 0) = ρ
    have hfb0 : Fb 292 307 σ ρ := hρ ▸ hfb.tr th_fb
    have hK : IM ρ (wS (A, T) 0) := hρ ▸ imst hJ (by omega)
    have hMk : RepM ρ 296 A := hK.2.1
    have hMR : MR ρ (aR (A, T)) := hK.2.2.2.2.1
    obtain ⟨er1, er2, er3⟩ := hMR r (by omega)
    refine V_aload_n e_X9_drop_20 rfl rfl ?_
    refine V_getr (r := 293) e_X9_drop_21 F_X9_lane f_X9_7 rfl rfl ?_
    refine V_iload_n e_X9_drop_24 rfl rfl ?_
    refine V_ialdv (v := nI ((aR (A, T)).1 r) - nI 1) (j := r) e_X9_drop_25 rfl rfl (by have q : ln 293 = 8 := rfl; omega) er1 ?_
    refine V_if_ge (tgt := 35) e_X9_drop_26 (by decide) (fun c2 => ?_) (fun c2 => ?_)
    · have hlr : ¬ (aR (A, T)).1 r = 0 := ln_ge hGr.1 c2
      refine V_aload_n e_X9_drop_35 rfl rfl ?_
      refine V_getr (r := 293) e_X9_drop_36 F_X9_lane f_X9_7 rfl rfl ?_
      refine V_iload_n e_X9_drop_39 rfl rfl ?_
      refine V_iconst (v := (-1)) e_X9_drop_40 (by decide) ?_
      refine V_iast (j := r) e_X9_drop_41 rfl rfl (by have q : ln 293 = 8 := rfl; omega) ?_
      refine V_aload_n e_X9_drop_42 rfl rfl ?_
      refine V_getr (r := 294) e_X9_drop_43 F_X9_many f_X9_13 rfl rfl ?_
      refine V_iload_n e_X9_drop_46 rfl rfl ?_
      refine V_ialdv (v := nI ((aR (A, T)).2.1 r)) (j := r) e_X9_drop_47 rfl rfl (by have q : ln 294 = 8 := rfl; omega) ((congrFun (up2_ne (by decide)) _).trans er2) ?_
      exact V_iret e_X9_drop_48 rfl (by rw [show oDrop (A, T) (nI r) = (wS (wR (A, T) (dropR (aR (A, T)) r)) 0, nI ((aR (A, T)).2.1 r)) from (by unfold oDrop; (try unfold gIn); (try dsimp only); (try (repeat rw [ixN (by omega)])); (first | rw [if_pos c1] | rw [if_neg c1] | skip); (first | rw [if_pos hlr] | rw [if_neg hlr] | skip); try rfl)]; exact ⟨(show Fb 292 307 σ (up2 ρ 293 r (-1)) from hfb0.up (by decide) (by decide)), (show IM (up2 ρ 293 r (-1)) (wS (wR (A, T) (dropR (aR (A, T)) r)) 0) from im_rw hK (dropR_ok hG.rows) hMR.drop (mup rfl)), rfl⟩)
    · have hlr : (aR (A, T)).1 r = 0 := ln_nge hGr.1 c2
      refine V_aload_n e_X9_drop_29 rfl rfl ?_
      refine V_iconst (v := nI 1) e_X9_drop_30 (by decide) ?_
      refine V_cvIe (av := [.int (nI 1)]) (st := []) e_X9_drop_31 (c_X9_finding E 1 ρ) l_X9_74 S_X9_finding rfl (rm_ok (by decide) (by decide)) rfl rfl (Nat.le_of_ble_eq_true rfl) ?_
      exact V_iret e_X9_drop_34 rfl (by rw [show oDrop (A, T) (nI r) = (wS (A, T) 1, (-1000010) - nI 1) from (by unfold oDrop; (try unfold gIn); (try dsimp only); (try (repeat rw [ixN (by omega)])); (first | rw [if_pos c1] | rw [if_neg c1] | skip); (first | rw [if_pos hlr] | rw [if_neg hlr] | skip); try rfl)]; exact ⟨hfb0.tr th_fb, (show IM (up2 ρ 292 1 (nI 1)) (wS (A, T) 1) from imst2 hK (f := 1) (by omega)), rfl⟩)
  · refine V_ldc (v := (-1000001)) e_X9_drop_12 k_X9_73 ?_
    exact V_iret e_X9_drop_14 rfl (by rw [show oDrop (A, T) x = ((A, T), (-1000001)) from (by unfold oDrop; (try unfold gIn); (try dsimp only); (try (repeat rw [ixN (by omega)])); (first | rw [if_pos c1] | rw [if_neg c1] | skip); (first | rw [if_pos hlr] | rw [if_neg hlr] | skip); try rfl)]; exact ⟨hfb, hJ, rfl⟩)
set_option maxRecDepth 100000 in
set_option maxHeartbeats 4000000 in
theorem lp_X9_copy_1 (E : En) (r i t j n : Nat) (Q : Sg → Int32 → Prop) (ρ : Sg) (hr : r < 8) (ht : t < 8) (hin : i + n ≤ 40) (hjn : j + n ≤ 40) (hij : ¬ i < j) (hQ : Q (cpM (40 * r + i) (40 * t + j) 0 n ρ) (nI n)) : ∀ (mm : Nat) (k : Nat), n - k = mm → (k ≤ n) → V E m_X9_copy (kM E 12 (pI Q)) 143 [some (.ref (eB E + 292)), some (.int (nI r)), some (.int (nI i)), some (.int (nI t)), some (.int (nI j)), some (.int (nI n)), some (.int (nI 1)), some (.int (nI k)), none] [] (cpM (40 * r + i) (40 * t + j) 0 k ρ) := by
  intro mm
  induction mm using Nat.strongRecOn with
  | ind mm ih =>
    intro k hmm hk
    refine V_iload e_X9_copy_143 rfl ?_
    refine V_iload e_X9_copy_145 rfl ?_
    refine V_icmp_ge (tgt := 204) e_X9_copy_147 (by decide) (fun c1 => ?_) (fun c1 => ?_)
    · have d1 : n ≤ k := nq_le (by omega) (by omega) c1
      refine V_iload e_X9_copy_204 rfl ?_
      exact V_iret e_X9_copy_206 rfl (by rw [show k = n by omega]; exact hQ)
    · have d1 : ¬ n ≤ k := nq_nle (by omega) (by omega) c1
      refine V_iload e_X9_copy_150 rfl ?_
      refine V_if_eq (tgt := 160) e_X9_copy_152 (by decide) (fun c2 => absurd c2 (by decide)) (fun c2 => ?_)
      refine V_iload e_X9_copy_155 rfl ?_
      refine V_goto (tgt := 167) e_X9_copy_157 (by decide) ?_
      refine V_istore (L' := [some (.ref (eB E + 292)), some (.int (nI r)), some (.int (nI i)), some (.int (nI t)), some (.int (nI j)), some (.int (nI n)), some (.int (nI 1)), some (.int (nI k)), some (.int (nI k))]) e_X9_copy_167 rfl ?_
      refine V_aload_n e_X9_copy_169 rfl rfl ?_
      refine V_getr (r := 295) e_X9_copy_170 F_X9_item f_X9_16 rfl rfl ?_
      refine V_bipush (v := nI 40) e_X9_copy_173 (by decide) ?_
      refine V_iload_n e_X9_copy_175 rfl rfl ?_
      refine V_imulN (z := nI (40 * t)) e_X9_copy_176 (pk_mul _ _) ?_
      refine V_iload e_X9_copy_177 rfl ?_
      refine V_iaddN (z := nI (40 * t + j)) e_X9_copy_179 (nI_add _ _) ?_
      refine V_iload e_X9_copy_180 rfl ?_
      refine V_iaddN (z := nI (40 * t + j + k)) e_X9_copy_182 (nI_add _ _) ?_
      refine V_aload_n e_X9_copy_183 rfl rfl ?_
      refine V_getr (r := 295) e_X9_copy_184 F_X9_item f_X9_16 rfl rfl ?_
      refine V_bipush (v := nI 40) e_X9_copy_187 (by decide) ?_
      refine V_iload_n e_X9_copy_189 rfl rfl ?_
      refine V_imulN (z := nI (40 * r)) e_X9_copy_190 (pk_mul _ _) ?_
      refine V_iload_n e_X9_copy_191 rfl rfl ?_
      refine V_iaddN (z := nI (40 * r + i)) e_X9_copy_192 (nI_add _ _) ?_
      refine V_iload e_X9_copy_193 rfl ?_
      refine V_iaddN (z := nI (40 * r + i + k)) e_X9_copy_195 (nI_add _ _) ?_
      refine V_ialdv (v := ρ 295 (40 * r + i + k)) (j := (40 * r + i + k)) e_X9_copy_196 rfl rfl (by have q : ln 295 = 320 := rfl; omega) (cpM_out (dis_up (by omega) (by omega) (by omega) hij)) ?_
      refine V_iast (j := (40 * t + j + k)) e_X9_copy_197 rfl rfl (by have q : ln 295 = 320 := rfl; omega) ?_
      rw [show up2 (cpM (40 * r + i) (40 * t + j) 0 k ρ) 295 (40 * t + j + k) (ρ 295 (40 * r + i + k)) = cpM (40 * r + i) (40 * t + j) 0 (k + 1) ρ from cpM_up]
      refine V_iinc (v := nI (k + 1)) (L' := [some (.ref (eB E + 292)), some (.int (nI r)), some (.int (nI i)), some (.int (nI t)), some (.int (nI j)), some (.int (nI n)), some (.int (nI 1)), some (.int (nI (k + 1))), some (.int (nI k))]) e_X9_copy_198 rfl (nI_add _ 1) rfl ?_
      refine V_goto (tgt := 143) e_X9_copy_201 (by decide) ?_
      refine V_forget 8 ?_; exact ih (n - (k + 1)) (by omega) (k + 1) rfl (by omega)
set_option maxRecDepth 100000 in
set_option maxHeartbeats 4000000 in
theorem lp_X9_copy_0 (E : En) (r i t j n : Nat) (Q : Sg → Int32 → Prop) (ρ : Sg) (hr : r < 8) (ht : t < 8) (hin : i + n ≤ 40) (hjn : j + n ≤ 40) (hij : i < j) (hQ : Q (cpM (40 * r + i) (40 * t + j) 0 n ρ) (nI n)) : ∀ (mm : Nat) (k : Nat), n - k = mm → (k ≤ n) → V E m_X9_copy (kM E 12 (pI Q)) 143 [some (.ref (eB E + 292)), some (.int (nI r)), some (.int (nI i)), some (.int (nI t)), some (.int (nI j)), some (.int (nI n)), some (.int (nI 0)), some (.int (nI k)), none] [] (cpM (40 * r + i) (40 * t + j) (n - k) n ρ) := by
  intro mm
  induction mm using Nat.strongRecOn with
  | ind mm ih =>
    intro k hmm hk
    refine V_iload e_X9_copy_143 rfl ?_
    refine V_iload e_X9_copy_145 rfl ?_
    refine V_icmp_ge (tgt := 204) e_X9_copy_147 (by decide) (fun c1 => ?_) (fun c1 => ?_)
    · have d1 : n ≤ k := nq_le (by omega) (by omega) c1
      refine V_iload e_X9_copy_204 rfl ?_
      exact V_iret e_X9_copy_206 rfl (by rw [show n - k = 0 by omega]; exact hQ)
    · have d1 : ¬ n ≤ k := nq_nle (by omega) (by omega) c1
      refine V_iload e_X9_copy_150 rfl ?_
      refine V_if_eq (tgt := 160) e_X9_copy_152 (by decide) (fun c2 => ?_) (fun c2 => absurd c2 (by decide))
      refine V_iload e_X9_copy_160 rfl ?_
      refine V_iconst (v := nI 1) e_X9_copy_162 (by decide) ?_
      refine V_isubN (z := nI (n - 1)) e_X9_copy_163 (pk_sub (by omega)) ?_
      refine V_iload e_X9_copy_164 rfl ?_
      refine V_isubN (z := nI (n - 1 - k)) e_X9_copy_166 (pk_sub (by omega)) ?_
      refine V_istore (L' := [some (.ref (eB E + 292)), some (.int (nI r)), some (.int (nI i)), some (.int (nI t)), some (.int (nI j)), some (.int (nI n)), some (.int (nI 0)), some (.int (nI k)), some (.int (nI (n - 1 - k)))]) e_X9_copy_167 rfl ?_
      refine V_aload_n e_X9_copy_169 rfl rfl ?_
      refine V_getr (r := 295) e_X9_copy_170 F_X9_item f_X9_16 rfl rfl ?_
      refine V_bipush (v := nI 40) e_X9_copy_173 (by decide) ?_
      refine V_iload_n e_X9_copy_175 rfl rfl ?_
      refine V_imulN (z := nI (40 * t)) e_X9_copy_176 (pk_mul _ _) ?_
      refine V_iload e_X9_copy_177 rfl ?_
      refine V_iaddN (z := nI (40 * t + j)) e_X9_copy_179 (nI_add _ _) ?_
      refine V_iload e_X9_copy_180 rfl ?_
      refine V_iaddN (z := nI (40 * t + j + (n - 1 - k))) e_X9_copy_182 (nI_add _ _) ?_
      refine V_aload_n e_X9_copy_183 rfl rfl ?_
      refine V_getr (r := 295) e_X9_copy_184 F_X9_item f_X9_16 rfl rfl ?_
      refine V_bipush (v := nI 40) e_X9_copy_187 (by decide) ?_
      refine V_iload_n e_X9_copy_189 rfl rfl ?_
      refine V_imulN (z := nI (40 * r)) e_X9_copy_190 (pk_mul _ _) ?_
      refine V_iload_n e_X9_copy_191 rfl rfl ?_
      refine V_iaddN (z := nI (40 * r + i)) e_X9_copy_192 (nI_add _ _) ?_
      refine V_iload e_X9_copy_193 rfl ?_
      refine V_iaddN (z := nI (40 * r + i + (n - 1 - k))) e_X9_copy_195 (nI_add _ _) ?_
      refine V_ialdv (v := ρ 295 (40 * r + i + (n - 1 - k))) (j := (40 * r + i + (n - 1 - k))) e_X9_copy_196 rfl rfl (by have q : ln 295 = 320 := rfl; omega) (cpM_out (by have hz9 := dis_dn (a := r) (b := t) (i := i) (j := j) (lo := n - 1 - k) (n := n) (by omega) (by omega) (by omega) hij; omega)) ?_
      refine V_iast (j := (40 * t + j + (n - 1 - k))) e_X9_copy_197 rfl rfl (by have q : ln 295 = 320 := rfl; omega) ?_
      rw [show up2 (cpM (40 * r + i) (40 * t + j) (n - k) n ρ) 295 (40 * t + j + (n - 1 - k)) (ρ 295 (40 * r + i + (n - 1 - k))) = cpM (40 * r + i) (40 * t + j) (n - (k + 1)) n ρ from (by have hz9 := cpM_dn (s := 40 * r + i) (d := 40 * t + j) (n := n) (lo := n - 1 - k) (σ := ρ) (by omega); rw [show n - 1 - k + 1 = n - k by omega] at hz9; rw [show n - (k + 1) = n - 1 - k by omega]; exact hz9)]
      refine V_iinc (v := nI (k + 1)) (L' := [some (.ref (eB E + 292)), some (.int (nI r)), some (.int (nI i)), some (.int (nI t)), some (.int (nI j)), some (.int (nI n)), some (.int (nI 0)), some (.int (nI (k + 1))), some (.int (nI (n - 1 - k)))]) e_X9_copy_198 rfl (nI_add _ 1) rfl ?_
      refine V_goto (tgt := 143) e_X9_copy_201 (by decide) ?_
      refine V_forget 8 ?_; exact ih (n - (k + 1)) (by omega) (k + 1) rfl (by omega)
set_option maxRecDepth 100000 in
set_option maxHeartbeats 4000000 in
theorem c9_copy (E : En) (x y z w v : Int32) (A : Vec) (T : AbT) (σ : Sg) (hJ0 : IM σ (A, T)) : Cn E m_X9_copy 12 [.ref (eB E + 292), .int x, .int y, .int z, .int w, .int v] σ (pM σ (oCopy (A, T) x y z w v)) := by
  have hGD : GD A := hJ0.1.1
  have hN : WN A := hGD.1
  have hNl := hN.le
  have hA4 : A 4 ≤ 999 := hGD.2.2
  have hG := hJ0.1
  refine Cn.of [some (.ref (eB E + 292)), some (.int x), some (.int y), some (.int z), some (.int w), some (.int v), none, none, none] (by decide) (Nat.le_of_ble_eq_true rfl) rfl ?_
  refine V_aload_n e_X9_copy_0 rfl rfl ?_
  refine V_iconst (v := nI 0) e_X9_copy_1 (by decide) ?_
  refine V_puti e_X9_copy_2 F_X9_thrown f_X9_53 rfl ?_
  generalize hτ : up2 σ 292 0 (nI 0) = τ
  have hfb : Fb 292 307 σ τ := hτ ▸ th_fb
  have hJ : IM τ (A, T) := hτ ▸ hJ0.fm Fm.th
  have hM : RepM τ 296 A := hJ.2.1
  refine V_iload_n e_X9_copy_5 rfl rfl ?_
  refine V_csIe (av := [.int x]) (st := []) e_X9_copy_6 (c_X9_isRow E x τ) l_X9_67 S_X9_isRow (rm_ok (by decide) (by decide)) rfl rfl (Nat.le_of_ble_eq_true rfl) ?_
  refine V_if_eq (tgt := 19) e_X9_copy_9 (by decide) (fun c1 => ?_) (fun c1 => ?_)
  · refine V_ldc (v := (-1000001)) e_X9_copy_19 k_X9_73 ?_
    exact V_iret e_X9_copy_21 rfl (by rw [show oCopy (A, T) x y z w v = ((A, T), (-1000001)) from (by unfold oCopy; (try unfold gIn); (try dsimp only); (try (repeat rw [ixN (by omega)])); (first | rw [if_pos c1] | rw [if_neg c1] | skip); try rfl)]; exact ⟨hfb, hJ, rfl⟩)
  · obtain ⟨r, hra, hr, rfl⟩ := (wi_le (by omega) (by omega)).mp c1
    have hGr := hG.rows r (by omega)
    refine V_iload_n e_X9_copy_12 rfl rfl ?_
    refine V_csIe (av := [.int z]) (st := []) e_X9_copy_13 (c_X9_isRow E z τ) l_X9_67 S_X9_isRow (rm_ok (by decide) (by decide)) rfl rfl (Nat.le_of_ble_eq_true rfl) ?_
    refine V_if_ne (tgt := 22) e_X9_copy_16 (by decide) (fun c2 => ?_) (fun c2 => ?_)
    · obtain ⟨t, hta, ht, rfl⟩ := (wi_le (by omega) (by omega)).mp c2
      have hGt := hG.rows t (by omega)
      refine V_aload_n e_X9_copy_22 rfl rfl ?_
      refine V_iconst (v := nI 0) e_X9_copy_23 (by decide) ?_
      refine V_puti e_X9_copy_24 F_X9_status f_X9_57 rfl ?_
      generalize hρ : up2 τ 292 1 (nI 0) = ρ
      have hfb0 : Fb 292 307 σ ρ := hρ ▸ hfb.tr th_fb
      have hK : IM ρ (wS (A, T) 0) := hρ ▸ imst hJ (by omega)
      have hMk : RepM ρ 296 A := hK.2.1
      have hMR : MR ρ (aR (A, T)) := hK.2.2.2.2.1
      obtain ⟨er1, er2, er3⟩ := hMR r (by omega)
      obtain ⟨et1, et2, et3⟩ := hMR t (by omega)
      refine V_aload_n e_X9_copy_27 rfl rfl ?_
      refine V_getr (r := 293) e_X9_copy_28 F_X9_lane f_X9_7 rfl rfl ?_
      refine V_iload_n e_X9_copy_31 rfl rfl ?_
      refine V_ialdv (v := nI ((aR (A, T)).1 r) - nI 1) (j := r) e_X9_copy_32 rfl rfl (by have q : ln 293 = 8 := rfl; omega) er1 ?_
      refine V_if_lt (tgt := 45) e_X9_copy_33 (by decide) (fun c3 => ?_) (fun c3 => ?_)
      · have hlr : (aR (A, T)).1 r = 0 := ln_lt0 hGr.1 c3
        refine V_aload_n e_X9_copy_45 rfl rfl ?_
        refine V_iconst (v := nI 1) e_X9_copy_46 (by decide) ?_
        refine V_cvIe (av := [.int (nI 1)]) (st := []) e_X9_copy_47 (c_X9_finding E 1 ρ) l_X9_74 S_X9_finding rfl (rm_ok (by decide) (by decide)) rfl rfl (Nat.le_of_ble_eq_true rfl) ?_
        exact V_iret e_X9_copy_50 rfl (by rw [show oCopy (A, T) (nI r) y (nI t) w v = (wS (A, T) 1, (-1000010) - nI 1) from (by unfold oCopy; rw [if_neg c1, if_neg c2]; (repeat rw [ixN (by omega)]); rw [if_pos hlr])]; exact ⟨hfb0.tr th_fb, imst2 hK (by omega), rfl⟩)
      · have hlr : ¬ (aR (A, T)).1 r = 0 := ln_nlt0 hGr.1 c3
        refine V_aload_n e_X9_copy_36 rfl rfl ?_
        refine V_getr (r := 293) e_X9_copy_37 F_X9_lane f_X9_7 rfl rfl ?_
        refine V_iload_n e_X9_copy_40 rfl rfl ?_
        refine V_ialdv (v := nI ((aR (A, T)).1 t) - nI 1) (j := t) e_X9_copy_41 rfl rfl (by have q : ln 293 = 8 := rfl; omega) et1 ?_
        refine V_if_ge (tgt := 51) e_X9_copy_42 (by decide) (fun c4 => ?_) (fun c4 => ?_)
        · have hlt : ¬ (aR (A, T)).1 t = 0 := ln_ge hGt.1 c4
          refine V_aload_n e_X9_copy_51 rfl rfl ?_
          refine V_getr (r := 293) e_X9_copy_52 F_X9_lane f_X9_7 rfl rfl ?_
          refine V_iload_n e_X9_copy_55 rfl rfl ?_
          refine V_ialdv (v := nI ((aR (A, T)).1 r - 1)) (j := r) e_X9_copy_56 rfl rfl (by have q : ln 293 = 8 := rfl; omega) (er1.trans (pk_sub (by omega))) ?_
          refine V_aload_n e_X9_copy_57 rfl rfl ?_
          refine V_getr (r := 293) e_X9_copy_58 F_X9_lane f_X9_7 rfl rfl ?_
          refine V_iload_n e_X9_copy_61 rfl rfl ?_
          refine V_ialdv (v := nI ((aR (A, T)).1 t - 1)) (j := t) e_X9_copy_62 rfl rfl (by have q : ln 293 = 8 := rfl; omega) (et1.trans (pk_sub (by omega))) ?_
          refine V_icmp_eq (tgt := 72) e_X9_copy_63 (by decide) (fun c5 => ?_) (fun c5 => ?_)
          · have d5 : (aR (A, T)).1 r - 1 = (aR (A, T)).1 t - 1 := nq_eq (by omega) (by omega) c5
            have hll : (aR (A, T)).1 r = (aR (A, T)).1 t := by omega
            refine V_iload_n e_X9_copy_72 rfl rfl ?_
            refine V_if_lt (tgt := 121) e_X9_copy_73 (by decide) (fun c6 => ?_) (fun c6 => ?_)
            · refine V_aload_n e_X9_copy_121 rfl rfl ?_
              refine V_iconst (v := nI 2) e_X9_copy_122 (by decide) ?_
              refine V_cvIe (av := [.int (nI 2)]) (st := []) e_X9_copy_123 (c_X9_finding E 2 ρ) l_X9_74 S_X9_finding rfl (rm_ok (by decide) (by decide)) rfl rfl (Nat.le_of_ble_eq_true rfl) ?_
              exact V_iret e_X9_copy_126 rfl (by rw [show oCopy (A, T) (nI r) y (nI t) w v = (wS (A, T) 2, (-1000010) - nI 2) from (by unfold oCopy; rw [if_neg c1, if_neg c2]; (repeat rw [ixN (by omega)]); rw [if_neg hlr, if_neg hlt, if_pos hll]; rw [fndS_no hlr (pl_i c6)]; rfl)]; exact ⟨hfb0.tr th_fb, imst2 hK (by omega), rfl⟩)
            · obtain ⟨i, hi31, rfl⟩ := i_nat c6
              refine V_iload e_X9_copy_76 rfl ?_
              refine V_if_lt (tgt := 121) e_X9_copy_78 (by decide) (fun c7 => ?_) (fun c7 => ?_)
              · refine V_aload_n e_X9_copy_121 rfl rfl ?_
                refine V_iconst (v := nI 2) e_X9_copy_122 (by decide) ?_
                refine V_cvIe (av := [.int (nI 2)]) (st := []) e_X9_copy_123 (c_X9_finding E 2 ρ) l_X9_74 S_X9_finding rfl (rm_ok (by decide) (by decide)) rfl rfl (Nat.le_of_ble_eq_true rfl) ?_
                exact V_iret e_X9_copy_126 rfl (by rw [show oCopy (A, T) (nI r) (nI i) (nI t) w v = (wS (A, T) 2, (-1000010) - nI 2) from (by unfold oCopy; rw [if_neg c1, if_neg c2]; (repeat rw [ixN (by omega)]); rw [if_neg hlr, if_neg hlt, if_pos hll]; (split; (rw [fndS_no hlt (pl_i c7)]; rfl); rfl))]; exact ⟨hfb0.tr th_fb, imst2 hK (by omega), rfl⟩)
              · obtain ⟨j, hj31, rfl⟩ := i_nat c7
                refine V_iload e_X9_copy_81 rfl ?_
                refine V_if_lt (tgt := 121) e_X9_copy_83 (by decide) (fun c8 => ?_) (fun c8 => ?_)
                · refine V_aload_n e_X9_copy_121 rfl rfl ?_
                  refine V_iconst (v := nI 2) e_X9_copy_122 (by decide) ?_
                  refine V_cvIe (av := [.int (nI 2)]) (st := []) e_X9_copy_123 (c_X9_finding E 2 ρ) l_X9_74 S_X9_finding rfl (rm_ok (by decide) (by decide)) rfl rfl (Nat.le_of_ble_eq_true rfl) ?_
                  exact V_iret e_X9_copy_126 rfl (by rw [show oCopy (A, T) (nI r) (nI i) (nI t) (nI j) v = (wS (A, T) 2, (-1000010) - nI 2) from (by unfold oCopy; rw [if_neg c1, if_neg c2]; (repeat rw [ixN (by omega)]); rw [if_neg hlr, if_neg hlt, if_pos hll]; rw [fndS_no hlr (pl_n c8)]; rfl)]; exact ⟨hfb0.tr th_fb, imst2 hK (by omega), rfl⟩)
                · obtain ⟨n, hn31, rfl⟩ := i_nat c8
                  refine V_iload_n e_X9_copy_86 rfl rfl ?_
                  refine V_i2lN (z := lN i) e_X9_copy_87 (nI_l (by omega)) ?_
                  refine V_iload e_X9_copy_88 rfl ?_
                  refine V_i2lN (z := lN n) e_X9_copy_90 (nI_l (by omega)) ?_
                  refine V_laddN (z := lN (i + n)) e_X9_copy_91 (lN_add _ _) ?_
                  refine V_aload_n e_X9_copy_92 rfl rfl ?_
                  refine V_getr (r := 294) e_X9_copy_93 F_X9_many f_X9_13 rfl rfl ?_
                  refine V_iload_n e_X9_copy_96 rfl rfl ?_
                  refine V_ialdv (v := nI ((aR (A, T)).2.1 r)) (j := r) e_X9_copy_97 rfl rfl (by have q : ln 294 = 8 := rfl; omega) er2 ?_
                  refine V_i2lN (z := lN ((aR (A, T)).2.1 r)) e_X9_copy_98 (nI_l (by omega)) ?_
                  refine V_lcmp e_X9_copy_99 ?_
                  refine V_if_gt (tgt := 121) e_X9_copy_100 (by decide) (fun c9 => ?_) (fun c9 => ?_)
                  · have d9 : (aR (A, T)).2.1 r < i + n := lc_gt (by omega) (by omega) c9
                    refine V_aload_n e_X9_copy_121 rfl rfl ?_
                    refine V_iconst (v := nI 2) e_X9_copy_122 (by decide) ?_
                    refine V_cvIe (av := [.int (nI 2)]) (st := []) e_X9_copy_123 (c_X9_finding E 2 ρ) l_X9_74 S_X9_finding rfl (rm_ok (by decide) (by decide)) rfl rfl (Nat.le_of_ble_eq_true rfl) ?_
                    exact V_iret e_X9_copy_126 rfl (by rw [show oCopy (A, T) (nI r) (nI i) (nI t) (nI j) (nI n) = (wS (A, T) 2, (-1000010) - nI 2) from (by unfold oCopy; rw [if_neg c1, if_neg c2]; (repeat rw [ixN (by omega)]); rw [if_neg hlr, if_neg hlt, if_pos hll]; rw [fndS_no hlr (pl_s (by omega) (by omega) d9)]; rfl)]; exact ⟨hfb0.tr th_fb, imst2 hK (by omega), rfl⟩)
                  · have d9 : i + n ≤ (aR (A, T)).2.1 r := lc_ngt (by omega) (by omega) c9
                    refine V_iload e_X9_copy_103 rfl ?_
                    refine V_i2lN (z := lN j) e_X9_copy_105 (nI_l (by omega)) ?_
                    refine V_iload e_X9_copy_106 rfl ?_
                    refine V_i2lN (z := lN n) e_X9_copy_108 (nI_l (by omega)) ?_
                    refine V_laddN (z := lN (j + n)) e_X9_copy_109 (lN_add _ _) ?_
                    refine V_aload_n e_X9_copy_110 rfl rfl ?_
                    refine V_getr (r := 294) e_X9_copy_111 F_X9_many f_X9_13 rfl rfl ?_
                    refine V_iload_n e_X9_copy_114 rfl rfl ?_
                    refine V_ialdv (v := nI ((aR (A, T)).2.1 t)) (j := t) e_X9_copy_115 rfl rfl (by have q : ln 294 = 8 := rfl; omega) et2 ?_
                    refine V_i2lN (z := lN ((aR (A, T)).2.1 t)) e_X9_copy_116 (nI_l (by omega)) ?_
                    refine V_lcmp e_X9_copy_117 ?_
                    refine V_if_le (tgt := 127) e_X9_copy_118 (by decide) (fun c10 => ?_) (fun c10 => ?_)
                    · have d10 : j + n ≤ (aR (A, T)).2.1 t := lc_le (by omega) (by omega) c10
                      refine V_iload_n e_X9_copy_127 rfl rfl ?_
                      refine V_iload e_X9_copy_128 rfl ?_
                      refine V_icmp_lt (tgt := 137) e_X9_copy_130 (by decide) (fun c11 => ?_) (fun c11 => ?_)
                      · have d11 : i < j := nq_lt (by omega) (by omega) c11
                        refine V_iconst (v := nI 0) e_X9_copy_137 (by decide) ?_
                        refine V_istore (L' := [some (.ref (eB E + 292)), some (.int (nI r)), some (.int (nI i)), some (.int (nI t)), some (.int (nI j)), some (.int (nI n)), some (.int (nI 0)), none, none]) e_X9_copy_138 rfl ?_
                        refine V_iconst (v := nI 0) e_X9_copy_140 (by decide) ?_
                        refine V_istore (L' := [some (.ref (eB E + 292)), some (.int (nI r)), some (.int (nI i)), some (.int (nI t)), some (.int (nI j)), some (.int (nI n)), some (.int (nI 0)), some (.int (nI 0)), none]) e_X9_copy_141 rfl ?_
                        have hX := lp_X9_copy_0 E r i t j n (fun σ' q => Fb 292 307 σ σ' ∧ IM σ' (oCopy (A, T) (nI r) (nI i) (nI t) (nI j) (nI n)).1 ∧ q = (oCopy (A, T) (nI r) (nI i) (nI t) (nI j) (nI n)).2) ρ (by omega) (by omega) (by omega) (by omega) (by omega) (by rw [show oCopy (A, T) (nI r) (nI i) (nI t) (nI j) (nI n) = (wS (wR (A, T) (cpyR (aR (A, T)) r i t j n)) 0, nI n) from (by unfold oCopy; rw [if_neg c1, if_neg c2]; (repeat rw [ixN (by omega)]); rw [if_neg hlr, if_neg hlt, if_pos hll, fndS_ok hlr (by omega) (by omega) (by omega), fndS_ok hlt (by omega) (by omega) (by omega)]; rfl)]; exact ⟨hfb0.tr (fun a k hk => cpM_ne (by omega)), im_rw hK hG.rows (hMR.cpy (by omega) (by omega) (by omega)) (fun a k h1 h2 => cpM_ne (fun q => h2 (by rw [q]; rfl))), rfl⟩) n 0 rfl (by omega); rw [show n - 0 = n by omega, cpM_0] at hX; exact hX
                      · have d11 : ¬ i < j := nq_nlt (by omega) (by omega) c11
                        refine V_iconst (v := nI 1) e_X9_copy_133 (by decide) ?_
                        refine V_goto (tgt := 138) e_X9_copy_134 (by decide) ?_
                        refine V_istore (L' := [some (.ref (eB E + 292)), some (.int (nI r)), some (.int (nI i)), some (.int (nI t)), some (.int (nI j)), some (.int (nI n)), some (.int (nI 1)), none, none]) e_X9_copy_138 rfl ?_
                        refine V_iconst (v := nI 0) e_X9_copy_140 (by decide) ?_
                        refine V_istore (L' := [some (.ref (eB E + 292)), some (.int (nI r)), some (.int (nI i)), some (.int (nI t)), some (.int (nI j)), some (.int (nI n)), some (.int (nI 1)), some (.int (nI 0)), none]) e_X9_copy_141 rfl ?_
                        have hX := lp_X9_copy_1 E r i t j n (fun σ' q => Fb 292 307 σ σ' ∧ IM σ' (oCopy (A, T) (nI r) (nI i) (nI t) (nI j) (nI n)).1 ∧ q = (oCopy (A, T) (nI r) (nI i) (nI t) (nI j) (nI n)).2) ρ (by omega) (by omega) (by omega) (by omega) (by omega) (by rw [show oCopy (A, T) (nI r) (nI i) (nI t) (nI j) (nI n) = (wS (wR (A, T) (cpyR (aR (A, T)) r i t j n)) 0, nI n) from (by unfold oCopy; rw [if_neg c1, if_neg c2]; (repeat rw [ixN (by omega)]); rw [if_neg hlr, if_neg hlt, if_pos hll, fndS_ok hlr (by omega) (by omega) (by omega), fndS_ok hlt (by omega) (by omega) (by omega)]; rfl)]; exact ⟨hfb0.tr (fun a k hk => cpM_ne (by omega)), im_rw hK hG.rows (hMR.cpy (by omega) (by omega) (by omega)) (fun a k h1 h2 => cpM_ne (fun q => h2 (by rw [q]; rfl))), rfl⟩) n 0 rfl (by omega); rw [cpM_0] at hX; exact hX
                    · have d10 : (aR (A, T)).2.1 t < j + n := lc_nle (by omega) (by omega) c10
                      refine V_aload_n e_X9_copy_121 rfl rfl ?_
                      refine V_iconst (v := nI 2) e_X9_copy_122 (by decide) ?_
                      refine V_cvIe (av := [.int (nI 2)]) (st := []) e_X9_copy_123 (c_X9_finding E 2 ρ) l_X9_74 S_X9_finding rfl (rm_ok (by decide) (by decide)) rfl rfl (Nat.le_of_ble_eq_true rfl) ?_
                      exact V_iret e_X9_copy_126 rfl (by rw [show oCopy (A, T) (nI r) (nI i) (nI t) (nI j) (nI n) = (wS (A, T) 2, (-1000010) - nI 2) from (by unfold oCopy; rw [if_neg c1, if_neg c2]; (repeat rw [ixN (by omega)]); rw [if_neg hlr, if_neg hlt, if_pos hll]; (split; (rw [fndS_no hlt (pl_s (by omega) (by omega) d10)]; rfl); rfl))]; exact ⟨hfb0.tr th_fb, imst2 hK (by omega), rfl⟩)
          · have d5 : ¬ (aR (A, T)).1 r - 1 = (aR (A, T)).1 t - 1 := nq_ne (by omega) (by omega) c5
            have hll : ¬ (aR (A, T)).1 r = (aR (A, T)).1 t := by omega
            refine V_aload_n e_X9_copy_66 rfl rfl ?_
            refine V_iconst (v := nI 5) e_X9_copy_67 (by decide) ?_
            refine V_cvIe (av := [.int (nI 5)]) (st := []) e_X9_copy_68 (c_X9_finding E 5 ρ) l_X9_74 S_X9_finding rfl (rm_ok (by decide) (by decide)) rfl rfl (Nat.le_of_ble_eq_true rfl) ?_
            exact V_iret e_X9_copy_71 rfl (by rw [show oCopy (A, T) (nI r) y (nI t) w v = (wS (A, T) 5, (-1000010) - nI 5) from (by unfold oCopy; rw [if_neg c1, if_neg c2]; (repeat rw [ixN (by omega)]); rw [if_neg hlr, if_neg hlt, if_neg hll])]; exact ⟨hfb0.tr th_fb, imst2 hK (by omega), rfl⟩)
        · have hlt : (aR (A, T)).1 t = 0 := ln_nge hGt.1 c4
          refine V_aload_n e_X9_copy_45 rfl rfl ?_
          refine V_iconst (v := nI 1) e_X9_copy_46 (by decide) ?_
          refine V_cvIe (av := [.int (nI 1)]) (st := []) e_X9_copy_47 (c_X9_finding E 1 ρ) l_X9_74 S_X9_finding rfl (rm_ok (by decide) (by decide)) rfl rfl (Nat.le_of_ble_eq_true rfl) ?_
          exact V_iret e_X9_copy_50 rfl (by rw [show oCopy (A, T) (nI r) y (nI t) w v = (wS (A, T) 1, (-1000010) - nI 1) from (by unfold oCopy; rw [if_neg c1, if_neg c2]; (repeat rw [ixN (by omega)]); rw [if_neg hlr, if_pos hlt])]; exact ⟨hfb0.tr th_fb, imst2 hK (by omega), rfl⟩)
    · refine V_ldc (v := (-1000001)) e_X9_copy_19 k_X9_73 ?_
      exact V_iret e_X9_copy_21 rfl (by rw [show oCopy (A, T) (nI r) y z w v = ((A, T), (-1000001)) from (by unfold oCopy; (try unfold gIn); (try dsimp only); (try (repeat rw [ixN (by omega)])); (first | rw [if_pos c1] | rw [if_neg c1] | skip); (first | rw [if_pos c2] | rw [if_neg c2] | skip); try rfl)]; exact ⟨hfb, hJ, rfl⟩)

set_option maxRecDepth 100000 in
set_option maxHeartbeats 4000000 in
theorem c9_fault (E : En) (A : Vec) (T : AbT) (σ : Sg) (hJ0 : IM σ (A, T)) : Cn E m_X9_fault 12 [.ref (eB E + 292)] σ (pM σ (oFault (A, T))) := by
  have hGD : GD A := hJ0.1.1
  have hN : WN A := hGD.1
  have hNl := hN.le
  have hA4 : A 4 ≤ 999 := hGD.2.2
  have hG := hJ0.1
  refine Cn.of [some (.ref (eB E + 292))] (by decide) (Nat.le_of_ble_eq_true rfl) rfl ?_
  refine V_aload_n e_X9_fault_0 rfl rfl ?_
  refine V_iconst (v := nI 0) e_X9_fault_1 (by decide) ?_
  refine V_puti e_X9_fault_2 F_X9_thrown f_X9_53 rfl ?_
  generalize hτ : up2 σ 292 0 (nI 0) = τ
  have hfb : Fb 292 307 σ τ := hτ ▸ th_fb
  have hJ : IM τ (A, T) := hτ ▸ hJ0.fm Fm.th
  have hM : RepM τ 296 A := hJ.2.1
  refine V_aload_n e_X9_fault_5 rfl rfl ?_
  refine V_getiv (v := nI (aF (A, T))) e_X9_fault_6 F_X9_latest f_X9_122 rfl hJ.2.2.2.2.2.2.1 ?_
  exact V_iret e_X9_fault_9 rfl (⟨hfb, hJ, rfl⟩)
set_option maxRecDepth 100000 in
set_option maxHeartbeats 4000000 in
theorem c9_status (E : En) (A : Vec) (T : AbT) (σ : Sg) (hJ0 : IM σ (A, T)) : Cn E m_X9_status 12 [.ref (eB E + 292)] σ (pM σ (oStatus (A, T))) := by
  have hGD : GD A := hJ0.1.1
  have hN : WN A := hGD.1
  have hNl := hN.le
  have hA4 : A 4 ≤ 999 := hGD.2.2
  have hG := hJ0.1
  refine Cn.of [some (.ref (eB E + 292))] (by decide) (Nat.le_of_ble_eq_true rfl) rfl ?_
  refine V_aload_n e_X9_status_0 rfl rfl ?_
  refine V_iconst (v := nI 0) e_X9_status_1 (by decide) ?_
  refine V_puti e_X9_status_2 F_X9_thrown f_X9_53 rfl ?_
  generalize hτ : up2 σ 292 0 (nI 0) = τ
  have hfb : Fb 292 307 σ τ := hτ ▸ th_fb
  have hJ : IM τ (A, T) := hτ ▸ hJ0.fm Fm.th
  have hM : RepM τ 296 A := hJ.2.1
  refine V_aload_n e_X9_status_5 rfl rfl ?_
  refine V_getiv (v := nI (aS (A, T))) e_X9_status_6 F_X9_status f_X9_57 rfl hJ.2.2.2.2.2.2.2.1 ?_
  exact V_iret e_X9_status_9 rfl (⟨hfb, hJ, rfl⟩)
theorem feed_mt {σ : Sg} {T : Nat × (Nat → Nat)} {x : Nat} (h : MT σ T) : MT (up2 (up2 σ 300 T.1 (nI x)) 292 11 (nI (T.1 + 1))) (T.1 + 1, fun j => if j = T.1 then x else T.2 j) := by
  refine ⟨up2_at, fun j hj => ?_⟩
  dsimp only at hj ⊢
  rw [up2_ne (by decide)]
  by_cases q : j = T.1
  · rw [q, up2_at, if_pos rfl]
  · rw [up2_k q, if_neg q]
    exact h.2 j (by omega)
set_option maxRecDepth 100000 in
set_option maxHeartbeats 4000000 in
theorem c9_feed (E : En) (x : Int32) (A : Vec) (T : AbT) (σ : Sg) (hJ0 : IM σ (A, T)) : Cn E m_X9_feed 12 [.ref (eB E + 292), .int x] σ (pM σ (oFeed (A, T) x)) := by
  have hGD : GD A := hJ0.1.1
  have hN : WN A := hGD.1
  have hNl := hN.le
  have hA4 : A 4 ≤ 999 := hGD.2.2
  have hG := hJ0.1
  have hT1 : (aT (A, T)).1 ≤ 100 := hG.2.2.2.2.1.1
  refine Cn.of [some (.ref (eB E + 292)), some (.int x)] (by decide) (Nat.le_of_ble_eq_true rfl) rfl ?_
  refine V_aload_n e_X9_feed_0 rfl rfl ?_
  refine V_iconst (v := nI 0) e_X9_feed_1 (by decide) ?_
  refine V_puti e_X9_feed_2 F_X9_thrown f_X9_53 rfl ?_
  generalize hτ : up2 σ 292 0 (nI 0) = τ
  have hfb : Fb 292 307 σ τ := hτ ▸ th_fb
  have hJ : IM τ (A, T) := hτ ▸ hJ0.fm Fm.th
  have hM : RepM τ 296 A := hJ.2.1
  refine V_iload_n e_X9_feed_5 rfl rfl ?_
  refine V_i2l e_X9_feed_6 ?_
  refine V_lconst (v := lN 0) e_X9_feed_7 (by decide) ?_
  refine V_ldc2_w (v := lN 255) e_X9_feed_8 kl_X9_78 ?_
  refine V_csIe (av := [.long x.toInt64, .long (lN 0), .long (lN 255)]) (st := []) e_X9_feed_11 (c_X9_inN E x (nI 0) (nI 255) (lN 0) (lN 255) τ (nI_l (by omega)) (nI_l (by omega))) l_X9_63 S_X9_in (rm_ok (by decide) (by decide)) rfl rfl (Nat.le_of_ble_eq_true rfl) ?_
  refine V_if_ne (tgt := 20) e_X9_feed_14 (by decide) (fun c1 => ?_) (fun c1 => ?_)
  · obtain ⟨x0, hxa, hx0, rfl⟩ := (wi_le (by omega) (by omega)).mp c1
    refine V_aload_n e_X9_feed_20 rfl rfl ?_
    refine V_getiv (v := nI ((aT (A, T)).1)) e_X9_feed_21 F_X9_taped f_X9_80 rfl hJ.2.2.2.2.2.1.1 ?_
    refine V_bipush (v := nI 100) e_X9_feed_24 (by decide) ?_
    refine V_icmp_ne (tgt := 32) e_X9_feed_26 (by decide) (fun c2 => ?_) (fun c2 => ?_)
    · have d2 : ¬ (aT (A, T)).1 = 100 := nq_ne (by omega) (by omega) c2
      refine V_aload_n e_X9_feed_32 rfl rfl ?_
      refine V_getr (r := 300) e_X9_feed_33 F_X9_tape f_X9_31 rfl rfl ?_
      refine V_aload_n e_X9_feed_36 rfl rfl ?_
      refine V_getiv (v := nI ((aT (A, T)).1)) e_X9_feed_37 F_X9_taped f_X9_80 rfl hJ.2.2.2.2.2.1.1 ?_
      refine V_iload_n e_X9_feed_40 rfl rfl ?_
      refine V_iast (j := ((aT (A, T)).1)) e_X9_feed_41 rfl rfl (by have q : ln 300 = 100 := rfl; omega) ?_
      refine V_aload_n e_X9_feed_42 rfl rfl ?_
      refine V_dup e_X9_feed_43 rfl ?_
      refine V_getiv (v := nI ((aT (A, T)).1)) e_X9_feed_44 F_X9_taped f_X9_80 rfl ((congrFun (up2_ne (by decide)) _).trans hJ.2.2.2.2.2.1.1) ?_
      refine V_iconst (v := nI 1) e_X9_feed_47 (by decide) ?_
      refine V_iaddN (z := nI ((aT (A, T)).1 + 1)) e_X9_feed_48 (nI_add _ _) ?_
      refine V_puti e_X9_feed_49 F_X9_taped f_X9_80 rfl ?_
      refine V_aload_n e_X9_feed_52 rfl rfl ?_
      refine V_getiv (v := nI ((aT (A, T)).1 + 1)) e_X9_feed_53 F_X9_taped f_X9_80 rfl up2_at ?_
      exact V_iret e_X9_feed_56 rfl (by rw [show oFeed (A, T) (nI x0) = (wT (A, T) ((aT (A, T)).1 + 1, fun j => if j = (aT (A, T)).1 then x0 else (aT (A, T)).2 j), nI ((aT (A, T)).1 + 1)) from (by unfold oFeed; (try unfold gIn); (try dsimp only); (try (repeat rw [ixN (by omega)])); (first | rw [if_pos c1] | rw [if_neg c1] | skip); (first | rw [if_pos d2] | rw [if_neg d2] | skip); try rfl)]; exact ⟨(show Fb 292 307 σ (up2 (up2 τ 300 ((aT (A, T)).1) (nI x0)) 292 11 (nI ((aT (A, T)).1 + 1))) from (hfb.up (by decide) (by decide)).up (by decide) (by decide)), (show IM (up2 (up2 τ 300 ((aT (A, T)).1) (nI x0)) 292 11 (nI ((aT (A, T)).1 + 1))) (wT (A, T) ((aT (A, T)).1 + 1, fun j => if j = (aT (A, T)).1 then x0 else (aT (A, T)).2 j)) from IM.wT hJ (feed_ok hG.2.2.2.2.1 (by omega) (by omega)) (feed_mt hJ.2.2.2.2.2.1) (fun a k h1 h2 => by rw [mup (b := 292) (j := 11) rfl a k h1 h2, mup (b := 300) (j := (aT (A, T)).1) rfl a k h1 h2])), rfl⟩)
    · have d2 : (aT (A, T)).1 = 100 := nq_eq (by omega) (by omega) c2
      refine V_ldc (v := (-1000003)) e_X9_feed_29 k_X9_83 ?_
      exact V_iret e_X9_feed_31 rfl (by rw [show oFeed (A, T) (nI x0) = ((A, T), (-1000003)) from (by unfold oFeed; (try unfold gIn); (try dsimp only); (try (repeat rw [ixN (by omega)])); (first | rw [if_pos c1] | rw [if_neg c1] | skip); (first | rw [if_pos d2] | rw [if_neg d2] | skip); try rfl)]; exact ⟨hfb, hJ, rfl⟩)
  · refine V_ldc (v := (-1000001)) e_X9_feed_17 k_X9_73 ?_
    exact V_iret e_X9_feed_19 rfl (by rw [show oFeed (A, T) x = ((A, T), (-1000001)) from (by unfold oFeed; (try unfold gIn); (try dsimp only); (try (repeat rw [ixN (by omega)])); (first | rw [if_pos c1] | rw [if_neg c1] | skip); try rfl)]; exact ⟨hfb, hJ, rfl⟩)
set_option maxRecDepth 100000 in
set_option maxHeartbeats 4000000 in
theorem c9_trace (E : En) (x : Int32) (A : Vec) (T : AbT) (σ : Sg) (hJ0 : IM σ (A, T)) : Cn E m_X9_trace 12 [.ref (eB E + 292), .int x] σ (pM σ (oTrace (A, T) x)) := by
  have hGD : GD A := hJ0.1.1
  have hN : WN A := hGD.1
  have hNl := hN.le
  have hA4 : A 4 ≤ 999 := hGD.2.2
  have hG := hJ0.1
  have hX16 : (aX (A, T)).1 ≤ 16 := hG.2.2.2.2.2.2.2
  refine Cn.of [some (.ref (eB E + 292)), some (.int x)] (by decide) (Nat.le_of_ble_eq_true rfl) rfl ?_
  refine V_aload_n e_X9_trace_0 rfl rfl ?_
  refine V_iconst (v := nI 0) e_X9_trace_1 (by decide) ?_
  refine V_puti e_X9_trace_2 F_X9_thrown f_X9_53 rfl ?_
  generalize hτ : up2 σ 292 0 (nI 0) = τ
  have hfb : Fb 292 307 σ τ := hτ ▸ th_fb
  have hJ : IM τ (A, T) := hτ ▸ hJ0.fm Fm.th
  have hM : RepM τ 296 A := hJ.2.1
  refine V_iload_n e_X9_trace_5 rfl rfl ?_
  refine V_i2l e_X9_trace_6 ?_
  refine V_lconst (v := lN 0) e_X9_trace_7 (by decide) ?_
  refine V_aload_n e_X9_trace_8 rfl rfl ?_
  refine V_getiv (v := nI ((aX (A, T)).1)) e_X9_trace_9 F_X9_traced f_X9_283 rfl hJ.2.2.2.2.2.2.2.2.1 ?_
  refine V_iconst (v := nI 1) e_X9_trace_12 (by decide) ?_
  refine V_isub e_X9_trace_13 ?_
  refine V_i2l e_X9_trace_14 ?_
  refine V_csIe (av := [.long x.toInt64, .long (lN 0), .long (((nI ((aX (A, T)).1)) - (nI 1)).toInt64)]) (st := []) e_X9_trace_15 (c_X9_inN E x (nI 0) ((nI ((aX (A, T)).1)) - (nI 1)) (lN 0) (((nI ((aX (A, T)).1)) - (nI 1)).toInt64) τ (nI_l (by omega)) (rfl)) l_X9_63 S_X9_in (rm_ok (by decide) (by decide)) rfl rfl (Nat.le_of_ble_eq_true rfl) ?_
  refine V_if_eq (tgt := 30) e_X9_trace_18 (by decide) (fun c1 => ?_) (fun c1 => ?_)
  · refine V_ldc (v := (-1000000)) e_X9_trace_30 k_X9_96 ?_
    exact V_iret e_X9_trace_32 rfl (by rw [show oTrace (A, T) x = ((A, T), (-1000000)) from (by unfold oTrace; (try unfold gIn); (try dsimp only); (try (repeat rw [ixN (by omega)])); (first | rw [if_pos c1] | rw [if_neg c1] | skip); try rfl)]; exact ⟨hfb, hJ, rfl⟩)
  · obtain ⟨j, hj, rfl⟩ := (wi_nat (by omega)).mp c1
    refine V_aload_n e_X9_trace_21 rfl rfl ?_
    refine V_getr (r := 306) e_X9_trace_22 F_X9_trace f_X9_50 rfl rfl ?_
    refine V_iload_n e_X9_trace_25 rfl rfl ?_
    refine V_ialdv (v := nI ((aX (A, T)).2 j)) (j := j) e_X9_trace_26 rfl rfl (by have q : ln 306 = 16 := rfl; omega) (hJ.2.2.2.2.2.2.2.2.2 j (by omega)) ?_
    refine V_goto (tgt := 32) e_X9_trace_27 (by decide) ?_
    exact V_iret e_X9_trace_32 rfl (by rw [show oTrace (A, T) (nI j) = ((A, T), nI ((aX (A, T)).2 j)) from (by unfold oTrace; (try unfold gIn); (try dsimp only); (try (repeat rw [ixN (by omega)])); (first | rw [if_pos c1] | rw [if_neg c1] | skip); try rfl)]; exact ⟨hfb, hJ, rfl⟩)
set_option maxRecDepth 100000 in
set_option maxHeartbeats 4000000 in
theorem lp_X9_count (E : En) (x : Int32) (A : Vec) (T : AbT) (Q : Sg → Int32 → Prop) (τ : Sg) (hMR : MR τ (aR (A, T))) (hGR : ∀ r, r < 8 → (aR (A, T)).1 r ≤ 3 ∧ (aR (A, T)).2.1 r ≤ 40) (hQ : Q τ (nI (sumN (rwF (aR (A, T))) 8))) : ∀ (mm : Nat) (r : Nat), 8 - r = mm → (r ≤ 8) → V E m_X9_count (kM E 12 (pI Q)) 58 [some (.ref (eB E + 292)), some (.int x), some (.int (nI (sumN (rwF (aR (A, T))) r))), some (.int (nI r))] [] τ := by
  intro mm
  induction mm using Nat.strongRecOn with
  | ind mm ih =>
    intro r hmm hr
    refine V_iload_n e_X9_count_58 rfl rfl ?_
    refine V_bipush (v := nI 8) e_X9_count_59 (by decide) ?_
    refine V_icmp_ge (tgt := 87) e_X9_count_61 (by decide) (fun c1 => ?_) (fun c1 => ?_)
    · have d1 : 8 ≤ r := nq_le (by omega) (by omega) c1
      refine V_iload_n e_X9_count_87 rfl rfl ?_
      exact V_iret e_X9_count_88 rfl (by rw [show r = 8 by omega]; exact hQ)
    · have d1 : ¬ 8 ≤ r := nq_nle (by omega) (by omega) c1
      obtain ⟨er1, er2, er3⟩ := hMR r (by omega)
      have hGr := hGR r (by omega)
      refine V_iload_n e_X9_count_64 rfl rfl ?_
      refine V_aload_n e_X9_count_65 rfl rfl ?_
      refine V_getr (r := 293) e_X9_count_66 F_X9_lane f_X9_7 rfl rfl ?_
      refine V_iload_n e_X9_count_69 rfl rfl ?_
      refine V_ialdv (v := nI ((aR (A, T)).1 r) - nI 1) (j := r) e_X9_count_70 rfl rfl (by have q : ln 293 = 8 := rfl; omega) er1 ?_
      refine V_if_lt (tgt := 78) e_X9_count_71 (by decide) (fun c2 => ?_) (fun c2 => ?_)
      · have hlr : (aR (A, T)).1 r = 0 := ln_lt0 hGr.1 c2
        refine V_iconst (v := nI 0) e_X9_count_78 (by decide) ?_
        refine V_iaddN (z := nI (sumN (rwF (aR (A, T))) r + 0)) e_X9_count_79 (nI_add _ _) ?_
        refine V_istore_n (L' := [some (.ref (eB E + 292)), some (.int x), some (.int (nI (sumN (rwF (aR (A, T))) r + 0))), some (.int (nI r))]) e_X9_count_80 rfl rfl ?_
        refine V_iinc (v := nI (r + 1)) (L' := [some (.ref (eB E + 292)), some (.int x), some (.int (nI (sumN (rwF (aR (A, T))) r + 0))), some (.int (nI (r + 1)))]) e_X9_count_81 rfl (nI_add _ 1) rfl ?_
        refine V_goto (tgt := 58) e_X9_count_84 (by decide) ?_
        rw [show sumN (rwF (aR (A, T))) r + 0 = sumN (rwF (aR (A, T))) (r + 1) from (by rw [sumN]; congr 1; unfold rwF; (first | rw [if_pos hlr] | rw [if_neg hlr]))]; exact ih (8 - (r + 1)) (by omega) (r + 1) rfl (by omega)
      · have hlr : ¬ (aR (A, T)).1 r = 0 := ln_nlt0 hGr.1 c2
        refine V_iconst (v := nI 1) e_X9_count_74 (by decide) ?_
        refine V_goto (tgt := 79) e_X9_count_75 (by decide) ?_
        refine V_iaddN (z := nI (sumN (rwF (aR (A, T))) r + 1)) e_X9_count_79 (nI_add _ _) ?_
        refine V_istore_n (L' := [some (.ref (eB E + 292)), some (.int x), some (.int (nI (sumN (rwF (aR (A, T))) r + 1))), some (.int (nI r))]) e_X9_count_80 rfl rfl ?_
        refine V_iinc (v := nI (r + 1)) (L' := [some (.ref (eB E + 292)), some (.int x), some (.int (nI (sumN (rwF (aR (A, T))) r + 1))), some (.int (nI (r + 1)))]) e_X9_count_81 rfl (nI_add _ 1) rfl ?_
        refine V_goto (tgt := 58) e_X9_count_84 (by decide) ?_
        rw [show sumN (rwF (aR (A, T))) r + 1 = sumN (rwF (aR (A, T))) (r + 1) from (by rw [sumN]; congr 1; unfold rwF; (first | rw [if_pos hlr] | rw [if_neg hlr]))]; exact ih (8 - (r + 1)) (by omega) (r + 1) rfl (by omega)
set_option maxRecDepth 100000 in
set_option maxHeartbeats 4000000 in
theorem c9_count (E : En) (x : Int32) (A : Vec) (T : AbT) (σ : Sg) (hJ0 : IM σ (A, T)) : Cn E m_X9_count 12 [.ref (eB E + 292), .int x] σ (pM σ (oCount (A, T) x)) := by
  have hGD : GD A := hJ0.1.1
  have hN : WN A := hGD.1
  have hNl := hN.le
  have hA4 : A 4 ≤ 999 := hGD.2.2
  have hG := hJ0.1
  refine Cn.of [some (.ref (eB E + 292)), some (.int x), none, none] (by decide) (Nat.le_of_ble_eq_true rfl) rfl ?_
  refine V_aload_n e_X9_count_0 rfl rfl ?_
  refine V_iconst (v := nI 0) e_X9_count_1 (by decide) ?_
  refine V_puti e_X9_count_2 F_X9_thrown f_X9_53 rfl ?_
  generalize hτ : up2 σ 292 0 (nI 0) = τ
  have hfb : Fb 292 307 σ τ := hτ ▸ th_fb
  have hJ : IM τ (A, T) := hτ ▸ hJ0.fm Fm.th
  have hM : RepM τ 296 A := hJ.2.1
  refine V_iconst (v := nI 0) e_X9_count_5 (by decide) ?_
  refine V_istore_n (L' := [some (.ref (eB E + 292)), some (.int x), some (.int (nI 0)), none]) e_X9_count_6 rfl rfl ?_
  refine V_iload_n e_X9_count_7 rfl rfl ?_
  rcases sw_c x 0 7 with ⟨j1, c2a, c2b, c2⟩ | c2
  · have c2d : j1 = 0 ∨ j1 = 1 ∨ j1 = 2 ∨ j1 = 3 ∨ j1 = 4 ∨ j1 = 5 ∨ j1 = 6 ∨ j1 = 7 := by omega
    rcases c2d with rfl | rfl | rfl | rfl | rfl | rfl | rfl | rfl
    · refine V_tab (j := 0) (tgt := 56) e_X9_count_8 c2 (by decide) (by decide +kernel) ?_
      refine V_iconst (v := nI 0) e_X9_count_56 (by decide) ?_
      refine V_istore_n (L' := [some (.ref (eB E + 292)), some (.int x), some (.int (nI 0)), some (.int (nI 0))]) e_X9_count_57 rfl rfl ?_
      exact lp_X9_count E x A T (fun σ' r => Fb 292 307 σ σ' ∧ IM σ' (oCount (A, T) x).1 ∧ r = (oCount (A, T) x).2) τ hJ.2.2.2.2.1 hG.rows (by rw [show oCount (A, T) x = ((A, T), nI (sumN (rwF (aR (A, T))) 8)) from (by unfold oCount; rw [c2, show swx (nI 0) 7 = 0 by decide]; rfl)]; exact ⟨hfb, hJ, rfl⟩) 8 0 rfl (by omega)
    · refine V_tab (j := 1) (tgt := 89) e_X9_count_8 c2 (by decide) (by decide +kernel) ?_
      refine V_aload_n e_X9_count_89 rfl rfl ?_
      refine V_getr (r := 296) e_X9_count_90 F_X9_shore f_X9_19 rfl rfl ?_
      refine V_iconst (v := nI 0) e_X9_count_93 (by decide) ?_
      refine V_ialdv (v := nI (A 0)) (j := 0) e_X9_count_94 rfl rfl (by decide) (hM 0 (by omega)) ?_
      exact V_iret e_X9_count_95 rfl (by rw [show oCount (A, T) x = ((A, T), nI (A 0)) from (by unfold oCount; rw [c2, show swx (nI 1) 7 = 1 by decide]; try rfl)]; exact ⟨hfb, hJ, rfl⟩)
    · refine V_tab (j := 2) (tgt := 96) e_X9_count_8 c2 (by decide) (by decide +kernel) ?_
      refine V_aload_n e_X9_count_96 rfl rfl ?_
      refine V_getr (r := 296) e_X9_count_97 F_X9_shore f_X9_19 rfl rfl ?_
      refine V_iconst (v := nI 1) e_X9_count_100 (by decide) ?_
      refine V_ialdv (v := nI (A 1)) (j := 1) e_X9_count_101 rfl rfl (by decide) (hM 1 (by omega)) ?_
      exact V_iret e_X9_count_102 rfl (by rw [show oCount (A, T) x = ((A, T), nI (A 1)) from (by unfold oCount; rw [c2, show swx (nI 2) 7 = 2 by decide]; try rfl)]; exact ⟨hfb, hJ, rfl⟩)
    · refine V_tab (j := 3) (tgt := 103) e_X9_count_8 c2 (by decide) (by decide +kernel) ?_
      refine V_aload_n e_X9_count_103 rfl rfl ?_
      refine V_getr (r := 296) e_X9_count_104 F_X9_shore f_X9_19 rfl rfl ?_
      refine V_iconst (v := nI 4) e_X9_count_107 (by decide) ?_
      refine V_ialdv (v := nI (A 4)) (j := 4) e_X9_count_108 rfl rfl (by decide) (hM 4 (by omega)) ?_
      exact V_iret e_X9_count_109 rfl (by rw [show oCount (A, T) x = ((A, T), nI (A 4)) from (by unfold oCount; rw [c2, show swx (nI 3) 7 = 3 by decide]; try rfl)]; exact ⟨hfb, hJ, rfl⟩)
    · refine V_tab (j := 4) (tgt := 110) e_X9_count_8 c2 (by decide) (by decide +kernel) ?_
      refine V_aload_n e_X9_count_110 rfl rfl ?_
      refine V_getr (r := 296) e_X9_count_111 F_X9_shore f_X9_19 rfl rfl ?_
      refine V_iconst (v := nI 5) e_X9_count_114 (by decide) ?_
      refine V_ialdv (v := nI (A 5)) (j := 5) e_X9_count_115 rfl rfl (by decide) (hM 5 (by omega)) ?_
      exact V_iret e_X9_count_116 rfl (by rw [show oCount (A, T) x = ((A, T), nI (A 5)) from (by unfold oCount; rw [c2, show swx (nI 4) 7 = 4 by decide]; try rfl)]; exact ⟨hfb, hJ, rfl⟩)
    · refine V_tab (j := 5) (tgt := 117) e_X9_count_8 c2 (by decide) (by decide +kernel) ?_
      refine V_aload_n e_X9_count_117 rfl rfl ?_
      refine V_getr (r := 296) e_X9_count_118 F_X9_shore f_X9_19 rfl rfl ?_
      refine V_csIe (av := [.ref (eB E + 296)]) (st := []) e_X9_count_121 (c_X9_hungryR E 296 A τ rfl rfl hM hNl.2) l_X9_200 S_X9_hungry (rm_ok (by decide) (by decide)) rfl rfl (Nat.le_of_ble_eq_true rfl) ?_
      exact V_iret e_X9_count_124 rfl (by rw [show oCount (A, T) x = ((A, T), nI (hung A)) from (by unfold oCount; rw [c2, show swx (nI 5) 7 = 5 by decide]; try rfl)]; exact ⟨hfb, hJ, rfl⟩)
    · refine V_tab (j := 6) (tgt := 125) e_X9_count_8 c2 (by decide) (by decide +kernel) ?_
      refine V_aload_n e_X9_count_125 rfl rfl ?_
      refine V_getiv (v := nI ((aH (A, T)).2)) e_X9_count_126 F_X9_acts f_X9_155 rfl hJ.2.2.1.1 ?_
      exact V_iret e_X9_count_129 rfl (by rw [show oCount (A, T) x = ((A, T), nI ((aH (A, T)).2)) from (by unfold oCount; rw [c2, show swx (nI 6) 7 = 6 by decide]; try rfl)]; exact ⟨hfb, hJ, rfl⟩)
    · refine V_tab (j := 7) (tgt := 130) e_X9_count_8 c2 (by decide) (by decide +kernel) ?_
      refine V_aload_n e_X9_count_130 rfl rfl ?_
      refine V_getiv (v := nI ((aT (A, T)).1)) e_X9_count_131 F_X9_taped f_X9_80 rfl hJ.2.2.2.2.2.1.1 ?_
      exact V_iret e_X9_count_134 rfl (by rw [show oCount (A, T) x = ((A, T), nI ((aT (A, T)).1)) from (by unfold oCount; rw [c2, show swx (nI 7) 7 = 7 by decide]; try rfl)]; exact ⟨hfb, hJ, rfl⟩)
  · refine V_tabo (tgt := 135) e_X9_count_8 c2 (by decide) ?_
    refine V_ldc (v := (-1000001)) e_X9_count_135 k_X9_73 ?_
    exact V_iret e_X9_count_137 rfl (by rw [show oCount (A, T) x = ((A, T), (-1000001)) from (by unfold oCount; rw [show swx _ 7 = 8 from if_pos c2]; try rfl)]; exact ⟨hfb, hJ, rfl⟩)
set_option maxRecDepth 100000 in
set_option maxHeartbeats 4000000 in
theorem c_X9_began (E : En) (b : Nat) (l : List Nat) (σ : Sg) (ht : σ 292 25 = nI 0) (hl : l.length < 16) : Cn E m_X9_began 1 [.ref (eB E + 292), .int (nI b)] (tmL 0 l σ) (pV (fun σ' => σ' = tmL 0 (l ++ [b]) σ)) := by
  refine Cn.of [some (.ref (eB E + 292)), some (.int (nI b))] (by decide) (Nat.le_of_ble_eq_true rfl) rfl ?_
  refine V_aload_n e_X9_began_0 rfl rfl ?_
  refine V_getiv (v := nI l.length) e_X9_began_1 F_X9_traced f_X9_283 rfl (tmL_sz0 ht) ?_
  refine V_bipush (v := nI 16) e_X9_began_4 (by decide) ?_
  refine V_icmp_ge (tgt := 29) e_X9_began_6 (by decide) (fun c1 => absurd c1 (fun q => by have := nq_le (by omega) (by omega) q; omega)) (fun c1 => ?_)
  refine V_aload_n e_X9_began_9 rfl rfl ?_
  refine V_getr (r := 306) e_X9_began_10 F_X9_trace f_X9_50 rfl rfl ?_
  refine V_aload_n e_X9_began_13 rfl rfl ?_
  refine V_getiv (v := nI l.length) e_X9_began_14 F_X9_traced f_X9_283 rfl (tmL_sz0 ht) ?_
  refine V_iload_n e_X9_began_17 rfl rfl ?_
  refine V_iast (j := l.length) e_X9_began_18 rfl rfl (by have q : ln 306 = 16 := rfl; omega) ?_
  refine V_aload_n e_X9_began_19 rfl rfl ?_
  refine V_dup e_X9_began_20 rfl ?_
  refine V_getiv (v := nI l.length) e_X9_began_21 F_X9_traced f_X9_283 rfl ((congrFun (up2_ne (by decide)) _).trans (tmL_sz0 ht)) ?_
  refine V_iconst (v := nI 1) e_X9_began_24 (by decide) ?_
  refine V_iaddN (z := nI (l.length + 1)) e_X9_began_25 (nI_add _ _) ?_
  refine V_puti e_X9_began_26 F_X9_traced f_X9_283 rfl ?_
  exact V_vret e_X9_began_29 rfl (by rw [tmL_app, Nat.zero_add]; rfl)
set_option maxRecDepth 100000 in
set_option maxHeartbeats 4000000 in
theorem c_X9_plainSize (E : En) (g : Nat) (l : List Nat) (A : Vec) (σ : Sg) (hM : RepM σ 296 A) (hF : WF A) (hg : g < A 0) (ht : σ 292 25 = nI 0) (hl : l.length + 1 ≤ 16) : Cn E m_X9_plainSize 2 [.ref (eB E + 292), .int (nI g)] (tmL 0 l σ) (pI (fun σ' r => σ' = tmL 0 (l ++ [10]) σ ∧ r = nI (A (8 + 3 * g)))) := by
  have hG6 := hF.1.2.1
  refine Cn.of [some (.ref (eB E + 292)), some (.int (nI g))] (by decide) (Nat.le_of_ble_eq_true rfl) rfl ?_
  refine V_aload_n e_X9_plainSize_0 rfl rfl ?_
  refine V_bipush (v := nI 10) e_X9_plainSize_1 (by decide) ?_
  refine V_cvV (av := [.int (nI 10)]) (st := []) e_X9_plainSize_3 (c_X9_began E 10 l σ ht (by first | (simp; omega) | omega | simp)) l_X9_286 S_X9_began rfl (rm_ok (by decide) (by decide)) rfl rfl (Nat.le_of_ble_eq_true rfl) ?_
  intro τ9 hτ9
  rw [show τ9 = tmL 0 (l ++ [10]) σ from hτ9.trans (by simp)]
  clear hτ9
  refine V_aload_n e_X9_plainSize_6 rfl rfl ?_
  refine V_getr (r := 296) e_X9_plainSize_7 F_X9_shore f_X9_19 rfl rfl ?_
  refine V_iload_n e_X9_plainSize_10 rfl rfl ?_
  refine V_iconst (v := nI 1) e_X9_plainSize_11 (by decide) ?_
  refine V_csIe (av := [.ref (eB E + 296), .int (nI g), .int (nI 1)]) (st := []) e_X9_plainSize_12 (c_X9_ofR_1 E 296 g A (tmL 0 (l ++ [10]) σ) rfl rfl (tmL_M hM) (by omega)) l_X9_162 S_X9_of (rm_ok (by decide) (by decide)) rfl rfl (Nat.le_of_ble_eq_true rfl) ?_
  exact V_iret e_X9_plainSize_15 rfl (⟨rfl, by first | rfl | exact imul_c _ _ | (rw [imul_c]; rfl) | (rw [imul_c (nI 2)]) | simp⟩)
set_option maxRecDepth 100000 in
set_option maxHeartbeats 4000000 in
theorem c_X9_openSize_4 (E : En) (g : Nat) (l : List Nat) (A : Vec) (σ : Sg) (hM : RepM σ 296 A) (hF : WF A) (hg : g < A 0) (ht : σ 292 25 = nI 0) (hl : l.length + 2 ≤ 16) (hk : A (7 + 3 * g) = 4) : Cn E m_X9_openSize 3 [.ref (eB E + 292), .int (nI g)] (tmL 0 l σ) (pI (fun σ' r => σ' = tmL 0 (l ++ [13, 10]) σ ∧ r = nI (A (8 + 3 * g)) - nI 100)) := by
  have hG6 := hF.1.2.1
  refine Cn.of [some (.ref (eB E + 292)), some (.int (nI g)), none, none] (by decide) (Nat.le_of_ble_eq_true rfl) rfl ?_
  refine V_aload_n e_X9_openSize_0 rfl rfl ?_
  refine V_getr (r := 296) e_X9_openSize_1 F_X9_shore f_X9_19 rfl rfl ?_
  refine V_iload_n e_X9_openSize_4 rfl rfl ?_
  refine V_iconst (v := nI 0) e_X9_openSize_5 (by decide) ?_
  refine V_csIe (av := [.ref (eB E + 296), .int (nI g), .int (nI 0)]) (st := []) e_X9_openSize_6 (c_X9_ofR_0 E 296 g A (tmL 0 l σ) rfl rfl (tmL_M hM) (by omega)) l_X9_162 S_X9_of (rm_ok (by decide) (by decide)) rfl rfl (Nat.le_of_ble_eq_true rfl) ?_
  refine V_topi (y := nI 4) (congrArg nI hk) ?_
  refine V_iconst (v := nI 5) e_X9_openSize_9 (by decide) ?_
  refine V_icmp_ne (tgt := 17) e_X9_openSize_10 (by decide) (fun c1 => ?_) (fun c1 => absurd c1 (by decide))
  refine V_iconst (v := nI 0) e_X9_openSize_17 (by decide) ?_
  refine V_istore_n (L' := [some (.ref (eB E + 292)), some (.int (nI g)), some (.int (nI 0)), none]) e_X9_openSize_18 rfl rfl ?_
  refine V_iload_n e_X9_openSize_19 rfl rfl ?_
  refine V_if_eq (tgt := 29) e_X9_openSize_20 (by decide) (fun c2 => ?_) (fun c2 => absurd c2 (by decide))
  refine V_aload_n e_X9_openSize_29 rfl rfl ?_
  refine V_bipush (v := nI 13) e_X9_openSize_30 (by decide) ?_
  refine V_cvV (av := [.int (nI 13)]) (st := []) e_X9_openSize_32 (c_X9_began E 13 l σ ht (by first | (simp; omega) | omega | simp)) l_X9_286 S_X9_began rfl (rm_ok (by decide) (by decide)) rfl rfl (Nat.le_of_ble_eq_true rfl) ?_
  intro τ9 hτ9
  rw [show τ9 = tmL 0 (l ++ [13]) σ from hτ9.trans (by simp)]
  clear hτ9
  refine V_aload_n e_X9_openSize_35 rfl rfl ?_
  refine V_iload_n e_X9_openSize_36 rfl rfl ?_
  refine V_cvI (av := [.int (nI g)]) (st := []) e_X9_openSize_37 (c_X9_plainSize E g (l ++ [13]) A σ hM hF hg ht (by first | (simp; omega) | omega | simp)) l_X9_289 S_X9_plainSize rfl (rm_ok (by decide) (by decide)) rfl rfl (Nat.le_of_ble_eq_true rfl) ?_
  intro τ9 r9 hτ9
  rw [show τ9 = tmL 0 (l ++ [13, 10]) σ from hτ9.1.trans (by simp)]
  rw [show r9 = nI (A (8 + 3 * g)) from hτ9.2]
  clear hτ9
  refine V_bipush (v := nI 100) e_X9_openSize_40 (by decide) ?_
  refine V_isub e_X9_openSize_42 ?_
  refine V_istore_n (L' := [some (.ref (eB E + 292)), some (.int (nI g)), some (.int (nI 0)), some (.int ((nI (A (8 + 3 * g))) - (nI 100)))]) e_X9_openSize_43 rfl rfl ?_
  refine V_iload_n e_X9_openSize_44 rfl rfl ?_
  refine V_if_eq (tgt := 54) e_X9_openSize_45 (by decide) (fun c3 => ?_) (fun c3 => absurd c3 (by decide))
  refine V_iload_n e_X9_openSize_54 rfl rfl ?_
  exact V_iret e_X9_openSize_55 rfl (⟨rfl, by first | rfl | exact imul_c _ _ | (rw [imul_c]; rfl) | (rw [imul_c (nI 2)]) | simp⟩)
set_option maxRecDepth 100000 in
set_option maxHeartbeats 4000000 in
theorem c_X9_openSize_5 (E : En) (g : Nat) (l : List Nat) (A : Vec) (σ : Sg) (hM : RepM σ 296 A) (hF : WF A) (hg : g < A 0) (ht : σ 292 25 = nI 0) (hl : l.length + 3 ≤ 16) (hk : A (7 + 3 * g) = 5) : Cn E m_X9_openSize 3 [.ref (eB E + 292), .int (nI g)] (tmL 0 l σ) (pI (fun σ' r => σ' = tmL 0 (l ++ [14, 13, 10]) σ ∧ r = (nI (A (8 + 3 * g)) - nI 100) * nI 2)) := by
  have hG6 := hF.1.2.1
  refine Cn.of [some (.ref (eB E + 292)), some (.int (nI g)), none, none] (by decide) (Nat.le_of_ble_eq_true rfl) rfl ?_
  refine V_aload_n e_X9_openSize_0 rfl rfl ?_
  refine V_getr (r := 296) e_X9_openSize_1 F_X9_shore f_X9_19 rfl rfl ?_
  refine V_iload_n e_X9_openSize_4 rfl rfl ?_
  refine V_iconst (v := nI 0) e_X9_openSize_5 (by decide) ?_
  refine V_csIe (av := [.ref (eB E + 296), .int (nI g), .int (nI 0)]) (st := []) e_X9_openSize_6 (c_X9_ofR_0 E 296 g A (tmL 0 l σ) rfl rfl (tmL_M hM) (by omega)) l_X9_162 S_X9_of (rm_ok (by decide) (by decide)) rfl rfl (Nat.le_of_ble_eq_true rfl) ?_
  refine V_topi (y := nI 5) (congrArg nI hk) ?_
  refine V_iconst (v := nI 5) e_X9_openSize_9 (by decide) ?_
  refine V_icmp_ne (tgt := 17) e_X9_openSize_10 (by decide) (fun c1 => absurd c1 (by decide)) (fun c1 => ?_)
  refine V_iconst (v := nI 1) e_X9_openSize_13 (by decide) ?_
  refine V_goto (tgt := 18) e_X9_openSize_14 (by decide) ?_
  refine V_istore_n (L' := [some (.ref (eB E + 292)), some (.int (nI g)), some (.int (nI 1)), none]) e_X9_openSize_18 rfl rfl ?_
  refine V_iload_n e_X9_openSize_19 rfl rfl ?_
  refine V_if_eq (tgt := 29) e_X9_openSize_20 (by decide) (fun c2 => absurd c2 (by decide)) (fun c2 => ?_)
  refine V_aload_n e_X9_openSize_23 rfl rfl ?_
  refine V_bipush (v := nI 14) e_X9_openSize_24 (by decide) ?_
  refine V_cvV (av := [.int (nI 14)]) (st := []) e_X9_openSize_26 (c_X9_began E 14 l σ ht (by first | (simp; omega) | omega | simp)) l_X9_286 S_X9_began rfl (rm_ok (by decide) (by decide)) rfl rfl (Nat.le_of_ble_eq_true rfl) ?_
  intro τ9 hτ9
  rw [show τ9 = tmL 0 (l ++ [14]) σ from hτ9.trans (by simp)]
  clear hτ9
  refine V_aload_n e_X9_openSize_29 rfl rfl ?_
  refine V_bipush (v := nI 13) e_X9_openSize_30 (by decide) ?_
  refine V_cvV (av := [.int (nI 13)]) (st := []) e_X9_openSize_32 (c_X9_began E 13 (l ++ [14]) σ ht (by first | (simp; omega) | omega | simp)) l_X9_286 S_X9_began rfl (rm_ok (by decide) (by decide)) rfl rfl (Nat.le_of_ble_eq_true rfl) ?_
  intro τ9 hτ9
  rw [show τ9 = tmL 0 (l ++ [14, 13]) σ from hτ9.trans (by simp)]
  clear hτ9
  refine V_aload_n e_X9_openSize_35 rfl rfl ?_
  refine V_iload_n e_X9_openSize_36 rfl rfl ?_
  refine V_cvI (av := [.int (nI g)]) (st := []) e_X9_openSize_37 (c_X9_plainSize E g (l ++ [14, 13]) A σ hM hF hg ht (by first | (simp; omega) | omega | simp)) l_X9_289 S_X9_plainSize rfl (rm_ok (by decide) (by decide)) rfl rfl (Nat.le_of_ble_eq_true rfl) ?_
  intro τ9 r9 hτ9
  rw [show τ9 = tmL 0 (l ++ [14, 13, 10]) σ from hτ9.1.trans (by simp)]
  rw [show r9 = nI (A (8 + 3 * g)) from hτ9.2]
  clear hτ9
  refine V_bipush (v := nI 100) e_X9_openSize_40 (by decide) ?_
  refine V_isub e_X9_openSize_42 ?_
  refine V_istore_n (L' := [some (.ref (eB E + 292)), some (.int (nI g)), some (.int (nI 1)), some (.int ((nI (A (8 + 3 * g))) - (nI 100)))]) e_X9_openSize_43 rfl rfl ?_
  refine V_iload_n e_X9_openSize_44 rfl rfl ?_
  refine V_if_eq (tgt := 54) e_X9_openSize_45 (by decide) (fun c3 => absurd c3 (by decide)) (fun c3 => ?_)
  refine V_iconst (v := nI 2) e_X9_openSize_48 (by decide) ?_
  refine V_iload_n e_X9_openSize_49 rfl rfl ?_
  refine V_imul e_X9_openSize_50 ?_
  refine V_goto (tgt := 55) e_X9_openSize_51 (by decide) ?_
  exact V_iret e_X9_openSize_55 rfl (⟨rfl, by first | rfl | exact imul_c _ _ | (rw [imul_c]; rfl) | (rw [imul_c (nI 2)]) | simp⟩)
set_option maxRecDepth 100000 in
set_option maxHeartbeats 4000000 in
theorem c_X9_markOf_1 (E : En) (g : Nat) (l : List Nat) (A : Vec) (σ : Sg) (hM : RepM σ 296 A) (hF : WF A) (hg : g < A 0) (ht : σ 292 25 = nI 0) (hl : l.length + 2 ≤ 16) (hk : A (7 + 3 * g) = 1) : Cn E m_X9_markOf 4 [.ref (eB E + 292), .int (nI g)] (tmL 0 l σ) (pI (fun σ' r => σ' = tmL 0 (l ++ [21, 20]) σ ∧ r = (nI g + nI (hoF A g)))) := by
  have hG6 := hF.1.2.1
  refine Cn.of [some (.ref (eB E + 292)), some (.int (nI g)), none, none] (by decide) (Nat.le_of_ble_eq_true rfl) rfl ?_
  refine V_aload_n e_X9_markOf_0 rfl rfl ?_
  refine V_getr (r := 296) e_X9_markOf_1 F_X9_shore f_X9_19 rfl rfl ?_
  refine V_iload_n e_X9_markOf_4 rfl rfl ?_
  refine V_iconst (v := nI 0) e_X9_markOf_5 (by decide) ?_
  refine V_csIe (av := [.ref (eB E + 296), .int (nI g), .int (nI 0)]) (st := []) e_X9_markOf_6 (c_X9_ofR_0 E 296 g A (tmL 0 l σ) rfl rfl (tmL_M hM) (by omega)) l_X9_162 S_X9_of (rm_ok (by decide) (by decide)) rfl rfl (Nat.le_of_ble_eq_true rfl) ?_
  refine V_topi (y := nI 1) (congrArg nI hk) ?_
  refine V_istore_n (L' := [some (.ref (eB E + 292)), some (.int (nI g)), some (.int (nI 1)), none]) e_X9_markOf_9 rfl rfl ?_
  refine V_iload_n e_X9_markOf_10 rfl rfl ?_
  refine V_iconst (v := nI 4) e_X9_markOf_11 (by decide) ?_
  refine V_icmp_lt (tgt := 35) e_X9_markOf_12 (by decide) (fun c1 => ?_) (fun c1 => absurd c1 (by decide))
  refine V_iload_n e_X9_markOf_35 rfl rfl ?_
  refine V_iconst (v := nI 1) e_X9_markOf_36 (by decide) ?_
  refine V_icmp_eq (tgt := 56) e_X9_markOf_37 (by decide) (fun c2 => ?_) (fun c2 => absurd c2 (by decide))
  refine V_aload_n e_X9_markOf_56 rfl rfl ?_
  refine V_bipush (v := nI 21) e_X9_markOf_57 (by decide) ?_
  refine V_cvV (av := [.int (nI 21)]) (st := []) e_X9_markOf_59 (c_X9_began E 21 l σ ht (by first | (simp; omega) | omega | simp)) l_X9_286 S_X9_began rfl (rm_ok (by decide) (by decide)) rfl rfl (Nat.le_of_ble_eq_true rfl) ?_
  intro τ9 hτ9
  rw [show τ9 = tmL 0 (l ++ [21]) σ from hτ9.trans (by simp)]
  clear hτ9
  refine V_aload_n e_X9_markOf_62 rfl rfl ?_
  refine V_bipush (v := nI 20) e_X9_markOf_63 (by decide) ?_
  refine V_cvV (av := [.int (nI 20)]) (st := []) e_X9_markOf_65 (c_X9_began E 20 (l ++ [21]) σ ht (by first | (simp; omega) | omega | simp)) l_X9_286 S_X9_began rfl (rm_ok (by decide) (by decide)) rfl rfl (Nat.le_of_ble_eq_true rfl) ?_
  intro τ9 hτ9
  rw [show τ9 = tmL 0 (l ++ [21, 20]) σ from hτ9.trans (by simp)]
  clear hτ9
  refine V_iload_n e_X9_markOf_68 rfl rfl ?_
  refine V_aload_n e_X9_markOf_69 rfl rfl ?_
  refine V_iload_n e_X9_markOf_70 rfl rfl ?_
  refine V_cvIe (av := [.int (nI g)]) (st := [.int (nI g)]) e_X9_markOf_71 (c_X9_homesOf E A g (tmL 0 (l ++ [21, 20]) σ) (tmL_M hM) hF hF.2.2.1 (by omega)) l_X9_251 S_X9_homesOf rfl (rm_ok (by decide) (by decide)) rfl rfl (Nat.le_of_ble_eq_true rfl) ?_
  refine V_csIe (av := [.int (nI (mkN (ofF A g) (A 1)))]) (st := [.int (nI g)]) e_X9_markOf_74 (c_X9_bits E (mkN (ofF A g) (A 1)) (tmL 0 (l ++ [21, 20]) σ) (by have := mk_ofF (g := g) hF.2.2.1; omega)) l_X9_248 S_X9_bits (rm_ok (by decide) (by decide)) rfl rfl (Nat.le_of_ble_eq_true rfl) ?_
  refine V_iadd e_X9_markOf_77 ?_
  refine V_istore_n (L' := [some (.ref (eB E + 292)), some (.int (nI g)), some (.int (nI 1)), some (.int ((nI g) + (nI (hoF A g))))]) e_X9_markOf_78 rfl rfl ?_
  refine V_iload_n e_X9_markOf_79 rfl rfl ?_
  refine V_iconst (v := nI 1) e_X9_markOf_80 (by decide) ?_
  refine V_icmp_ne (tgt := 88) e_X9_markOf_81 (by decide) (fun c3 => absurd c3 (by decide)) (fun c3 => ?_)
  refine V_iload_n e_X9_markOf_84 rfl rfl ?_
  refine V_goto (tgt := 104) e_X9_markOf_85 (by decide) ?_
  exact V_iret e_X9_markOf_104 rfl (⟨rfl, by first | rfl | exact imul_c _ _ | (rw [imul_c]; rfl) | (rw [imul_c (nI 2)]) | simp⟩)
set_option maxRecDepth 100000 in
set_option maxHeartbeats 4000000 in
theorem c_X9_markOf_2 (E : En) (g : Nat) (l : List Nat) (A : Vec) (σ : Sg) (hM : RepM σ 296 A) (hF : WF A) (hg : g < A 0) (ht : σ 292 25 = nI 0) (hl : l.length + 3 ≤ 16) (hk : A (7 + 3 * g) = 2) : Cn E m_X9_markOf 4 [.ref (eB E + 292), .int (nI g)] (tmL 0 l σ) (pI (fun σ' r => σ' = tmL 0 (l ++ [24, 21, 20]) σ ∧ r = (nI g + nI (hoF A g)) * nI 2)) := by
  have hG6 := hF.1.2.1
  refine Cn.of [some (.ref (eB E + 292)), some (.int (nI g)), none, none] (by decide) (Nat.le_of_ble_eq_true rfl) rfl ?_
  refine V_aload_n e_X9_markOf_0 rfl rfl ?_
  refine V_getr (r := 296) e_X9_markOf_1 F_X9_shore f_X9_19 rfl rfl ?_
  refine V_iload_n e_X9_markOf_4 rfl rfl ?_
  refine V_iconst (v := nI 0) e_X9_markOf_5 (by decide) ?_
  refine V_csIe (av := [.ref (eB E + 296), .int (nI g), .int (nI 0)]) (st := []) e_X9_markOf_6 (c_X9_ofR_0 E 296 g A (tmL 0 l σ) rfl rfl (tmL_M hM) (by omega)) l_X9_162 S_X9_of (rm_ok (by decide) (by decide)) rfl rfl (Nat.le_of_ble_eq_true rfl) ?_
  refine V_topi (y := nI 2) (congrArg nI hk) ?_
  refine V_istore_n (L' := [some (.ref (eB E + 292)), some (.int (nI g)), some (.int (nI 2)), none]) e_X9_markOf_9 rfl rfl ?_
  refine V_iload_n e_X9_markOf_10 rfl rfl ?_
  refine V_iconst (v := nI 4) e_X9_markOf_11 (by decide) ?_
  refine V_icmp_lt (tgt := 35) e_X9_markOf_12 (by decide) (fun c1 => ?_) (fun c1 => absurd c1 (by decide))
  refine V_iload_n e_X9_markOf_35 rfl rfl ?_
  refine V_iconst (v := nI 1) e_X9_markOf_36 (by decide) ?_
  refine V_icmp_eq (tgt := 56) e_X9_markOf_37 (by decide) (fun c2 => absurd c2 (by decide)) (fun c2 => ?_)
  refine V_aload_n e_X9_markOf_40 rfl rfl ?_
  refine V_iload_n e_X9_markOf_41 rfl rfl ?_
  refine V_iconst (v := nI 3) e_X9_markOf_42 (by decide) ?_
  refine V_icmp_ne (tgt := 51) e_X9_markOf_43 (by decide) (fun c3 => ?_) (fun c3 => absurd c3 (by decide))
  refine V_bipush (v := nI 24) e_X9_markOf_51 (by decide) ?_
  refine V_cvV (av := [.int (nI 24)]) (st := []) e_X9_markOf_53 (c_X9_began E 24 l σ ht (by first | (simp; omega) | omega | simp)) l_X9_286 S_X9_began rfl (rm_ok (by decide) (by decide)) rfl rfl (Nat.le_of_ble_eq_true rfl) ?_
  intro τ9 hτ9
  rw [show τ9 = tmL 0 (l ++ [24]) σ from hτ9.trans (by simp)]
  clear hτ9
  refine V_aload_n e_X9_markOf_56 rfl rfl ?_
  refine V_bipush (v := nI 21) e_X9_markOf_57 (by decide) ?_
  refine V_cvV (av := [.int (nI 21)]) (st := []) e_X9_markOf_59 (c_X9_began E 21 (l ++ [24]) σ ht (by first | (simp; omega) | omega | simp)) l_X9_286 S_X9_began rfl (rm_ok (by decide) (by decide)) rfl rfl (Nat.le_of_ble_eq_true rfl) ?_
  intro τ9 hτ9
  rw [show τ9 = tmL 0 (l ++ [24, 21]) σ from hτ9.trans (by simp)]
  clear hτ9
  refine V_aload_n e_X9_markOf_62 rfl rfl ?_
  refine V_bipush (v := nI 20) e_X9_markOf_63 (by decide) ?_
  refine V_cvV (av := [.int (nI 20)]) (st := []) e_X9_markOf_65 (c_X9_began E 20 (l ++ [24, 21]) σ ht (by first | (simp; omega) | omega | simp)) l_X9_286 S_X9_began rfl (rm_ok (by decide) (by decide)) rfl rfl (Nat.le_of_ble_eq_true rfl) ?_
  intro τ9 hτ9
  rw [show τ9 = tmL 0 (l ++ [24, 21, 20]) σ from hτ9.trans (by simp)]
  clear hτ9
  refine V_iload_n e_X9_markOf_68 rfl rfl ?_
  refine V_aload_n e_X9_markOf_69 rfl rfl ?_
  refine V_iload_n e_X9_markOf_70 rfl rfl ?_
  refine V_cvIe (av := [.int (nI g)]) (st := [.int (nI g)]) e_X9_markOf_71 (c_X9_homesOf E A g (tmL 0 (l ++ [24, 21, 20]) σ) (tmL_M hM) hF hF.2.2.1 (by omega)) l_X9_251 S_X9_homesOf rfl (rm_ok (by decide) (by decide)) rfl rfl (Nat.le_of_ble_eq_true rfl) ?_
  refine V_csIe (av := [.int (nI (mkN (ofF A g) (A 1)))]) (st := [.int (nI g)]) e_X9_markOf_74 (c_X9_bits E (mkN (ofF A g) (A 1)) (tmL 0 (l ++ [24, 21, 20]) σ) (by have := mk_ofF (g := g) hF.2.2.1; omega)) l_X9_248 S_X9_bits (rm_ok (by decide) (by decide)) rfl rfl (Nat.le_of_ble_eq_true rfl) ?_
  refine V_iadd e_X9_markOf_77 ?_
  refine V_istore_n (L' := [some (.ref (eB E + 292)), some (.int (nI g)), some (.int (nI 2)), some (.int ((nI g) + (nI (hoF A g))))]) e_X9_markOf_78 rfl rfl ?_
  refine V_iload_n e_X9_markOf_79 rfl rfl ?_
  refine V_iconst (v := nI 1) e_X9_markOf_80 (by decide) ?_
  refine V_icmp_ne (tgt := 88) e_X9_markOf_81 (by decide) (fun c4 => ?_) (fun c4 => absurd c4 (by decide))
  refine V_iload_n e_X9_markOf_88 rfl rfl ?_
  refine V_iconst (v := nI 3) e_X9_markOf_89 (by decide) ?_
  refine V_icmp_ne (tgt := 101) e_X9_markOf_90 (by decide) (fun c5 => ?_) (fun c5 => absurd c5 (by decide))
  refine V_iconst (v := nI 2) e_X9_markOf_101 (by decide) ?_
  refine V_iload_n e_X9_markOf_102 rfl rfl ?_
  refine V_imul e_X9_markOf_103 ?_
  exact V_iret e_X9_markOf_104 rfl (⟨rfl, by first | rfl | exact imul_c _ _ | (rw [imul_c]; rfl) | (rw [imul_c (nI 2)]) | simp⟩)
set_option maxRecDepth 100000 in
set_option maxHeartbeats 4000000 in
theorem c_X9_markOf_3 (E : En) (g : Nat) (l : List Nat) (A : Vec) (σ : Sg) (hM : RepM σ 296 A) (hF : WF A) (hg : g < A 0) (ht : σ 292 25 = nI 0) (hl : l.length + 3 ≤ 16) (hk : A (7 + 3 * g) = 3) : Cn E m_X9_markOf 4 [.ref (eB E + 292), .int (nI g)] (tmL 0 l σ) (pI (fun σ' r => σ' = tmL 0 (l ++ [22, 21, 20]) σ ∧ r = (nI g + nI (hoF A g)) - nI 1000)) := by
  have hG6 := hF.1.2.1
  refine Cn.of [some (.ref (eB E + 292)), some (.int (nI g)), none, none] (by decide) (Nat.le_of_ble_eq_true rfl) rfl ?_
  refine V_aload_n e_X9_markOf_0 rfl rfl ?_
  refine V_getr (r := 296) e_X9_markOf_1 F_X9_shore f_X9_19 rfl rfl ?_
  refine V_iload_n e_X9_markOf_4 rfl rfl ?_
  refine V_iconst (v := nI 0) e_X9_markOf_5 (by decide) ?_
  refine V_csIe (av := [.ref (eB E + 296), .int (nI g), .int (nI 0)]) (st := []) e_X9_markOf_6 (c_X9_ofR_0 E 296 g A (tmL 0 l σ) rfl rfl (tmL_M hM) (by omega)) l_X9_162 S_X9_of (rm_ok (by decide) (by decide)) rfl rfl (Nat.le_of_ble_eq_true rfl) ?_
  refine V_topi (y := nI 3) (congrArg nI hk) ?_
  refine V_istore_n (L' := [some (.ref (eB E + 292)), some (.int (nI g)), some (.int (nI 3)), none]) e_X9_markOf_9 rfl rfl ?_
  refine V_iload_n e_X9_markOf_10 rfl rfl ?_
  refine V_iconst (v := nI 4) e_X9_markOf_11 (by decide) ?_
  refine V_icmp_lt (tgt := 35) e_X9_markOf_12 (by decide) (fun c1 => ?_) (fun c1 => absurd c1 (by decide))
  refine V_iload_n e_X9_markOf_35 rfl rfl ?_
  refine V_iconst (v := nI 1) e_X9_markOf_36 (by decide) ?_
  refine V_icmp_eq (tgt := 56) e_X9_markOf_37 (by decide) (fun c2 => absurd c2 (by decide)) (fun c2 => ?_)
  refine V_aload_n e_X9_markOf_40 rfl rfl ?_
  refine V_iload_n e_X9_markOf_41 rfl rfl ?_
  refine V_iconst (v := nI 3) e_X9_markOf_42 (by decide) ?_
  refine V_icmp_ne (tgt := 51) e_X9_markOf_43 (by decide) (fun c3 => absurd c3 (by decide)) (fun c3 => ?_)
  refine V_bipush (v := nI 22) e_X9_markOf_46 (by decide) ?_
  refine V_goto (tgt := 53) e_X9_markOf_48 (by decide) ?_
  refine V_cvV (av := [.int (nI 22)]) (st := []) e_X9_markOf_53 (c_X9_began E 22 l σ ht (by first | (simp; omega) | omega | simp)) l_X9_286 S_X9_began rfl (rm_ok (by decide) (by decide)) rfl rfl (Nat.le_of_ble_eq_true rfl) ?_
  intro τ9 hτ9
  rw [show τ9 = tmL 0 (l ++ [22]) σ from hτ9.trans (by simp)]
  clear hτ9
  refine V_aload_n e_X9_markOf_56 rfl rfl ?_
  refine V_bipush (v := nI 21) e_X9_markOf_57 (by decide) ?_
  refine V_cvV (av := [.int (nI 21)]) (st := []) e_X9_markOf_59 (c_X9_began E 21 (l ++ [22]) σ ht (by first | (simp; omega) | omega | simp)) l_X9_286 S_X9_began rfl (rm_ok (by decide) (by decide)) rfl rfl (Nat.le_of_ble_eq_true rfl) ?_
  intro τ9 hτ9
  rw [show τ9 = tmL 0 (l ++ [22, 21]) σ from hτ9.trans (by simp)]
  clear hτ9
  refine V_aload_n e_X9_markOf_62 rfl rfl ?_
  refine V_bipush (v := nI 20) e_X9_markOf_63 (by decide) ?_
  refine V_cvV (av := [.int (nI 20)]) (st := []) e_X9_markOf_65 (c_X9_began E 20 (l ++ [22, 21]) σ ht (by first | (simp; omega) | omega | simp)) l_X9_286 S_X9_began rfl (rm_ok (by decide) (by decide)) rfl rfl (Nat.le_of_ble_eq_true rfl) ?_
  intro τ9 hτ9
  rw [show τ9 = tmL 0 (l ++ [22, 21, 20]) σ from hτ9.trans (by simp)]
  clear hτ9
  refine V_iload_n e_X9_markOf_68 rfl rfl ?_
  refine V_aload_n e_X9_markOf_69 rfl rfl ?_
  refine V_iload_n e_X9_markOf_70 rfl rfl ?_
  refine V_cvIe (av := [.int (nI g)]) (st := [.int (nI g)]) e_X9_markOf_71 (c_X9_homesOf E A g (tmL 0 (l ++ [22, 21, 20]) σ) (tmL_M hM) hF hF.2.2.1 (by omega)) l_X9_251 S_X9_homesOf rfl (rm_ok (by decide) (by decide)) rfl rfl (Nat.le_of_ble_eq_true rfl) ?_
  refine V_csIe (av := [.int (nI (mkN (ofF A g) (A 1)))]) (st := [.int (nI g)]) e_X9_markOf_74 (c_X9_bits E (mkN (ofF A g) (A 1)) (tmL 0 (l ++ [22, 21, 20]) σ) (by have := mk_ofF (g := g) hF.2.2.1; omega)) l_X9_248 S_X9_bits (rm_ok (by decide) (by decide)) rfl rfl (Nat.le_of_ble_eq_true rfl) ?_
  refine V_iadd e_X9_markOf_77 ?_
  refine V_istore_n (L' := [some (.ref (eB E + 292)), some (.int (nI g)), some (.int (nI 3)), some (.int ((nI g) + (nI (hoF A g))))]) e_X9_markOf_78 rfl rfl ?_
  refine V_iload_n e_X9_markOf_79 rfl rfl ?_
  refine V_iconst (v := nI 1) e_X9_markOf_80 (by decide) ?_
  refine V_icmp_ne (tgt := 88) e_X9_markOf_81 (by decide) (fun c4 => ?_) (fun c4 => absurd c4 (by decide))
  refine V_iload_n e_X9_markOf_88 rfl rfl ?_
  refine V_iconst (v := nI 3) e_X9_markOf_89 (by decide) ?_
  refine V_icmp_ne (tgt := 101) e_X9_markOf_90 (by decide) (fun c5 => absurd c5 (by decide)) (fun c5 => ?_)
  refine V_iload_n e_X9_markOf_93 rfl rfl ?_
  refine V_sipush (v := nI 1000) e_X9_markOf_94 (by decide) ?_
  refine V_isub e_X9_markOf_97 ?_
  refine V_goto (tgt := 104) e_X9_markOf_98 (by decide) ?_
  exact V_iret e_X9_markOf_104 rfl (⟨rfl, by first | rfl | exact imul_c _ _ | (rw [imul_c]; rfl) | (rw [imul_c (nI 2)]) | simp⟩)
set_option maxRecDepth 100000 in
set_option maxHeartbeats 4000000 in
theorem c_X9_markOf_4 (E : En) (g : Nat) (l : List Nat) (A : Vec) (σ : Sg) (hM : RepM σ 296 A) (hF : WF A) (hg : g < A 0) (ht : σ 292 25 = nI 0) (hl : l.length + 4 ≤ 16) (hk : A (7 + 3 * g) = 4) : Cn E m_X9_markOf 4 [.ref (eB E + 292), .int (nI g)] (tmL 0 l σ) (pI (fun σ' r => σ' = tmL 0 (l ++ [23, 20, 13, 10]) σ ∧ r = nI g - (nI (A (8 + 3 * g)) - nI 100))) := by
  have hG6 := hF.1.2.1
  refine Cn.of [some (.ref (eB E + 292)), some (.int (nI g)), none, none] (by decide) (Nat.le_of_ble_eq_true rfl) rfl ?_
  refine V_aload_n e_X9_markOf_0 rfl rfl ?_
  refine V_getr (r := 296) e_X9_markOf_1 F_X9_shore f_X9_19 rfl rfl ?_
  refine V_iload_n e_X9_markOf_4 rfl rfl ?_
  refine V_iconst (v := nI 0) e_X9_markOf_5 (by decide) ?_
  refine V_csIe (av := [.ref (eB E + 296), .int (nI g), .int (nI 0)]) (st := []) e_X9_markOf_6 (c_X9_ofR_0 E 296 g A (tmL 0 l σ) rfl rfl (tmL_M hM) (by omega)) l_X9_162 S_X9_of (rm_ok (by decide) (by decide)) rfl rfl (Nat.le_of_ble_eq_true rfl) ?_
  refine V_topi (y := nI 4) (congrArg nI hk) ?_
  refine V_istore_n (L' := [some (.ref (eB E + 292)), some (.int (nI g)), some (.int (nI 4)), none]) e_X9_markOf_9 rfl rfl ?_
  refine V_iload_n e_X9_markOf_10 rfl rfl ?_
  refine V_iconst (v := nI 4) e_X9_markOf_11 (by decide) ?_
  refine V_icmp_lt (tgt := 35) e_X9_markOf_12 (by decide) (fun c1 => absurd c1 (by decide)) (fun c1 => ?_)
  refine V_aload_n e_X9_markOf_15 rfl rfl ?_
  refine V_bipush (v := nI 23) e_X9_markOf_16 (by decide) ?_
  refine V_cvV (av := [.int (nI 23)]) (st := []) e_X9_markOf_18 (c_X9_began E 23 l σ ht (by first | (simp; omega) | omega | simp)) l_X9_286 S_X9_began rfl (rm_ok (by decide) (by decide)) rfl rfl (Nat.le_of_ble_eq_true rfl) ?_
  intro τ9 hτ9
  rw [show τ9 = tmL 0 (l ++ [23]) σ from hτ9.trans (by simp)]
  clear hτ9
  refine V_aload_n e_X9_markOf_21 rfl rfl ?_
  refine V_bipush (v := nI 20) e_X9_markOf_22 (by decide) ?_
  refine V_cvV (av := [.int (nI 20)]) (st := []) e_X9_markOf_24 (c_X9_began E 20 (l ++ [23]) σ ht (by first | (simp; omega) | omega | simp)) l_X9_286 S_X9_began rfl (rm_ok (by decide) (by decide)) rfl rfl (Nat.le_of_ble_eq_true rfl) ?_
  intro τ9 hτ9
  rw [show τ9 = tmL 0 (l ++ [23, 20]) σ from hτ9.trans (by simp)]
  clear hτ9
  refine V_iload_n e_X9_markOf_27 rfl rfl ?_
  refine V_aload_n e_X9_markOf_28 rfl rfl ?_
  refine V_iload_n e_X9_markOf_29 rfl rfl ?_
  refine V_cvI (av := [.int (nI g)]) (st := [.int (nI g)]) e_X9_markOf_30 (c_X9_openSize_4 E g (l ++ [23, 20]) A σ hM hF hg ht (by first | (simp; omega) | omega | simp) hk) l_X9_292 S_X9_openSize rfl (rm_ok (by decide) (by decide)) rfl rfl (Nat.le_of_ble_eq_true rfl) ?_
  intro τ9 r9 hτ9
  rw [show τ9 = tmL 0 (l ++ [23, 20, 13, 10]) σ from hτ9.1.trans (by simp)]
  rw [show r9 = nI (A (8 + 3 * g)) - nI 100 from hτ9.2]
  clear hτ9
  refine V_isub e_X9_markOf_33 ?_
  exact V_iret e_X9_markOf_34 rfl (⟨rfl, by first | rfl | exact imul_c _ _ | (rw [imul_c]; rfl) | (rw [imul_c (nI 2)]) | simp⟩)
set_option maxRecDepth 100000 in
set_option maxHeartbeats 4000000 in
theorem c_X9_markOf_5 (E : En) (g : Nat) (l : List Nat) (A : Vec) (σ : Sg) (hM : RepM σ 296 A) (hF : WF A) (hg : g < A 0) (ht : σ 292 25 = nI 0) (hl : l.length + 5 ≤ 16) (hk : A (7 + 3 * g) = 5) : Cn E m_X9_markOf 4 [.ref (eB E + 292), .int (nI g)] (tmL 0 l σ) (pI (fun σ' r => σ' = tmL 0 (l ++ [23, 20, 14, 13, 10]) σ ∧ r = nI g - ((nI (A (8 + 3 * g)) - nI 100) * nI 2))) := by
  have hG6 := hF.1.2.1
  refine Cn.of [some (.ref (eB E + 292)), some (.int (nI g)), none, none] (by decide) (Nat.le_of_ble_eq_true rfl) rfl ?_
  refine V_aload_n e_X9_markOf_0 rfl rfl ?_
  refine V_getr (r := 296) e_X9_markOf_1 F_X9_shore f_X9_19 rfl rfl ?_
  refine V_iload_n e_X9_markOf_4 rfl rfl ?_
  refine V_iconst (v := nI 0) e_X9_markOf_5 (by decide) ?_
  refine V_csIe (av := [.ref (eB E + 296), .int (nI g), .int (nI 0)]) (st := []) e_X9_markOf_6 (c_X9_ofR_0 E 296 g A (tmL 0 l σ) rfl rfl (tmL_M hM) (by omega)) l_X9_162 S_X9_of (rm_ok (by decide) (by decide)) rfl rfl (Nat.le_of_ble_eq_true rfl) ?_
  refine V_topi (y := nI 5) (congrArg nI hk) ?_
  refine V_istore_n (L' := [some (.ref (eB E + 292)), some (.int (nI g)), some (.int (nI 5)), none]) e_X9_markOf_9 rfl rfl ?_
  refine V_iload_n e_X9_markOf_10 rfl rfl ?_
  refine V_iconst (v := nI 4) e_X9_markOf_11 (by decide) ?_
  refine V_icmp_lt (tgt := 35) e_X9_markOf_12 (by decide) (fun c1 => absurd c1 (by decide)) (fun c1 => ?_)
  refine V_aload_n e_X9_markOf_15 rfl rfl ?_
  refine V_bipush (v := nI 23) e_X9_markOf_16 (by decide) ?_
  refine V_cvV (av := [.int (nI 23)]) (st := []) e_X9_markOf_18 (c_X9_began E 23 l σ ht (by first | (simp; omega) | omega | simp)) l_X9_286 S_X9_began rfl (rm_ok (by decide) (by decide)) rfl rfl (Nat.le_of_ble_eq_true rfl) ?_
  intro τ9 hτ9
  rw [show τ9 = tmL 0 (l ++ [23]) σ from hτ9.trans (by simp)]
  clear hτ9
  refine V_aload_n e_X9_markOf_21 rfl rfl ?_
  refine V_bipush (v := nI 20) e_X9_markOf_22 (by decide) ?_
  refine V_cvV (av := [.int (nI 20)]) (st := []) e_X9_markOf_24 (c_X9_began E 20 (l ++ [23]) σ ht (by first | (simp; omega) | omega | simp)) l_X9_286 S_X9_began rfl (rm_ok (by decide) (by decide)) rfl rfl (Nat.le_of_ble_eq_true rfl) ?_
  intro τ9 hτ9
  rw [show τ9 = tmL 0 (l ++ [23, 20]) σ from hτ9.trans (by simp)]
  clear hτ9
  refine V_iload_n e_X9_markOf_27 rfl rfl ?_
  refine V_aload_n e_X9_markOf_28 rfl rfl ?_
  refine V_iload_n e_X9_markOf_29 rfl rfl ?_
  refine V_cvI (av := [.int (nI g)]) (st := [.int (nI g)]) e_X9_markOf_30 (c_X9_openSize_5 E g (l ++ [23, 20]) A σ hM hF hg ht (by first | (simp; omega) | omega | simp) hk) l_X9_292 S_X9_openSize rfl (rm_ok (by decide) (by decide)) rfl rfl (Nat.le_of_ble_eq_true rfl) ?_
  intro τ9 r9 hτ9
  rw [show τ9 = tmL 0 (l ++ [23, 20, 14, 13, 10]) σ from hτ9.1.trans (by simp)]
  rw [show r9 = (nI (A (8 + 3 * g)) - nI 100) * nI 2 from hτ9.2]
  clear hτ9
  refine V_isub e_X9_markOf_33 ?_
  exact V_iret e_X9_markOf_34 rfl (⟨rfl, by first | rfl | exact imul_c _ _ | (rw [imul_c]; rfl) | (rw [imul_c (nI 2)]) | simp⟩)
set_option maxRecDepth 100000 in
set_option maxHeartbeats 4000000 in
theorem c_X9_sizeOf_1 (E : En) (g : Nat) (l : List Nat) (A : Vec) (σ : Sg) (hM : RepM σ 296 A) (hF : WF A) (hg : g < A 0) (ht : σ 292 25 = nI 0) (hl : l.length + 4 ≤ 16) (hk : A (7 + 3 * g) = 1) : Cn E m_X9_sizeOf 5 [.ref (eB E + 292), .int (nI g)] (tmL 0 l σ) (pI (fun σ' r => σ' = tmL 0 (l ++ [11, 10, 21, 20]) σ ∧ r = nI (A (8 + 3 * g)) + ((nI g + nI (hoF A g))))) := by
  have hG6 := hF.1.2.1
  refine Cn.of [some (.ref (eB E + 292)), some (.int (nI g)), none, none] (by decide) (Nat.le_of_ble_eq_true rfl) rfl ?_
  refine V_aload_n e_X9_sizeOf_0 rfl rfl ?_
  refine V_getr (r := 296) e_X9_sizeOf_1 F_X9_shore f_X9_19 rfl rfl ?_
  refine V_iload_n e_X9_sizeOf_4 rfl rfl ?_
  refine V_iconst (v := nI 0) e_X9_sizeOf_5 (by decide) ?_
  refine V_csIe (av := [.ref (eB E + 296), .int (nI g), .int (nI 0)]) (st := []) e_X9_sizeOf_6 (c_X9_ofR_0 E 296 g A (tmL 0 l σ) rfl rfl (tmL_M hM) (by omega)) l_X9_162 S_X9_of (rm_ok (by decide) (by decide)) rfl rfl (Nat.le_of_ble_eq_true rfl) ?_
  refine V_topi (y := nI 1) (congrArg nI hk) ?_
  refine V_istore_n (L' := [some (.ref (eB E + 292)), some (.int (nI g)), some (.int (nI 1)), none]) e_X9_sizeOf_9 rfl rfl ?_
  refine V_iload_n e_X9_sizeOf_10 rfl rfl ?_
  refine V_iconst (v := nI 4) e_X9_sizeOf_11 (by decide) ?_
  refine V_icmp_lt (tgt := 21) e_X9_sizeOf_12 (by decide) (fun c1 => ?_) (fun c1 => absurd c1 (by decide))
  refine V_iload_n e_X9_sizeOf_21 rfl rfl ?_
  refine V_iconst (v := nI 2) e_X9_sizeOf_22 (by decide) ?_
  refine V_icmp_ne (tgt := 32) e_X9_sizeOf_23 (by decide) (fun c2 => ?_) (fun c2 => absurd c2 (by decide))
  refine V_aload_n e_X9_sizeOf_32 rfl rfl ?_
  refine V_bipush (v := nI 11) e_X9_sizeOf_33 (by decide) ?_
  refine V_cvV (av := [.int (nI 11)]) (st := []) e_X9_sizeOf_35 (c_X9_began E 11 l σ ht (by first | (simp; omega) | omega | simp)) l_X9_286 S_X9_began rfl (rm_ok (by decide) (by decide)) rfl rfl (Nat.le_of_ble_eq_true rfl) ?_
  intro τ9 hτ9
  rw [show τ9 = tmL 0 (l ++ [11]) σ from hτ9.trans (by simp)]
  clear hτ9
  refine V_aload_n e_X9_sizeOf_38 rfl rfl ?_
  refine V_iload_n e_X9_sizeOf_39 rfl rfl ?_
  refine V_cvI (av := [.int (nI g)]) (st := []) e_X9_sizeOf_40 (c_X9_plainSize E g (l ++ [11]) A σ hM hF hg ht (by first | (simp; omega) | omega | simp)) l_X9_289 S_X9_plainSize rfl (rm_ok (by decide) (by decide)) rfl rfl (Nat.le_of_ble_eq_true rfl) ?_
  intro τ9 r9 hτ9
  rw [show τ9 = tmL 0 (l ++ [11, 10]) σ from hτ9.1.trans (by simp)]
  rw [show r9 = nI (A (8 + 3 * g)) from hτ9.2]
  clear hτ9
  refine V_istore_n (L' := [some (.ref (eB E + 292)), some (.int (nI g)), some (.int (nI 1)), some (.int (nI (A (8 + 3 * g))))]) e_X9_sizeOf_43 rfl rfl ?_
  refine V_iload_n e_X9_sizeOf_44 rfl rfl ?_
  refine V_aload_n e_X9_sizeOf_45 rfl rfl ?_
  refine V_iload_n e_X9_sizeOf_46 rfl rfl ?_
  refine V_cvI (av := [.int (nI g)]) (st := [.int (nI (A (8 + 3 * g)))]) e_X9_sizeOf_47 (c_X9_markOf_1 E g (l ++ [11, 10]) A σ hM hF hg ht (by first | (simp; omega) | omega | simp) hk) l_X9_295 S_X9_markOf rfl (rm_ok (by decide) (by decide)) rfl rfl (Nat.le_of_ble_eq_true rfl) ?_
  intro τ9 r9 hτ9
  rw [show τ9 = tmL 0 (l ++ [11, 10, 21, 20]) σ from hτ9.1.trans (by simp)]
  rw [show r9 = (nI g + nI (hoF A g)) from hτ9.2]
  clear hτ9
  refine V_iadd e_X9_sizeOf_50 ?_
  refine V_istore_n (L' := [some (.ref (eB E + 292)), some (.int (nI g)), some (.int (nI 1)), some (.int ((nI (A (8 + 3 * g))) + (nI g + nI (hoF A g))))]) e_X9_sizeOf_51 rfl rfl ?_
  refine V_iload_n e_X9_sizeOf_52 rfl rfl ?_
  refine V_iconst (v := nI 2) e_X9_sizeOf_53 (by decide) ?_
  refine V_icmp_ne (tgt := 62) e_X9_sizeOf_54 (by decide) (fun c3 => ?_) (fun c3 => absurd c3 (by decide))
  refine V_iload_n e_X9_sizeOf_62 rfl rfl ?_
  exact V_iret e_X9_sizeOf_63 rfl (⟨rfl, by first | rfl | exact imul_c _ _ | (rw [imul_c]; rfl) | (rw [imul_c (nI 2)]) | simp⟩)
set_option maxRecDepth 100000 in
set_option maxHeartbeats 4000000 in
theorem c_X9_sizeOf_2 (E : En) (g : Nat) (l : List Nat) (A : Vec) (σ : Sg) (hM : RepM σ 296 A) (hF : WF A) (hg : g < A 0) (ht : σ 292 25 = nI 0) (hl : l.length + 6 ≤ 16) (hk : A (7 + 3 * g) = 2) : Cn E m_X9_sizeOf 5 [.ref (eB E + 292), .int (nI g)] (tmL 0 l σ) (pI (fun σ' r => σ' = tmL 0 (l ++ [12, 11, 10, 24, 21, 20]) σ ∧ r = -(nI (A (8 + 3 * g)) + ((nI g + nI (hoF A g)) * nI 2)))) := by
  have hG6 := hF.1.2.1
  refine Cn.of [some (.ref (eB E + 292)), some (.int (nI g)), none, none] (by decide) (Nat.le_of_ble_eq_true rfl) rfl ?_
  refine V_aload_n e_X9_sizeOf_0 rfl rfl ?_
  refine V_getr (r := 296) e_X9_sizeOf_1 F_X9_shore f_X9_19 rfl rfl ?_
  refine V_iload_n e_X9_sizeOf_4 rfl rfl ?_
  refine V_iconst (v := nI 0) e_X9_sizeOf_5 (by decide) ?_
  refine V_csIe (av := [.ref (eB E + 296), .int (nI g), .int (nI 0)]) (st := []) e_X9_sizeOf_6 (c_X9_ofR_0 E 296 g A (tmL 0 l σ) rfl rfl (tmL_M hM) (by omega)) l_X9_162 S_X9_of (rm_ok (by decide) (by decide)) rfl rfl (Nat.le_of_ble_eq_true rfl) ?_
  refine V_topi (y := nI 2) (congrArg nI hk) ?_
  refine V_istore_n (L' := [some (.ref (eB E + 292)), some (.int (nI g)), some (.int (nI 2)), none]) e_X9_sizeOf_9 rfl rfl ?_
  refine V_iload_n e_X9_sizeOf_10 rfl rfl ?_
  refine V_iconst (v := nI 4) e_X9_sizeOf_11 (by decide) ?_
  refine V_icmp_lt (tgt := 21) e_X9_sizeOf_12 (by decide) (fun c1 => ?_) (fun c1 => absurd c1 (by decide))
  refine V_iload_n e_X9_sizeOf_21 rfl rfl ?_
  refine V_iconst (v := nI 2) e_X9_sizeOf_22 (by decide) ?_
  refine V_icmp_ne (tgt := 32) e_X9_sizeOf_23 (by decide) (fun c2 => absurd c2 (by decide)) (fun c2 => ?_)
  refine V_aload_n e_X9_sizeOf_26 rfl rfl ?_
  refine V_bipush (v := nI 12) e_X9_sizeOf_27 (by decide) ?_
  refine V_cvV (av := [.int (nI 12)]) (st := []) e_X9_sizeOf_29 (c_X9_began E 12 l σ ht (by first | (simp; omega) | omega | simp)) l_X9_286 S_X9_began rfl (rm_ok (by decide) (by decide)) rfl rfl (Nat.le_of_ble_eq_true rfl) ?_
  intro τ9 hτ9
  rw [show τ9 = tmL 0 (l ++ [12]) σ from hτ9.trans (by simp)]
  clear hτ9
  refine V_aload_n e_X9_sizeOf_32 rfl rfl ?_
  refine V_bipush (v := nI 11) e_X9_sizeOf_33 (by decide) ?_
  refine V_cvV (av := [.int (nI 11)]) (st := []) e_X9_sizeOf_35 (c_X9_began E 11 (l ++ [12]) σ ht (by first | (simp; omega) | omega | simp)) l_X9_286 S_X9_began rfl (rm_ok (by decide) (by decide)) rfl rfl (Nat.le_of_ble_eq_true rfl) ?_
  intro τ9 hτ9
  rw [show τ9 = tmL 0 (l ++ [12, 11]) σ from hτ9.trans (by simp)]
  clear hτ9
  refine V_aload_n e_X9_sizeOf_38 rfl rfl ?_
  refine V_iload_n e_X9_sizeOf_39 rfl rfl ?_
  refine V_cvI (av := [.int (nI g)]) (st := []) e_X9_sizeOf_40 (c_X9_plainSize E g (l ++ [12, 11]) A σ hM hF hg ht (by first | (simp; omega) | omega | simp)) l_X9_289 S_X9_plainSize rfl (rm_ok (by decide) (by decide)) rfl rfl (Nat.le_of_ble_eq_true rfl) ?_
  intro τ9 r9 hτ9
  rw [show τ9 = tmL 0 (l ++ [12, 11, 10]) σ from hτ9.1.trans (by simp)]
  rw [show r9 = nI (A (8 + 3 * g)) from hτ9.2]
  clear hτ9
  refine V_istore_n (L' := [some (.ref (eB E + 292)), some (.int (nI g)), some (.int (nI 2)), some (.int (nI (A (8 + 3 * g))))]) e_X9_sizeOf_43 rfl rfl ?_
  refine V_iload_n e_X9_sizeOf_44 rfl rfl ?_
  refine V_aload_n e_X9_sizeOf_45 rfl rfl ?_
  refine V_iload_n e_X9_sizeOf_46 rfl rfl ?_
  refine V_cvI (av := [.int (nI g)]) (st := [.int (nI (A (8 + 3 * g)))]) e_X9_sizeOf_47 (c_X9_markOf_2 E g (l ++ [12, 11, 10]) A σ hM hF hg ht (by first | (simp; omega) | omega | simp) hk) l_X9_295 S_X9_markOf rfl (rm_ok (by decide) (by decide)) rfl rfl (Nat.le_of_ble_eq_true rfl) ?_
  intro τ9 r9 hτ9
  rw [show τ9 = tmL 0 (l ++ [12, 11, 10, 24, 21, 20]) σ from hτ9.1.trans (by simp)]
  rw [show r9 = (nI g + nI (hoF A g)) * nI 2 from hτ9.2]
  clear hτ9
  refine V_iadd e_X9_sizeOf_50 ?_
  refine V_istore_n (L' := [some (.ref (eB E + 292)), some (.int (nI g)), some (.int (nI 2)), some (.int ((nI (A (8 + 3 * g))) + ((nI g + nI (hoF A g)) * nI 2)))]) e_X9_sizeOf_51 rfl rfl ?_
  refine V_iload_n e_X9_sizeOf_52 rfl rfl ?_
  refine V_iconst (v := nI 2) e_X9_sizeOf_53 (by decide) ?_
  refine V_icmp_ne (tgt := 62) e_X9_sizeOf_54 (by decide) (fun c3 => absurd c3 (by decide)) (fun c3 => ?_)
  refine V_iload_n e_X9_sizeOf_57 rfl rfl ?_
  refine V_ineg e_X9_sizeOf_58 ?_
  refine V_goto (tgt := 63) e_X9_sizeOf_59 (by decide) ?_
  exact V_iret e_X9_sizeOf_63 rfl (⟨rfl, by first | rfl | exact imul_c _ _ | (rw [imul_c]; rfl) | (rw [imul_c (nI 2)]) | simp⟩)
set_option maxRecDepth 100000 in
set_option maxHeartbeats 4000000 in
theorem c_X9_sizeOf_3 (E : En) (g : Nat) (l : List Nat) (A : Vec) (σ : Sg) (hM : RepM σ 296 A) (hF : WF A) (hg : g < A 0) (ht : σ 292 25 = nI 0) (hl : l.length + 5 ≤ 16) (hk : A (7 + 3 * g) = 3) : Cn E m_X9_sizeOf 5 [.ref (eB E + 292), .int (nI g)] (tmL 0 l σ) (pI (fun σ' r => σ' = tmL 0 (l ++ [11, 10, 22, 21, 20]) σ ∧ r = nI (A (8 + 3 * g)) + ((nI g + nI (hoF A g)) - nI 1000))) := by
  have hG6 := hF.1.2.1
  refine Cn.of [some (.ref (eB E + 292)), some (.int (nI g)), none, none] (by decide) (Nat.le_of_ble_eq_true rfl) rfl ?_
  refine V_aload_n e_X9_sizeOf_0 rfl rfl ?_
  refine V_getr (r := 296) e_X9_sizeOf_1 F_X9_shore f_X9_19 rfl rfl ?_
  refine V_iload_n e_X9_sizeOf_4 rfl rfl ?_
  refine V_iconst (v := nI 0) e_X9_sizeOf_5 (by decide) ?_
  refine V_csIe (av := [.ref (eB E + 296), .int (nI g), .int (nI 0)]) (st := []) e_X9_sizeOf_6 (c_X9_ofR_0 E 296 g A (tmL 0 l σ) rfl rfl (tmL_M hM) (by omega)) l_X9_162 S_X9_of (rm_ok (by decide) (by decide)) rfl rfl (Nat.le_of_ble_eq_true rfl) ?_
  refine V_topi (y := nI 3) (congrArg nI hk) ?_
  refine V_istore_n (L' := [some (.ref (eB E + 292)), some (.int (nI g)), some (.int (nI 3)), none]) e_X9_sizeOf_9 rfl rfl ?_
  refine V_iload_n e_X9_sizeOf_10 rfl rfl ?_
  refine V_iconst (v := nI 4) e_X9_sizeOf_11 (by decide) ?_
  refine V_icmp_lt (tgt := 21) e_X9_sizeOf_12 (by decide) (fun c1 => ?_) (fun c1 => absurd c1 (by decide))
  refine V_iload_n e_X9_sizeOf_21 rfl rfl ?_
  refine V_iconst (v := nI 2) e_X9_sizeOf_22 (by decide) ?_
  refine V_icmp_ne (tgt := 32) e_X9_sizeOf_23 (by decide) (fun c2 => ?_) (fun c2 => absurd c2 (by decide))
  refine V_aload_n e_X9_sizeOf_32 rfl rfl ?_
  refine V_bipush (v := nI 11) e_X9_sizeOf_33 (by decide) ?_
  refine V_cvV (av := [.int (nI 11)]) (st := []) e_X9_sizeOf_35 (c_X9_began E 11 l σ ht (by first | (simp; omega) | omega | simp)) l_X9_286 S_X9_began rfl (rm_ok (by decide) (by decide)) rfl rfl (Nat.le_of_ble_eq_true rfl) ?_
  intro τ9 hτ9
  rw [show τ9 = tmL 0 (l ++ [11]) σ from hτ9.trans (by simp)]
  clear hτ9
  refine V_aload_n e_X9_sizeOf_38 rfl rfl ?_
  refine V_iload_n e_X9_sizeOf_39 rfl rfl ?_
  refine V_cvI (av := [.int (nI g)]) (st := []) e_X9_sizeOf_40 (c_X9_plainSize E g (l ++ [11]) A σ hM hF hg ht (by first | (simp; omega) | omega | simp)) l_X9_289 S_X9_plainSize rfl (rm_ok (by decide) (by decide)) rfl rfl (Nat.le_of_ble_eq_true rfl) ?_
  intro τ9 r9 hτ9
  rw [show τ9 = tmL 0 (l ++ [11, 10]) σ from hτ9.1.trans (by simp)]
  rw [show r9 = nI (A (8 + 3 * g)) from hτ9.2]
  clear hτ9
  refine V_istore_n (L' := [some (.ref (eB E + 292)), some (.int (nI g)), some (.int (nI 3)), some (.int (nI (A (8 + 3 * g))))]) e_X9_sizeOf_43 rfl rfl ?_
  refine V_iload_n e_X9_sizeOf_44 rfl rfl ?_
  refine V_aload_n e_X9_sizeOf_45 rfl rfl ?_
  refine V_iload_n e_X9_sizeOf_46 rfl rfl ?_
  refine V_cvI (av := [.int (nI g)]) (st := [.int (nI (A (8 + 3 * g)))]) e_X9_sizeOf_47 (c_X9_markOf_3 E g (l ++ [11, 10]) A σ hM hF hg ht (by first | (simp; omega) | omega | simp) hk) l_X9_295 S_X9_markOf rfl (rm_ok (by decide) (by decide)) rfl rfl (Nat.le_of_ble_eq_true rfl) ?_
  intro τ9 r9 hτ9
  rw [show τ9 = tmL 0 (l ++ [11, 10, 22, 21, 20]) σ from hτ9.1.trans (by simp)]
  rw [show r9 = (nI g + nI (hoF A g)) - nI 1000 from hτ9.2]
  clear hτ9
  refine V_iadd e_X9_sizeOf_50 ?_
  refine V_istore_n (L' := [some (.ref (eB E + 292)), some (.int (nI g)), some (.int (nI 3)), some (.int ((nI (A (8 + 3 * g))) + ((nI g + nI (hoF A g)) - nI 1000)))]) e_X9_sizeOf_51 rfl rfl ?_
  refine V_iload_n e_X9_sizeOf_52 rfl rfl ?_
  refine V_iconst (v := nI 2) e_X9_sizeOf_53 (by decide) ?_
  refine V_icmp_ne (tgt := 62) e_X9_sizeOf_54 (by decide) (fun c3 => ?_) (fun c3 => absurd c3 (by decide))
  refine V_iload_n e_X9_sizeOf_62 rfl rfl ?_
  exact V_iret e_X9_sizeOf_63 rfl (⟨rfl, by first | rfl | exact imul_c _ _ | (rw [imul_c]; rfl) | (rw [imul_c (nI 2)]) | simp⟩)
set_option maxRecDepth 100000 in
set_option maxHeartbeats 4000000 in
theorem c_X9_sizeOf_4 (E : En) (g : Nat) (l : List Nat) (A : Vec) (σ : Sg) (hM : RepM σ 296 A) (hF : WF A) (hg : g < A 0) (ht : σ 292 25 = nI 0) (hl : l.length + 2 ≤ 16) (hk : A (7 + 3 * g) = 4) : Cn E m_X9_sizeOf 5 [.ref (eB E + 292), .int (nI g)] (tmL 0 l σ) (pI (fun σ' r => σ' = tmL 0 (l ++ [13, 10]) σ ∧ r = nI (A (8 + 3 * g)) - nI 100)) := by
  have hG6 := hF.1.2.1
  refine Cn.of [some (.ref (eB E + 292)), some (.int (nI g)), none, none] (by decide) (Nat.le_of_ble_eq_true rfl) rfl ?_
  refine V_aload_n e_X9_sizeOf_0 rfl rfl ?_
  refine V_getr (r := 296) e_X9_sizeOf_1 F_X9_shore f_X9_19 rfl rfl ?_
  refine V_iload_n e_X9_sizeOf_4 rfl rfl ?_
  refine V_iconst (v := nI 0) e_X9_sizeOf_5 (by decide) ?_
  refine V_csIe (av := [.ref (eB E + 296), .int (nI g), .int (nI 0)]) (st := []) e_X9_sizeOf_6 (c_X9_ofR_0 E 296 g A (tmL 0 l σ) rfl rfl (tmL_M hM) (by omega)) l_X9_162 S_X9_of (rm_ok (by decide) (by decide)) rfl rfl (Nat.le_of_ble_eq_true rfl) ?_
  refine V_topi (y := nI 4) (congrArg nI hk) ?_
  refine V_istore_n (L' := [some (.ref (eB E + 292)), some (.int (nI g)), some (.int (nI 4)), none]) e_X9_sizeOf_9 rfl rfl ?_
  refine V_iload_n e_X9_sizeOf_10 rfl rfl ?_
  refine V_iconst (v := nI 4) e_X9_sizeOf_11 (by decide) ?_
  refine V_icmp_lt (tgt := 21) e_X9_sizeOf_12 (by decide) (fun c1 => absurd c1 (by decide)) (fun c1 => ?_)
  refine V_aload_n e_X9_sizeOf_15 rfl rfl ?_
  refine V_iload_n e_X9_sizeOf_16 rfl rfl ?_
  refine V_cvI (av := [.int (nI g)]) (st := []) e_X9_sizeOf_17 (c_X9_openSize_4 E g l A σ hM hF hg ht (by first | (simp; omega) | omega | simp) hk) l_X9_292 S_X9_openSize rfl (rm_ok (by decide) (by decide)) rfl rfl (Nat.le_of_ble_eq_true rfl) ?_
  intro τ9 r9 hτ9
  rw [show τ9 = tmL 0 (l ++ [13, 10]) σ from hτ9.1.trans (by simp)]
  rw [show r9 = nI (A (8 + 3 * g)) - nI 100 from hτ9.2]
  clear hτ9
  exact V_iret e_X9_sizeOf_20 rfl (⟨rfl, by first | rfl | exact imul_c _ _ | (rw [imul_c]; rfl) | (rw [imul_c (nI 2)]) | simp⟩)
set_option maxRecDepth 100000 in
set_option maxHeartbeats 4000000 in
theorem c_X9_sizeOf_5 (E : En) (g : Nat) (l : List Nat) (A : Vec) (σ : Sg) (hM : RepM σ 296 A) (hF : WF A) (hg : g < A 0) (ht : σ 292 25 = nI 0) (hl : l.length + 3 ≤ 16) (hk : A (7 + 3 * g) = 5) : Cn E m_X9_sizeOf 5 [.ref (eB E + 292), .int (nI g)] (tmL 0 l σ) (pI (fun σ' r => σ' = tmL 0 (l ++ [14, 13, 10]) σ ∧ r = (nI (A (8 + 3 * g)) - nI 100) * nI 2)) := by
  have hG6 := hF.1.2.1
  refine Cn.of [some (.ref (eB E + 292)), some (.int (nI g)), none, none] (by decide) (Nat.le_of_ble_eq_true rfl) rfl ?_
  refine V_aload_n e_X9_sizeOf_0 rfl rfl ?_
  refine V_getr (r := 296) e_X9_sizeOf_1 F_X9_shore f_X9_19 rfl rfl ?_
  refine V_iload_n e_X9_sizeOf_4 rfl rfl ?_
  refine V_iconst (v := nI 0) e_X9_sizeOf_5 (by decide) ?_
  refine V_csIe (av := [.ref (eB E + 296), .int (nI g), .int (nI 0)]) (st := []) e_X9_sizeOf_6 (c_X9_ofR_0 E 296 g A (tmL 0 l σ) rfl rfl (tmL_M hM) (by omega)) l_X9_162 S_X9_of (rm_ok (by decide) (by decide)) rfl rfl (Nat.le_of_ble_eq_true rfl) ?_
  refine V_topi (y := nI 5) (congrArg nI hk) ?_
  refine V_istore_n (L' := [some (.ref (eB E + 292)), some (.int (nI g)), some (.int (nI 5)), none]) e_X9_sizeOf_9 rfl rfl ?_
  refine V_iload_n e_X9_sizeOf_10 rfl rfl ?_
  refine V_iconst (v := nI 4) e_X9_sizeOf_11 (by decide) ?_
  refine V_icmp_lt (tgt := 21) e_X9_sizeOf_12 (by decide) (fun c1 => absurd c1 (by decide)) (fun c1 => ?_)
  refine V_aload_n e_X9_sizeOf_15 rfl rfl ?_
  refine V_iload_n e_X9_sizeOf_16 rfl rfl ?_
  refine V_cvI (av := [.int (nI g)]) (st := []) e_X9_sizeOf_17 (c_X9_openSize_5 E g l A σ hM hF hg ht (by first | (simp; omega) | omega | simp) hk) l_X9_292 S_X9_openSize rfl (rm_ok (by decide) (by decide)) rfl rfl (Nat.le_of_ble_eq_true rfl) ?_
  intro τ9 r9 hτ9
  rw [show τ9 = tmL 0 (l ++ [14, 13, 10]) σ from hτ9.1.trans (by simp)]
  rw [show r9 = (nI (A (8 + 3 * g)) - nI 100) * nI 2 from hτ9.2]
  clear hτ9
  exact V_iret e_X9_sizeOf_20 rfl (⟨rfl, by first | rfl | exact imul_c _ _ | (rw [imul_c]; rfl) | (rw [imul_c (nI 2)]) | simp⟩)
theorem c9_size (E : En) (g : Nat) (A : Vec) (σ : Sg) (hM : RepM σ 296 A) (hF : WF A) (hg : g < A 0) (ht : σ 292 25 = nI 0) : Cn E m_X9_sizeOf 5 [.ref (eB E + 292), .int (nI g)] σ (pI (fun σ' r => σ' = tmL 0 (askT (A (7 + 3 * g)) 0) σ ∧ r = askV A g 0)) := by
  have hk := hF.1.2.2.2.2.2.2.2.2 g hg
  rcases (show A (7 + 3 * g) = 1 ∨ A (7 + 3 * g) = 2 ∨ A (7 + 3 * g) = 3 ∨ A (7 + 3 * g) = 4 ∨ A (7 + 3 * g) = 5 by omega) with h | h | h | h | h <;> unfold askV <;> rw [h]
  · exact c_X9_sizeOf_1 E g [] A σ hM hF hg ht (by decide) h
  · exact c_X9_sizeOf_2 E g [] A σ hM hF hg ht (by decide) h
  · exact c_X9_sizeOf_3 E g [] A σ hM hF hg ht (by decide) h
  · exact c_X9_sizeOf_4 E g [] A σ hM hF hg ht (by decide) h
  · exact c_X9_sizeOf_5 E g [] A σ hM hF hg ht (by decide) h
theorem c9_mark (E : En) (g : Nat) (A : Vec) (σ : Sg) (hM : RepM σ 296 A) (hF : WF A) (hg : g < A 0) (ht : σ 292 25 = nI 0) : Cn E m_X9_markOf 4 [.ref (eB E + 292), .int (nI g)] σ (pI (fun σ' r => σ' = tmL 0 (askT (A (7 + 3 * g)) 1) σ ∧ r = askV A g 1)) := by
  have hk := hF.1.2.2.2.2.2.2.2.2 g hg
  rcases (show A (7 + 3 * g) = 1 ∨ A (7 + 3 * g) = 2 ∨ A (7 + 3 * g) = 3 ∨ A (7 + 3 * g) = 4 ∨ A (7 + 3 * g) = 5 by omega) with h | h | h | h | h <;> unfold askV <;> rw [h]
  · exact c_X9_markOf_1 E g [] A σ hM hF hg ht (by decide) h
  · exact c_X9_markOf_2 E g [] A σ hM hF hg ht (by decide) h
  · exact c_X9_markOf_3 E g [] A σ hM hF hg ht (by decide) h
  · exact c_X9_markOf_4 E g [] A σ hM hF hg ht (by decide) h
  · exact c_X9_markOf_5 E g [] A σ hM hF hg ht (by decide) h
set_option maxRecDepth 100000 in
set_option maxHeartbeats 4000000 in
theorem c9_ask (E : En) (x y : Int32) (A : Vec) (T : AbT) (σ : Sg) (hJ0 : IM σ (A, T)) : Cn E m_X9_ask 12 [.ref (eB E + 292), .int x, .int y] σ (pM σ (oAsk (A, T) x y)) := by
  have hGD : GD A := hJ0.1.1
  have hN : WN A := hGD.1
  have hNl := hN.le
  have hA4 : A 4 ≤ 999 := hGD.2.2
  have hG := hJ0.1
  refine Cn.of [some (.ref (eB E + 292)), some (.int x), some (.int y)] (by decide) (Nat.le_of_ble_eq_true rfl) rfl ?_
  refine V_aload_n e_X9_ask_0 rfl rfl ?_
  refine V_iconst (v := nI 0) e_X9_ask_1 (by decide) ?_
  refine V_puti e_X9_ask_2 F_X9_thrown f_X9_53 rfl ?_
  generalize hτ : up2 σ 292 0 (nI 0) = τ
  have hfb : Fb 292 307 σ τ := hτ ▸ th_fb
  have hJ : IM τ (A, T) := hτ ▸ hJ0.fm Fm.th
  have hM : RepM τ 296 A := hJ.2.1
  refine V_aload_n e_X9_ask_5 rfl rfl ?_
  refine V_iload_n e_X9_ask_6 rfl rfl ?_
  refine V_cvIe (av := [.int x]) (st := []) e_X9_ask_7 (c_X9_isGate E x A τ hM) l_X9_207 S_X9_isGate rfl (rm_ok (by decide) (by decide)) rfl rfl (Nat.le_of_ble_eq_true rfl) ?_
  refine V_if_eq (tgt := 23) e_X9_ask_10 (by decide) (fun c1 => ?_) (fun c1 => ?_)
  · refine V_ldc (v := (-1000001)) e_X9_ask_23 k_X9_73 ?_
    exact V_iret e_X9_ask_25 rfl (by rw [show oAsk (A, T) x y = ((A, T), (-1000001)) from (by unfold oAsk; (try unfold gIn); (try dsimp only); (try (repeat rw [ixN (by omega)])); (first | rw [if_pos c1] | rw [if_neg c1] | skip); try rfl)]; exact ⟨hfb, hJ, rfl⟩)
  · obtain ⟨g, hg, rfl⟩ := (wi_nat (by omega)).mp c1
    have hF : WF A := hN.wf (by omega)
    refine V_iload_n e_X9_ask_13 rfl rfl ?_
    refine V_i2l e_X9_ask_14 ?_
    refine V_lconst (v := lN 0) e_X9_ask_15 (by decide) ?_
    refine V_lconst (v := lN 1) e_X9_ask_16 (by decide) ?_
    refine V_csIe (av := [.long y.toInt64, .long (lN 0), .long (lN 1)]) (st := []) e_X9_ask_17 (c_X9_inN E y (nI 0) (nI 1) (lN 0) (lN 1) τ (nI_l (by omega)) (nI_l (by omega))) l_X9_63 S_X9_in (rm_ok (by decide) (by decide)) rfl rfl (Nat.le_of_ble_eq_true rfl) ?_
    refine V_if_ne (tgt := 26) e_X9_ask_20 (by decide) (fun c2 => ?_) (fun c2 => ?_)
    · obtain ⟨k, hka, hk, rfl⟩ := (wi_le (by omega) (by omega)).mp c2
      refine V_aload_n e_X9_ask_26 rfl rfl ?_
      refine V_iconst (v := nI 0) e_X9_ask_27 (by decide) ?_
      refine V_puti e_X9_ask_28 F_X9_traced f_X9_283 rfl ?_
      refine V_iload_n e_X9_ask_31 rfl rfl ?_
      refine V_if_ne (tgt := 43) e_X9_ask_32 (by decide) (fun c3 => ?_) (fun c3 => ?_)
      · have d3 : ¬ k = 0 := nq_ne (by omega) (by omega) c3
        refine V_aload_n e_X9_ask_43 rfl rfl ?_
        refine V_iload_n e_X9_ask_44 rfl rfl ?_
        refine V_cvIe (av := [.int (nI g)]) (st := []) e_X9_ask_45 (c9_mark E g A (up2 τ 292 25 (nI 0)) (fun k hk => (congrFun (up2_ne (by decide)) k).trans (hM k hk)) hF hg up2_at) l_X9_295 S_X9_markOf rfl (rm_ok (by decide) (by decide)) rfl rfl (Nat.le_of_ble_eq_true rfl) ?_
        exact V_iret e_X9_ask_48 rfl (by obtain rfl : k = 1 := (by omega); rw [show oAsk (A, T) (nI g) (nI 1) = (wX (A, T) (lX (askT (A (7 + 3 * g)) 1)), askV A g 1) from (by unfold oAsk; (try unfold gIn); (try dsimp only); (try (repeat rw [ixN (by omega)])); (first | rw [if_pos c1] | rw [if_neg c1] | skip); (first | rw [if_pos c2] | rw [if_neg c2] | skip); (first | rw [if_pos d3] | rw [if_neg d3] | skip); try rfl)]; exact ⟨(show Fb 292 307 σ (tmL 0 (askT (A (7 + 3 * g)) 1) (up2 τ 292 25 (nI 0))) from hfb.tr tm_fb), (show IM (tmL 0 (askT (A (7 + 3 * g)) 1) (up2 τ 292 25 (nI 0))) (wX (A, T) (lX (askT (A (7 + 3 * g)) 1))) from imtm hJ), rfl⟩)
      · have d3 : k = 0 := nq_eq (by omega) (by omega) c3
        refine V_aload_n e_X9_ask_35 rfl rfl ?_
        refine V_iload_n e_X9_ask_36 rfl rfl ?_
        refine V_cvIe (av := [.int (nI g)]) (st := []) e_X9_ask_37 (c9_size E g A (up2 τ 292 25 (nI 0)) (fun k hk => (congrFun (up2_ne (by decide)) k).trans (hM k hk)) hF hg up2_at) l_X9_298 S_X9_sizeOf rfl (rm_ok (by decide) (by decide)) rfl rfl (Nat.le_of_ble_eq_true rfl) ?_
        refine V_goto (tgt := 48) e_X9_ask_40 (by decide) ?_
        exact V_iret e_X9_ask_48 rfl (by obtain rfl : k = 0 := (by omega); rw [show oAsk (A, T) (nI g) (nI 0) = (wX (A, T) (lX (askT (A (7 + 3 * g)) 0)), askV A g 0) from (by unfold oAsk; (try unfold gIn); (try dsimp only); (try (repeat rw [ixN (by omega)])); (first | rw [if_pos c1] | rw [if_neg c1] | skip); (first | rw [if_pos c2] | rw [if_neg c2] | skip); (first | rw [if_pos d3] | rw [if_neg d3] | skip); try rfl)]; exact ⟨(show Fb 292 307 σ (tmL 0 (askT (A (7 + 3 * g)) 0) (up2 τ 292 25 (nI 0))) from hfb.tr tm_fb), (show IM (tmL 0 (askT (A (7 + 3 * g)) 0) (up2 τ 292 25 (nI 0))) (wX (A, T) (lX (askT (A (7 + 3 * g)) 0))) from imtm hJ), rfl⟩)
    · refine V_ldc (v := (-1000001)) e_X9_ask_23 k_X9_73 ?_
      exact V_iret e_X9_ask_25 rfl (by rw [show oAsk (A, T) (nI g) y = ((A, T), (-1000001)) from (by unfold oAsk; (try unfold gIn); (try dsimp only); (try (repeat rw [ixN (by omega)])); (first | rw [if_pos c1] | rw [if_neg c1] | skip); (first | rw [if_pos c2] | rw [if_neg c2] | skip); try rfl)]; exact ⟨hfb, hJ, rfl⟩)
theorem c9_kind (E : En) (x : Int32) (S : Ab) (σ : Sg) (hI : IM σ S) : Cn E m_X9_kind 12 [.ref (eB E + 292), .int x] σ (pM σ (S, sKind S.1 x)) := (c_X9_kind E x S.1 σ hI.2.1 hI.1.1.1).mono (fun σ' v hv => by obtain ⟨r, hv1, hv2, hv3⟩ := hv; exact ⟨r, hv1, by rw [hv2]; exact th_fb, by rw [hv2]; exact hI.fm Fm.th, hv3⟩)
theorem c9_homes (E : En) (x : Int32) (S : Ab) (σ : Sg) (hI : IM σ S) : Cn E m_X9_homes 12 [.ref (eB E + 292), .int x] σ (pM σ (S, sHomes S.1 x)) := (c_X9_homes E x S.1 σ hI.2.1 hI.1.1.1).mono (fun σ' v hv => by obtain ⟨r, hv1, hv2, hv3⟩ := hv; exact ⟨r, hv1, by rw [hv2]; exact th_fb, by rw [hv2]; exact hI.fm Fm.th, hv3⟩)
theorem c9_fellows (E : En) (x : Int32) (S : Ab) (σ : Sg) (hI : IM σ S) : Cn E m_X9_fellows 12 [.ref (eB E + 292), .int x] σ (pM σ (S, sFellows S.1 x)) := (c_X9_fellows E x S.1 σ hI.2.1 hI.1.1.1).mono (fun σ' v hv => by obtain ⟨r, hv1, hv2, hv3⟩ := hv; exact ⟨r, hv1, by rw [hv2]; exact th_fb, by rw [hv2]; exact hI.fm Fm.th, hv3⟩)
theorem c9_gate (E : En) (x y : Int32) (S : Ab) (σ : Sg) (hI : IM σ S) : Cn E m_X9_gate 12 [.ref (eB E + 292), .int x, .int y] σ (pM σ (S, sGate S.1 x y)) := (c_X9_gate E x y S.1 σ hI.2.1 hI.1.1.1).mono (fun σ' v hv => by obtain ⟨r, hv1, hv2, hv3⟩ := hv; exact ⟨r, hv1, by rw [hv2]; exact th_fb, by rw [hv2]; exact hI.fm Fm.th, hv3⟩)
theorem c9_person (E : En) (x y : Int32) (S : Ab) (σ : Sg) (hI : IM σ S) : Cn E m_X9_person 12 [.ref (eB E + 292), .int x, .int y] σ (pM σ (S, sPerson S.1 x y)) := (c_X9_person E x y S.1 σ hI.2.1 hI.1.1.1).mono (fun σ' v hv => by obtain ⟨r, hv1, hv2, hv3⟩ := hv; exact ⟨r, hv1, by rw [hv2]; exact th_fb, by rw [hv2]; exact hI.fm Fm.th, hv3⟩)
theorem Fm.b {σ τ : Sg} (h : Fm σ τ) : Fb 292 307 σ τ := fun a k hk => h a k (by omega) (by omega)
theorem c9_ahead (E : En) (x y z : Int32) (S : Ab) (σ : Sg) (hI : IM σ S) : Cn E m_X9_ahead 12 [.ref (eB E + 292), .int x, .int y, .int z] σ (pM σ (S, sAhead S.1 x y z)) := (c_X9_ahead E x y z S.1 σ hI.2.1 hI.1.1.1).mono (fun σ' v hv => by obtain ⟨r, hv1, hv2, hv3⟩ := hv; exact ⟨r, hv1, hv2.b, hI.fm hv2, hv3⟩)
theorem c9_when (E : En) (x y : Int32) (S : Ab) (σ : Sg) (hI : IM σ S) : Cn E m_X9_when 12 [.ref (eB E + 292), .int x, .int y] σ (pM σ (S, sWhen S.1 x y)) := (c_X9_when E x y S.1 σ hI.2.1 hI.1.1.1).mono (fun σ' v hv => by obtain ⟨r, hv1, hv2, hv3⟩ := hv; exact ⟨r, hv1, hv2.b, hI.fm hv2, hv3⟩)
theorem c9_first (E : En) (x : Int32) (S : Ab) (σ : Sg) (hI : IM σ S) : Cn E m_X9_first 12 [.ref (eB E + 292), .int x] σ (pM σ (S, sFirst S.1 x)) := (c_X9_first E x S.1 σ hI.2.1 hI.1.1.1 hI.1.1.hb).mono (fun σ' v hv => by obtain ⟨r, hv1, hv2, hv3⟩ := hv; exact ⟨r, hv1, hv2.b, hI.fm hv2, hv3⟩)
theorem c9_rounds (E : En) (x y z w : Int32) (S : Ab) (σ : Sg) (hI : IM σ S) : Cn E m_X9_rounds 12 [.ref (eB E + 292), .int x, .int y, .int z, .int w] σ (pM σ (S, sRounds S.1 x y z w)) := (c_X9_rounds E x y z w S.1 σ hI.2.1 hI.1.1.1).mono (fun σ' v hv => by obtain ⟨r, hv1, hv2, hv3⟩ := hv; exact ⟨r, hv1, hv2.b, hI.fm hv2, hv3⟩)
theorem c9_falls (E : En) (x y : Int32) (S : Ab) (σ : Sg) (hI : IM σ S) : Cn E m_X9_falls 12 [.ref (eB E + 292), .int x, .int y] σ (pM σ (S, sFalls S.1 x y)) := (c_X9_falls E x y S.1 σ hI.2.1 hI.1.1.1 hI.1.1.hb).mono (fun σ' v hv => by obtain ⟨r, hv1, hv2, hv3⟩ := hv; exact ⟨r, hv1, hv2.b, hI.fm hv2, hv3⟩)

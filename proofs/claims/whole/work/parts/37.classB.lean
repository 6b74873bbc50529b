theorem daysV_4 {A : Vec} : ∀ n, daysV A n 4 = A 4 + n
  | 0 => rfl
  | n + 1 => by show dayV (daysV A n) 4 = _; rw [dayV_4, daysV_4 n]; omega
theorem isub_n {a b : Nat} (h : b ≤ a) : nI a - nI b = nI (a - b) := pk_sub h
theorem undo_ok {σ : Sg} {A : Vec} {H : (Nat → Vec) × Nat} {T : ((Nat → Nat) × (Nat → Vec)) × ((Nat → Nat) × (Nat → Nat) × (Nat → Nat → Int32)) × (Nat × (Nat → Nat)) × Nat × Nat × (Nat × (Nat → Nat))} {O : Nat} (hI : IC σ (A, H, T)) (hO : O < 24) (h1 : σ 23 1 = nI O) (h2 : σ 23 2 = nI H.2) (h3 : ∀ j, j < H.2 → RepC σ (25 + 9 * ((O + j) % 24)) (H.1 j)) (h0 : ¬ H.2 = 0) : Fb 0 292 σ (bec 4 (25 + 9 * ((O + (H.2 - 1)) % 24)) (up2 σ 23 2 (nI (H.2 - 1)))) ∧ IC (bec 4 (25 + 9 * ((O + (H.2 - 1)) % 24)) (up2 σ 23 2 (nI (H.2 - 1)))) (oUndo (A, H, T)).1 ∧ nI (H.2 - 1) = (oUndo (A, H, T)).2 := by
  have hG := hI.1.2.1
  have hg1 : GD (H.1 (H.2 - 1)) := hG.2 (H.2 - 1) (show H.2 - 1 < H.2 by omega)
  have hr1 : RepC (up2 σ 23 2 (nI (H.2 - 1))) (25 + 9 * ((O + (H.2 - 1)) % 24)) (H.1 (H.2 - 1)) := (h3 (H.2 - 1) (by omega)).eq hg1.p5 (fun a ha hb k => congrFun (up2_ne (by omega)) k)
  have hI2 : IC (up2 σ 23 2 (nI (H.2 - 1))) (wH (A, H, T) (H.1, H.2 - 1)) := hI.wH ⟨Nat.le_trans (Nat.sub_le _ _) hG.1, fun j hj => hG.2 j (Nat.lt_of_lt_of_le hj (Nat.sub_le _ _))⟩ ⟨O, hO, by rw [up2_k (by omega)]; exact h1, by rw [up2_at], fun j hj => by dsimp only at hj ⊢; exact (h3 j (by omega)).eq (hG.2 j (show j < H.2 by omega)).p5 (fun a ha hb k => congrFun (up2_ne (by omega)) k)⟩ (Fb.rf.up (by omega) (by omega))
  rw [show oUndo (A, H, T) = ((H.1 (H.2 - 1), (H.1, H.2 - 1), T), nI (H.2 - 1)) from if_neg h0]
  exact ⟨(Fb.rf.up (by omega) (by omega)).tr (bec_fb.wide (by omega) (by omega)), hI2.wA hg1 (bec_rep hg1.g6 hg1.p5 hr1) (bec_fb.wide (by omega) (by omega)), rfl⟩
set_option maxRecDepth 100000 in
set_option maxHeartbeats 4000000 in
theorem c8_cross (E : En) (x : Int32) (A : Vec) (T : AbT) (σ : Sg) (hI : IC σ (A, T)) : Cn E m_X8_cross 12 [.ref (eB E + 0), .int x] σ (pC σ (oCross (A, T) x)) := by
  have hR : RepC σ 4 A := hI.2.1
  have hGD : GD A := hI.1.1
  have hN : WN A := hGD.1
  have hNl := hN.le
  have hA4 : A 4 ≤ 999 := hGD.2.2
  refine Cn.of [some (.ref (eB E + 0)), some (.int x), none] (by decide) (Nat.le_of_ble_eq_true rfl) rfl ?_
  refine V_aload_n e_X8_cross_0 rfl rfl ?_
  refine V_getr (r := 4) e_X8_cross_1 F_X8_now f_X8_25 rfl rfl ?_
  refine V_iload_n e_X8_cross_4 rfl rfl ?_
  refine V_cvIe (av := [.int x]) (st := []) e_X8_cross_5 (c_X5_hasPerson E 4 (A 1) x σ rfl hR.1.2.2.2.2.1) l_X8_164 S_X5_hasPerson rfl (rm_ok (by decide) (by decide)) rfl rfl (Nat.le_of_ble_eq_true rfl) ?_
  refine V_if_ne (tgt := 14) e_X8_cross_8 (by decide) (fun c1 => ?_) (fun c1 => ?_)
  · obtain ⟨p, hp, rfl⟩ := (wi_nat (by omega)).mp c1
    have hF : WF A := hN.wf (by omega)
    refine V_aload_n e_X8_cross_14 rfl rfl ?_
    refine V_getr (r := 23) e_X8_cross_15 F_X8_acts f_X8_39 rfl rfl ?_
    refine V_aload_n e_X8_cross_18 rfl rfl ?_
    refine V_getr (r := 4) e_X8_cross_19 F_X8_now f_X8_25 rfl rfl ?_
    refine V_cvV (av := [.ref (eB E + 4)]) (st := []) e_X8_cross_22 (c8_keep E (A, T) σ hI) l_X8_154 S_X0_keep rfl (rm_ok (by decide) (by decide)) rfl rfl (Nat.le_of_ble_eq_true rfl) ?_
    intro τ hh
    obtain ⟨hfb, hJ⟩ := hh
    have hRt : RepC τ 4 A := hJ.2.1
    refine V_aload_n e_X8_cross_25 rfl rfl ?_
    refine V_getr (r := 4) e_X8_cross_26 F_X8_now f_X8_25 rfl rfl ?_
    refine V_getr (r := 7) e_X8_cross_29 F_X5_walkers f_X8_167 rfl rfl ?_
    refine V_iload_n e_X8_cross_32 rfl rfl ?_
    refine V_aald (j := p) (r := 8 + p) e_X8_cross_33 (by decide) (by decide) rfl (by have q : ln 7 = 5 := rfl; omega) rfl ?_
    refine V_astore_n (L' := [some (.ref (eB E + 0)), some (.int (nI p)), some (.ref (eB E + (8 + p)))]) e_X8_cross_34 rfl rfl ?_
    refine V_aload_n e_X8_cross_35 rfl rfl ?_
    refine V_getr (r := 4) e_X8_cross_36 F_X8_now f_X8_25 rfl rfl ?_
    refine V_aload_n e_X8_cross_39 rfl rfl ?_
    refine V_cvV (av := [.ref (eB E + (8 + p))]) (st := []) e_X8_cross_40 (c_X5_passGate E 4 (8 + p) A (pn A p) τ rfl hF.1 hRt.1 (kd_wk7 p (by have q : ln 7 = 5 := rfl; omega)) (by have hz9 := (hRt.2 p hp).1; rw [show 4 + 4 + p = 8 + p by omega] at hz9; exact hz9) (hF.2.2.2.2.2 p hp)) l_X8_171 S_X5_passGate rfl (rm_ok (by decide) (by decide)) rfl rfl (Nat.le_of_ble_eq_true rfl) ?_
    intro ρ hh2
    obtain ⟨hwk, hfw⟩ := hh2
    refine V_aload_n e_X8_cross_43 rfl rfl ?_
    refine V_getiv (v := nI ((crossP A (pn A p)).2.2.1)) e_X8_cross_44 F_X7_of f_X8_175 (kd_wk7 p (by have q : ln 7 = 5 := rfl; omega)) hwk.2.2.1 ?_
    exact V_iret e_X8_cross_47 rfl (by rw [show oCross (A, T) (nI p) = (wA (keepS (A, T)) (setP A p (crossP A (pn A p))), nI (crossP A (pn A p)).2.2.1) from (by unfold oCross; (try unfold gIn); dsimp only; (try (repeat rw [ixN (by omega)])); (first | rw [if_pos c1] | rw [if_neg c1] | skip); try rfl)]; exact ⟨(hfb.wide (by decide) (by decide)).tr ((hfw.b (lo := 4) (hi := 13) (by omega) (by omega)).wide (by decide) (by decide)), hJ.wA (hGD.sP hF (hF.2.2.2.2.2 p hp).cross (hGD.2.1 p hp)) (hRt.sP hNl.1 hNl.2 hp hwk hfw) (hfw.b (by omega) (by omega)), rfl⟩)
  · refine V_ldc (v := (-1000001)) e_X8_cross_11 k_X8_73 ?_
    exact V_iret e_X8_cross_13 rfl (by rw [show oCross (A, T) x = ((A, T), (-1000001)) from (by unfold oCross; (try unfold gIn); dsimp only; (try (repeat rw [ixN (by omega)])); (first | rw [if_pos c1] | rw [if_neg c1] | skip); try rfl)]; exact ⟨Fb.rf, hI, rfl⟩)
set_option maxRecDepth 100000 in
set_option maxHeartbeats 4000000 in
theorem c8_turn (E : En) (x : Int32) (A : Vec) (T : AbT) (σ : Sg) (hI : IC σ (A, T)) : Cn E m_X8_turn 12 [.ref (eB E + 0), .int x] σ (pC σ (oTurn (A, T) x)) := by
  have hR : RepC σ 4 A := hI.2.1
  have hGD : GD A := hI.1.1
  have hN : WN A := hGD.1
  have hNl := hN.le
  have hA4 : A 4 ≤ 999 := hGD.2.2
  refine Cn.of [some (.ref (eB E + 0)), some (.int x), none] (by decide) (Nat.le_of_ble_eq_true rfl) rfl ?_
  refine V_aload_n e_X8_turn_0 rfl rfl ?_
  refine V_getr (r := 4) e_X8_turn_1 F_X8_now f_X8_25 rfl rfl ?_
  refine V_iload_n e_X8_turn_4 rfl rfl ?_
  refine V_cvIe (av := [.int x]) (st := []) e_X8_turn_5 (c_X5_hasPerson E 4 (A 1) x σ rfl hR.1.2.2.2.2.1) l_X8_164 S_X5_hasPerson rfl (rm_ok (by decide) (by decide)) rfl rfl (Nat.le_of_ble_eq_true rfl) ?_
  refine V_if_ne (tgt := 14) e_X8_turn_8 (by decide) (fun c1 => ?_) (fun c1 => ?_)
  · obtain ⟨p, hp, rfl⟩ := (wi_nat (by omega)).mp c1
    have hF : WF A := hN.wf (by omega)
    obtain ⟨w1, w2, w3, w4, w5, w6⟩ := hF.per hp
    refine V_aload_n e_X8_turn_14 rfl rfl ?_
    refine V_getr (r := 23) e_X8_turn_15 F_X8_acts f_X8_39 rfl rfl ?_
    refine V_aload_n e_X8_turn_18 rfl rfl ?_
    refine V_getr (r := 4) e_X8_turn_19 F_X8_now f_X8_25 rfl rfl ?_
    refine V_cvV (av := [.ref (eB E + 4)]) (st := []) e_X8_turn_22 (c8_keep E (A, T) σ hI) l_X8_154 S_X0_keep rfl (rm_ok (by decide) (by decide)) rfl rfl (Nat.le_of_ble_eq_true rfl) ?_
    intro τ hh
    obtain ⟨hfb, hJ⟩ := hh
    have hRt : RepC τ 4 A := hJ.2.1
    refine V_aload_n e_X8_turn_25 rfl rfl ?_
    refine V_getr (r := 4) e_X8_turn_26 F_X8_now f_X8_25 rfl rfl ?_
    refine V_getr (r := 7) e_X8_turn_29 F_X5_walkers f_X8_167 rfl rfl ?_
    refine V_iload_n e_X8_turn_32 rfl rfl ?_
    refine V_aald (j := p) (r := 8 + p) e_X8_turn_33 (by decide) (by decide) rfl (by have q : ln 7 = 5 := rfl; omega) rfl ?_
    refine V_astore_n (L' := [some (.ref (eB E + 0)), some (.int (nI p)), some (.ref (eB E + (8 + p)))]) e_X8_turn_34 rfl rfl ?_
    refine V_aload_n e_X8_turn_35 rfl rfl ?_
    refine V_iconst (v := nI 1) e_X8_turn_36 (by decide) ?_
    refine V_aload_n e_X8_turn_37 rfl rfl ?_
    refine V_getiv (v := nI (A (28 + 6 * p))) e_X8_turn_38 F_X7_heading f_X8_180 (kd_wk7 p (by have q : ln 7 = 5 := rfl; omega)) (by have hz9 := hRt.2 p (by omega); rw [show 4 + 4 + p = 8 + p by omega] at hz9; exact hz9.1.2.2.2.1) ?_
    refine V_isubN (z := nI (1 - (A (28 + 6 * p)))) e_X8_turn_41 (pk_sub (w4)) ?_
    refine V_puti e_X8_turn_42 F_X7_heading f_X8_180 (kd_wk7 p (by have q : ln 7 = 5 := rfl; omega)) ?_
    refine V_aload_n e_X8_turn_45 rfl rfl ?_
    refine V_getiv (v := nI (1 - (A (28 + 6 * p)))) e_X8_turn_46 F_X7_heading f_X8_180 (kd_wk7 p (by have q : ln 7 = 5 := rfl; omega)) up2_at ?_
    exact V_iret e_X8_turn_49 rfl (by rw [show oTurn (A, T) (nI p) = (wA (keepS (A, T)) (setHdg A p), nI (1 - A (28 + 6 * p))) from (by unfold oTurn; (try unfold gIn); dsimp only; (try (repeat rw [ixN (by omega)])); (first | rw [if_pos c1] | rw [if_neg c1] | skip); try rfl)]; exact ⟨(hfb.wide (by decide) (by decide)).up (by omega) (by omega), hJ.wA (hGD.sP hF ⟨w1, w2, w6, Nat.sub_le _ _, w5⟩ (hGD.2.1 p hp)) (hRt.sP hNl.1 hNl.2 hp (by have hz9 := Wk.hd (h := 1 - A (28 + 6 * p)) (hRt.2 p hp).1; rw [show 4 + 4 + p = 8 + p by omega] at hz9 ⊢; exact hz9) (by rw [show 4 + 4 + p = 8 + p by omega]; exact Fw.rf.up (by decide))) (Fb.rf.up (by omega) (by omega)), rfl⟩)
  · refine V_ldc (v := (-1000001)) e_X8_turn_11 k_X8_73 ?_
    exact V_iret e_X8_turn_13 rfl (by rw [show oTurn (A, T) x = ((A, T), (-1000001)) from (by unfold oTurn; (try unfold gIn); dsimp only; (try (repeat rw [ixN (by omega)])); (first | rw [if_pos c1] | rw [if_neg c1] | skip); try rfl)]; exact ⟨Fb.rf, hI, rfl⟩)
set_option maxRecDepth 100000 in
set_option maxHeartbeats 4000000 in
theorem c8_stay (E : En) (x y : Int32) (A : Vec) (T : AbT) (σ : Sg) (hI : IC σ (A, T)) : Cn E m_X8_stay 12 [.ref (eB E + 0), .int x, .int y] σ (pC σ (oStay (A, T) x y)) := by
  have hR : RepC σ 4 A := hI.2.1
  have hGD : GD A := hI.1.1
  have hN : WN A := hGD.1
  have hNl := hN.le
  have hA4 : A 4 ≤ 999 := hGD.2.2
  refine Cn.of [some (.ref (eB E + 0)), some (.int x), some (.int y), none] (by decide) (Nat.le_of_ble_eq_true rfl) rfl ?_
  refine V_aload_n e_X8_stay_0 rfl rfl ?_
  refine V_getr (r := 4) e_X8_stay_1 F_X8_now f_X8_25 rfl rfl ?_
  refine V_iload_n e_X8_stay_4 rfl rfl ?_
  refine V_cvIe (av := [.int x]) (st := []) e_X8_stay_5 (c_X5_hasPerson E 4 (A 1) x σ rfl hR.1.2.2.2.2.1) l_X8_164 S_X5_hasPerson rfl (rm_ok (by decide) (by decide)) rfl rfl (Nat.le_of_ble_eq_true rfl) ?_
  refine V_if_eq (tgt := 20) e_X8_stay_8 (by decide) (fun c1 => ?_) (fun c1 => ?_)
  · refine V_ldc (v := (-1000001)) e_X8_stay_20 k_X8_73 ?_
    exact V_iret e_X8_stay_22 rfl (by rw [show oStay (A, T) x y = ((A, T), (-1000001)) from (by unfold oStay; (try unfold gIn); dsimp only; (try (repeat rw [ixN (by omega)])); (first | rw [if_pos c1] | rw [if_neg c1] | skip); try rfl)]; exact ⟨Fb.rf, hI, rfl⟩)
  · obtain ⟨p, hp, rfl⟩ := (wi_nat (by omega)).mp c1
    have hF : WF A := hN.wf (by omega)
    refine V_iload_n e_X8_stay_11 rfl rfl ?_
    refine V_iconst (v := nI 0) e_X8_stay_12 (by decide) ?_
    refine V_iconst (v := nI 1) e_X8_stay_13 (by decide) ?_
    refine V_csIe (av := [.int y, .int (nI 0), .int (nI 1)]) (st := []) e_X8_stay_14 (c_X8_within E y (nI 0) (nI 1) σ) l_X8_69 S_X8_within (rm_ok (by decide) (by decide)) rfl rfl (Nat.le_of_ble_eq_true rfl) ?_
    refine V_if_ne (tgt := 23) e_X8_stay_17 (by decide) (fun c2 => ?_) (fun c2 => ?_)
    · obtain ⟨on_, hon_a, hon_, rfl⟩ := (wi_le (by omega) (by omega)).mp c2
      have hb6 := bitN_le (A 6) p
      refine V_aload_n e_X8_stay_23 rfl rfl ?_
      refine V_getr (r := 4) e_X8_stay_24 F_X8_now f_X8_25 rfl rfl ?_
      refine V_getr (r := 7) e_X8_stay_27 F_X5_walkers f_X8_167 rfl rfl ?_
      refine V_iload_n e_X8_stay_30 rfl rfl ?_
      refine V_aald (j := p) (r := 8 + p) e_X8_stay_31 (by decide) (by decide) rfl (by have q : ln 7 = 5 := rfl; omega) rfl ?_
      refine V_astore_n (L' := [some (.ref (eB E + 0)), some (.int (nI p)), some (.int (nI on_)), some (.ref (eB E + (8 + p)))]) e_X8_stay_32 rfl rfl ?_
      refine V_aload_n e_X8_stay_33 rfl rfl ?_
      refine V_getiv (v := nI (bitN (A 6) p)) e_X8_stay_34 F_X7_stays f_X8_183 (kd_wk7 p (by have q : ln 7 = 5 := rfl; omega)) (by have hz9 := hR.2 p (by omega); rw [show 4 + 4 + p = 8 + p by omega] at hz9; exact hz9.2) ?_
      refine V_iload_n e_X8_stay_37 rfl rfl ?_
      refine V_iconst (v := nI 1) e_X8_stay_38 (by decide) ?_
      refine V_icmp_ne (tgt := 46) e_X8_stay_39 (by decide) (fun c3 => ?_) (fun c3 => ?_)
      · have d3 : ¬ on_ = 1 := nq_ne (by omega) (by omega) c3
        refine V_iconst (v := nI 0) e_X8_stay_46 (by decide) ?_
        refine V_icmp_ne (tgt := 53) e_X8_stay_47 (by decide) (fun c4 => ?_) (fun c4 => ?_)
        · have d4 : ¬ bitN (A 6) p = 0 := nq_ne (by omega) (by omega) c4
          refine V_aload_n e_X8_stay_53 rfl rfl ?_
          refine V_getr (r := 23) e_X8_stay_54 F_X8_acts f_X8_39 rfl rfl ?_
          refine V_aload_n e_X8_stay_57 rfl rfl ?_
          refine V_getr (r := 4) e_X8_stay_58 F_X8_now f_X8_25 rfl rfl ?_
          refine V_cvV (av := [.ref (eB E + 4)]) (st := []) e_X8_stay_61 (c8_keep E (A, T) σ hI) l_X8_154 S_X0_keep rfl (rm_ok (by decide) (by decide)) rfl rfl (Nat.le_of_ble_eq_true rfl) ?_
          intro τ hh
          obtain ⟨hfb, hJ⟩ := hh
          have hRt : RepC τ 4 A := hJ.2.1
          refine V_aload_n e_X8_stay_64 rfl rfl ?_
          refine V_iload_n e_X8_stay_65 rfl rfl ?_
          refine V_iconst (v := nI 1) e_X8_stay_66 (by decide) ?_
          refine V_icmp_ne (tgt := 74) e_X8_stay_67 (by decide) (fun c5 => ?_) (fun c5 => ?_)
          · have d5 : ¬ on_ = 1 := nq_ne (by omega) (by omega) c5
            refine V_iconst (v := nI 0) e_X8_stay_74 (by decide) ?_
            refine V_putz e_X8_stay_75 F_X7_stays f_X8_183 (kd_wk7 p (by have q : ln 7 = 5 := rfl; omega)) (by first | exact Or.inl nI_0 | exact Or.inr rfl) ?_
            have hRs : RepC (up2 τ (8 + p) 6 (nI 0)) 4 (stayV A p) := (by have hz9 := hRt.stay (n := 4) (p := p) (y := 0) hF hp (by omega); rw [show 4 + 4 + p = 8 + p by omega] at hz9; exact hz9)
            refine V_aload_n e_X8_stay_78 rfl rfl ?_
            refine V_getr (r := 4) e_X8_stay_79 F_X8_now f_X8_25 rfl rfl ?_
            refine V_cvIe (av := []) (st := []) e_X8_stay_82 (c_X5_whoStays E 4 (stayV A p) (up2 τ (8 + p) 6 (nI 0)) rfl hRs (by rw [stayV_ne (by omega)]; exact hNl.2)) l_X8_186 S_X5_whoStays rfl (rm_ok (by decide) (by decide)) rfl rfl (Nat.le_of_ble_eq_true rfl) ?_
            refine V_topi (y := nI (A 6 ^^^ 2 ^ p)) (congrArg nI (by rw [stayV_ne (by omega)]; have hz9 := stw (A 1) (by omega) (A 6 ^^^ 2 ^ p) (by have hz8 := (hF.stay hp).2.2.2.2.1; rw [stayV_6, stayV_ne (by omega)] at hz8; exact hz8); unfold stayF; rw [stayV_6]; exact hz9)) ?_
            exact V_iret e_X8_stay_85 rfl (by rw [show oStay (A, T) (nI p) (nI on_) = (wA (keepS (A, T)) (stayV A p), nI (A 6 ^^^ 2 ^ p)) from (by unfold oStay; dsimp only; unfold gIn; rw [if_neg c1, if_neg c2, ixN (by omega), ixN (by omega), if_neg (by omega)])]; exact ⟨(hfb.wide (by decide) (by decide)).up (by omega) (by omega), hJ.wA (hGD.stay hF hp) hRs (Fb.rf.up (by omega) (by omega)), rfl⟩)
          · have d5 : on_ = 1 := nq_eq (by omega) (by omega) c5
            refine V_iconst (v := nI 1) e_X8_stay_70 (by decide) ?_
            refine V_goto (tgt := 75) e_X8_stay_71 (by decide) ?_
            refine V_putz e_X8_stay_75 F_X7_stays f_X8_183 (kd_wk7 p (by have q : ln 7 = 5 := rfl; omega)) (by first | exact Or.inl nI_0 | exact Or.inr rfl) ?_
            have hRs : RepC (up2 τ (8 + p) 6 (nI 1)) 4 (stayV A p) := (by have hz9 := hRt.stay (n := 4) (p := p) (y := 1) hF hp (by omega); rw [show 4 + 4 + p = 8 + p by omega] at hz9; exact hz9)
            refine V_aload_n e_X8_stay_78 rfl rfl ?_
            refine V_getr (r := 4) e_X8_stay_79 F_X8_now f_X8_25 rfl rfl ?_
            refine V_cvIe (av := []) (st := []) e_X8_stay_82 (c_X5_whoStays E 4 (stayV A p) (up2 τ (8 + p) 6 (nI 1)) rfl hRs (by rw [stayV_ne (by omega)]; exact hNl.2)) l_X8_186 S_X5_whoStays rfl (rm_ok (by decide) (by decide)) rfl rfl (Nat.le_of_ble_eq_true rfl) ?_
            refine V_topi (y := nI (A 6 ^^^ 2 ^ p)) (congrArg nI (by rw [stayV_ne (by omega)]; have hz9 := stw (A 1) (by omega) (A 6 ^^^ 2 ^ p) (by have hz8 := (hF.stay hp).2.2.2.2.1; rw [stayV_6, stayV_ne (by omega)] at hz8; exact hz8); unfold stayF; rw [stayV_6]; exact hz9)) ?_
            exact V_iret e_X8_stay_85 rfl (by rw [show oStay (A, T) (nI p) (nI on_) = (wA (keepS (A, T)) (stayV A p), nI (A 6 ^^^ 2 ^ p)) from (by unfold oStay; dsimp only; unfold gIn; rw [if_neg c1, if_neg c2, ixN (by omega), ixN (by omega), if_neg (by omega)])]; exact ⟨(hfb.wide (by decide) (by decide)).up (by omega) (by omega), hJ.wA (hGD.stay hF hp) hRs (Fb.rf.up (by omega) (by omega)), rfl⟩)
        · have d4 : bitN (A 6) p = 0 := nq_eq (by omega) (by omega) c4
          refine V_ldc (v := (-1000002)) e_X8_stay_50 k_X8_146 ?_
          exact V_iret e_X8_stay_52 rfl (by rw [show oStay (A, T) (nI p) (nI on_) = ((A, T), (-1000002)) from (by unfold oStay; dsimp only; unfold gIn; rw [if_neg c1, if_neg c2, ixN (by omega), ixN (by omega), if_pos (by omega)])]; exact ⟨Fb.rf, hI, rfl⟩)
      · have d3 : on_ = 1 := nq_eq (by omega) (by omega) c3
        refine V_iconst (v := nI 1) e_X8_stay_42 (by decide) ?_
        refine V_goto (tgt := 47) e_X8_stay_43 (by decide) ?_
        refine V_icmp_ne (tgt := 53) e_X8_stay_47 (by decide) (fun c6 => ?_) (fun c6 => ?_)
        · have d6 : ¬ bitN (A 6) p = 1 := nq_ne (by omega) (by omega) c6
          refine V_aload_n e_X8_stay_53 rfl rfl ?_
          refine V_getr (r := 23) e_X8_stay_54 F_X8_acts f_X8_39 rfl rfl ?_
          refine V_aload_n e_X8_stay_57 rfl rfl ?_
          refine V_getr (r := 4) e_X8_stay_58 F_X8_now f_X8_25 rfl rfl ?_
          refine V_cvV (av := [.ref (eB E + 4)]) (st := []) e_X8_stay_61 (c8_keep E (A, T) σ hI) l_X8_154 S_X0_keep rfl (rm_ok (by decide) (by decide)) rfl rfl (Nat.le_of_ble_eq_true rfl) ?_
          intro τ hh
          obtain ⟨hfb, hJ⟩ := hh
          have hRt : RepC τ 4 A := hJ.2.1
          refine V_aload_n e_X8_stay_64 rfl rfl ?_
          refine V_iload_n e_X8_stay_65 rfl rfl ?_
          refine V_iconst (v := nI 1) e_X8_stay_66 (by decide) ?_
          refine V_icmp_ne (tgt := 74) e_X8_stay_67 (by decide) (fun c7 => ?_) (fun c7 => ?_)
          · have d7 : ¬ on_ = 1 := nq_ne (by omega) (by omega) c7
            refine V_iconst (v := nI 0) e_X8_stay_74 (by decide) ?_
            refine V_putz e_X8_stay_75 F_X7_stays f_X8_183 (kd_wk7 p (by have q : ln 7 = 5 := rfl; omega)) (by first | exact Or.inl nI_0 | exact Or.inr rfl) ?_
            have hRs : RepC (up2 τ (8 + p) 6 (nI 0)) 4 (stayV A p) := (by have hz9 := hRt.stay (n := 4) (p := p) (y := 0) hF hp (by omega); rw [show 4 + 4 + p = 8 + p by omega] at hz9; exact hz9)
            refine V_aload_n e_X8_stay_78 rfl rfl ?_
            refine V_getr (r := 4) e_X8_stay_79 F_X8_now f_X8_25 rfl rfl ?_
            refine V_cvIe (av := []) (st := []) e_X8_stay_82 (c_X5_whoStays E 4 (stayV A p) (up2 τ (8 + p) 6 (nI 0)) rfl hRs (by rw [stayV_ne (by omega)]; exact hNl.2)) l_X8_186 S_X5_whoStays rfl (rm_ok (by decide) (by decide)) rfl rfl (Nat.le_of_ble_eq_true rfl) ?_
            refine V_topi (y := nI (A 6 ^^^ 2 ^ p)) (congrArg nI (by rw [stayV_ne (by omega)]; have hz9 := stw (A 1) (by omega) (A 6 ^^^ 2 ^ p) (by have hz8 := (hF.stay hp).2.2.2.2.1; rw [stayV_6, stayV_ne (by omega)] at hz8; exact hz8); unfold stayF; rw [stayV_6]; exact hz9)) ?_
            exact V_iret e_X8_stay_85 rfl (by rw [show oStay (A, T) (nI p) (nI on_) = (wA (keepS (A, T)) (stayV A p), nI (A 6 ^^^ 2 ^ p)) from (by unfold oStay; dsimp only; unfold gIn; rw [if_neg c1, if_neg c2, ixN (by omega), ixN (by omega), if_neg (by omega)])]; exact ⟨(hfb.wide (by decide) (by decide)).up (by omega) (by omega), hJ.wA (hGD.stay hF hp) hRs (Fb.rf.up (by omega) (by omega)), rfl⟩)
          · have d7 : on_ = 1 := nq_eq (by omega) (by omega) c7
            refine V_iconst (v := nI 1) e_X8_stay_70 (by decide) ?_
            refine V_goto (tgt := 75) e_X8_stay_71 (by decide) ?_
            refine V_putz e_X8_stay_75 F_X7_stays f_X8_183 (kd_wk7 p (by have q : ln 7 = 5 := rfl; omega)) (by first | exact Or.inl nI_0 | exact Or.inr rfl) ?_
            have hRs : RepC (up2 τ (8 + p) 6 (nI 1)) 4 (stayV A p) := (by have hz9 := hRt.stay (n := 4) (p := p) (y := 1) hF hp (by omega); rw [show 4 + 4 + p = 8 + p by omega] at hz9; exact hz9)
            refine V_aload_n e_X8_stay_78 rfl rfl ?_
            refine V_getr (r := 4) e_X8_stay_79 F_X8_now f_X8_25 rfl rfl ?_
            refine V_cvIe (av := []) (st := []) e_X8_stay_82 (c_X5_whoStays E 4 (stayV A p) (up2 τ (8 + p) 6 (nI 1)) rfl hRs (by rw [stayV_ne (by omega)]; exact hNl.2)) l_X8_186 S_X5_whoStays rfl (rm_ok (by decide) (by decide)) rfl rfl (Nat.le_of_ble_eq_true rfl) ?_
            refine V_topi (y := nI (A 6 ^^^ 2 ^ p)) (congrArg nI (by rw [stayV_ne (by omega)]; have hz9 := stw (A 1) (by omega) (A 6 ^^^ 2 ^ p) (by have hz8 := (hF.stay hp).2.2.2.2.1; rw [stayV_6, stayV_ne (by omega)] at hz8; exact hz8); unfold stayF; rw [stayV_6]; exact hz9)) ?_
            exact V_iret e_X8_stay_85 rfl (by rw [show oStay (A, T) (nI p) (nI on_) = (wA (keepS (A, T)) (stayV A p), nI (A 6 ^^^ 2 ^ p)) from (by unfold oStay; dsimp only; unfold gIn; rw [if_neg c1, if_neg c2, ixN (by omega), ixN (by omega), if_neg (by omega)])]; exact ⟨(hfb.wide (by decide) (by decide)).up (by omega) (by omega), hJ.wA (hGD.stay hF hp) hRs (Fb.rf.up (by omega) (by omega)), rfl⟩)
        · have d6 : bitN (A 6) p = 1 := nq_eq (by omega) (by omega) c6
          refine V_ldc (v := (-1000002)) e_X8_stay_50 k_X8_146 ?_
          exact V_iret e_X8_stay_52 rfl (by rw [show oStay (A, T) (nI p) (nI on_) = ((A, T), (-1000002)) from (by unfold oStay; dsimp only; unfold gIn; rw [if_neg c1, if_neg c2, ixN (by omega), ixN (by omega), if_pos (by omega)])]; exact ⟨Fb.rf, hI, rfl⟩)
    · refine V_ldc (v := (-1000001)) e_X8_stay_20 k_X8_73 ?_
      exact V_iret e_X8_stay_22 rfl (by rw [show oStay (A, T) (nI p) y = ((A, T), (-1000001)) from (by unfold oStay; (try unfold gIn); dsimp only; (try (repeat rw [ixN (by omega)])); (first | rw [if_pos c1] | rw [if_neg c1] | skip); (first | rw [if_pos c2] | rw [if_neg c2] | skip); try rfl)]; exact ⟨Fb.rf, hI, rfl⟩)
set_option maxRecDepth 100000 in
set_option maxHeartbeats 4000000 in
theorem c8_round (E : En) (x : Int32) (A : Vec) (T : AbT) (σ : Sg) (hI : IC σ (A, T)) : Cn E m_X8_round 12 [.ref (eB E + 0), .int x] σ (pC σ (oRound (A, T) x)) := by
  have hR : RepC σ 4 A := hI.2.1
  have hGD : GD A := hI.1.1
  have hN : WN A := hGD.1
  have hNl := hN.le
  have hA4 : A 4 ≤ 999 := hGD.2.2
  refine Cn.of [some (.ref (eB E + 0)), some (.int x)] (by decide) (Nat.le_of_ble_eq_true rfl) rfl ?_
  refine V_aload_n e_X8_round_0 rfl rfl ?_
  refine V_getr (r := 4) e_X8_round_1 F_X8_now f_X8_25 rfl rfl ?_
  refine V_iload_n e_X8_round_4 rfl rfl ?_
  refine V_cvIe (av := [.int x]) (st := []) e_X8_round_5 (c_X5_hasGate E 4 (A 0) x σ rfl hR.1.2.2.2.1) l_X8_189 S_X5_hasGate rfl (rm_ok (by decide) (by decide)) rfl rfl (Nat.le_of_ble_eq_true rfl) ?_
  refine V_if_ne (tgt := 14) e_X8_round_8 (by decide) (fun c1 => ?_) (fun c1 => ?_)
  · obtain ⟨g, hg, rfl⟩ := (wi_nat (by omega)).mp c1
    have hF : WF A := hN.wf (by omega)
    refine V_aload_n e_X8_round_14 rfl rfl ?_
    refine V_getr (r := 23) e_X8_round_15 F_X8_acts f_X8_39 rfl rfl ?_
    refine V_aload_n e_X8_round_18 rfl rfl ?_
    refine V_getr (r := 4) e_X8_round_19 F_X8_now f_X8_25 rfl rfl ?_
    refine V_cvV (av := [.ref (eB E + 4)]) (st := []) e_X8_round_22 (c8_keep E (A, T) σ hI) l_X8_154 S_X0_keep rfl (rm_ok (by decide) (by decide)) rfl rfl (Nat.le_of_ble_eq_true rfl) ?_
    intro τ hh
    obtain ⟨hfb, hJ⟩ := hh
    have hRt : RepC τ 4 A := hJ.2.1
    obtain ⟨F, hF2, e5, hFb⟩ := hRt.1.2.2.2.2.2.2.1
    have hA5 := hF.1.2.2.1
    have hp2 := pow_le6 hg
    have hG64 := pow6 hNl.1
    have hx64 := xor64 (b := 2 ^ g) hF2 (by omega)
    refine V_aload_n e_X8_round_25 rfl rfl ?_
    refine V_getr (r := 4) e_X8_round_26 F_X8_now f_X8_25 rfl rfl ?_
    refine V_dup e_X8_round_29 rfl ?_
    refine V_getiv (v := nI F) e_X8_round_30 F_X5_facing f_X8_192 rfl e5 ?_
    refine V_iconst (v := nI 1) e_X8_round_33 (by decide) ?_
    refine V_iload_n e_X8_round_34 rfl rfl ?_
    refine V_ishlN (z := nI (2 ^ g)) e_X8_round_35 (shl1 (by omega)) ?_
    refine V_ixorN (z := nI (F ^^^ (2 ^ g))) e_X8_round_36 (xorI _ _) ?_
    refine V_puti e_X8_round_37 F_X5_facing f_X8_192 rfl ?_
    refine V_aload_n e_X8_round_40 rfl rfl ?_
    refine V_getr (r := 4) e_X8_round_41 F_X8_now f_X8_25 rfl rfl ?_
    refine V_getiv (v := nI (F ^^^ (2 ^ g))) e_X8_round_44 F_X5_facing f_X8_192 rfl up2_at ?_
    refine V_iload_n e_X8_round_47 rfl rfl ?_
    refine V_csIe (av := [.int (nI (F ^^^ (2 ^ g))), .int (nI g)]) (st := []) e_X8_round_48 (c_X8_bitN E (F ^^^ (2 ^ g)) g (up2 τ 4 5 (nI (F ^^^ (2 ^ g)))) (by omega) (by omega)) l_X8_195 S_X8_bit (rm_ok (by decide) (by decide)) rfl rfl (Nat.le_of_ble_eq_true rfl) ?_
    refine V_topi (y := nI (1 - A (9 + 3 * g))) (congrArg nI (by rw [hFb g hg]; exact (flx F hF2 g (by omega)).2.2)) ?_
    exact V_iret e_X8_round_51 rfl (by rw [show oRound (A, T) (nI g) = (wA (keepS (A, T)) (turnV A (2 ^ g)), nI (1 - A (9 + 3 * g))) from (by unfold oRound; (try unfold gIn); dsimp only; (try (repeat rw [ixN (by omega)])); (first | rw [if_pos c1] | rw [if_neg c1] | skip); try rfl)]; exact ⟨(hfb.wide (by decide) (by decide)).up (by decide) (by decide), hJ.wA (hGD.turn hF) (hRt.chg hNl.2 (hRt.1.turn hNl.1 (by omega) hF2 e5) (turnV_lo (by omega)) (turnV_lo (by omega)) (fun _ _ => pn_turn)) (Fb.rf.up (by decide) (by decide)), rfl⟩)
  · refine V_ldc (v := (-1000001)) e_X8_round_11 k_X8_73 ?_
    exact V_iret e_X8_round_13 rfl (by rw [show oRound (A, T) x = ((A, T), (-1000001)) from (by unfold oRound; (try unfold gIn); dsimp only; (try (repeat rw [ixN (by omega)])); (first | rw [if_pos c1] | rw [if_neg c1] | skip); try rfl)]; exact ⟨Fb.rf, hI, rfl⟩)
set_option maxRecDepth 100000 in
set_option maxHeartbeats 4000000 in
theorem c8_fall (E : En) (x : Int32) (A : Vec) (T : AbT) (σ : Sg) (hI : IC σ (A, T)) : Cn E m_X8_fall 12 [.ref (eB E + 0), .int x] σ (pC σ (oFall (A, T) x 1)) := by
  have hR : RepC σ 4 A := hI.2.1
  have hGD : GD A := hI.1.1
  have hN : WN A := hGD.1
  have hNl := hN.le
  have hA4 : A 4 ≤ 999 := hGD.2.2
  refine Cn.of [some (.ref (eB E + 0)), some (.int x)] (by decide) (Nat.le_of_ble_eq_true rfl) rfl ?_
  refine V_aload_n e_X8_fall_0 rfl rfl ?_
  refine V_getr (r := 4) e_X8_fall_1 F_X8_now f_X8_25 rfl rfl ?_
  refine V_iload_n e_X8_fall_4 rfl rfl ?_
  refine V_cvIe (av := [.int x]) (st := []) e_X8_fall_5 (c_X5_hasGate E 4 (A 0) x σ rfl hR.1.2.2.2.1) l_X8_189 S_X5_hasGate rfl (rm_ok (by decide) (by decide)) rfl rfl (Nat.le_of_ble_eq_true rfl) ?_
  refine V_if_ne (tgt := 14) e_X8_fall_8 (by decide) (fun c1 => ?_) (fun c1 => ?_)
  · obtain ⟨g, hg, rfl⟩ := (wi_nat (by omega)).mp c1
    have hF : WF A := hN.wf (by omega)
    have hp2 := pow_le6 hg
    have hp2p := Nat.two_pow_pos g
    have hG64 := pow6 hNl.1
    have hA5 := hF.1.2.2.1
    have hb5 := bitN_le (A 5) g
    refine V_aload_n e_X8_fall_14 rfl rfl ?_
    refine V_getr (r := 4) e_X8_fall_15 F_X8_now f_X8_25 rfl rfl ?_
    refine V_getiv (v := nI (A 5)) e_X8_fall_18 F_X5_fallen f_X8_198 rfl hR.1.2.2.2.2.2.1 ?_
    refine V_iload_n e_X8_fall_21 rfl rfl ?_
    refine V_csIe (av := [.int (nI (A 5)), .int (nI g)]) (st := []) e_X8_fall_22 (c_X8_bitN E (A 5) g σ (by omega) (by omega)) l_X8_195 S_X8_bit (rm_ok (by decide) (by decide)) rfl rfl (Nat.le_of_ble_eq_true rfl) ?_
    refine V_iconst (v := nI 1) e_X8_fall_25 (by decide) ?_
    refine V_icmp_ne (tgt := 32) e_X8_fall_26 (by decide) (fun c2 => ?_) (fun c2 => ?_)
    · have d2 : ¬ bitN (A 5) g = 1 := nq_ne (by omega) (by omega) c2
      refine V_aload_n e_X8_fall_32 rfl rfl ?_
      refine V_getr (r := 23) e_X8_fall_33 F_X8_acts f_X8_39 rfl rfl ?_
      refine V_aload_n e_X8_fall_36 rfl rfl ?_
      refine V_getr (r := 4) e_X8_fall_37 F_X8_now f_X8_25 rfl rfl ?_
      refine V_cvV (av := [.ref (eB E + 4)]) (st := []) e_X8_fall_40 (c8_keep E (A, T) σ hI) l_X8_154 S_X0_keep rfl (rm_ok (by decide) (by decide)) rfl rfl (Nat.le_of_ble_eq_true rfl) ?_
      intro τ hh
      obtain ⟨hfb, hJ⟩ := hh
      have hRt : RepC τ 4 A := hJ.2.1
      refine V_aload_n e_X8_fall_43 rfl rfl ?_
      refine V_getr (r := 4) e_X8_fall_44 F_X8_now f_X8_25 rfl rfl ?_
      refine V_dup e_X8_fall_47 rfl ?_
      refine V_getiv (v := nI (A 5)) e_X8_fall_48 F_X5_fallen f_X8_198 rfl hRt.1.2.2.2.2.2.1 ?_
      refine V_iconst (v := nI 1) e_X8_fall_51 (by decide) ?_
      refine V_iload_n e_X8_fall_52 rfl rfl ?_
      refine V_ishlN (z := nI (2 ^ g)) e_X8_fall_53 (shl1 (by omega)) ?_
      refine V_iorN (z := nI ((A 5) ||| (2 ^ g))) e_X8_fall_54 (lorI _ _) ?_
      refine V_topi (y := nI (A 5 ^^^ 2 ^ g)) (congrArg nI ((flx (A 5) hA5 g (by omega)).1 (by omega))) ?_
      refine V_puti e_X8_fall_55 F_X5_fallen f_X8_198 rfl ?_
      refine V_aload_n e_X8_fall_58 rfl rfl ?_
      refine V_getr (r := 4) e_X8_fall_59 F_X8_now f_X8_25 rfl rfl ?_
      refine V_getiv (v := nI (A 5 ^^^ 2 ^ g)) e_X8_fall_62 F_X5_fallen f_X8_198 rfl up2_at ?_
      exact V_iret e_X8_fall_65 rfl (by rw [show oFall (A, T) (nI g) 1 = (wA (keepS (A, T)) (xfall A (2 ^ g)), nI (A 5 ^^^ 2 ^ g)) from (by unfold oFall; (try unfold gIn); dsimp only; (try (repeat rw [ixN (by omega)])); (first | rw [if_pos c1] | rw [if_neg c1] | skip); (first | rw [if_pos d2] | rw [if_neg d2] | skip); try rfl)]; exact ⟨(hfb.wide (by decide) (by decide)).up (by decide) (by decide), hJ.wA (hGD.xfall hF (by omega)) (hRt.chg hNl.2 hRt.1.xfall (xfall_lo (by omega)) (xfall_lo (by omega)) (fun _ _ => pn_xfall)) (Fb.rf.up (by decide) (by decide)), rfl⟩)
    · have d2 : bitN (A 5) g = 1 := nq_eq (by omega) (by omega) c2
      refine V_ldc (v := (-1000002)) e_X8_fall_29 k_X8_146 ?_
      exact V_iret e_X8_fall_31 rfl (by rw [show oFall (A, T) (nI g) 1 = ((A, T), (-1000002)) from (by unfold oFall; (try unfold gIn); dsimp only; (try (repeat rw [ixN (by omega)])); (first | rw [if_pos c1] | rw [if_neg c1] | skip); (first | rw [if_pos d2] | rw [if_neg d2] | skip); try rfl)]; exact ⟨Fb.rf, hI, rfl⟩)
  · refine V_ldc (v := (-1000001)) e_X8_fall_11 k_X8_73 ?_
    exact V_iret e_X8_fall_13 rfl (by rw [show oFall (A, T) x 1 = ((A, T), (-1000001)) from (by unfold oFall; (try unfold gIn); dsimp only; (try (repeat rw [ixN (by omega)])); (first | rw [if_pos c1] | rw [if_neg c1] | skip); try rfl)]; exact ⟨Fb.rf, hI, rfl⟩)
set_option maxRecDepth 100000 in
set_option maxHeartbeats 4000000 in
theorem c8_setUp (E : En) (x : Int32) (A : Vec) (T : AbT) (σ : Sg) (hI : IC σ (A, T)) : Cn E m_X8_setUp 12 [.ref (eB E + 0), .int x] σ (pC σ (oFall (A, T) x 0)) := by
  have hR : RepC σ 4 A := hI.2.1
  have hGD : GD A := hI.1.1
  have hN : WN A := hGD.1
  have hNl := hN.le
  have hA4 : A 4 ≤ 999 := hGD.2.2
  refine Cn.of [some (.ref (eB E + 0)), some (.int x)] (by decide) (Nat.le_of_ble_eq_true rfl) rfl ?_
  refine V_aload_n e_X8_setUp_0 rfl rfl ?_
  refine V_getr (r := 4) e_X8_setUp_1 F_X8_now f_X8_25 rfl rfl ?_
  refine V_iload_n e_X8_setUp_4 rfl rfl ?_
  refine V_cvIe (av := [.int x]) (st := []) e_X8_setUp_5 (c_X5_hasGate E 4 (A 0) x σ rfl hR.1.2.2.2.1) l_X8_189 S_X5_hasGate rfl (rm_ok (by decide) (by decide)) rfl rfl (Nat.le_of_ble_eq_true rfl) ?_
  refine V_if_ne (tgt := 14) e_X8_setUp_8 (by decide) (fun c1 => ?_) (fun c1 => ?_)
  · obtain ⟨g, hg, rfl⟩ := (wi_nat (by omega)).mp c1
    have hF : WF A := hN.wf (by omega)
    have hp2 := pow_le6 hg
    have hp2p := Nat.two_pow_pos g
    have hG64 := pow6 hNl.1
    have hA5 := hF.1.2.2.1
    have hb5 := bitN_le (A 5) g
    refine V_aload_n e_X8_setUp_14 rfl rfl ?_
    refine V_getr (r := 4) e_X8_setUp_15 F_X8_now f_X8_25 rfl rfl ?_
    refine V_getiv (v := nI (A 5)) e_X8_setUp_18 F_X5_fallen f_X8_198 rfl hR.1.2.2.2.2.2.1 ?_
    refine V_iload_n e_X8_setUp_21 rfl rfl ?_
    refine V_csIe (av := [.int (nI (A 5)), .int (nI g)]) (st := []) e_X8_setUp_22 (c_X8_bitN E (A 5) g σ (by omega) (by omega)) l_X8_195 S_X8_bit (rm_ok (by decide) (by decide)) rfl rfl (Nat.le_of_ble_eq_true rfl) ?_
    refine V_if_ne (tgt := 31) e_X8_setUp_25 (by decide) (fun c2 => ?_) (fun c2 => ?_)
    · have d2 : ¬ bitN (A 5) g = 0 := nq_ne (by omega) (by omega) c2
      refine V_aload_n e_X8_setUp_31 rfl rfl ?_
      refine V_getr (r := 23) e_X8_setUp_32 F_X8_acts f_X8_39 rfl rfl ?_
      refine V_aload_n e_X8_setUp_35 rfl rfl ?_
      refine V_getr (r := 4) e_X8_setUp_36 F_X8_now f_X8_25 rfl rfl ?_
      refine V_cvV (av := [.ref (eB E + 4)]) (st := []) e_X8_setUp_39 (c8_keep E (A, T) σ hI) l_X8_154 S_X0_keep rfl (rm_ok (by decide) (by decide)) rfl rfl (Nat.le_of_ble_eq_true rfl) ?_
      intro τ hh
      obtain ⟨hfb, hJ⟩ := hh
      have hRt : RepC τ 4 A := hJ.2.1
      refine V_aload_n e_X8_setUp_42 rfl rfl ?_
      refine V_getr (r := 4) e_X8_setUp_43 F_X8_now f_X8_25 rfl rfl ?_
      refine V_dup e_X8_setUp_46 rfl ?_
      refine V_getiv (v := nI (A 5)) e_X8_setUp_47 F_X5_fallen f_X8_198 rfl hRt.1.2.2.2.2.2.1 ?_
      refine V_iconst (v := nI 1) e_X8_setUp_50 (by decide) ?_
      refine V_iload_n e_X8_setUp_51 rfl rfl ?_
      refine V_ishlN (z := nI (2 ^ g)) e_X8_setUp_52 (shl1 (by omega)) ?_
      refine V_iconst (v := (-1)) e_X8_setUp_53 (by decide) ?_
      refine V_ixor e_X8_setUp_54 ?_
      refine V_iand e_X8_setUp_55 ?_
      refine V_topi (y := nI (A 5 ^^^ 2 ^ g)) ((clrI (A 5) hA5 g (by omega)).trans (congrArg nI ((flx (A 5) hA5 g (by omega)).2.1 (by omega)))) ?_
      refine V_puti e_X8_setUp_56 F_X5_fallen f_X8_198 rfl ?_
      refine V_aload_n e_X8_setUp_59 rfl rfl ?_
      refine V_getr (r := 4) e_X8_setUp_60 F_X8_now f_X8_25 rfl rfl ?_
      refine V_getiv (v := nI (A 5 ^^^ 2 ^ g)) e_X8_setUp_63 F_X5_fallen f_X8_198 rfl up2_at ?_
      exact V_iret e_X8_setUp_66 rfl (by rw [show oFall (A, T) (nI g) 0 = (wA (keepS (A, T)) (xfall A (2 ^ g)), nI (A 5 ^^^ 2 ^ g)) from (by unfold oFall; (try unfold gIn); dsimp only; (try (repeat rw [ixN (by omega)])); (first | rw [if_pos c1] | rw [if_neg c1] | skip); (first | rw [if_pos d2] | rw [if_neg d2] | skip); try rfl)]; exact ⟨(hfb.wide (by decide) (by decide)).up (by decide) (by decide), hJ.wA (hGD.xfall hF (by omega)) (hRt.chg hNl.2 hRt.1.xfall (xfall_lo (by omega)) (xfall_lo (by omega)) (fun _ _ => pn_xfall)) (Fb.rf.up (by decide) (by decide)), rfl⟩)
    · have d2 : bitN (A 5) g = 0 := nq_eq (by omega) (by omega) c2
      refine V_ldc (v := (-1000002)) e_X8_setUp_28 k_X8_146 ?_
      exact V_iret e_X8_setUp_30 rfl (by rw [show oFall (A, T) (nI g) 0 = ((A, T), (-1000002)) from (by unfold oFall; (try unfold gIn); dsimp only; (try (repeat rw [ixN (by omega)])); (first | rw [if_pos c1] | rw [if_neg c1] | skip); (first | rw [if_pos d2] | rw [if_neg d2] | skip); try rfl)]; exact ⟨Fb.rf, hI, rfl⟩)
  · refine V_ldc (v := (-1000001)) e_X8_setUp_11 k_X8_73 ?_
    exact V_iret e_X8_setUp_13 rfl (by rw [show oFall (A, T) x 0 = ((A, T), (-1000001)) from (by unfold oFall; (try unfold gIn); dsimp only; (try (repeat rw [ixN (by omega)])); (first | rw [if_pos c1] | rw [if_neg c1] | skip); try rfl)]; exact ⟨Fb.rf, hI, rfl⟩)
set_option maxRecDepth 100000 in
set_option maxHeartbeats 4000000 in
theorem c8_undo_1 (E : En) (A : Vec) (H : (Nat → Vec) × Nat) (T : _) (σ : Sg) (hI : IC σ (A, H, T)) (O : Nat) (hO : O < 24) (h1 : σ 23 1 = nI O) (h2 : σ 23 2 = nI H.2) (h3 : ∀ j, j < H.2 → RepC σ (25 + 9 * ((O + j) % 24)) (H.1 j)) (h0 : ¬ H.2 = 0) : Cn E m_X8_undo 12 [.ref (eB E + 0)] σ (pC σ (oUndo (A, H, T))) := by
  have hH24 : H.2 ≤ 24 := hI.1.2.1.1
  refine Cn.of [some (.ref (eB E + 0))] (by decide) (Nat.le_of_ble_eq_true rfl) rfl ?_
  refine V_aload_n e_X8_undo_0 rfl rfl ?_
  refine V_getr (r := 23) e_X8_undo_1 F_X8_acts f_X8_39 rfl rfl ?_
  refine V_aload_n e_X8_undo_4 rfl rfl ?_
  refine V_getr (r := 4) e_X8_undo_5 F_X8_now f_X8_25 rfl rfl ?_
  refine V_cvIe (av := [.ref (eB E + 4)]) (st := []) e_X8_undo_8 (c_X0_takeBack E O H.2 σ h1 h2 hO hH24 (by omega)) l_X8_142 S_X0_takeBack rfl (rm_ok (by decide) (by decide)) rfl rfl (Nat.le_of_ble_eq_true rfl) ?_
  refine V_if_eq (tgt := 24) e_X8_undo_11 (by decide) (fun c1 => absurd c1 (by decide)) (fun c1 => ?_)
  refine V_aload_n e_X8_undo_14 rfl rfl ?_
  refine V_getr (r := 23) e_X8_undo_15 F_X8_acts f_X8_39 rfl rfl ?_
  refine V_getiv (v := nI (H.2 - 1)) e_X8_undo_18 F_X0_size f_X8_145 rfl ((bec_fb 23 2 (by omega)).trans up2_at) ?_
  refine V_goto (tgt := 26) e_X8_undo_21 (by decide) ?_
  exact V_iret e_X8_undo_26 rfl (undo_ok hI hO h1 h2 h3 h0)
set_option maxRecDepth 100000 in
set_option maxHeartbeats 4000000 in
theorem c8_undo_0 (E : En) (A : Vec) (H : (Nat → Vec) × Nat) (T : _) (σ : Sg) (hI : IC σ (A, H, T)) (h2 : σ 23 2 = nI 0) (h0 : H.2 = 0) : Cn E m_X8_undo 12 [.ref (eB E + 0)] σ (pC σ (oUndo (A, H, T))) := by
  refine Cn.of [some (.ref (eB E + 0))] (by decide) (Nat.le_of_ble_eq_true rfl) rfl ?_
  refine V_aload_n e_X8_undo_0 rfl rfl ?_
  refine V_getr (r := 23) e_X8_undo_1 F_X8_acts f_X8_39 rfl rfl ?_
  refine V_aload_n e_X8_undo_4 rfl rfl ?_
  refine V_getr (r := 4) e_X8_undo_5 F_X8_now f_X8_25 rfl rfl ?_
  refine V_cvIe (av := [.ref (eB E + 4)]) (st := []) e_X8_undo_8 (c_X0_takeBack_0 E σ h2) l_X8_142 S_X0_takeBack rfl (rm_ok (by decide) (by decide)) rfl rfl (Nat.le_of_ble_eq_true rfl) ?_
  refine V_if_eq (tgt := 24) e_X8_undo_11 (by decide) (fun c1 => ?_) (fun c1 => absurd c1 (by decide))
  refine V_ldc (v := (-1000002)) e_X8_undo_24 k_X8_146 ?_
  exact V_iret e_X8_undo_26 rfl (by rw [show oUndo (A, H, T) = ((A, H, T), (-1000002)) from if_pos h0]; exact ⟨Fb.rf, hI, rfl⟩)
theorem c8_undo (E : En) (S : Ab) (σ : Sg) (hI : IC σ S) : Cn E m_X8_undo 12 [.ref (eB E + 0)] σ (pC σ (oUndo S)) := by
  obtain ⟨A, H, T⟩ := S
  obtain ⟨O, hO, h1, h2, h3⟩ := id hI.2.2.1
  by_cases h0 : H.2 = 0
  · exact c8_undo_0 E A H T σ hI (h2.trans (congrArg nI h0)) h0
  · exact c8_undo_1 E A H T σ hI O hO h1 h2 h3 h0
set_option maxRecDepth 100000 in
set_option maxHeartbeats 4000000 in
theorem lp_X8_days (E : En) (n : Nat) (A : Vec) (T : AbT) (σ : Sg) (hF : WF A) (hn : n ≤ 24) (h9 : A 4 + n ≤ 999) (h5 : A 1 ≤ 5) : ∀ (mm : Nat) (i : Nat) (τ : Sg), n - i = mm → (i ≤ n) → (IC τ (daysK (A, T) i)) → (Fb 0 292 σ τ) → V E m_X8_days (kM E 12 (pI (fun σ' r => Fb 0 292 σ σ' ∧ IC σ' (daysK (A, T) n) ∧ r = nI (hung (daysV A n))))) 46 [some (.ref (eB E + 0)), some (.int (nI n)), some (.int (nI i))] [] τ := by
  intro mm
  induction mm using Nat.strongRecOn with
  | ind mm ih =>
    intro i τ hmm hi hJ hfb
    refine V_iload_n e_X8_days_46 rfl rfl ?_
    refine V_iload_n e_X8_days_47 rfl rfl ?_
    refine V_icmp_ge (tgt := 75) e_X8_days_48 (by decide) (fun c1 => ?_) (fun c1 => ?_)
    · have d1 : n ≤ i := nq_le (by omega) (by omega) c1
      refine V_aload_n e_X8_days_75 rfl rfl ?_
      refine V_getr (r := 4) e_X8_days_76 F_X8_now f_X8_25 rfl rfl ?_
      refine V_cvIe (av := []) (st := []) e_X8_days_79 (c_X5_hungerOfAll E 4 (daysV A n) τ rfl (by have hz9 := hJ.2.1; rw [show aA (daysK (A, T) i) = daysV A i from daysK_1 (S := (A, T)) i, show i = n by omega] at hz9; exact hz9) (by rw [daysV_lo (by omega) (by omega)]; exact h5)) l_X8_160 S_X5_hungerOfAll rfl (rm_ok (by decide) (by decide)) rfl rfl (Nat.le_of_ble_eq_true rfl) ?_
      exact V_iret e_X8_days_82 rfl (⟨hfb, by rw [show n = i by omega]; exact hJ, rfl⟩)
    · have d1 : ¬ n ≤ i := nq_nle (by omega) (by omega) c1
      refine V_aload_n e_X8_days_51 rfl rfl ?_
      refine V_getr (r := 23) e_X8_days_52 F_X8_acts f_X8_39 rfl rfl ?_
      refine V_aload_n e_X8_days_55 rfl rfl ?_
      refine V_getr (r := 4) e_X8_days_56 F_X8_now f_X8_25 rfl rfl ?_
      refine V_cvV (av := [.ref (eB E + 4)]) (st := []) e_X8_days_59 (c8_keep E (daysK (A, T) i) τ hJ) l_X8_154 S_X0_keep rfl (rm_ok (by decide) (by decide)) rfl rfl (Nat.le_of_ble_eq_true rfl) ?_
      intro ρ hh
      obtain ⟨hfb2, hJ2⟩ := hh
      have hRt : RepC ρ 4 (daysV A i) := (by have hz9 := hJ2.2.1; rw [show aA (keepS (daysK (A, T) i)) = daysV A i from daysK_1 (S := (A, T)) i] at hz9; exact hz9)
      refine V_aload_n e_X8_days_62 rfl rfl ?_
      refine V_getr (r := 4) e_X8_days_63 F_X8_now f_X8_25 rfl rfl ?_
      refine V_cvV (av := []) (st := []) e_X8_days_66 (c_X5_passDay E 4 (daysV A i) ρ rfl hRt (hF.days i)) l_X8_157 S_X5_passDay rfl (rm_ok (by decide) (by decide)) rfl rfl (Nat.le_of_ble_eq_true rfl) ?_
      intro τ2 hh3
      obtain ⟨hr3, hf3⟩ := hh3
      refine V_iinc (v := nI (i + 1)) (L' := [some (.ref (eB E + 0)), some (.int (nI n)), some (.int (nI (i + 1)))]) e_X8_days_69 rfl (nI_add _ 1) rfl ?_
      refine V_goto (tgt := 46) e_X8_days_72 (by decide) ?_
      exact ih (n - (i + 1)) (by omega) (i + 1) τ2 rfl (by omega) (by have hz9 := hJ2.wA (A := dayV (daysV A i)) (GD.day (by have hz8 := hJ.1.1; rw [show aA (daysK (A, T) i) = daysV A i from daysK_1 (S := (A, T)) i] at hz8; exact hz8) (hF.days i) (by rw [daysV_4]; omega)) hr3 (hf3.b (by decide) (by decide)); rw [show wA (keepS (daysK (A, T) i)) (dayV (daysV A i)) = daysK (A, T) (i + 1) from (by show _ = dayS (daysK (A, T) i); unfold dayS; rw [daysK_1 i])] at hz9; exact hz9) ((hfb.tr (hfb2.wide (by decide) (by decide))).tr ((hf3.b (lo := 4) (hi := 13) (by decide) (by decide)).wide (by decide) (by decide)))
set_option maxRecDepth 100000 in
set_option maxHeartbeats 4000000 in
theorem c8_days (E : En) (x : Int32) (A : Vec) (T : AbT) (σ : Sg) (hI : IC σ (A, T)) : Cn E m_X8_days 12 [.ref (eB E + 0), .int x] σ (pC σ (oDays (A, T) x)) := by
  have hR : RepC σ 4 A := hI.2.1
  have hGD : GD A := hI.1.1
  have hN : WN A := hGD.1
  have hNl := hN.le
  have hA4 : A 4 ≤ 999 := hGD.2.2
  refine Cn.of [some (.ref (eB E + 0)), some (.int x), none] (by decide) (Nat.le_of_ble_eq_true rfl) rfl ?_
  refine V_aload_n e_X8_days_0 rfl rfl ?_
  refine V_getr (r := 4) e_X8_days_1 F_X8_now f_X8_25 rfl rfl ?_
  refine V_cvIe (av := []) (st := []) e_X8_days_4 (c_X5_isNone E 4 (A 0) σ rfl hR.1.2.2.2.1 hNl.1) l_X8_147 S_X5_isNone rfl (rm_ok (by decide) (by decide)) rfl rfl (Nat.le_of_ble_eq_true rfl) ?_
  refine V_if_eq (tgt := 13) e_X8_days_7 (by decide) (fun c1 => ?_) (fun c1 => ?_)
  · have d1 : (if A 0 = 0 then 1 else 0) = 0 := nq_eq (by first | omega | (split <;> omega)) (by first | omega | (split <;> omega)) c1
    have hA0 : ¬ A 0 = 0 := fun q => by rw [if_pos q] at d1; omega
    have hF : WF A := hN.wf (by omega)
    refine V_iload_n e_X8_days_13 rfl rfl ?_
    refine V_iconst (v := nI 1) e_X8_days_14 (by decide) ?_
    refine V_bipush (v := nI 24) e_X8_days_15 (by decide) ?_
    refine V_csIe (av := [.int x, .int (nI 1), .int (nI 24)]) (st := []) e_X8_days_17 (c_X8_within E x (nI 1) (nI 24) σ) l_X8_69 S_X8_within (rm_ok (by decide) (by decide)) rfl rfl (Nat.le_of_ble_eq_true rfl) ?_
    refine V_if_ne (tgt := 26) e_X8_days_20 (by decide) (fun c2 => ?_) (fun c2 => ?_)
    · obtain ⟨n, hna, hn, rfl⟩ := (wi_le (by omega) (by omega)).mp c2
      refine V_aload_n e_X8_days_26 rfl rfl ?_
      refine V_getr (r := 4) e_X8_days_27 F_X8_now f_X8_25 rfl rfl ?_
      refine V_getiv (v := nI (A 4)) e_X8_days_30 F_X5_day f_X8_151 rfl hR.1.2.2.1 ?_
      refine V_sipush (v := nI 999) e_X8_days_33 (by decide) ?_
      refine V_iload_n e_X8_days_36 rfl rfl ?_
      refine V_isubN (z := nI (999 - n)) e_X8_days_37 (pk_sub (by omega)) ?_
      refine V_icmp_le (tgt := 44) e_X8_days_38 (by decide) (fun c3 => ?_) (fun c3 => ?_)
      · have d3 : A 4 ≤ 999 - n := nq_le (by first | omega | (split <;> omega)) (by first | omega | (split <;> omega)) c3
        refine V_iconst (v := nI 0) e_X8_days_44 (by decide) ?_
        refine V_istore_n (L' := [some (.ref (eB E + 0)), some (.int (nI n)), some (.int (nI 0))]) e_X8_days_45 rfl rfl ?_
        rw [show oDays (A, T) (nI n) = (daysK (A, T) n, nI (hung (daysV A n))) from (by unfold oDays; dsimp only; rw [if_neg hA0, if_neg c2, ixN (by omega), if_neg (by omega)])]; exact lp_X8_days E n A T σ hF (by omega) (by omega) hNl.2 n 0 σ rfl (by omega) hI Fb.rf
      · have d3 : ¬ A 4 ≤ 999 - n := nq_nle (by first | omega | (split <;> omega)) (by first | omega | (split <;> omega)) c3
        refine V_ldc (v := (-1000003)) e_X8_days_41 k_X8_117 ?_
        exact V_iret e_X8_days_43 rfl (by rw [show oDays (A, T) (nI n) = ((A, T), (-1000003)) from (by unfold oDays; (try unfold gIn); dsimp only; (try (repeat rw [ixN (by omega)])); (first | rw [if_pos hA0] | rw [if_neg hA0] | skip); (first | rw [if_pos c2] | rw [if_neg c2] | skip); (first | rw [if_pos (show 999 < A 4 + n by omega)] | rw [if_neg (show 999 < A 4 + n by omega)] | skip); try rfl)]; exact ⟨Fb.rf, hI, rfl⟩)
    · refine V_ldc (v := (-1000001)) e_X8_days_23 k_X8_73 ?_
      exact V_iret e_X8_days_25 rfl (by rw [show oDays (A, T) x = ((A, T), (-1000001)) from (by unfold oDays; (try unfold gIn); dsimp only; (try (repeat rw [ixN (by omega)])); (first | rw [if_pos hA0] | rw [if_neg hA0] | skip); (first | rw [if_pos c2] | rw [if_neg c2] | skip); try rfl)]; exact ⟨Fb.rf, hI, rfl⟩)
  · have d1 : ¬ (if A 0 = 0 then 1 else 0) = 0 := nq_ne (by first | omega | (split <;> omega)) (by first | omega | (split <;> omega)) c1
    have hA0 : A 0 = 0 := Decidable.byContradiction (fun q => by rw [if_neg q] at d1; omega)
    refine V_ldc (v := (-1000002)) e_X8_days_10 k_X8_146 ?_
    exact V_iret e_X8_days_12 rfl (by rw [show oDays (A, T) x = ((A, T), (-1000002)) from (by unfold oDays; (try unfold gIn); dsimp only; (try (repeat rw [ixN (by omega)])); (first | rw [if_pos hA0] | rw [if_neg hA0] | skip); try rfl)]; exact ⟨Fb.rf, hI, rfl⟩)

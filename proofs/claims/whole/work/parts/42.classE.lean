set_option maxRecDepth 100000 in
set_option maxHeartbeats 4000000 in
theorem c8_what (E : En) (x y z w v u : Int32) (A : Vec) (T : AbT) (σ : Sg) (hI : IC σ (A, T)) : Cn E m_X8_what 12 [.ref (eB E + 0), .int x, .int y, .int z, .int w, .int v, .int u] σ (pC σ (oWhat (A, T) x y z w v u)) := by
  have hR : RepC σ 4 A := hI.2.1
  have hGD : GD A := hI.1.1
  have hN : WN A := hGD.1
  have hNl := hN.le
  have hA4 : A 4 ≤ 999 := hGD.2.2
  have hG := hI.1
  have hCR : CR σ (aR (A, T)) := hI.2.2.2.2.1
  refine Cn.of [some (.ref (eB E + 0)), some (.int x), some (.int y), some (.int z), some (.int w), some (.int v), some (.int u), none] (by decide) (Nat.le_of_ble_eq_true rfl) rfl ?_
  refine V_aload_n e_X8_what_0 rfl rfl ?_
  refine V_getr (r := 4) e_X8_what_1 F_X8_now f_X8_25 rfl rfl ?_
  refine V_iload_n e_X8_what_4 rfl rfl ?_
  refine V_cvIe (av := [.int x]) (st := []) e_X8_what_5 (c_X5_hasGate E 4 (A 0) x σ rfl hR.1.2.2.2.1) l_X8_189 S_X5_hasGate rfl (rm_ok (by decide) (by decide)) rfl rfl (Nat.le_of_ble_eq_true rfl) ?_
  refine V_if_eq (tgt := 41) e_X8_what_8 (by decide) (fun c1 => ?_) (fun c1 => ?_)
  · refine V_ldc (v := (-1000001)) e_X8_what_41 k_X8_73 ?_
    exact V_iret e_X8_what_43 rfl (by rw [show oWhat (A, T) x y z w v u = ((A, T), (-1000001)) from (by unfold oWhat; (try unfold gIn); (try dsimp only); (try (repeat rw [ixN (by omega)])); (first | rw [if_pos c1] | rw [if_neg c1] | skip); try rfl)]; exact ⟨Fb.rf, hI, rfl⟩)
  · obtain ⟨g, hg, rfl⟩ := (wi_nat (by omega)).mp c1
    have hF : WF A := hN.wf (by omega)
    refine V_iload_n e_X8_what_11 rfl rfl ?_
    refine V_iconst (v := nI 0) e_X8_what_12 (by decide) ?_
    refine V_iconst (v := nI 1) e_X8_what_13 (by decide) ?_
    refine V_csIe (av := [.int y, .int (nI 0), .int (nI 1)]) (st := []) e_X8_what_14 (c_X8_within E y (nI 0) (nI 1) σ) l_X8_69 S_X8_within (rm_ok (by decide) (by decide)) rfl rfl (Nat.le_of_ble_eq_true rfl) ?_
    refine V_if_eq (tgt := 41) e_X8_what_17 (by decide) (fun c2 => ?_) (fun c2 => ?_)
    · refine V_ldc (v := (-1000001)) e_X8_what_41 k_X8_73 ?_
      exact V_iret e_X8_what_43 rfl (by rw [show oWhat (A, T) (nI g) y z w v u = ((A, T), (-1000001)) from (by unfold oWhat; (try unfold gIn); (try dsimp only); (try (repeat rw [ixN (by omega)])); (first | rw [if_pos c1] | rw [if_neg c1] | skip); (first | rw [if_pos c2] | rw [if_neg c2] | skip); try rfl)]; exact ⟨Fb.rf, hI, rfl⟩)
    · obtain ⟨k, hka, hk, rfl⟩ := (wi_le (by omega) (by omega)).mp c2
      refine V_aload_n e_X8_what_20 rfl rfl ?_
      refine V_getr (r := 4) e_X8_what_21 F_X8_now f_X8_25 rfl rfl ?_
      refine V_iload_n e_X8_what_24 rfl rfl ?_
      refine V_cvIe (av := [.int z]) (st := []) e_X8_what_25 (c_X5_hasPerson E 4 (A 1) z σ rfl hR.1.2.2.2.2.1) l_X8_164 S_X5_hasPerson rfl (rm_ok (by decide) (by decide)) rfl rfl (Nat.le_of_ble_eq_true rfl) ?_
      refine V_if_eq (tgt := 41) e_X8_what_28 (by decide) (fun c3 => ?_) (fun c3 => ?_)
      · refine V_ldc (v := (-1000001)) e_X8_what_41 k_X8_73 ?_
        exact V_iret e_X8_what_43 rfl (by rw [show oWhat (A, T) (nI g) (nI k) z w v u = ((A, T), (-1000001)) from (by unfold oWhat; (try unfold gIn); (try dsimp only); (try (repeat rw [ixN (by omega)])); (first | rw [if_pos c1] | rw [if_neg c1] | skip); (first | rw [if_pos c2] | rw [if_neg c2] | skip); (first | rw [if_pos c3] | rw [if_neg c3] | skip); try rfl)]; exact ⟨Fb.rf, hI, rfl⟩)
      · obtain ⟨p, hp, rfl⟩ := (wi_nat (by omega)).mp c3
        refine V_iload e_X8_what_31 rfl ?_
        refine V_iload e_X8_what_33 rfl ?_
        refine V_csIe (av := [.int w, .int u]) (st := []) e_X8_what_35 (c_X8_canTellDinners E w u σ) l_X8_265 S_X8_canTellDinners (rm_ok (by decide) (by decide)) rfl rfl (Nat.le_of_ble_eq_true rfl) ?_
        refine V_if_ne (tgt := 44) e_X8_what_38 (by decide) (fun c4 => ?_) (fun c4 => ?_)
        · obtain ⟨hcw, hcu⟩ := ctd_1 c4
          obtain ⟨r, hra, hr, rfl⟩ := (wi_le (by omega) (by omega)).mp hcw
          have hGr := hG.rows r (by omega)
          obtain ⟨er1, er2, er3, er4⟩ := hCR r (by omega)
          obtain ⟨n, hna, hn, rfl⟩ := (wi_le (by omega) (by omega)).mp hcu
          refine V_aload_n e_X8_what_44 rfl rfl ?_
          refine V_getr (r := 1) e_X8_what_45 F_X8_rows f_X8_11 rfl rfl ?_
          refine V_iload e_X8_what_48 rfl ?_
          refine V_aald (j := r) (r := 258 + 2 * r) e_X8_what_50 (by decide) (by decide) rfl (by have q : ln 1 = 8 := rfl; omega) rfl ?_
          refine V_iload e_X8_what_51 rfl ?_
          refine V_iload e_X8_what_53 rfl ?_
          refine V_cvIe (av := [.int v, .int (nI n)]) (st := []) e_X8_what_55 (c_X3_findingAt E (258 + 2 * r) v (nI n) σ (kd_row r (by have q : ln 1 = 8 := rfl; omega))) l_X8_85 S_X3_findingAt (kd_row r (by have q : ln 1 = 8 := rfl; omega)) (rm_ok (by decide) (by decide)) rfl rfl (Nat.le_of_ble_eq_true rfl) ?_
          refine V_topi (y := nI (fndS ((aR (A, T)).1 r) ((aR (A, T)).2.1 r) v (nI n))) (by rw [er1, er3]; exact fnd_S hGr.2) ?_
          refine V_istore (L' := [some (.ref (eB E + 0)), some (.int (nI g)), some (.int (nI k)), some (.int (nI p)), some (.int (nI r)), some (.int v), some (.int (nI n)), some (.int (nI (fndS ((aR (A, T)).1 r) ((aR (A, T)).2.1 r) v (nI n))))]) e_X8_what_58 rfl ?_
          refine V_iload e_X8_what_60 rfl ?_
          refine V_if_eq (tgt := 72) e_X8_what_62 (by decide) (fun c5 => ?_) (fun c5 => ?_)
          · have d5 : fndS ((aR (A, T)).1 r) ((aR (A, T)).2.1 r) v (nI n) = 0 := nq_eq (by first | omega | (have hz9 := fndS_le ((aR (A, T)).1 r) ((aR (A, T)).2.1 r) v (nI n); omega)) (by first | omega | (have hz9 := fndS_le ((aR (A, T)).1 r) ((aR (A, T)).2.1 r) v (nI n); omega)) c5
            obtain ⟨hlr, hpl⟩ := fndS_0 d5
            obtain ⟨i, n1, rfl, hb1, hin, hi31, hn31⟩ := hpl.nat
            obtain rfl : n = n1 := nq_eq (by omega) hn31 hb1
            refine V_aload_n e_X8_what_72 rfl rfl ?_
            refine V_getr (r := 241) e_X8_what_73 F_X8_seer f_X8_46 rfl rfl ?_
            refine V_aload_n e_X8_what_76 rfl rfl ?_
            refine V_getr (r := 1) e_X8_what_77 F_X8_rows f_X8_11 rfl rfl ?_
            refine V_iload e_X8_what_80 rfl ?_
            refine V_aald (j := r) (r := 258 + 2 * r) e_X8_what_82 (by decide) (by decide) rfl (by have q : ln 1 = 8 := rfl; omega) rfl ?_
            refine V_iload e_X8_what_83 rfl ?_
            refine V_iload e_X8_what_85 rfl ?_
            refine V_cvV (av := [.ref (eB E + (258 + 2 * r)), .int (nI i), .int (nI n)]) (st := []) e_X8_what_87 (c_X4_hearDinners E (258 + 2 * r) i n σ (kd_row r (by have q : ln 1 = 8 := rfl; omega)) (by omega) (by omega)) l_X8_269 S_X4_hearDinners rfl (rm_ok (by decide) (by decide)) rfl rfl (Nat.le_of_ble_eq_true rfl) ?_
            intro τ hh
            have hH : Hd σ τ (aR (A, T)) r i n := ⟨hh.1, fun j hj => (hh.2.1 j hj).trans (by rw [show 258 + 2 * r + 1 = 259 + 2 * r by omega]; exact er4 _ (by omega)), hh.2.2⟩
            have hRt : RepC τ 4 A := hH.rep hNl.2 hR
            have hJ : IC τ (A, T) := hH.ic hI
            refine V_aload_n e_X8_what_90 rfl rfl ?_
            refine V_iload_n e_X8_what_91 rfl rfl ?_
            refine V_if_ne (tgt := 111) e_X8_what_92 (by decide) (fun c6 => ?_) (fun c6 => ?_)
            · have d6 : ¬ k = 0 := nq_ne (by first | omega | (have hz9 := fndS_le ((aR (A, T)).1 r) ((aR (A, T)).2.1 r) v (nI n); omega)) (by first | omega | (have hz9 := fndS_le ((aR (A, T)).1 r) ((aR (A, T)).2.1 r) v (nI n); omega)) c6
              refine V_aload_n e_X8_what_111 rfl rfl ?_
              refine V_getr (r := 241) e_X8_what_112 F_X8_seer f_X8_46 rfl rfl ?_
              refine V_aload_n e_X8_what_115 rfl rfl ?_
              refine V_getr (r := 4) e_X8_what_116 F_X8_now f_X8_25 rfl rfl ?_
              refine V_iload_n e_X8_what_119 rfl rfl ?_
              refine V_iload_n e_X8_what_120 rfl rfl ?_
              refine V_cvI (av := [.ref (eB E + 4), .int (nI g), .int (nI p)]) (st := [.ref (eB E + 0)]) e_X8_what_121 (c_X4_facingsThatFit E p g n A τ hRt hF hH.1 (by omega) hp hg) l_X8_276 S_X4_facingsThatFit rfl (rm_ok (by decide) (by decide)) rfl rfl (Nat.le_of_ble_eq_true rfl) ?_
              intro ρ r9 hh2
              obtain ⟨hfb2, hr9⟩ := hh2
              have hJ2 : IC ρ (A, T) := hJ.fb hfb2
              refine V_cvIe (av := [.int r9]) (st := []) e_X8_what_124 (c_X8_sound E r9 ρ) l_X8_82 S_X8_sound rfl (rm_ok (by decide) (by decide)) rfl rfl (Nat.le_of_ble_eq_true rfl) ?_
              exact V_iret e_X8_what_127 rfl (by rw [show oWhat (A, T) (nI g) (nI k) (nI p) (nI r) (nI i) (nI n) = (wS (A, T) 0, nI (whatV A g k p (dinR (aR (A, T)) r i) n)) from (by unfold oWhat; (try unfold gIn); (try dsimp only); (try (repeat rw [ixN (by omega)])); (first | rw [if_pos c1] | rw [if_neg c1] | skip); (first | rw [if_pos c2] | rw [if_neg c2] | skip); (first | rw [if_pos c3] | rw [if_neg c3] | skip); (first | rw [if_pos hcw] | rw [if_neg hcw] | skip); (first | rw [if_pos hcu] | rw [if_neg hcu] | skip); (first | rw [if_pos d5] | rw [if_neg d5] | skip); try rfl)]; rw [hr9]; exact ⟨(show Fb 0 292 σ (up2 ρ 0 11 (nI 0)) from (hH.fb.tr (hfb2.wide (by decide) (by decide))).up (by decide) (by decide)), (show IC (up2 ρ 0 11 (nI 0)) (wS (A, T) 0) from hJ2.wS (by omega)), congrArg nI (by unfold whatV; (first | rw [if_pos (by omega)] | rw [if_neg (by omega)]); exact fitK_cg _ (fun j _ => tld_cg hH.2.1))⟩)
            · have d6 : k = 0 := nq_eq (by first | omega | (have hz9 := fndS_le ((aR (A, T)).1 r) ((aR (A, T)).2.1 r) v (nI n); omega)) (by first | omega | (have hz9 := fndS_le ((aR (A, T)).1 r) ((aR (A, T)).2.1 r) v (nI n); omega)) c6
              refine V_aload_n e_X8_what_95 rfl rfl ?_
              refine V_getr (r := 241) e_X8_what_96 F_X8_seer f_X8_46 rfl rfl ?_
              refine V_aload_n e_X8_what_99 rfl rfl ?_
              refine V_getr (r := 4) e_X8_what_100 F_X8_now f_X8_25 rfl rfl ?_
              refine V_iload_n e_X8_what_103 rfl rfl ?_
              refine V_iload_n e_X8_what_104 rfl rfl ?_
              refine V_cvI (av := [.ref (eB E + 4), .int (nI g), .int (nI p)]) (st := [.ref (eB E + 0)]) e_X8_what_105 (c_X4_kindsThatFit E p g n A τ hRt hF hH.1 (by omega) hp hg) l_X8_273 S_X4_kindsThatFit rfl (rm_ok (by decide) (by decide)) rfl rfl (Nat.le_of_ble_eq_true rfl) ?_
              intro ρ r9 hh2
              obtain ⟨hfb2, hr9⟩ := hh2
              have hJ2 : IC ρ (A, T) := hJ.fb hfb2
              refine V_goto (tgt := 124) e_X8_what_108 (by decide) ?_
              refine V_cvIe (av := [.int r9]) (st := []) e_X8_what_124 (c_X8_sound E r9 ρ) l_X8_82 S_X8_sound rfl (rm_ok (by decide) (by decide)) rfl rfl (Nat.le_of_ble_eq_true rfl) ?_
              exact V_iret e_X8_what_127 rfl (by rw [show oWhat (A, T) (nI g) (nI k) (nI p) (nI r) (nI i) (nI n) = (wS (A, T) 0, nI (whatV A g k p (dinR (aR (A, T)) r i) n)) from (by unfold oWhat; (try unfold gIn); (try dsimp only); (try (repeat rw [ixN (by omega)])); (first | rw [if_pos c1] | rw [if_neg c1] | skip); (first | rw [if_pos c2] | rw [if_neg c2] | skip); (first | rw [if_pos c3] | rw [if_neg c3] | skip); (first | rw [if_pos hcw] | rw [if_neg hcw] | skip); (first | rw [if_pos hcu] | rw [if_neg hcu] | skip); (first | rw [if_pos d5] | rw [if_neg d5] | skip); try rfl)]; rw [hr9]; exact ⟨(show Fb 0 292 σ (up2 ρ 0 11 (nI 0)) from (hH.fb.tr (hfb2.wide (by decide) (by decide))).up (by decide) (by decide)), (show IC (up2 ρ 0 11 (nI 0)) (wS (A, T) 0) from hJ2.wS (by omega)), congrArg nI (by unfold whatV; (first | rw [if_pos (by omega)] | rw [if_neg (by omega)]); exact fitK_cg _ (fun j _ => tld_cg hH.2.1))⟩)
          · have d5 : ¬ fndS ((aR (A, T)).1 r) ((aR (A, T)).2.1 r) v (nI n) = 0 := nq_ne (by first | omega | (have hz9 := fndS_le ((aR (A, T)).1 r) ((aR (A, T)).2.1 r) v (nI n); omega)) (by first | omega | (have hz9 := fndS_le ((aR (A, T)).1 r) ((aR (A, T)).2.1 r) v (nI n); omega)) c5
            refine V_aload_n e_X8_what_65 rfl rfl ?_
            refine V_iload e_X8_what_66 rfl ?_
            refine V_cvIe (av := [.int (nI (fndS ((aR (A, T)).1 r) ((aR (A, T)).2.1 r) v (nI n)))]) (st := []) e_X8_what_68 (c_X8_found E (nI (fndS ((aR (A, T)).1 r) ((aR (A, T)).2.1 r) v (nI n))) σ) l_X8_74 S_X8_found rfl (rm_ok (by decide) (by decide)) rfl rfl (Nat.le_of_ble_eq_true rfl) ?_
            exact V_iret e_X8_what_71 rfl (by rw [show oWhat (A, T) (nI g) (nI k) (nI p) (nI r) v (nI n) = (wS (A, T) (fndS ((aR (A, T)).1 r) ((aR (A, T)).2.1 r) v (nI n)), (-1000010) - nI (fndS ((aR (A, T)).1 r) ((aR (A, T)).2.1 r) v (nI n))) from (by unfold oWhat; (try unfold gIn); (try dsimp only); (try (repeat rw [ixN (by omega)])); (first | rw [if_pos c1] | rw [if_neg c1] | skip); (first | rw [if_pos c2] | rw [if_neg c2] | skip); (first | rw [if_pos c3] | rw [if_neg c3] | skip); (first | rw [if_pos hcw] | rw [if_neg hcw] | skip); (first | rw [if_pos hcu] | rw [if_neg hcu] | skip); (first | rw [if_pos d5] | rw [if_neg d5] | skip); try rfl)]; exact ⟨Fb.rf.up (by decide) (by decide), hI.wS (by have hz9 := fndS_le ((aR (A, T)).1 r) ((aR (A, T)).2.1 r) v (nI n); omega), rfl⟩)
        · refine V_ldc (v := (-1000001)) e_X8_what_41 k_X8_73 ?_
          exact V_iret e_X8_what_43 rfl (by rcases ctd_0 c4 with hq | ⟨hq, hq2⟩; (rw [show oWhat (A, T) (nI g) (nI k) (nI p) w v u = ((A, T), (-1000001)) from (by unfold oWhat; (try unfold gIn); (try dsimp only); (try (repeat rw [ixN (by omega)])); (first | rw [if_pos c1] | rw [if_neg c1] | skip); (first | rw [if_pos c2] | rw [if_neg c2] | skip); (first | rw [if_pos c3] | rw [if_neg c3] | skip); rw [if_pos hq])]; exact ⟨Fb.rf, hI, rfl⟩); (rw [show oWhat (A, T) (nI g) (nI k) (nI p) w v u = ((A, T), (-1000001)) from (by unfold oWhat; (try unfold gIn); (try dsimp only); (try (repeat rw [ixN (by omega)])); (first | rw [if_pos c1] | rw [if_neg c1] | skip); (first | rw [if_pos c2] | rw [if_neg c2] | skip); (first | rw [if_pos c3] | rw [if_neg c3] | skip); rw [if_neg hq, if_pos hq2])]; exact ⟨Fb.rf, hI, rfl⟩))
set_option maxRecDepth 100000 in
set_option maxHeartbeats 4000000 in
theorem c8_who (E : En) (x y z w v : Int32) (A : Vec) (T : AbT) (σ : Sg) (hI : IC σ (A, T)) : Cn E m_X8_who 12 [.ref (eB E + 0), .int x, .int y, .int z, .int w, .int v] σ (pC σ (oWho (A, T) x y z w v)) := by
  have hR : RepC σ 4 A := hI.2.1
  have hGD : GD A := hI.1.1
  have hN : WN A := hGD.1
  have hNl := hN.le
  have hA4 : A 4 ≤ 999 := hGD.2.2
  have hG := hI.1
  have hCR : CR σ (aR (A, T)) := hI.2.2.2.2.1
  refine Cn.of [some (.ref (eB E + 0)), some (.int x), some (.int y), some (.int z), some (.int w), some (.int v), none] (by decide) (Nat.le_of_ble_eq_true rfl) rfl ?_
  refine V_aload_n e_X8_who_0 rfl rfl ?_
  refine V_getr (r := 4) e_X8_who_1 F_X8_now f_X8_25 rfl rfl ?_
  refine V_iload_n e_X8_who_4 rfl rfl ?_
  refine V_cvIe (av := [.int x]) (st := []) e_X8_who_5 (c_X5_hasPerson E 4 (A 1) x σ rfl hR.1.2.2.2.2.1) l_X8_164 S_X5_hasPerson rfl (rm_ok (by decide) (by decide)) rfl rfl (Nat.le_of_ble_eq_true rfl) ?_
  refine V_if_eq (tgt := 29) e_X8_who_8 (by decide) (fun c1 => ?_) (fun c1 => ?_)
  · refine V_ldc (v := (-1000001)) e_X8_who_29 k_X8_73 ?_
    exact V_iret e_X8_who_31 rfl (by rw [show oWho (A, T) x y z w v = ((A, T), (-1000001)) from (by unfold oWho; (try unfold gIn); (try dsimp only); (try (repeat rw [ixN (by omega)])); (first | rw [if_pos c1] | rw [if_neg c1] | skip); try rfl)]; exact ⟨Fb.rf, hI, rfl⟩)
  · obtain ⟨p, hp, rfl⟩ := (wi_nat (by omega)).mp c1
    have hF : WF A := hN.wf (by omega)
    refine V_iload_n e_X8_who_11 rfl rfl ?_
    refine V_iconst (v := nI 0) e_X8_who_12 (by decide) ?_
    refine V_iconst (v := nI 2) e_X8_who_13 (by decide) ?_
    refine V_csIe (av := [.int y, .int (nI 0), .int (nI 2)]) (st := []) e_X8_who_14 (c_X8_within E y (nI 0) (nI 2) σ) l_X8_69 S_X8_within (rm_ok (by decide) (by decide)) rfl rfl (Nat.le_of_ble_eq_true rfl) ?_
    refine V_if_eq (tgt := 29) e_X8_who_17 (by decide) (fun c2 => ?_) (fun c2 => ?_)
    · refine V_ldc (v := (-1000001)) e_X8_who_29 k_X8_73 ?_
      exact V_iret e_X8_who_31 rfl (by rw [show oWho (A, T) (nI p) y z w v = ((A, T), (-1000001)) from (by unfold oWho; (try unfold gIn); (try dsimp only); (try (repeat rw [ixN (by omega)])); (first | rw [if_pos c1] | rw [if_neg c1] | skip); (first | rw [if_pos c2] | rw [if_neg c2] | skip); try rfl)]; exact ⟨Fb.rf, hI, rfl⟩)
    · obtain ⟨k, hka, hk, rfl⟩ := (wi_le (by omega) (by omega)).mp c2
      refine V_iload_n e_X8_who_20 rfl rfl ?_
      refine V_iload e_X8_who_21 rfl ?_
      refine V_csIe (av := [.int z, .int v]) (st := []) e_X8_who_23 (c_X8_canTellDinners E z v σ) l_X8_265 S_X8_canTellDinners (rm_ok (by decide) (by decide)) rfl rfl (Nat.le_of_ble_eq_true rfl) ?_
      refine V_if_ne (tgt := 32) e_X8_who_26 (by decide) (fun c3 => ?_) (fun c3 => ?_)
      · obtain ⟨hcw, hcu⟩ := ctd_1 c3
        obtain ⟨r, hra, hr, rfl⟩ := (wi_le (by omega) (by omega)).mp hcw
        have hGr := hG.rows r (by omega)
        obtain ⟨er1, er2, er3, er4⟩ := hCR r (by omega)
        obtain ⟨n, hna, hn, rfl⟩ := (wi_le (by omega) (by omega)).mp hcu
        refine V_aload_n e_X8_who_32 rfl rfl ?_
        refine V_getr (r := 1) e_X8_who_33 F_X8_rows f_X8_11 rfl rfl ?_
        refine V_iload_n e_X8_who_36 rfl rfl ?_
        refine V_aald (j := r) (r := 258 + 2 * r) e_X8_who_37 (by decide) (by decide) rfl (by have q : ln 1 = 8 := rfl; omega) rfl ?_
        refine V_iload e_X8_who_38 rfl ?_
        refine V_iload e_X8_who_40 rfl ?_
        refine V_cvIe (av := [.int w, .int (nI n)]) (st := []) e_X8_who_42 (c_X3_findingAt E (258 + 2 * r) w (nI n) σ (kd_row r (by have q : ln 1 = 8 := rfl; omega))) l_X8_85 S_X3_findingAt (kd_row r (by have q : ln 1 = 8 := rfl; omega)) (rm_ok (by decide) (by decide)) rfl rfl (Nat.le_of_ble_eq_true rfl) ?_
        refine V_topi (y := nI (fndS ((aR (A, T)).1 r) ((aR (A, T)).2.1 r) w (nI n))) (by rw [er1, er3]; exact fnd_S hGr.2) ?_
        refine V_istore (L' := [some (.ref (eB E + 0)), some (.int (nI p)), some (.int (nI k)), some (.int (nI r)), some (.int w), some (.int (nI n)), some (.int (nI (fndS ((aR (A, T)).1 r) ((aR (A, T)).2.1 r) w (nI n))))]) e_X8_who_45 rfl ?_
        refine V_iload e_X8_who_47 rfl ?_
        refine V_if_eq (tgt := 59) e_X8_who_49 (by decide) (fun c4 => ?_) (fun c4 => ?_)
        · have d4 : fndS ((aR (A, T)).1 r) ((aR (A, T)).2.1 r) w (nI n) = 0 := nq_eq (by first | omega | (have hz9 := fndS_le ((aR (A, T)).1 r) ((aR (A, T)).2.1 r) w (nI n); omega)) (by first | omega | (have hz9 := fndS_le ((aR (A, T)).1 r) ((aR (A, T)).2.1 r) w (nI n); omega)) c4
          obtain ⟨hlr, hpl⟩ := fndS_0 d4
          obtain ⟨i, n1, rfl, hb1, hin, hi31, hn31⟩ := hpl.nat
          obtain rfl : n = n1 := nq_eq (by omega) hn31 hb1
          refine V_aload_n e_X8_who_59 rfl rfl ?_
          refine V_getr (r := 241) e_X8_who_60 F_X8_seer f_X8_46 rfl rfl ?_
          refine V_aload_n e_X8_who_63 rfl rfl ?_
          refine V_getr (r := 1) e_X8_who_64 F_X8_rows f_X8_11 rfl rfl ?_
          refine V_iload_n e_X8_who_67 rfl rfl ?_
          refine V_aald (j := r) (r := 258 + 2 * r) e_X8_who_68 (by decide) (by decide) rfl (by have q : ln 1 = 8 := rfl; omega) rfl ?_
          refine V_iload e_X8_who_69 rfl ?_
          refine V_iload e_X8_who_71 rfl ?_
          refine V_cvV (av := [.ref (eB E + (258 + 2 * r)), .int (nI i), .int (nI n)]) (st := []) e_X8_who_73 (c_X4_hearDinners E (258 + 2 * r) i n σ (kd_row r (by have q : ln 1 = 8 := rfl; omega)) (by omega) (by omega)) l_X8_269 S_X4_hearDinners rfl (rm_ok (by decide) (by decide)) rfl rfl (Nat.le_of_ble_eq_true rfl) ?_
          intro τ hh
          have hH : Hd σ τ (aR (A, T)) r i n := ⟨hh.1, fun j hj => (hh.2.1 j hj).trans (by rw [show 258 + 2 * r + 1 = 259 + 2 * r by omega]; exact er4 _ (by omega)), hh.2.2⟩
          have hRt : RepC τ 4 A := hH.rep hNl.2 hR
          have hJ : IC τ (A, T) := hH.ic hI
          refine V_iload_n e_X8_who_76 rfl rfl ?_
          rcases (show k = 0 ∨ k = 1 ∨ k = 2 by omega) with hk9 | hk9 | hk9
          · refine V_look (off := 27) (tgt := 104) e_X8_who_77 (by decide) (by rw [hk9]; decide) (by decide) ?_
            refine V_aload_n e_X8_who_104 rfl rfl ?_
            refine V_aload_n e_X8_who_105 rfl rfl ?_
            refine V_getr (r := 241) e_X8_who_106 F_X8_seer f_X8_46 rfl rfl ?_
            refine V_aload_n e_X8_who_109 rfl rfl ?_
            refine V_getr (r := 4) e_X8_who_110 F_X8_now f_X8_25 rfl rfl ?_
            refine V_iload_n e_X8_who_113 rfl rfl ?_
            refine V_cvI (av := [.ref (eB E + 4), .int (nI p)]) (st := [.ref (eB E + 0)]) e_X8_who_114 (c_X4_headingsThatFit E p n A τ hRt hF hH.1 (by omega) hp) l_X8_279 S_X4_headingsThatFit rfl (rm_ok (by decide) (by decide)) rfl rfl (Nat.le_of_ble_eq_true rfl) ?_
            intro ρ r9 hh2
            obtain ⟨hfb2, hr9⟩ := hh2
            have hJ2 : IC ρ (A, T) := hJ.fb hfb2
            refine V_cvIe (av := [.int r9]) (st := []) e_X8_who_117 (c_X8_sound E r9 ρ) l_X8_82 S_X8_sound rfl (rm_ok (by decide) (by decide)) rfl rfl (Nat.le_of_ble_eq_true rfl) ?_
            exact V_iret e_X8_who_120 rfl (by rw [show oWho (A, T) (nI p) (nI k) (nI r) (nI i) (nI n) = (wS (A, T) 0, nI (whoV A p k (dinR (aR (A, T)) r i) n)) from (by unfold oWho; (try unfold gIn); (try dsimp only); (try (repeat rw [ixN (by omega)])); (first | rw [if_pos c1] | rw [if_neg c1] | skip); (first | rw [if_pos c2] | rw [if_neg c2] | skip); (first | rw [if_pos hcw] | rw [if_neg hcw] | skip); (first | rw [if_pos hcu] | rw [if_neg hcu] | skip); (first | rw [if_pos d4] | rw [if_neg d4] | skip); try rfl)]; rw [hr9]; exact ⟨(show Fb 0 292 σ (up2 ρ 0 11 (nI 0)) from (hH.fb.tr (hfb2.wide (by decide) (by decide))).up (by decide) (by decide)), (show IC (up2 ρ 0 11 (nI 0)) (wS (A, T) 0) from hJ2.wS (by omega)), congrArg nI (by unfold whoV; (repeat (first | rw [if_pos (by omega)] | rw [if_neg (by omega)])); (first | exact fitK_cg _ (fun j _ => tld_cg hH.2.1) | exact ffS_cg (tld_cg hH.2.1) _ (fun j _ => tld_cg hH.2.1)))⟩)
          · refine V_look (off := 44) (tgt := 121) e_X8_who_77 (by decide) (by rw [hk9]; decide) (by decide) ?_
            refine V_aload_n e_X8_who_121 rfl rfl ?_
            refine V_aload_n e_X8_who_122 rfl rfl ?_
            refine V_getr (r := 241) e_X8_who_123 F_X8_seer f_X8_46 rfl rfl ?_
            refine V_aload_n e_X8_who_126 rfl rfl ?_
            refine V_getr (r := 4) e_X8_who_127 F_X8_now f_X8_25 rfl rfl ?_
            refine V_iload_n e_X8_who_130 rfl rfl ?_
            refine V_cvI (av := [.ref (eB E + 4), .int (nI p)]) (st := [.ref (eB E + 0)]) e_X8_who_131 (c_X4_fishesThatFit E p n A τ hRt hF hH.1 (by omega) hp) l_X8_282 S_X4_fishesThatFit rfl (rm_ok (by decide) (by decide)) rfl rfl (Nat.le_of_ble_eq_true rfl) ?_
            intro ρ r9 hh2
            obtain ⟨hfb2, hr9⟩ := hh2
            have hJ2 : IC ρ (A, T) := hJ.fb hfb2
            refine V_cvIe (av := [.int r9]) (st := []) e_X8_who_134 (c_X8_sound E r9 ρ) l_X8_82 S_X8_sound rfl (rm_ok (by decide) (by decide)) rfl rfl (Nat.le_of_ble_eq_true rfl) ?_
            exact V_iret e_X8_who_137 rfl (by rw [show oWho (A, T) (nI p) (nI k) (nI r) (nI i) (nI n) = (wS (A, T) 0, nI (whoV A p k (dinR (aR (A, T)) r i) n)) from (by unfold oWho; (try unfold gIn); (try dsimp only); (try (repeat rw [ixN (by omega)])); (first | rw [if_pos c1] | rw [if_neg c1] | skip); (first | rw [if_pos c2] | rw [if_neg c2] | skip); (first | rw [if_pos hcw] | rw [if_neg hcw] | skip); (first | rw [if_pos hcu] | rw [if_neg hcu] | skip); (first | rw [if_pos d4] | rw [if_neg d4] | skip); try rfl)]; rw [hr9]; exact ⟨(show Fb 0 292 σ (up2 ρ 0 11 (nI 0)) from (hH.fb.tr (hfb2.wide (by decide) (by decide))).up (by decide) (by decide)), (show IC (up2 ρ 0 11 (nI 0)) (wS (A, T) 0) from hJ2.wS (by omega)), congrArg nI (by unfold whoV; (repeat (first | rw [if_pos (by omega)] | rw [if_neg (by omega)])); (first | exact fitK_cg _ (fun j _ => tld_cg hH.2.1) | exact ffS_cg (tld_cg hH.2.1) _ (fun j _ => tld_cg hH.2.1)))⟩)
          · refine V_look (off := 61) (tgt := 138) e_X8_who_77 (by decide) (by rw [hk9]; decide) (by decide) ?_
            refine V_aload_n e_X8_who_138 rfl rfl ?_
            refine V_aload_n e_X8_who_139 rfl rfl ?_
            refine V_getr (r := 241) e_X8_who_140 F_X8_seer f_X8_46 rfl rfl ?_
            refine V_aload_n e_X8_who_143 rfl rfl ?_
            refine V_getr (r := 4) e_X8_who_144 F_X8_now f_X8_25 rfl rfl ?_
            refine V_iload_n e_X8_who_147 rfl rfl ?_
            refine V_cvI (av := [.ref (eB E + 4), .int (nI p)]) (st := [.ref (eB E + 0)]) e_X8_who_148 (c_X4_fallsThatFit E p n A τ hRt hF hH.1 (by omega) hp) l_X8_285 S_X4_fallsThatFit rfl (rm_ok (by decide) (by decide)) rfl rfl (Nat.le_of_ble_eq_true rfl) ?_
            intro ρ r9 hh2
            obtain ⟨hfb2, hr9⟩ := hh2
            have hJ2 : IC ρ (A, T) := hJ.fb hfb2
            refine V_cvIe (av := [.int r9]) (st := []) e_X8_who_151 (c_X8_sound E r9 ρ) l_X8_82 S_X8_sound rfl (rm_ok (by decide) (by decide)) rfl rfl (Nat.le_of_ble_eq_true rfl) ?_
            exact V_iret e_X8_who_154 rfl (by rw [show oWho (A, T) (nI p) (nI k) (nI r) (nI i) (nI n) = (wS (A, T) 0, nI (whoV A p k (dinR (aR (A, T)) r i) n)) from (by unfold oWho; (try unfold gIn); (try dsimp only); (try (repeat rw [ixN (by omega)])); (first | rw [if_pos c1] | rw [if_neg c1] | skip); (first | rw [if_pos c2] | rw [if_neg c2] | skip); (first | rw [if_pos hcw] | rw [if_neg hcw] | skip); (first | rw [if_pos hcu] | rw [if_neg hcu] | skip); (first | rw [if_pos d4] | rw [if_neg d4] | skip); try rfl)]; rw [hr9]; exact ⟨(show Fb 0 292 σ (up2 ρ 0 11 (nI 0)) from (hH.fb.tr (hfb2.wide (by decide) (by decide))).up (by decide) (by decide)), (show IC (up2 ρ 0 11 (nI 0)) (wS (A, T) 0) from hJ2.wS (by omega)), congrArg nI (by unfold whoV; (repeat (first | rw [if_pos (by omega)] | rw [if_neg (by omega)])); (first | exact fitK_cg _ (fun j _ => tld_cg hH.2.1) | exact ffS_cg (tld_cg hH.2.1) _ (fun j _ => tld_cg hH.2.1)))⟩)
        · have d4 : ¬ fndS ((aR (A, T)).1 r) ((aR (A, T)).2.1 r) w (nI n) = 0 := nq_ne (by first | omega | (have hz9 := fndS_le ((aR (A, T)).1 r) ((aR (A, T)).2.1 r) w (nI n); omega)) (by first | omega | (have hz9 := fndS_le ((aR (A, T)).1 r) ((aR (A, T)).2.1 r) w (nI n); omega)) c4
          refine V_aload_n e_X8_who_52 rfl rfl ?_
          refine V_iload e_X8_who_53 rfl ?_
          refine V_cvIe (av := [.int (nI (fndS ((aR (A, T)).1 r) ((aR (A, T)).2.1 r) w (nI n)))]) (st := []) e_X8_who_55 (c_X8_found E (nI (fndS ((aR (A, T)).1 r) ((aR (A, T)).2.1 r) w (nI n))) σ) l_X8_74 S_X8_found rfl (rm_ok (by decide) (by decide)) rfl rfl (Nat.le_of_ble_eq_true rfl) ?_
          exact V_iret e_X8_who_58 rfl (by rw [show oWho (A, T) (nI p) (nI k) (nI r) w (nI n) = (wS (A, T) (fndS ((aR (A, T)).1 r) ((aR (A, T)).2.1 r) w (nI n)), (-1000010) - nI (fndS ((aR (A, T)).1 r) ((aR (A, T)).2.1 r) w (nI n))) from (by unfold oWho; (try unfold gIn); (try dsimp only); (try (repeat rw [ixN (by omega)])); (first | rw [if_pos c1] | rw [if_neg c1] | skip); (first | rw [if_pos c2] | rw [if_neg c2] | skip); (first | rw [if_pos hcw] | rw [if_neg hcw] | skip); (first | rw [if_pos hcu] | rw [if_neg hcu] | skip); (first | rw [if_pos d4] | rw [if_neg d4] | skip); try rfl)]; exact ⟨Fb.rf.up (by decide) (by decide), hI.wS (by have hz9 := fndS_le ((aR (A, T)).1 r) ((aR (A, T)).2.1 r) w (nI n); omega), rfl⟩)
      · refine V_ldc (v := (-1000001)) e_X8_who_29 k_X8_73 ?_
        exact V_iret e_X8_who_31 rfl (by rcases ctd_0 c3 with hq | ⟨hq, hq2⟩; (rw [show oWho (A, T) (nI p) (nI k) z w v = ((A, T), (-1000001)) from (by unfold oWho; (try unfold gIn); (try dsimp only); (try (repeat rw [ixN (by omega)])); (first | rw [if_pos c1] | rw [if_neg c1] | skip); (first | rw [if_pos c2] | rw [if_neg c2] | skip); rw [if_pos hq])]; exact ⟨Fb.rf, hI, rfl⟩); (rw [show oWho (A, T) (nI p) (nI k) z w v = ((A, T), (-1000001)) from (by unfold oWho; (try unfold gIn); (try dsimp only); (try (repeat rw [ixN (by omega)])); (first | rw [if_pos c1] | rw [if_neg c1] | skip); (first | rw [if_pos c2] | rw [if_neg c2] | skip); rw [if_neg hq, if_pos hq2])]; exact ⟨Fb.rf, hI, rfl⟩))

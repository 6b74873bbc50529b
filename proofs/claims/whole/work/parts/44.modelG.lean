set_option maxRecDepth 100000 in
set_option maxHeartbeats 4000000 in
theorem lp_X9_keep_2 (E : En) (n : Nat) (A : Vec) (ρ : Sg) (h9 : ρ 292 9 = nI n) (hn : n < 24) (hM : RepM ρ 296 A) : ∀ (mm : Nat) (i : Nat), 55 - i = mm → (i ≤ 55) → V E m_X9_keep (kM E 1 (pV (fun σ' => σ' = up2 (layW 299 (55 * n) 55 A ρ) 292 9 (nI (n + 1))))) 51 [some (.ref (eB E + 292)), some (.int (nI i))] [] (layW 299 (55 * n) i A ρ) := by
  intro mm
  induction mm using Nat.strongRecOn with
  | ind mm ih =>
    intro i hmm hi
    refine V_iload_n e_X9_keep_51 rfl rfl ?_
    refine V_bipush (v := nI 55) e_X9_keep_52 (by decide) ?_
    refine V_icmp_ge (tgt := 83) e_X9_keep_54 (by decide) (fun c1 => ?_) (fun c1 => ?_)
    · have d1 : 55 ≤ i := nq_le (by omega) (by omega) c1
      refine V_aload_n e_X9_keep_83 rfl rfl ?_
      refine V_dup e_X9_keep_84 rfl ?_
      refine V_getiv (v := nI n) e_X9_keep_85 F_X9_acts f_X9_155 rfl ((layW_ne (by decide)).trans h9) ?_
      refine V_iconst (v := nI 1) e_X9_keep_88 (by decide) ?_
      refine V_iaddN (z := nI (n + 1)) e_X9_keep_89 (nI_add _ _) ?_
      refine V_puti e_X9_keep_90 F_X9_acts f_X9_155 rfl ?_
      exact V_vret e_X9_keep_93 rfl (by rw [show i = 55 by omega])
    · have d1 : ¬ 55 ≤ i := nq_nle (by omega) (by omega) c1
      refine V_aload_n e_X9_keep_57 rfl rfl ?_
      refine V_getr (r := 299) e_X9_keep_58 F_X9_was f_X9_28 rfl rfl ?_
      refine V_bipush (v := nI 55) e_X9_keep_61 (by decide) ?_
      refine V_aload_n e_X9_keep_63 rfl rfl ?_
      refine V_getiv (v := nI n) e_X9_keep_64 F_X9_acts f_X9_155 rfl ((layW_ne (by decide)).trans h9) ?_
      refine V_imulN (z := nI (55 * n)) e_X9_keep_67 (pk_mul _ _) ?_
      refine V_iload_n e_X9_keep_68 rfl rfl ?_
      refine V_iaddN (z := nI (55 * n + i)) e_X9_keep_69 (nI_add _ _) ?_
      refine V_aload_n e_X9_keep_70 rfl rfl ?_
      refine V_getr (r := 296) e_X9_keep_71 F_X9_shore f_X9_19 rfl rfl ?_
      refine V_iload_n e_X9_keep_74 rfl rfl ?_
      refine V_ialdv (v := nI (A i)) (j := i) e_X9_keep_75 rfl rfl (by have q : ln 296 = 55 := rfl; omega) ((layW_ne (by decide)).trans (hM i (by omega))) ?_
      refine V_iast (j := (55 * n + i)) e_X9_keep_76 rfl rfl (by have q : ln 299 = 1320 := rfl; omega) ?_
      rw [show up2 (layW 299 (55 * n) i A ρ) 299 (55 * n + i) (nI (A i)) = layW 299 (55 * n) (i + 1) A ρ from layW_s]
      refine V_iinc (v := nI (i + 1)) (L' := [some (.ref (eB E + 292)), some (.int (nI (i + 1)))]) e_X9_keep_77 rfl (nI_add _ 1) rfl ?_
      refine V_goto (tgt := 51) e_X9_keep_80 (by decide) ?_
      exact ih (55 - (i + 1)) (by omega) (i + 1) rfl (by omega)
set_option maxRecDepth 100000 in
set_option maxHeartbeats 4000000 in
theorem lp_X9_keep_1 (E : En) (A : Vec) (ρ : Sg) (h9 : ρ 292 9 = nI 24) (hM : RepM ρ 296 A) : ∀ (mm : Nat) (i : Nat), 1265 - i = mm → (i ≤ 1265) → V E m_X9_keep (kM E 1 (pV (fun σ' => σ' = up2 (layW 299 (55 * 23) 55 A (up2 (shf 1265 ρ) 292 9 (nI 23))) 292 9 (nI 24)))) 11 [some (.ref (eB E + 292)), some (.int (nI i))] [] (shf i ρ) := by
  intro mm
  induction mm using Nat.strongRecOn with
  | ind mm ih =>
    intro i hmm hi
    refine V_iload_n e_X9_keep_11 rfl rfl ?_
    refine V_sipush (v := nI 1265) e_X9_keep_12 (by decide) ?_
    refine V_icmp_ge (tgt := 39) e_X9_keep_15 (by decide) (fun c1 => ?_) (fun c1 => ?_)
    · have d1 : 1265 ≤ i := nq_le (by omega) (by omega) c1
      refine V_aload_n e_X9_keep_39 rfl rfl ?_
      refine V_dup e_X9_keep_40 rfl ?_
      refine V_getiv (v := nI 24) e_X9_keep_41 F_X9_acts f_X9_155 rfl ((shf_ne (by decide)).trans h9) ?_
      refine V_iconst (v := nI 1) e_X9_keep_44 (by decide) ?_
      refine V_isubN (z := nI 23) e_X9_keep_45 (pk_sub (by decide)) ?_
      refine V_puti e_X9_keep_46 F_X9_acts f_X9_155 rfl ?_
      refine V_iconst (v := nI 0) e_X9_keep_49 (by decide) ?_
      refine V_istore_n (L' := [some (.ref (eB E + 292)), some (.int (nI 0))]) e_X9_keep_50 rfl rfl ?_
      rw [show i = 1265 by omega]; have hX := lp_X9_keep_2 E 23 A (up2 (shf 1265 ρ) 292 9 (nI 23)) up2_at (by omega) (fun k hk => (congrFun (up2_ne (by decide)) k).trans ((shf_ne (by decide)).trans (hM k hk))) 55 0 rfl (by omega); rw [layW_0] at hX; exact hX
    · have d1 : ¬ 1265 ≤ i := nq_nle (by omega) (by omega) c1
      refine V_aload_n e_X9_keep_18 rfl rfl ?_
      refine V_getr (r := 299) e_X9_keep_19 F_X9_was f_X9_28 rfl rfl ?_
      refine V_iload_n e_X9_keep_22 rfl rfl ?_
      refine V_aload_n e_X9_keep_23 rfl rfl ?_
      refine V_getr (r := 299) e_X9_keep_24 F_X9_was f_X9_28 rfl rfl ?_
      refine V_iload_n e_X9_keep_27 rfl rfl ?_
      refine V_bipush (v := nI 55) e_X9_keep_28 (by decide) ?_
      refine V_iaddN (z := nI (i + 55)) e_X9_keep_30 (nI_add _ _) ?_
      refine V_ialdv (v := ρ 299 (i + 55)) (j := (i + 55)) e_X9_keep_31 rfl rfl (by have q : ln 299 = 1320 := rfl; omega) (shf_hi (by omega)) ?_
      refine V_iast (j := i) e_X9_keep_32 rfl rfl (by have q : ln 299 = 1320 := rfl; omega) ?_
      rw [show up2 (shf i ρ) 299 i (ρ 299 (i + 55)) = shf (i + 1) ρ from shf_s]
      refine V_iinc (v := nI (i + 1)) (L' := [some (.ref (eB E + 292)), some (.int (nI (i + 1)))]) e_X9_keep_33 rfl (nI_add _ 1) rfl ?_
      refine V_goto (tgt := 11) e_X9_keep_36 (by decide) ?_
      exact ih (1265 - (i + 1)) (by omega) (i + 1) rfl (by omega)
set_option maxRecDepth 100000 in
set_option maxHeartbeats 4000000 in
theorem c_X9_keep_n (E : En) (n : Nat) (A : Vec) (σ : Sg) (h9 : σ 292 9 = nI n) (hn : n < 24) (hM : RepM σ 296 A) : Cn E m_X9_keep 1 [.ref (eB E + 292)] σ (pV (fun σ' => σ' = up2 (layW 299 (55 * n) 55 A σ) 292 9 (nI (n + 1)))) := by
  refine Cn.of [some (.ref (eB E + 292)), none] (by decide) (Nat.le_of_ble_eq_true rfl) rfl ?_
  refine V_aload_n e_X9_keep_0 rfl rfl ?_
  refine V_getiv (v := nI n) e_X9_keep_1 F_X9_acts f_X9_155 rfl h9 ?_
  refine V_bipush (v := nI 24) e_X9_keep_4 (by decide) ?_
  refine V_icmp_ne (tgt := 49) e_X9_keep_6 (by decide) (fun c1 => ?_) (fun c1 => absurd c1 (fun z => by have := nq_eq (by omega) (by omega) z; omega))
  refine V_iconst (v := nI 0) e_X9_keep_49 (by decide) ?_
  refine V_istore_n (L' := [some (.ref (eB E + 292)), some (.int (nI 0))]) e_X9_keep_50 rfl rfl ?_
  have hX := lp_X9_keep_2 E n A σ h9 hn hM 55 0 rfl (by omega); rw [layW_0] at hX; exact hX
set_option maxRecDepth 100000 in
set_option maxHeartbeats 4000000 in
theorem c_X9_keep_f (E : En) (A : Vec) (σ : Sg) (h9 : σ 292 9 = nI 24) (hM : RepM σ 296 A) : Cn E m_X9_keep 1 [.ref (eB E + 292)] σ (pV (fun σ' => σ' = up2 (layW 299 (55 * 23) 55 A (up2 (shf 1265 σ) 292 9 (nI 23))) 292 9 (nI 24))) := by
  refine Cn.of [some (.ref (eB E + 292)), none] (by decide) (Nat.le_of_ble_eq_true rfl) rfl ?_
  refine V_aload_n e_X9_keep_0 rfl rfl ?_
  refine V_getiv (v := nI 24) e_X9_keep_1 F_X9_acts f_X9_155 rfl h9 ?_
  refine V_bipush (v := nI 24) e_X9_keep_4 (by decide) ?_
  refine V_icmp_ne (tgt := 49) e_X9_keep_6 (by decide) (fun c1 => absurd c1 (by decide)) (fun c1 => ?_)
  refine V_iconst (v := nI 0) e_X9_keep_9 (by decide) ?_
  refine V_istore_n (L' := [some (.ref (eB E + 292)), some (.int (nI 0))]) e_X9_keep_10 rfl rfl ?_
  have hX := lp_X9_keep_1 E A σ h9 hM 1265 0 rfl (by omega); rw [shf_0] at hX; exact hX
theorem c9_keep (E : En) (S : Ab) (σ : Sg) (hI : IM σ S) : Cn E m_X9_keep 1 [.ref (eB E + 292)] σ (pV (fun σ' => Fb 292 307 σ σ' ∧ IM σ' (keepS S))) := by
  have h24 := hI.1.2.1.1
  by_cases hn : (aH S).2 < 24
  · refine (c_X9_keep_n E (aH S).2 S.1 σ hI.2.2.1.1 hn hI.2.1).mono (fun σ' v hv => ⟨hv.1, ?_⟩)
    rw [hv.2]
    refine ⟨fun a k hk => ?_, hI.wH (keepH_ok hI.1.1 hI.1.2.1) (hI.2.2.1.keepn hn) (fun a k h1 h2 => ?_)⟩
    · rw [up2_ne (by omega), layW_ne (by omega)]
    · rw [mup (b := 292) (j := 9) rfl a k h1 h2, layW_ne (fun q => h2 (by rw [q]; rfl))]
  · have he : (aH S).2 = 24 := by omega
    refine (c_X9_keep_f E S.1 σ (hI.2.2.1.1.trans (congrArg nI he)) hI.2.1).mono (fun σ' v hv => ⟨hv.1, ?_⟩)
    rw [hv.2]
    refine ⟨fun a k hk => ?_, hI.wH (keepH_ok hI.1.1 hI.1.2.1) (hI.2.2.1.keepf he) (fun a k h1 h2 => ?_)⟩
    · rw [up2_ne (by omega), layW_ne (by omega), up2_ne (by omega), shf_ne (by omega)]
    · rw [mup (b := 292) (j := 9) rfl a k h1 h2, layW_ne (fun q => h2 (by rw [q]; rfl)), mup (b := 292) (j := 9) rfl a k h1 h2, shf_ne (fun q => h2 (by rw [q]; rfl))]
theorem imsh {σ : Sg} {S : Ab} {A : Vec} (h : IM σ S) (hA : GD A) : IM (stM σ 296 A) (wA S A) := IM.wA h hA stM_rep (fun a k hk => stM_ne (fun q => by rw [q] at hk; exact absurd hk (by show ¬ 1 < 1; decide)))
theorem stM_fb {σ : Sg} {A : Vec} {c : Nat} (h1 : 292 ≤ c) (h2 : c < 307) : Fb 292 307 σ (stM σ c A) := fun a k hk => stM_ne (fun q => hk (by omega))
theorem c_X9_crossesA (E : En) (p : Nat) (A : Vec) (σ : Sg) (hF : WF A) (hp : p < A 1) (h5 : p < 5) : Cn E m_X9_crosses 3 [.ref (eB E + 296), .int (nI p)] (stM σ 296 A) (pV (fun σ' => σ' = stM σ 296 (setP A p (crossP A (pn A p))))) := by
  have hz9 := c_X9_crosses E 296 p A (pn A p) σ rfl rfl hF.1 h5 (hF.2.2.2.2.2 p hp)
  rw [setP_pn] at hz9
  exact hz9
theorem c_X9_beA (E : En) (p v : Nat) (A : Vec) (σ : Sg) (h5 : p < 5) : Cn E m_X9_be 1 [.ref (eB E + 296), .int (nI p), .int (nI 3), .int (nI v)] (stM σ 296 A) (pV (fun σ' => σ' = stM σ 296 (setP A p (A (25 + 6 * p), A (26 + 6 * p), A (27 + 6 * p), v, A (29 + 6 * p), A (30 + 6 * p))))) := by
  have hz9 := c_X9_beP_3 E 296 p v A (pn A p) σ rfl rfl h5
  rw [setP_pn] at hz9
  exact hz9
theorem stM_self {σ : Sg} {A : Vec} {c : Nat} (h : RepM σ c A) : σ = stM σ c A := h.st.symm
set_option maxRecDepth 100000 in
set_option maxHeartbeats 4000000 in
theorem c9_cross (E : En) (x : Int32) (A : Vec) (T : AbT) (σ : Sg) (hJ0 : IM σ (A, T)) : Cn E m_X9_cross 12 [.ref (eB E + 292), .int x] σ (pM σ (oCross (A, T) x)) := by
  have hGD : GD A := hJ0.1.1
  have hN : WN A := hGD.1
  have hNl := hN.le
  have hA4 : A 4 ≤ 999 := hGD.2.2
  have hG := hJ0.1
  refine Cn.of [some (.ref (eB E + 292)), some (.int x)] (by decide) (Nat.le_of_ble_eq_true rfl) rfl ?_
  refine V_aload_n e_X9_cross_0 rfl rfl ?_
  refine V_iconst (v := nI 0) e_X9_cross_1 (by decide) ?_
  refine V_puti e_X9_cross_2 F_X9_thrown f_X9_53 rfl ?_
  generalize hτ : up2 σ 292 0 (nI 0) = τ
  have hfb : Fb 292 307 σ τ := hτ ▸ th_fb
  have hJ : IM τ (A, T) := hτ ▸ hJ0.fm Fm.th
  have hM : RepM τ 296 A := hJ.2.1
  refine V_aload_n e_X9_cross_5 rfl rfl ?_
  refine V_iload_n e_X9_cross_6 rfl rfl ?_
  refine V_cvIe (av := [.int x]) (st := []) e_X9_cross_7 (c_X9_isMan E x A τ hM) l_X9_204 S_X9_isMan rfl (rm_ok (by decide) (by decide)) rfl rfl (Nat.le_of_ble_eq_true rfl) ?_
  refine V_if_ne (tgt := 16) e_X9_cross_10 (by decide) (fun c1 => ?_) (fun c1 => ?_)
  · obtain ⟨p, hp, rfl⟩ := (wi_nat (by omega)).mp c1
    have hF : WF A := hN.wf (by omega)
    refine V_aload_n e_X9_cross_16 rfl rfl ?_
    refine V_cvV (av := []) (st := []) e_X9_cross_17 (c9_keep E (A, T) τ hJ) l_X9_197 S_X9_keep rfl (rm_ok (by decide) (by decide)) rfl rfl (Nat.le_of_ble_eq_true rfl) ?_
    intro ρ hh
    obtain ⟨hfb2, hK⟩ := hh
    have hMk : RepM ρ 296 A := hK.2.1
    refine V_sig (stM_self hMk) ?_
    refine V_aload_n e_X9_cross_20 rfl rfl ?_
    refine V_getr (r := 296) e_X9_cross_21 F_X9_shore f_X9_19 rfl rfl ?_
    refine V_iload_n e_X9_cross_24 rfl rfl ?_
    refine V_csVe (av := [.ref (eB E + 296), .int (nI p)]) (st := []) e_X9_cross_25 (c_X9_crossesA E p A ρ hF hp (by omega)) l_X9_177 S_X9_crosses (rm_ok (by decide) (by decide)) rfl rfl (Nat.le_of_ble_eq_true rfl) ?_
    refine V_aload_n e_X9_cross_28 rfl rfl ?_
    refine V_getr (r := 296) e_X9_cross_29 F_X9_shore f_X9_19 rfl rfl ?_
    refine V_iload_n e_X9_cross_32 rfl rfl ?_
    refine V_iconst (v := nI 2) e_X9_cross_33 (by decide) ?_
    refine V_csIe (av := [.ref (eB E + 296), .int (nI p), .int (nI 2)]) (st := []) e_X9_cross_34 (c_X9_hisP_2 E 296 p A (crossP A (pn A p)) ρ rfl rfl (by omega)) l_X9_166 S_X9_his (rm_ok (by decide) (by decide)) rfl rfl (Nat.le_of_ble_eq_true rfl) ?_
    exact V_iret e_X9_cross_37 rfl (by rw [show oCross (A, T) (nI p) = (wA (keepS (A, T)) (setP A p (crossP A (pn A p))), nI (crossP A (pn A p)).2.2.1) from (by unfold oCross; (try unfold gIn); (try dsimp only); (try (repeat rw [ixN (by omega)])); (first | rw [if_pos c1] | rw [if_neg c1] | skip); try rfl)]; exact ⟨(show Fb 292 307 σ (stM ρ 296 (setP A p (crossP A (pn A p)))) from (hfb.tr hfb2).tr (stM_fb (by decide) (by decide))), (show IM (stM ρ 296 (setP A p (crossP A (pn A p)))) (wA (keepS (A, T)) (setP A p (crossP A (pn A p)))) from imsh hK (hGD.sP hF (hF.2.2.2.2.2 p hp).cross (hGD.2.1 p hp))), rfl⟩)
  · refine V_ldc (v := (-1000001)) e_X9_cross_13 k_X9_73 ?_
    exact V_iret e_X9_cross_15 rfl (by rw [show oCross (A, T) x = ((A, T), (-1000001)) from (by unfold oCross; (try unfold gIn); (try dsimp only); (try (repeat rw [ixN (by omega)])); (first | rw [if_pos c1] | rw [if_neg c1] | skip); try rfl)]; exact ⟨hfb, hJ, rfl⟩)
set_option maxRecDepth 100000 in
set_option maxHeartbeats 4000000 in
theorem c9_turn (E : En) (x : Int32) (A : Vec) (T : AbT) (σ : Sg) (hJ0 : IM σ (A, T)) : Cn E m_X9_turn 12 [.ref (eB E + 292), .int x] σ (pM σ (oTurn (A, T) x)) := by
  have hGD : GD A := hJ0.1.1
  have hN : WN A := hGD.1
  have hNl := hN.le
  have hA4 : A 4 ≤ 999 := hGD.2.2
  have hG := hJ0.1
  refine Cn.of [some (.ref (eB E + 292)), some (.int x)] (by decide) (Nat.le_of_ble_eq_true rfl) rfl ?_
  refine V_aload_n e_X9_turn_0 rfl rfl ?_
  refine V_iconst (v := nI 0) e_X9_turn_1 (by decide) ?_
  refine V_puti e_X9_turn_2 F_X9_thrown f_X9_53 rfl ?_
  generalize hτ : up2 σ 292 0 (nI 0) = τ
  have hfb : Fb 292 307 σ τ := hτ ▸ th_fb
  have hJ : IM τ (A, T) := hτ ▸ hJ0.fm Fm.th
  have hM : RepM τ 296 A := hJ.2.1
  refine V_aload_n e_X9_turn_5 rfl rfl ?_
  refine V_iload_n e_X9_turn_6 rfl rfl ?_
  refine V_cvIe (av := [.int x]) (st := []) e_X9_turn_7 (c_X9_isMan E x A τ hM) l_X9_204 S_X9_isMan rfl (rm_ok (by decide) (by decide)) rfl rfl (Nat.le_of_ble_eq_true rfl) ?_
  refine V_if_ne (tgt := 16) e_X9_turn_10 (by decide) (fun c1 => ?_) (fun c1 => ?_)
  · obtain ⟨p, hp, rfl⟩ := (wi_nat (by omega)).mp c1
    have hF : WF A := hN.wf (by omega)
    obtain ⟨w1, w2, w3, w4, w5, w6⟩ := hF.per hp
    refine V_aload_n e_X9_turn_16 rfl rfl ?_
    refine V_cvV (av := []) (st := []) e_X9_turn_17 (c9_keep E (A, T) τ hJ) l_X9_197 S_X9_keep rfl (rm_ok (by decide) (by decide)) rfl rfl (Nat.le_of_ble_eq_true rfl) ?_
    intro ρ hh
    obtain ⟨hfb2, hK⟩ := hh
    have hMk : RepM ρ 296 A := hK.2.1
    refine V_sig (stM_self hMk) ?_
    refine V_aload_n e_X9_turn_20 rfl rfl ?_
    refine V_getr (r := 296) e_X9_turn_21 F_X9_shore f_X9_19 rfl rfl ?_
    refine V_iload_n e_X9_turn_24 rfl rfl ?_
    refine V_iconst (v := nI 3) e_X9_turn_25 (by decide) ?_
    refine V_iconst (v := nI 1) e_X9_turn_26 (by decide) ?_
    refine V_aload_n e_X9_turn_27 rfl rfl ?_
    refine V_getr (r := 296) e_X9_turn_28 F_X9_shore f_X9_19 rfl rfl ?_
    refine V_iload_n e_X9_turn_31 rfl rfl ?_
    refine V_iconst (v := nI 3) e_X9_turn_32 (by decide) ?_
    refine V_csIe (av := [.ref (eB E + 296), .int (nI p), .int (nI 3)]) (st := [.int (nI 1), .int (nI 3), .int (nI p), .ref (eB E + 296)]) e_X9_turn_33 (c_X9_his_3 E 296 p A ρ rfl rfl (by omega)) l_X9_166 S_X9_his (rm_ok (by decide) (by decide)) rfl rfl (Nat.le_of_ble_eq_true rfl) ?_
    refine V_isubN (z := nI (1 - (A (28 + 6 * p)))) e_X9_turn_36 (pk_sub (w4)) ?_
    refine V_csVe (av := [.ref (eB E + 296), .int (nI p), .int (nI 3), .int (nI (1 - (A (28 + 6 * p))))]) (st := []) e_X9_turn_37 (c_X9_beA E p (1 - A (28 + 6 * p)) A ρ (by omega)) l_X9_173 S_X9_be (rm_ok (by decide) (by decide)) rfl rfl (Nat.le_of_ble_eq_true rfl) ?_
    refine V_aload_n e_X9_turn_40 rfl rfl ?_
    refine V_getr (r := 296) e_X9_turn_41 F_X9_shore f_X9_19 rfl rfl ?_
    refine V_iload_n e_X9_turn_44 rfl rfl ?_
    refine V_iconst (v := nI 3) e_X9_turn_45 (by decide) ?_
    refine V_csIe (av := [.ref (eB E + 296), .int (nI p), .int (nI 3)]) (st := []) e_X9_turn_46 (c_X9_hisP_3 E 296 p A (A (25 + 6 * p), A (26 + 6 * p), A (27 + 6 * p), 1 - A (28 + 6 * p), A (29 + 6 * p), A (30 + 6 * p)) ρ rfl rfl (by omega)) l_X9_166 S_X9_his (rm_ok (by decide) (by decide)) rfl rfl (Nat.le_of_ble_eq_true rfl) ?_
    exact V_iret e_X9_turn_49 rfl (by rw [show oTurn (A, T) (nI p) = (wA (keepS (A, T)) (setHdg A p), nI (1 - A (28 + 6 * p))) from (by unfold oTurn; (try unfold gIn); (try dsimp only); (try (repeat rw [ixN (by omega)])); (first | rw [if_pos c1] | rw [if_neg c1] | skip); try rfl)]; exact ⟨(show Fb 292 307 σ (stM ρ 296 (setHdg A p)) from (hfb.tr hfb2).tr (stM_fb (by decide) (by decide))), (show IM (stM ρ 296 (setHdg A p)) (wA (keepS (A, T)) (setHdg A p)) from imsh hK (hGD.sP hF ⟨w1, w2, w6, Nat.sub_le _ _, w5⟩ (hGD.2.1 p hp))), rfl⟩)
  · refine V_ldc (v := (-1000001)) e_X9_turn_13 k_X9_73 ?_
    exact V_iret e_X9_turn_15 rfl (by rw [show oTurn (A, T) x = ((A, T), (-1000001)) from (by unfold oTurn; (try unfold gIn); (try dsimp only); (try (repeat rw [ixN (by omega)])); (first | rw [if_pos c1] | rw [if_neg c1] | skip); try rfl)]; exact ⟨hfb, hJ, rfl⟩)
set_option maxRecDepth 100000 in
set_option maxHeartbeats 4000000 in
theorem c9_stay (E : En) (x y : Int32) (A : Vec) (T : AbT) (σ : Sg) (hJ0 : IM σ (A, T)) : Cn E m_X9_stay 12 [.ref (eB E + 292), .int x, .int y] σ (pM σ (oStay (A, T) x y)) := by
  have hGD : GD A := hJ0.1.1
  have hN : WN A := hGD.1
  have hNl := hN.le
  have hA4 : A 4 ≤ 999 := hGD.2.2
  have hG := hJ0.1
  refine Cn.of [some (.ref (eB E + 292)), some (.int x), some (.int y)] (by decide) (Nat.le_of_ble_eq_true rfl) rfl ?_
  refine V_aload_n e_X9_stay_0 rfl rfl ?_
  refine V_iconst (v := nI 0) e_X9_stay_1 (by decide) ?_
  refine V_puti e_X9_stay_2 F_X9_thrown f_X9_53 rfl ?_
  generalize hτ : up2 σ 292 0 (nI 0) = τ
  have hfb : Fb 292 307 σ τ := hτ ▸ th_fb
  have hJ : IM τ (A, T) := hτ ▸ hJ0.fm Fm.th
  have hM : RepM τ 296 A := hJ.2.1
  refine V_aload_n e_X9_stay_5 rfl rfl ?_
  refine V_iload_n e_X9_stay_6 rfl rfl ?_
  refine V_cvIe (av := [.int x]) (st := []) e_X9_stay_7 (c_X9_isMan E x A τ hM) l_X9_204 S_X9_isMan rfl (rm_ok (by decide) (by decide)) rfl rfl (Nat.le_of_ble_eq_true rfl) ?_
  refine V_if_eq (tgt := 23) e_X9_stay_10 (by decide) (fun c1 => ?_) (fun c1 => ?_)
  · refine V_ldc (v := (-1000001)) e_X9_stay_23 k_X9_73 ?_
    exact V_iret e_X9_stay_25 rfl (by rw [show oStay (A, T) x y = ((A, T), (-1000001)) from (by unfold oStay; (try unfold gIn); (try dsimp only); (try (repeat rw [ixN (by omega)])); (first | rw [if_pos c1] | rw [if_neg c1] | skip); try rfl)]; exact ⟨hfb, hJ, rfl⟩)
  · obtain ⟨p, hp, rfl⟩ := (wi_nat (by omega)).mp c1
    have hF : WF A := hN.wf (by omega)
    refine V_iload_n e_X9_stay_13 rfl rfl ?_
    refine V_i2l e_X9_stay_14 ?_
    refine V_lconst (v := lN 0) e_X9_stay_15 (by decide) ?_
    refine V_lconst (v := lN 1) e_X9_stay_16 (by decide) ?_
    refine V_csIe (av := [.long y.toInt64, .long (lN 0), .long (lN 1)]) (st := []) e_X9_stay_17 (c_X9_inN E y (nI 0) (nI 1) (lN 0) (lN 1) τ (nI_l (by omega)) (nI_l (by omega))) l_X9_63 S_X9_in (rm_ok (by decide) (by decide)) rfl rfl (Nat.le_of_ble_eq_true rfl) ?_
    refine V_if_ne (tgt := 26) e_X9_stay_20 (by decide) (fun c2 => ?_) (fun c2 => ?_)
    · obtain ⟨on_, hon_a, hon_, rfl⟩ := (wi_le (by omega) (by omega)).mp c2
      have hb6 := bitN_le (A 6) p
      have h632 := hF.2.2.2.1
      refine V_aload_n e_X9_stay_26 rfl rfl ?_
      refine V_getr (r := 296) e_X9_stay_27 F_X9_shore f_X9_19 rfl rfl ?_
      refine V_bipush (v := nI 6) e_X9_stay_30 (by decide) ?_
      refine V_ialdv (v := nI (A 6)) (j := 6) e_X9_stay_32 rfl rfl (by decide) (hM 6 (by omega)) ?_
      refine V_iload_n e_X9_stay_33 rfl rfl ?_
      refine V_csIe (av := [.int (nI (A 6)), .int (nI p)]) (st := []) e_X9_stay_34 (c_X9_has E (A 6) p τ (by omega) (by omega)) l_X9_158 S_X9_has (rm_ok (by decide) (by decide)) rfl rfl (Nat.le_of_ble_eq_true rfl) ?_
      refine V_iload_n e_X9_stay_37 rfl rfl ?_
      refine V_iconst (v := nI 1) e_X9_stay_38 (by decide) ?_
      refine V_icmp_ne (tgt := 46) e_X9_stay_39 (by decide) (fun c3 => ?_) (fun c3 => ?_)
      · have d3 : ¬ on_ = 1 := nq_ne (by omega) (by omega) c3
        refine V_iconst (v := nI 0) e_X9_stay_46 (by decide) ?_
        refine V_icmp_ne (tgt := 53) e_X9_stay_47 (by decide) (fun c4 => ?_) (fun c4 => ?_)
        · have d4 : ¬ bitN (A 6) p = 0 := nq_ne (by omega) (by omega) c4
          refine V_aload_n e_X9_stay_53 rfl rfl ?_
          refine V_cvV (av := []) (st := []) e_X9_stay_54 (c9_keep E (A, T) τ hJ) l_X9_197 S_X9_keep rfl (rm_ok (by decide) (by decide)) rfl rfl (Nat.le_of_ble_eq_true rfl) ?_
          intro ρ hh
          obtain ⟨hfb2, hK⟩ := hh
          have hMk : RepM ρ 296 A := hK.2.1
          refine V_sig (stM_self hMk) ?_
          refine V_aload_n e_X9_stay_57 rfl rfl ?_
          refine V_getr (r := 296) e_X9_stay_58 F_X9_shore f_X9_19 rfl rfl ?_
          refine V_bipush (v := nI 6) e_X9_stay_61 (by decide) ?_
          refine V_dup2 e_X9_stay_63 rfl rfl ?_
          refine V_ialdv (v := nI (A 6)) (j := 6) e_X9_stay_64 rfl rfl (by decide) (stM_at (by omega)) ?_
          refine V_iconst (v := nI 1) e_X9_stay_65 (by decide) ?_
          refine V_iload_n e_X9_stay_66 rfl rfl ?_
          refine V_ishlN (z := nI (2 ^ p)) e_X9_stay_67 (shl1 (by omega)) ?_
          refine V_ixorN (z := nI ((A 6) ^^^ (2 ^ p))) e_X9_stay_68 (xorI _ _) ?_
          refine V_iast (j := 6) e_X9_stay_69 rfl rfl (by decide) ?_
          rw [show up2 (stM ρ 296 A) 296 6 (nI ((A 6) ^^^ (2 ^ p))) = stM ρ 296 (stayV A p) from (by rw [stM_up (by omega)]; rfl)]
          refine V_aload_n e_X9_stay_70 rfl rfl ?_
          refine V_getr (r := 296) e_X9_stay_71 F_X9_shore f_X9_19 rfl rfl ?_
          refine V_bipush (v := nI 6) e_X9_stay_74 (by decide) ?_
          refine V_ialdv (v := nI (A 6 ^^^ 2 ^ p)) (j := 6) e_X9_stay_76 rfl rfl (by decide) ((stM_at (by omega)).trans (congrArg nI stayV_6)) ?_
          exact V_iret e_X9_stay_77 rfl (by rw [show oStay (A, T) (nI p) (nI on_) = (wA (keepS (A, T)) (stayV A p), nI (A 6 ^^^ 2 ^ p)) from (by unfold oStay; dsimp only; unfold gIn; rw [if_neg c1, if_neg c2, ixN (by omega), ixN (by omega), if_neg (by omega)])]; exact ⟨(show Fb 292 307 σ (stM ρ 296 (stayV A p)) from (hfb.tr hfb2).tr (stM_fb (by decide) (by decide))), (show IM (stM ρ 296 (stayV A p)) (wA (keepS (A, T)) (stayV A p)) from imsh hK (hGD.stay hF hp)), rfl⟩)
        · have d4 : bitN (A 6) p = 0 := nq_eq (by omega) (by omega) c4
          refine V_ldc (v := (-1000002)) e_X9_stay_50 k_X9_194 ?_
          exact V_iret e_X9_stay_52 rfl (by rw [show oStay (A, T) (nI p) (nI on_) = ((A, T), (-1000002)) from (by unfold oStay; dsimp only; unfold gIn; rw [if_neg c1, if_neg c2, ixN (by omega), ixN (by omega), if_pos (by omega)])]; exact ⟨hfb, hJ, rfl⟩)
      · have d3 : on_ = 1 := nq_eq (by omega) (by omega) c3
        refine V_iconst (v := nI 1) e_X9_stay_42 (by decide) ?_
        refine V_goto (tgt := 47) e_X9_stay_43 (by decide) ?_
        refine V_icmp_ne (tgt := 53) e_X9_stay_47 (by decide) (fun c5 => ?_) (fun c5 => ?_)
        · have d5 : ¬ bitN (A 6) p = 1 := nq_ne (by omega) (by omega) c5
          refine V_aload_n e_X9_stay_53 rfl rfl ?_
          refine V_cvV (av := []) (st := []) e_X9_stay_54 (c9_keep E (A, T) τ hJ) l_X9_197 S_X9_keep rfl (rm_ok (by decide) (by decide)) rfl rfl (Nat.le_of_ble_eq_true rfl) ?_
          intro ρ hh
          obtain ⟨hfb2, hK⟩ := hh
          have hMk : RepM ρ 296 A := hK.2.1
          refine V_sig (stM_self hMk) ?_
          refine V_aload_n e_X9_stay_57 rfl rfl ?_
          refine V_getr (r := 296) e_X9_stay_58 F_X9_shore f_X9_19 rfl rfl ?_
          refine V_bipush (v := nI 6) e_X9_stay_61 (by decide) ?_
          refine V_dup2 e_X9_stay_63 rfl rfl ?_
          refine V_ialdv (v := nI (A 6)) (j := 6) e_X9_stay_64 rfl rfl (by decide) (stM_at (by omega)) ?_
          refine V_iconst (v := nI 1) e_X9_stay_65 (by decide) ?_
          refine V_iload_n e_X9_stay_66 rfl rfl ?_
          refine V_ishlN (z := nI (2 ^ p)) e_X9_stay_67 (shl1 (by omega)) ?_
          refine V_ixorN (z := nI ((A 6) ^^^ (2 ^ p))) e_X9_stay_68 (xorI _ _) ?_
          refine V_iast (j := 6) e_X9_stay_69 rfl rfl (by decide) ?_
          rw [show up2 (stM ρ 296 A) 296 6 (nI ((A 6) ^^^ (2 ^ p))) = stM ρ 296 (stayV A p) from (by rw [stM_up (by omega)]; rfl)]
          refine V_aload_n e_X9_stay_70 rfl rfl ?_
          refine V_getr (r := 296) e_X9_stay_71 F_X9_shore f_X9_19 rfl rfl ?_
          refine V_bipush (v := nI 6) e_X9_stay_74 (by decide) ?_
          refine V_ialdv (v := nI (A 6 ^^^ 2 ^ p)) (j := 6) e_X9_stay_76 rfl rfl (by decide) ((stM_at (by omega)).trans (congrArg nI stayV_6)) ?_
          exact V_iret e_X9_stay_77 rfl (by rw [show oStay (A, T) (nI p) (nI on_) = (wA (keepS (A, T)) (stayV A p), nI (A 6 ^^^ 2 ^ p)) from (by unfold oStay; dsimp only; unfold gIn; rw [if_neg c1, if_neg c2, ixN (by omega), ixN (by omega), if_neg (by omega)])]; exact ⟨(show Fb 292 307 σ (stM ρ 296 (stayV A p)) from (hfb.tr hfb2).tr (stM_fb (by decide) (by decide))), (show IM (stM ρ 296 (stayV A p)) (wA (keepS (A, T)) (stayV A p)) from imsh hK (hGD.stay hF hp)), rfl⟩)
        · have d5 : bitN (A 6) p = 1 := nq_eq (by omega) (by omega) c5
          refine V_ldc (v := (-1000002)) e_X9_stay_50 k_X9_194 ?_
          exact V_iret e_X9_stay_52 rfl (by rw [show oStay (A, T) (nI p) (nI on_) = ((A, T), (-1000002)) from (by unfold oStay; dsimp only; unfold gIn; rw [if_neg c1, if_neg c2, ixN (by omega), ixN (by omega), if_pos (by omega)])]; exact ⟨hfb, hJ, rfl⟩)
    · refine V_ldc (v := (-1000001)) e_X9_stay_23 k_X9_73 ?_
      exact V_iret e_X9_stay_25 rfl (by rw [show oStay (A, T) (nI p) y = ((A, T), (-1000001)) from (by unfold oStay; (try unfold gIn); (try dsimp only); (try (repeat rw [ixN (by omega)])); (first | rw [if_pos c1] | rw [if_neg c1] | skip); (first | rw [if_pos c2] | rw [if_neg c2] | skip); try rfl)]; exact ⟨hfb, hJ, rfl⟩)
theorem round_v {A : Vec} {g : Nat} (h6 : A 0 ≤ 6) (hg : g < A 0) (hf : A (9 + 3 * g) ≤ 1) : updN A (7 + 3 * g + 2) (1 - A (9 + 3 * g)) = turnV A (2 ^ g) := by
  have hb : ∀ j, j < 6 → bitN (2 ^ g) j = if j = g then 1 else 0 := fun j hj => (show ∀ g, g < 6 → ∀ j, j < 6 → bitN (2 ^ g) j = if j = g then 1 else 0 by decide) g (by omega) j hj
  funext k
  unfold updN turnV
  by_cases h : k = 7 + 3 * g + 2
  · rw [if_pos h, if_pos ⟨by omega, by omega, by omega, by omega⟩, hb _ (by omega), if_pos (by omega), h, show 7 + 3 * g + 2 = 9 + 3 * g by omega]
    rcases (show A (9 + 3 * g) = 0 ∨ A (9 + 3 * g) = 1 by omega) with q | q <;> rw [q] <;> rfl
  · rw [if_neg h]
    by_cases h2 : 9 ≤ k ∧ k < 25 ∧ k % 3 = 0 ∧ (k - 9) / 3 < A 0
    · rw [if_pos h2, hb _ (by omega), if_neg (by omega), Nat.xor_zero]
    · rw [if_neg h2]
set_option maxRecDepth 100000 in
set_option maxHeartbeats 4000000 in
theorem c9_round (E : En) (x : Int32) (A : Vec) (T : AbT) (σ : Sg) (hJ0 : IM σ (A, T)) : Cn E m_X9_round 12 [.ref (eB E + 292), .int x] σ (pM σ (oRound (A, T) x)) := by
  have hGD : GD A := hJ0.1.1
  have hN : WN A := hGD.1
  have hNl := hN.le
  have hA4 : A 4 ≤ 999 := hGD.2.2
  have hG := hJ0.1
  refine Cn.of [some (.ref (eB E + 292)), some (.int x)] (by decide) (Nat.le_of_ble_eq_true rfl) rfl ?_
  refine V_aload_n e_X9_round_0 rfl rfl ?_
  refine V_iconst (v := nI 0) e_X9_round_1 (by decide) ?_
  refine V_puti e_X9_round_2 F_X9_thrown f_X9_53 rfl ?_
  generalize hτ : up2 σ 292 0 (nI 0) = τ
  have hfb : Fb 292 307 σ τ := hτ ▸ th_fb
  have hJ : IM τ (A, T) := hτ ▸ hJ0.fm Fm.th
  have hM : RepM τ 296 A := hJ.2.1
  refine V_aload_n e_X9_round_5 rfl rfl ?_
  refine V_iload_n e_X9_round_6 rfl rfl ?_
  refine V_cvIe (av := [.int x]) (st := []) e_X9_round_7 (c_X9_isGate E x A τ hM) l_X9_207 S_X9_isGate rfl (rm_ok (by decide) (by decide)) rfl rfl (Nat.le_of_ble_eq_true rfl) ?_
  refine V_if_ne (tgt := 16) e_X9_round_10 (by decide) (fun c1 => ?_) (fun c1 => ?_)
  · obtain ⟨g, hg, rfl⟩ := (wi_nat (by omega)).mp c1
    have hF : WF A := hN.wf (by omega)
    have hfg := (hF.1.2.2.2.2.2.2.2.2 g hg).2.2.2.2
    refine V_aload_n e_X9_round_16 rfl rfl ?_
    refine V_cvV (av := []) (st := []) e_X9_round_17 (c9_keep E (A, T) τ hJ) l_X9_197 S_X9_keep rfl (rm_ok (by decide) (by decide)) rfl rfl (Nat.le_of_ble_eq_true rfl) ?_
    intro ρ hh
    obtain ⟨hfb2, hK⟩ := hh
    have hMk : RepM ρ 296 A := hK.2.1
    refine V_sig (stM_self hMk) ?_
    refine V_aload_n e_X9_round_20 rfl rfl ?_
    refine V_getr (r := 296) e_X9_round_21 F_X9_shore f_X9_19 rfl rfl ?_
    refine V_bipush (v := nI 7) e_X9_round_24 (by decide) ?_
    refine V_iconst (v := nI 3) e_X9_round_26 (by decide) ?_
    refine V_iload_n e_X9_round_27 rfl rfl ?_
    refine V_imulN (z := nI (3 * g)) e_X9_round_28 (pk_mul _ _) ?_
    refine V_iaddN (z := nI (7 + (3 * g))) e_X9_round_29 (nI_add _ _) ?_
    refine V_iconst (v := nI 2) e_X9_round_30 (by decide) ?_
    refine V_iaddN (z := nI (7 + (3 * g) + 2)) e_X9_round_31 (nI_add _ _) ?_
    refine V_iconst (v := nI 1) e_X9_round_32 (by decide) ?_
    refine V_aload_n e_X9_round_33 rfl rfl ?_
    refine V_getr (r := 296) e_X9_round_34 F_X9_shore f_X9_19 rfl rfl ?_
    refine V_iload_n e_X9_round_37 rfl rfl ?_
    refine V_iconst (v := nI 2) e_X9_round_38 (by decide) ?_
    refine V_csIe (av := [.ref (eB E + 296), .int (nI g), .int (nI 2)]) (st := [.int (nI 1), .int (nI (7 + (3 * g) + 2)), .ref (eB E + 296)]) e_X9_round_39 (c_X9_of_2 E 296 g A ρ rfl rfl (by omega)) l_X9_162 S_X9_of (rm_ok (by decide) (by decide)) rfl rfl (Nat.le_of_ble_eq_true rfl) ?_
    refine V_isubN (z := nI (1 - (A (9 + 3 * g)))) e_X9_round_42 (pk_sub (hfg)) ?_
    refine V_iast (j := (7 + (3 * g) + 2)) e_X9_round_43 rfl rfl (by have q : ln 296 = 55 := rfl; omega) ?_
    rw [show up2 (stM ρ 296 A) 296 (7 + (3 * g) + 2) (nI (1 - (A (9 + 3 * g)))) = stM ρ 296 (turnV A (2 ^ g)) from (by rw [stM_up (by omega), round_v hNl.1 hg hfg])]
    refine V_aload_n e_X9_round_44 rfl rfl ?_
    refine V_getr (r := 296) e_X9_round_45 F_X9_shore f_X9_19 rfl rfl ?_
    refine V_iload_n e_X9_round_48 rfl rfl ?_
    refine V_iconst (v := nI 2) e_X9_round_49 (by decide) ?_
    refine V_csIe (av := [.ref (eB E + 296), .int (nI g), .int (nI 2)]) (st := []) e_X9_round_50 (c_X9_of_2 E 296 g (turnV A (2 ^ g)) ρ rfl rfl (by omega)) l_X9_162 S_X9_of (rm_ok (by decide) (by decide)) rfl rfl (Nat.le_of_ble_eq_true rfl) ?_
    refine V_topi (y := nI (1 - A (9 + 3 * g))) (congrArg nI (by rw [← round_v hNl.1 hg hfg]; unfold updN; rw [if_pos (by omega)])) ?_
    exact V_iret e_X9_round_53 rfl (by rw [show oRound (A, T) (nI g) = (wA (keepS (A, T)) (turnV A (2 ^ g)), nI (1 - A (9 + 3 * g))) from (by unfold oRound; (try unfold gIn); (try dsimp only); (try (repeat rw [ixN (by omega)])); (first | rw [if_pos c1] | rw [if_neg c1] | skip); try rfl)]; exact ⟨(show Fb 292 307 σ (stM ρ 296 (turnV A (2 ^ g))) from (hfb.tr hfb2).tr (stM_fb (by decide) (by decide))), (show IM (stM ρ 296 (turnV A (2 ^ g))) (wA (keepS (A, T)) (turnV A (2 ^ g))) from imsh hK (hGD.turn hF)), rfl⟩)
  · refine V_ldc (v := (-1000001)) e_X9_round_13 k_X9_73 ?_
    exact V_iret e_X9_round_15 rfl (by rw [show oRound (A, T) x = ((A, T), (-1000001)) from (by unfold oRound; (try unfold gIn); (try dsimp only); (try (repeat rw [ixN (by omega)])); (first | rw [if_pos c1] | rw [if_neg c1] | skip); try rfl)]; exact ⟨hfb, hJ, rfl⟩)
set_option maxRecDepth 100000 in
set_option maxHeartbeats 4000000 in
theorem c_X9_fallen (E : En) (to_ : Nat) (x : Int32) (A : Vec) (T : AbT) (σ τ : Sg) (hfb : Fb 292 307 σ τ) (hJ : IM τ (A, T)) (hto : to_ ≤ 1) : Cn E m_X9_fallen 5 [.ref (eB E + 292), .int x, .int (nI to_)] τ (pM σ (oFall (A, T) x to_)) := by
  have hGD : GD A := hJ.1.1
  have hN : WN A := hGD.1
  have hNl := hN.le
  have hM : RepM τ 296 A := hJ.2.1
  refine Cn.of [some (.ref (eB E + 292)), some (.int x), some (.int (nI to_))] (by decide) (Nat.le_of_ble_eq_true rfl) rfl ?_
  refine V_aload_n e_X9_fallen_0 rfl rfl ?_
  refine V_iload_n e_X9_fallen_1 rfl rfl ?_
  refine V_cvIe (av := [.int x]) (st := []) e_X9_fallen_2 (c_X9_isGate E x A τ hM) l_X9_207 S_X9_isGate rfl (rm_ok (by decide) (by decide)) rfl rfl (Nat.le_of_ble_eq_true rfl) ?_
  refine V_if_ne (tgt := 11) e_X9_fallen_5 (by decide) (fun c1 => ?_) (fun c1 => ?_)
  · obtain ⟨g, hg, rfl⟩ := (wi_nat (by omega)).mp c1
    have hF : WF A := hN.wf (by omega)
    have hp2 := pow_le6 hg
    have hp2p := Nat.two_pow_pos g
    have hG64 := pow6 hNl.1
    have hA5 := hF.1.2.2.1
    have hb5 := bitN_le (A 5) g
    refine V_aload_n e_X9_fallen_11 rfl rfl ?_
    refine V_getr (r := 296) e_X9_fallen_12 F_X9_shore f_X9_19 rfl rfl ?_
    refine V_iconst (v := nI 5) e_X9_fallen_15 (by decide) ?_
    refine V_ialdv (v := nI (A 5)) (j := 5) e_X9_fallen_16 rfl rfl (by decide) (hM 5 (by omega)) ?_
    refine V_iload_n e_X9_fallen_17 rfl rfl ?_
    refine V_csIe (av := [.int (nI (A 5)), .int (nI g)]) (st := []) e_X9_fallen_18 (c_X9_has E (A 5) g τ (by omega) (by omega)) l_X9_158 S_X9_has (rm_ok (by decide) (by decide)) rfl rfl (Nat.le_of_ble_eq_true rfl) ?_
    refine V_iload_n e_X9_fallen_21 rfl rfl ?_
    refine V_icmp_ne (tgt := 28) e_X9_fallen_22 (by decide) (fun c2 => ?_) (fun c2 => ?_)
    · have d2 : ¬ bitN (A 5) g = to_ := nq_ne (by omega) (by omega) c2
      refine V_aload_n e_X9_fallen_28 rfl rfl ?_
      refine V_cvV (av := []) (st := []) e_X9_fallen_29 (c9_keep E (A, T) τ hJ) l_X9_197 S_X9_keep rfl (rm_ok (by decide) (by decide)) rfl rfl (Nat.le_of_ble_eq_true rfl) ?_
      intro ρ hh
      obtain ⟨hfb2, hK⟩ := hh
      have hMk : RepM ρ 296 A := hK.2.1
      refine V_sig (stM_self hMk) ?_
      refine V_aload_n e_X9_fallen_32 rfl rfl ?_
      refine V_getr (r := 296) e_X9_fallen_33 F_X9_shore f_X9_19 rfl rfl ?_
      refine V_iconst (v := nI 5) e_X9_fallen_36 (by decide) ?_
      refine V_dup2 e_X9_fallen_37 rfl rfl ?_
      refine V_ialdv (v := nI (A 5)) (j := 5) e_X9_fallen_38 rfl rfl (by decide) (stM_at (by omega)) ?_
      refine V_iconst (v := nI 1) e_X9_fallen_39 (by decide) ?_
      refine V_iload_n e_X9_fallen_40 rfl rfl ?_
      refine V_ishlN (z := nI (2 ^ g)) e_X9_fallen_41 (shl1 (by omega)) ?_
      refine V_ixorN (z := nI ((A 5) ^^^ (2 ^ g))) e_X9_fallen_42 (xorI _ _) ?_
      refine V_iast (j := 5) e_X9_fallen_43 rfl rfl (by decide) ?_
      rw [show up2 (stM ρ 296 A) 296 5 (nI ((A 5) ^^^ (2 ^ g))) = stM ρ 296 (xfall A (2 ^ g)) from (by rw [stM_up (by omega)]; rfl)]
      refine V_aload_n e_X9_fallen_44 rfl rfl ?_
      refine V_getr (r := 296) e_X9_fallen_45 F_X9_shore f_X9_19 rfl rfl ?_
      refine V_iconst (v := nI 5) e_X9_fallen_48 (by decide) ?_
      refine V_ialdv (v := nI (A 5 ^^^ 2 ^ g)) (j := 5) e_X9_fallen_49 rfl rfl (by decide) ((stM_at (by omega)).trans (congrArg nI xfall_5)) ?_
      exact V_iret e_X9_fallen_50 rfl (by rw [show oFall (A, T) (nI g) to_ = (wA (keepS (A, T)) (xfall A (2 ^ g)), nI (A 5 ^^^ 2 ^ g)) from (by unfold oFall; dsimp only; unfold gIn; rw [if_neg c1, ixN (by omega), if_neg d2])]; exact ⟨(show Fb 292 307 σ (stM ρ 296 (xfall A (2 ^ g))) from (hfb.tr hfb2).tr (stM_fb (by decide) (by decide))), (show IM (stM ρ 296 (xfall A (2 ^ g))) (wA (keepS (A, T)) (xfall A (2 ^ g))) from imsh hK (hGD.xfall hF (by omega))), rfl⟩)
    · have d2 : bitN (A 5) g = to_ := nq_eq (by omega) (by omega) c2
      refine V_ldc (v := (-1000002)) e_X9_fallen_25 k_X9_194 ?_
      exact V_iret e_X9_fallen_27 rfl (by rw [show oFall (A, T) (nI g) to_ = ((A, T), (-1000002)) from (by unfold oFall; dsimp only; unfold gIn; rw [if_neg c1, ixN (by omega), if_pos d2])]; exact ⟨hfb, hJ, rfl⟩)
  · refine V_ldc (v := (-1000001)) e_X9_fallen_8 k_X9_73 ?_
    exact V_iret e_X9_fallen_10 rfl (by rw [show oFall (A, T) x to_ = ((A, T), (-1000001)) from (by unfold oFall; dsimp only; unfold gIn; rw [if_pos c1])]; exact ⟨hfb, hJ, rfl⟩)
set_option maxRecDepth 100000 in
set_option maxHeartbeats 4000000 in
theorem c9_fall (E : En) (x : Int32) (A : Vec) (T : AbT) (σ : Sg) (hJ0 : IM σ (A, T)) : Cn E m_X9_fall 12 [.ref (eB E + 292), .int x] σ (pM σ (oFall (A, T) x 1)) := by
  have hGD : GD A := hJ0.1.1
  have hN : WN A := hGD.1
  have hNl := hN.le
  have hA4 : A 4 ≤ 999 := hGD.2.2
  have hG := hJ0.1
  refine Cn.of [some (.ref (eB E + 292)), some (.int x)] (by decide) (Nat.le_of_ble_eq_true rfl) rfl ?_
  refine V_aload_n e_X9_fall_0 rfl rfl ?_
  refine V_iconst (v := nI 0) e_X9_fall_1 (by decide) ?_
  refine V_puti e_X9_fall_2 F_X9_thrown f_X9_53 rfl ?_
  generalize hτ : up2 σ 292 0 (nI 0) = τ
  have hfb : Fb 292 307 σ τ := hτ ▸ th_fb
  have hJ : IM τ (A, T) := hτ ▸ hJ0.fm Fm.th
  have hM : RepM τ 296 A := hJ.2.1
  refine V_aload_n e_X9_fall_5 rfl rfl ?_
  refine V_iload_n e_X9_fall_6 rfl rfl ?_
  refine V_iconst (v := nI 1) e_X9_fall_7 (by decide) ?_
  refine V_cvI (av := [.int x, .int (nI 1)]) (st := []) e_X9_fall_8 (c_X9_fallen E 1 x A T σ τ hfb hJ (by omega)) l_X9_210 S_X9_fallen rfl (rm_ok (by decide) (by decide)) rfl rfl (Nat.le_of_ble_eq_true rfl) ?_
  intro ρ r hh
  exact V_iret e_X9_fall_11 rfl (hh)
set_option maxRecDepth 100000 in
set_option maxHeartbeats 4000000 in
theorem c9_setUp (E : En) (x : Int32) (A : Vec) (T : AbT) (σ : Sg) (hJ0 : IM σ (A, T)) : Cn E m_X9_setUp 12 [.ref (eB E + 292), .int x] σ (pM σ (oFall (A, T) x 0)) := by
  have hGD : GD A := hJ0.1.1
  have hN : WN A := hGD.1
  have hNl := hN.le
  have hA4 : A 4 ≤ 999 := hGD.2.2
  have hG := hJ0.1
  refine Cn.of [some (.ref (eB E + 292)), some (.int x)] (by decide) (Nat.le_of_ble_eq_true rfl) rfl ?_
  refine V_aload_n e_X9_setUp_0 rfl rfl ?_
  refine V_iconst (v := nI 0) e_X9_setUp_1 (by decide) ?_
  refine V_puti e_X9_setUp_2 F_X9_thrown f_X9_53 rfl ?_
  generalize hτ : up2 σ 292 0 (nI 0) = τ
  have hfb : Fb 292 307 σ τ := hτ ▸ th_fb
  have hJ : IM τ (A, T) := hτ ▸ hJ0.fm Fm.th
  have hM : RepM τ 296 A := hJ.2.1
  refine V_aload_n e_X9_setUp_5 rfl rfl ?_
  refine V_iload_n e_X9_setUp_6 rfl rfl ?_
  refine V_iconst (v := nI 0) e_X9_setUp_7 (by decide) ?_
  refine V_cvI (av := [.int x, .int (nI 0)]) (st := []) e_X9_setUp_8 (c_X9_fallen E 0 x A T σ τ hfb hJ (by omega)) l_X9_210 S_X9_fallen rfl (rm_ok (by decide) (by decide)) rfl rfl (Nat.le_of_ble_eq_true rfl) ?_
  intro ρ r hh
  exact V_iret e_X9_setUp_11 rfl (hh)

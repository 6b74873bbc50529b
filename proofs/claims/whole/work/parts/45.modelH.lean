set_option maxRecDepth 100000 in
set_option maxHeartbeats 4000000 in
theorem lp_X9_undo (E : En) (H : (Nat → Vec) × Nat) (Q : Sg → Int32 → Prop) (ρ : Sg) (h9 : ρ 292 9 = nI (H.2 - 1)) (h0 : ¬ H.2 = 0) (h24 : H.2 ≤ 24) (hw : ∀ k, k < 55 → ρ 299 (55 * (H.2 - 1) + k) = nI (H.1 (H.2 - 1) k)) (hQ : Q (stM ρ 296 (H.1 (H.2 - 1))) (nI (H.2 - 1))) : ∀ (mm : Nat) (i : Nat), 55 - i = mm → (i ≤ 55) → V E m_X9_undo (kM E 12 (pI Q)) 27 [some (.ref (eB E + 292)), some (.int (nI i))] [] (layW 296 0 i (H.1 (H.2 - 1)) ρ) := by
  intro mm
  induction mm using Nat.strongRecOn with
  | ind mm ih =>
    intro i hmm hi
    refine V_iload_n e_X9_undo_27 rfl rfl ?_
    refine V_bipush (v := nI 55) e_X9_undo_28 (by decide) ?_
    refine V_icmp_ge (tgt := 59) e_X9_undo_30 (by decide) (fun c1 => ?_) (fun c1 => ?_)
    · have d1 : 55 ≤ i := nq_le (by omega) (by omega) c1
      refine V_aload_n e_X9_undo_59 rfl rfl ?_
      refine V_getiv (v := nI (H.2 - 1)) e_X9_undo_60 F_X9_acts f_X9_155 rfl ((layW_ne (by decide)).trans h9) ?_
      exact V_iret e_X9_undo_63 rfl (by rw [show i = 55 by omega, layW_st]; exact hQ)
    · have d1 : ¬ 55 ≤ i := nq_nle (by omega) (by omega) c1
      refine V_aload_n e_X9_undo_33 rfl rfl ?_
      refine V_getr (r := 296) e_X9_undo_34 F_X9_shore f_X9_19 rfl rfl ?_
      refine V_iload_n e_X9_undo_37 rfl rfl ?_
      refine V_aload_n e_X9_undo_38 rfl rfl ?_
      refine V_getr (r := 299) e_X9_undo_39 F_X9_was f_X9_28 rfl rfl ?_
      refine V_bipush (v := nI 55) e_X9_undo_42 (by decide) ?_
      refine V_aload_n e_X9_undo_44 rfl rfl ?_
      refine V_getiv (v := nI (H.2 - 1)) e_X9_undo_45 F_X9_acts f_X9_155 rfl ((layW_ne (by decide)).trans h9) ?_
      refine V_imulN (z := nI (55 * (H.2 - 1))) e_X9_undo_48 (pk_mul _ _) ?_
      refine V_iload_n e_X9_undo_49 rfl rfl ?_
      refine V_iaddN (z := nI (55 * (H.2 - 1) + i)) e_X9_undo_50 (nI_add _ _) ?_
      refine V_ialdv (v := nI (H.1 (H.2 - 1) i)) (j := (55 * (H.2 - 1) + i)) e_X9_undo_51 rfl rfl (by have q : ln 299 = 1320 := rfl; omega) ((layW_ne (by decide)).trans (hw i (by omega))) ?_
      refine V_iast (j := i) e_X9_undo_52 rfl rfl (by have q : ln 296 = 55 := rfl; omega) ?_
      rw [show up2 (layW 296 0 i (H.1 (H.2 - 1)) ρ) 296 i (nI (H.1 (H.2 - 1) i)) = layW 296 0 (i + 1) (H.1 (H.2 - 1)) ρ from (by have hz9 := layW_s (c := 296) (a := 0) (i := i) (A := (H.1 (H.2 - 1))) (σ := ρ); rw [Nat.zero_add] at hz9; exact hz9)]
      refine V_iinc (v := nI (i + 1)) (L' := [some (.ref (eB E + 292)), some (.int (nI (i + 1)))]) e_X9_undo_53 rfl (nI_add _ 1) rfl ?_
      refine V_goto (tgt := 27) e_X9_undo_56 (by decide) ?_
      exact ih (55 - (i + 1)) (by omega) (i + 1) rfl (by omega)
theorem undo_im {τ : Sg} {A : Vec} {H : (Nat → Vec) × Nat} {T : ((Nat → Nat) × (Nat → Vec)) × ((Nat → Nat) × (Nat → Nat) × (Nat → Nat → Int32)) × (Nat × (Nat → Nat)) × Nat × Nat × (Nat × (Nat → Nat))} (hJ : IM τ (A, H, T)) (h0 : ¬ H.2 = 0) : IM (stM (up2 τ 292 9 (nI (H.2 - 1))) 296 (H.1 (H.2 - 1))) (H.1 (H.2 - 1), (H.1, H.2 - 1), T) := by
  have hG := hJ.1.2.1
  have hg1 : GD (H.1 (H.2 - 1)) := hG.2 (H.2 - 1) (show H.2 - 1 < H.2 by omega)
  have h1 : IM (up2 τ 292 9 (nI (H.2 - 1))) (wH (A, H, T) (H.1, H.2 - 1)) := IM.wH hJ ⟨Nat.le_trans (Nat.sub_le _ _) hG.1, fun j hj => hG.2 j (Nat.lt_of_lt_of_le hj (Nat.sub_le _ _))⟩ ⟨up2_at, fun j hj k hk => (congrFun (up2_ne (by decide)) _).trans (hJ.2.2.1.2 j (Nat.lt_of_lt_of_le hj (Nat.sub_le _ _)) k hk)⟩ (mup rfl)
  exact imsh h1 hg1
set_option maxRecDepth 100000 in
set_option maxHeartbeats 4000000 in
theorem c9_undo (E : En) (A : Vec) (H : (Nat → Vec) × Nat) (T : ((Nat → Nat) × (Nat → Vec)) × ((Nat → Nat) × (Nat → Nat) × (Nat → Nat → Int32)) × (Nat × (Nat → Nat)) × Nat × Nat × (Nat × (Nat → Nat))) (σ : Sg) (hJ0 : IM σ (A, H, T)) : Cn E m_X9_undo 12 [.ref (eB E + 292)] σ (pM σ (oUndo (A, H, T))) := by
  have h24 : H.2 ≤ 24 := hJ0.1.2.1.1
  refine Cn.of [some (.ref (eB E + 292)), none] (by decide) (Nat.le_of_ble_eq_true rfl) rfl ?_
  refine V_aload_n e_X9_undo_0 rfl rfl ?_
  refine V_iconst (v := nI 0) e_X9_undo_1 (by decide) ?_
  refine V_puti e_X9_undo_2 F_X9_thrown f_X9_53 rfl ?_
  generalize hτ : up2 σ 292 0 (nI 0) = τ
  have hfb : Fb 292 307 σ τ := hτ ▸ th_fb
  have hJ : IM τ (A, H, T) := hτ ▸ hJ0.fm Fm.th
  have hM : RepM τ 296 A := hJ.2.1
  refine V_aload_n e_X9_undo_5 rfl rfl ?_
  refine V_getiv (v := nI H.2) e_X9_undo_6 F_X9_acts f_X9_155 rfl hJ.2.2.1.1 ?_
  refine V_if_ne (tgt := 15) e_X9_undo_9 (by decide) (fun c1 => ?_) (fun c1 => ?_)
  · have d1 : ¬ H.2 = 0 := nq_ne (by omega) (by omega) c1
    refine V_aload_n e_X9_undo_15 rfl rfl ?_
    refine V_dup e_X9_undo_16 rfl ?_
    refine V_getiv (v := nI H.2) e_X9_undo_17 F_X9_acts f_X9_155 rfl hJ.2.2.1.1 ?_
    refine V_iconst (v := nI 1) e_X9_undo_20 (by decide) ?_
    refine V_isubN (z := nI (H.2 - 1)) e_X9_undo_21 (pk_sub (by omega)) ?_
    refine V_puti e_X9_undo_22 F_X9_acts f_X9_155 rfl ?_
    refine V_iconst (v := nI 0) e_X9_undo_25 (by decide) ?_
    refine V_istore_n (L' := [some (.ref (eB E + 292)), some (.int (nI 0))]) e_X9_undo_26 rfl rfl ?_
    have hX := lp_X9_undo E H (fun σ' r => Fb 292 307 σ σ' ∧ IM σ' (oUndo (A, H, T)).1 ∧ r = (oUndo (A, H, T)).2) (up2 τ 292 9 (nI (H.2 - 1))) up2_at d1 h24 (fun k hk => (congrFun (up2_ne (by decide)) _).trans (hJ.2.2.1.2 (H.2 - 1) (show H.2 - 1 < H.2 by omega) k hk)) (by rw [show oUndo (A, H, T) = ((H.1 (H.2 - 1), (H.1, H.2 - 1), T), nI (H.2 - 1)) from if_neg d1]; exact ⟨(hfb.tr th_fb).tr (stM_fb (by decide) (by decide)), undo_im hJ d1, rfl⟩) 55 0 rfl (by omega); rw [layW_0] at hX; exact hX
  · have d1 : H.2 = 0 := nq_eq (by omega) (by omega) c1
    refine V_ldc (v := (-1000002)) e_X9_undo_12 k_X9_194 ?_
    exact V_iret e_X9_undo_14 rfl (by rw [show oUndo (A, H, T) = ((A, H, T), (-1000002)) from if_pos d1]; exact ⟨hfb, hJ, rfl⟩)
set_option maxRecDepth 100000 in
set_option maxHeartbeats 4000000 in
theorem lp_X9_days (E : En) (n : Nat) (A : Vec) (T : AbT) (σ : Sg) (hF : WF A) (hn : n ≤ 24) (h9 : A 4 + n ≤ 999) (h5 : A 1 ≤ 5) : ∀ (mm : Nat) (i : Nat) (ρ : Sg), n - i = mm → (i ≤ n) → (IM ρ (daysK (A, T) i)) → (Fb 292 307 σ ρ) → V E m_X9_days (kM E 12 (pI (fun σ' r => Fb 292 307 σ σ' ∧ IM σ' (daysK (A, T) n) ∧ r = nI (hung (daysV A n))))) 49 [some (.ref (eB E + 292)), some (.int (nI n)), some (.int (nI i))] [] ρ := by
  intro mm
  induction mm using Nat.strongRecOn with
  | ind mm ih =>
    intro i ρ hmm hi hK hfb
    refine V_iload_n e_X9_days_49 rfl rfl ?_
    refine V_iload_n e_X9_days_50 rfl rfl ?_
    refine V_icmp_ge (tgt := 71) e_X9_days_51 (by decide) (fun c1 => ?_) (fun c1 => ?_)
    · have d1 : n ≤ i := nq_le (by omega) (by omega) c1
      refine V_aload_n e_X9_days_71 rfl rfl ?_
      refine V_getr (r := 296) e_X9_days_72 F_X9_shore f_X9_19 rfl rfl ?_
      refine V_csIe (av := [.ref (eB E + 296)]) (st := []) e_X9_days_75 (c_X9_hungryR E 296 (daysV A n) ρ rfl rfl (by have hz9 := hK.2.1; rw [show aA (daysK (A, T) i) = daysV A i from daysK_1 (S := (A, T)) i, show i = n by omega] at hz9; exact hz9) (by rw [daysV_lo (by omega) (by omega)]; exact h5)) l_X9_200 S_X9_hungry (rm_ok (by decide) (by decide)) rfl rfl (Nat.le_of_ble_eq_true rfl) ?_
      exact V_iret e_X9_days_78 rfl (⟨hfb, by rw [show n = i by omega]; exact hK, rfl⟩)
    · have d1 : ¬ n ≤ i := nq_nle (by omega) (by omega) c1
      refine V_aload_n e_X9_days_54 rfl rfl ?_
      refine V_cvV (av := []) (st := []) e_X9_days_55 (c9_keep E (daysK (A, T) i) ρ hK) l_X9_197 S_X9_keep rfl (rm_ok (by decide) (by decide)) rfl rfl (Nat.le_of_ble_eq_true rfl) ?_
      intro ρ2 hh
      obtain ⟨hfb2, hK2⟩ := hh
      have hMk : RepM ρ2 296 (daysV A i) := (by have hz9 := hK2.2.1; rw [show aA (keepS (daysK (A, T) i)) = daysV A i from daysK_1 (S := (A, T)) i] at hz9; exact hz9)
      refine V_sig (stM_self hMk) ?_
      refine V_aload_n e_X9_days_58 rfl rfl ?_
      refine V_getr (r := 296) e_X9_days_59 F_X9_shore f_X9_19 rfl rfl ?_
      refine V_csVe (av := [.ref (eB E + 296)]) (st := []) e_X9_days_62 (c_X9_day E 296 (daysV A i) ρ2 rfl rfl (hF.days i)) l_X9_187 S_X9_day (rm_ok (by decide) (by decide)) rfl rfl (Nat.le_of_ble_eq_true rfl) ?_
      refine V_iinc (v := nI (i + 1)) (L' := [some (.ref (eB E + 292)), some (.int (nI n)), some (.int (nI (i + 1)))]) e_X9_days_65 rfl (nI_add _ 1) rfl ?_
      refine V_goto (tgt := 49) e_X9_days_68 (by decide) ?_
      exact ih (n - (i + 1)) (by omega) (i + 1) _ rfl (by omega) (by have hz9 := imsh hK2 (A := dayV (daysV A i)) (GD.day (by have hz8 := hK.1.1; rw [show aA (daysK (A, T) i) = daysV A i from daysK_1 (S := (A, T)) i] at hz8; exact hz8) (hF.days i) (by rw [daysV_4]; omega)); rw [show wA (keepS (daysK (A, T) i)) (dayV (daysV A i)) = daysK (A, T) (i + 1) from (by show _ = dayS (daysK (A, T) i); unfold dayS; rw [daysK_1 i])] at hz9; exact hz9) ((hfb.tr hfb2).tr (stM_fb (by decide) (by decide)))
set_option maxRecDepth 100000 in
set_option maxHeartbeats 4000000 in
theorem c9_days (E : En) (x : Int32) (A : Vec) (T : AbT) (σ : Sg) (hJ0 : IM σ (A, T)) : Cn E m_X9_days 12 [.ref (eB E + 292), .int x] σ (pM σ (oDays (A, T) x)) := by
  have hGD : GD A := hJ0.1.1
  have hN : WN A := hGD.1
  have hNl := hN.le
  have hA4 : A 4 ≤ 999 := hGD.2.2
  have hG := hJ0.1
  refine Cn.of [some (.ref (eB E + 292)), some (.int x), none] (by decide) (Nat.le_of_ble_eq_true rfl) rfl ?_
  refine V_aload_n e_X9_days_0 rfl rfl ?_
  refine V_iconst (v := nI 0) e_X9_days_1 (by decide) ?_
  refine V_puti e_X9_days_2 F_X9_thrown f_X9_53 rfl ?_
  generalize hτ : up2 σ 292 0 (nI 0) = τ
  have hfb : Fb 292 307 σ τ := hτ ▸ th_fb
  have hJ : IM τ (A, T) := hτ ▸ hJ0.fm Fm.th
  have hM : RepM τ 296 A := hJ.2.1
  refine V_aload_n e_X9_days_5 rfl rfl ?_
  refine V_cvIe (av := []) (st := []) e_X9_days_6 (c_X9_isThere E A τ hM hNl.1) l_X9_191 S_X9_isThere rfl (rm_ok (by decide) (by decide)) rfl rfl (Nat.le_of_ble_eq_true rfl) ?_
  refine V_if_ne (tgt := 15) e_X9_days_9 (by decide) (fun c1 => ?_) (fun c1 => ?_)
  · have d1 : ¬ (if A 0 = 0 then 0 else 1) = 0 := nq_ne (by first | omega | (split <;> omega)) (by first | omega | (split <;> omega)) c1
    have hA0 : ¬ A 0 = 0 := fun q => by rw [if_pos q] at d1; omega
    have hF : WF A := hN.wf (by omega)
    refine V_iload_n e_X9_days_15 rfl rfl ?_
    refine V_i2l e_X9_days_16 ?_
    refine V_lconst (v := lN 1) e_X9_days_17 (by decide) ?_
    refine V_ldc2_w (v := lN 24) e_X9_days_18 kl_X9_195 ?_
    refine V_csIe (av := [.long x.toInt64, .long (lN 1), .long (lN 24)]) (st := []) e_X9_days_21 (c_X9_inN E x (nI 1) (nI 24) (lN 1) (lN 24) τ (nI_l (by omega)) (nI_l (by omega))) l_X9_63 S_X9_in (rm_ok (by decide) (by decide)) rfl rfl (Nat.le_of_ble_eq_true rfl) ?_
    refine V_if_ne (tgt := 30) e_X9_days_24 (by decide) (fun c2 => ?_) (fun c2 => ?_)
    · obtain ⟨n, hna, hn, rfl⟩ := (wi_le (by omega) (by omega)).mp c2
      refine V_aload_n e_X9_days_30 rfl rfl ?_
      refine V_getr (r := 296) e_X9_days_31 F_X9_shore f_X9_19 rfl rfl ?_
      refine V_iconst (v := nI 4) e_X9_days_34 (by decide) ?_
      refine V_ialdv (v := nI (A 4)) (j := 4) e_X9_days_35 rfl rfl (by decide) (hM 4 (by omega)) ?_
      refine V_iload_n e_X9_days_36 rfl rfl ?_
      refine V_iaddN (z := nI (A 4 + n)) e_X9_days_37 (nI_add _ _) ?_
      refine V_sipush (v := nI 999) e_X9_days_38 (by decide) ?_
      refine V_icmp_le (tgt := 47) e_X9_days_41 (by decide) (fun c3 => ?_) (fun c3 => ?_)
      · have d3 : A 4 + n ≤ 999 := nq_le (by first | omega | (split <;> omega)) (by first | omega | (split <;> omega)) c3
        refine V_iconst (v := nI 0) e_X9_days_47 (by decide) ?_
        refine V_istore_n (L' := [some (.ref (eB E + 292)), some (.int (nI n)), some (.int (nI 0))]) e_X9_days_48 rfl rfl ?_
        rw [show oDays (A, T) (nI n) = (daysK (A, T) n, nI (hung (daysV A n))) from (by unfold oDays; dsimp only; rw [if_neg hA0, if_neg c2, ixN (by omega), if_neg (by omega)])]; exact lp_X9_days E n A T σ hF (by omega) (by omega) hNl.2 n 0 τ rfl (by omega) hJ hfb
      · have d3 : ¬ A 4 + n ≤ 999 := nq_nle (by first | omega | (split <;> omega)) (by first | omega | (split <;> omega)) c3
        refine V_ldc (v := (-1000003)) e_X9_days_44 k_X9_83 ?_
        exact V_iret e_X9_days_46 rfl (by rw [show oDays (A, T) (nI n) = ((A, T), (-1000003)) from (by unfold oDays; (try unfold gIn); (try dsimp only); (try (repeat rw [ixN (by omega)])); (first | rw [if_pos hA0] | rw [if_neg hA0] | skip); (first | rw [if_pos c2] | rw [if_neg c2] | skip); (first | rw [if_pos (show 999 < A 4 + n by omega)] | rw [if_neg (show 999 < A 4 + n by omega)] | skip); try rfl)]; exact ⟨hfb, hJ, rfl⟩)
    · refine V_ldc (v := (-1000001)) e_X9_days_27 k_X9_73 ?_
      exact V_iret e_X9_days_29 rfl (by rw [show oDays (A, T) x = ((A, T), (-1000001)) from (by unfold oDays; (try unfold gIn); (try dsimp only); (try (repeat rw [ixN (by omega)])); (first | rw [if_pos hA0] | rw [if_neg hA0] | skip); (first | rw [if_pos c2] | rw [if_neg c2] | skip); try rfl)]; exact ⟨hfb, hJ, rfl⟩)
  · have d1 : (if A 0 = 0 then 0 else 1) = 0 := nq_eq (by first | omega | (split <;> omega)) (by first | omega | (split <;> omega)) c1
    have hA0 : A 0 = 0 := Decidable.byContradiction (fun q => by rw [if_neg q] at d1; omega)
    refine V_ldc (v := (-1000002)) e_X9_days_12 k_X9_194 ?_
    exact V_iret e_X9_days_14 rfl (by rw [show oDays (A, T) x = ((A, T), (-1000002)) from (by unfold oDays; (try unfold gIn); (try dsimp only); (try (repeat rw [ixN (by omega)])); (first | rw [if_pos hA0] | rw [if_neg hA0] | skip); try rfl)]; exact ⟨hfb, hJ, rfl⟩)
set_option maxRecDepth 100000 in
set_option maxHeartbeats 4000000 in
theorem lp_X9_image (E : En) (k : Nat) (A : Vec) (Q : Sg → Int32 → Prop) (ρ : Sg) (hk : k < 2) (hM : RepM ρ 296 A) (hQ : Q (up2 (layW 305 (55 * k) 55 A ρ) 304 k (nI 1)) (nI 1)) : ∀ (mm : Nat) (i : Nat), 55 - i = mm → (i ≤ 55) → V E m_X9_image (kM E 12 (pI Q)) 30 [some (.ref (eB E + 292)), some (.int (nI k)), some (.int (nI i))] [] (layW 305 (55 * k) i A ρ) := by
  intro mm
  induction mm using Nat.strongRecOn with
  | ind mm ih =>
    intro i hmm hi
    refine V_iload_n e_X9_image_30 rfl rfl ?_
    refine V_bipush (v := nI 55) e_X9_image_31 (by decide) ?_
    refine V_icmp_ge (tgt := 59) e_X9_image_33 (by decide) (fun c1 => ?_) (fun c1 => ?_)
    · have d1 : 55 ≤ i := nq_le (by omega) (by omega) c1
      refine V_aload_n e_X9_image_59 rfl rfl ?_
      refine V_getr (r := 304) e_X9_image_60 F_X9_isKept f_X9_43 rfl rfl ?_
      refine V_iload_n e_X9_image_63 rfl rfl ?_
      refine V_iconst (v := nI 1) e_X9_image_64 (by decide) ?_
      refine V_zast (j := k) e_X9_image_65 rfl rfl (by have q : ln 304 = 2 := rfl; omega) (by first | exact Or.inl nI_0 | exact Or.inr rfl) ?_
      refine V_iconst (v := nI 1) e_X9_image_66 (by decide) ?_
      exact V_iret e_X9_image_67 rfl (by rw [show i = 55 by omega]; exact hQ)
    · have d1 : ¬ 55 ≤ i := nq_nle (by omega) (by omega) c1
      refine V_aload_n e_X9_image_36 rfl rfl ?_
      refine V_getr (r := 305) e_X9_image_37 F_X9_kept f_X9_47 rfl rfl ?_
      refine V_bipush (v := nI 55) e_X9_image_40 (by decide) ?_
      refine V_iload_n e_X9_image_42 rfl rfl ?_
      refine V_imulN (z := nI (55 * k)) e_X9_image_43 (pk_mul _ _) ?_
      refine V_iload_n e_X9_image_44 rfl rfl ?_
      refine V_iaddN (z := nI (55 * k + i)) e_X9_image_45 (nI_add _ _) ?_
      refine V_aload_n e_X9_image_46 rfl rfl ?_
      refine V_getr (r := 296) e_X9_image_47 F_X9_shore f_X9_19 rfl rfl ?_
      refine V_iload_n e_X9_image_50 rfl rfl ?_
      refine V_ialdv (v := nI (A i)) (j := i) e_X9_image_51 rfl rfl (by have q : ln 296 = 55 := rfl; omega) ((layW_ne (by decide)).trans (hM i (by omega))) ?_
      refine V_iast (j := (55 * k + i)) e_X9_image_52 rfl rfl (by have q : ln 305 = 110 := rfl; omega) ?_
      rw [show up2 (layW 305 (55 * k) i A ρ) 305 (55 * k + i) (nI (A i)) = layW 305 (55 * k) (i + 1) A ρ from layW_s]
      refine V_iinc (v := nI (i + 1)) (L' := [some (.ref (eB E + 292)), some (.int (nI k)), some (.int (nI (i + 1)))]) e_X9_image_53 rfl (nI_add _ 1) rfl ?_
      refine V_goto (tgt := 30) e_X9_image_56 (by decide) ?_
      exact ih (55 - (i + 1)) (by omega) (i + 1) rfl (by omega)
theorem img_mi {τ : Sg} {S : Ab} {k : Nat} (hJ : IM τ S) (hk : k < 2) : MI (up2 (layW 305 (55 * k) 55 S.1 τ) 304 k (nI 1)) (fun j => if j = k then 1 else (aI S).1 j, fun j => if j = k then S.1 else (aI S).2 j) := fun j hj => by
  obtain ⟨i1, i2⟩ := hJ.2.2.2.1 j hj
  dsimp only
  by_cases q : j = k
  · simp only [if_pos q]
    rw [q]
    exact ⟨up2_at, fun _ i hi => (congrFun (up2_ne (by decide)) _).trans (layW_at hi)⟩
  · simp only [if_neg q]
    exact ⟨(up2_k q).trans ((layW_ne (by decide)).trans i1), fun h i hi => (congrFun (up2_ne (by decide)) _).trans ((layW_lo (by omega)).trans (i2 h i hi))⟩
theorem img_im {τ : Sg} {A : Vec} {T : AbT} {k : Nat} (hJ : IM τ (A, T)) (hk : k < 2) : IM (up2 (layW 305 (55 * k) 55 A τ) 304 k (nI 1)) (wI (A, T) (fun j => if j = k then 1 else (aI (A, T)).1 j, fun j => if j = k then A else (aI (A, T)).2 j)) := IM.wI hJ (img_ok hJ.1 hk) (img_mi hJ hk) (fun a j h1 h2 => by rw [mup (b := 304) (j := k) rfl a j h1 h2, layW_ne (fun q => h2 (by rw [q]; rfl))])
theorem img_fb {τ : Sg} {A : Vec} {k : Nat} : Fb 292 307 τ (up2 (layW 305 (55 * k) 55 A τ) 304 k (nI 1)) := fun a j hj => by rw [up2_ne (by omega), layW_ne (by omega)]
set_option maxRecDepth 100000 in
set_option maxHeartbeats 4000000 in
theorem c9_image (E : En) (x : Int32) (A : Vec) (T : AbT) (σ : Sg) (hJ0 : IM σ (A, T)) : Cn E m_X9_image 12 [.ref (eB E + 292), .int x] σ (pM σ (oImage (A, T) x)) := by
  have hGD : GD A := hJ0.1.1
  have hN : WN A := hGD.1
  have hNl := hN.le
  have hA4 : A 4 ≤ 999 := hGD.2.2
  have hG := hJ0.1
  refine Cn.of [some (.ref (eB E + 292)), some (.int x), none] (by decide) (Nat.le_of_ble_eq_true rfl) rfl ?_
  refine V_aload_n e_X9_image_0 rfl rfl ?_
  refine V_iconst (v := nI 0) e_X9_image_1 (by decide) ?_
  refine V_puti e_X9_image_2 F_X9_thrown f_X9_53 rfl ?_
  generalize hτ : up2 σ 292 0 (nI 0) = τ
  have hfb : Fb 292 307 σ τ := hτ ▸ th_fb
  have hJ : IM τ (A, T) := hτ ▸ hJ0.fm Fm.th
  have hM : RepM τ 296 A := hJ.2.1
  refine V_iload_n e_X9_image_5 rfl rfl ?_
  refine V_i2l e_X9_image_6 ?_
  refine V_lconst (v := lN 0) e_X9_image_7 (by decide) ?_
  refine V_lconst (v := lN 1) e_X9_image_8 (by decide) ?_
  refine V_csIe (av := [.long x.toInt64, .long (lN 0), .long (lN 1)]) (st := []) e_X9_image_9 (c_X9_inN E x (nI 0) (nI 1) (lN 0) (lN 1) τ (nI_l (by omega)) (nI_l (by omega))) l_X9_63 S_X9_in (rm_ok (by decide) (by decide)) rfl rfl (Nat.le_of_ble_eq_true rfl) ?_
  refine V_if_ne (tgt := 18) e_X9_image_12 (by decide) (fun c1 => ?_) (fun c1 => ?_)
  · obtain ⟨k, hka, hk, rfl⟩ := (wi_le (by omega) (by omega)).mp c1
    refine V_aload_n e_X9_image_18 rfl rfl ?_
    refine V_cvIe (av := []) (st := []) e_X9_image_19 (c_X9_isThere E A τ hM hNl.1) l_X9_191 S_X9_isThere rfl (rm_ok (by decide) (by decide)) rfl rfl (Nat.le_of_ble_eq_true rfl) ?_
    refine V_if_ne (tgt := 28) e_X9_image_22 (by decide) (fun c2 => ?_) (fun c2 => ?_)
    · have d2 : ¬ (if A 0 = 0 then 0 else 1) = 0 := nq_ne (by first | omega | (split <;> omega)) (by first | omega | (split <;> omega)) c2
      have hA0 : ¬ A 0 = 0 := fun q => by rw [if_pos q] at d2; omega
      have hF : WF A := hN.wf (by omega)
      refine V_iconst (v := nI 0) e_X9_image_28 (by decide) ?_
      refine V_istore_n (L' := [some (.ref (eB E + 292)), some (.int (nI k)), some (.int (nI 0))]) e_X9_image_29 rfl rfl ?_
      have hX := lp_X9_image E k A (fun σ' r => Fb 292 307 σ σ' ∧ IM σ' (oImage (A, T) (nI k)).1 ∧ r = (oImage (A, T) (nI k)).2) τ (by omega) hM (by rw [show oImage (A, T) (nI k) = (wI (A, T) (fun j => if j = k then 1 else (aI (A, T)).1 j, fun j => if j = k then A else (aI (A, T)).2 j), nI 1) from (by unfold oImage; dsimp only; rw [if_neg c1, if_neg hA0, ixN (by omega)])]; exact ⟨hfb.tr img_fb, img_im hJ (by omega), rfl⟩) 55 0 rfl (by omega); rw [layW_0] at hX; exact hX
    · have d2 : (if A 0 = 0 then 0 else 1) = 0 := nq_eq (by first | omega | (split <;> omega)) (by first | omega | (split <;> omega)) c2
      have hA0 : A 0 = 0 := Decidable.byContradiction (fun q => by rw [if_neg q] at d2; omega)
      refine V_ldc (v := (-1000002)) e_X9_image_25 k_X9_194 ?_
      exact V_iret e_X9_image_27 rfl (by rw [show oImage (A, T) (nI k) = ((A, T), (-1000002)) from (by unfold oImage; (try unfold gIn); (try dsimp only); (try (repeat rw [ixN (by omega)])); (first | rw [if_pos c1] | rw [if_neg c1] | skip); (first | rw [if_pos hA0] | rw [if_neg hA0] | skip); try rfl)]; exact ⟨hfb, hJ, rfl⟩)
  · refine V_ldc (v := (-1000001)) e_X9_image_15 k_X9_73 ?_
    exact V_iret e_X9_image_17 rfl (by rw [show oImage (A, T) x = ((A, T), (-1000001)) from (by unfold oImage; (try unfold gIn); (try dsimp only); (try (repeat rw [ixN (by omega)])); (first | rw [if_pos c1] | rw [if_neg c1] | skip); (first | rw [if_pos hA0] | rw [if_neg hA0] | skip); try rfl)]; exact ⟨hfb, hJ, rfl⟩)
set_option maxRecDepth 100000 in
set_option maxHeartbeats 4000000 in
theorem lp_X9_restore (E : En) (k : Nat) (B : Vec) (Q : Sg → Int32 → Prop) (ρ : Sg) (hk : k < 2) (hB : ∀ i, i < 55 → ρ 305 (55 * k + i) = nI (B i)) (hQ : Q (up2 (stM ρ 296 B) 292 9 (nI 0)) (nI 1)) : ∀ (mm : Nat) (i : Nat), 55 - i = mm → (i ≤ 55) → V E m_X9_restore (kM E 12 (pI Q)) 32 [some (.ref (eB E + 292)), some (.int (nI k)), some (.int (nI i))] [] (layW 296 0 i B ρ) := by
  intro mm
  induction mm using Nat.strongRecOn with
  | ind mm ih =>
    intro i hmm hi
    refine V_iload_n e_X9_restore_32 rfl rfl ?_
    refine V_bipush (v := nI 55) e_X9_restore_33 (by decide) ?_
    refine V_icmp_ge (tgt := 61) e_X9_restore_35 (by decide) (fun c1 => ?_) (fun c1 => ?_)
    · have d1 : 55 ≤ i := nq_le (by omega) (by omega) c1
      refine V_aload_n e_X9_restore_61 rfl rfl ?_
      refine V_iconst (v := nI 0) e_X9_restore_62 (by decide) ?_
      refine V_puti e_X9_restore_63 F_X9_acts f_X9_155 rfl ?_
      refine V_iconst (v := nI 1) e_X9_restore_66 (by decide) ?_
      exact V_iret e_X9_restore_67 rfl (by rw [show i = 55 by omega, layW_st]; exact hQ)
    · have d1 : ¬ 55 ≤ i := nq_nle (by omega) (by omega) c1
      refine V_aload_n e_X9_restore_38 rfl rfl ?_
      refine V_getr (r := 296) e_X9_restore_39 F_X9_shore f_X9_19 rfl rfl ?_
      refine V_iload_n e_X9_restore_42 rfl rfl ?_
      refine V_aload_n e_X9_restore_43 rfl rfl ?_
      refine V_getr (r := 305) e_X9_restore_44 F_X9_kept f_X9_47 rfl rfl ?_
      refine V_bipush (v := nI 55) e_X9_restore_47 (by decide) ?_
      refine V_iload_n e_X9_restore_49 rfl rfl ?_
      refine V_imulN (z := nI (55 * k)) e_X9_restore_50 (pk_mul _ _) ?_
      refine V_iload_n e_X9_restore_51 rfl rfl ?_
      refine V_iaddN (z := nI (55 * k + i)) e_X9_restore_52 (nI_add _ _) ?_
      refine V_ialdv (v := nI (B i)) (j := (55 * k + i)) e_X9_restore_53 rfl rfl (by have q : ln 305 = 110 := rfl; omega) ((layW_ne (by decide)).trans (hB i (by omega))) ?_
      refine V_iast (j := i) e_X9_restore_54 rfl rfl (by have q : ln 296 = 55 := rfl; omega) ?_
      rw [show up2 (layW 296 0 i B ρ) 296 i (nI (B i)) = layW 296 0 (i + 1) B ρ from (by have hz9 := layW_s (c := 296) (a := 0) (i := i) (A := B) (σ := ρ); rw [Nat.zero_add] at hz9; exact hz9)]
      refine V_iinc (v := nI (i + 1)) (L' := [some (.ref (eB E + 292)), some (.int (nI k)), some (.int (nI (i + 1)))]) e_X9_restore_55 rfl (nI_add _ 1) rfl ?_
      refine V_goto (tgt := 32) e_X9_restore_58 (by decide) ?_
      exact ih (55 - (i + 1)) (by omega) (i + 1) rfl (by omega)
theorem res_im {τ : Sg} {A : Vec} {T : AbT} {k : Nat} (hJ : IM τ (A, T)) (hk : k < 2) (h1 : (aI (A, T)).1 k = 1) : IM (up2 (stM τ 296 ((aI (A, T)).2 k)) 292 9 (nI 0)) ((aI (A, T)).2 k, ((aH (A, T)).1, 0), T.2) := by
  have hgd := (hJ.1.2.2.1 k hk).2 h1
  have h2 := IM.wH (imsh hJ hgd) (H := ((aH (A, T)).1, 0)) (τ := up2 (stM τ 296 ((aI (A, T)).2 k)) 292 9 (nI 0)) ⟨Nat.zero_le _, fun j hj => absurd hj (Nat.not_lt_zero j)⟩ ⟨up2_at, fun j hj => absurd hj (Nat.not_lt_zero j)⟩ (mup rfl)
  exact h2
set_option maxRecDepth 100000 in
set_option maxHeartbeats 4000000 in
theorem c9_restore (E : En) (x : Int32) (A : Vec) (T : AbT) (σ : Sg) (hJ0 : IM σ (A, T)) : Cn E m_X9_restore 12 [.ref (eB E + 292), .int x] σ (pM σ (oRestore (A, T) x)) := by
  have hGD : GD A := hJ0.1.1
  have hN : WN A := hGD.1
  have hNl := hN.le
  have hA4 : A 4 ≤ 999 := hGD.2.2
  have hG := hJ0.1
  refine Cn.of [some (.ref (eB E + 292)), some (.int x), none] (by decide) (Nat.le_of_ble_eq_true rfl) rfl ?_
  refine V_aload_n e_X9_restore_0 rfl rfl ?_
  refine V_iconst (v := nI 0) e_X9_restore_1 (by decide) ?_
  refine V_puti e_X9_restore_2 F_X9_thrown f_X9_53 rfl ?_
  generalize hτ : up2 σ 292 0 (nI 0) = τ
  have hfb : Fb 292 307 σ τ := hτ ▸ th_fb
  have hJ : IM τ (A, T) := hτ ▸ hJ0.fm Fm.th
  have hM : RepM τ 296 A := hJ.2.1
  refine V_iload_n e_X9_restore_5 rfl rfl ?_
  refine V_i2l e_X9_restore_6 ?_
  refine V_lconst (v := lN 0) e_X9_restore_7 (by decide) ?_
  refine V_lconst (v := lN 1) e_X9_restore_8 (by decide) ?_
  refine V_csIe (av := [.long x.toInt64, .long (lN 0), .long (lN 1)]) (st := []) e_X9_restore_9 (c_X9_inN E x (nI 0) (nI 1) (lN 0) (lN 1) τ (nI_l (by omega)) (nI_l (by omega))) l_X9_63 S_X9_in (rm_ok (by decide) (by decide)) rfl rfl (Nat.le_of_ble_eq_true rfl) ?_
  refine V_if_ne (tgt := 18) e_X9_restore_12 (by decide) (fun c1 => ?_) (fun c1 => ?_)
  · obtain ⟨k, hka, hk, rfl⟩ := (wi_le (by omega) (by omega)).mp c1
    have hi1 := (hG.2.2.1 k (by omega)).1
    refine V_aload_n e_X9_restore_18 rfl rfl ?_
    refine V_getr (r := 304) e_X9_restore_19 F_X9_isKept f_X9_43 rfl rfl ?_
    refine V_iload_n e_X9_restore_22 rfl rfl ?_
    refine V_zaldv (v := nI ((aI (A, T)).1 k)) (j := k) e_X9_restore_23 rfl rfl (by have q : ln 304 = 2 := rfl; omega) ((hJ.2.2.2.1 k (by omega)).1) ?_
    refine V_if_ne (tgt := 30) e_X9_restore_24 (by decide) (fun c2 => ?_) (fun c2 => ?_)
    · have d2 : ¬ (aI (A, T)).1 k = 0 := nq_ne (by first | omega | (split <;> omega)) (by first | omega | (split <;> omega)) c2
      refine V_iconst (v := nI 0) e_X9_restore_30 (by decide) ?_
      refine V_istore_n (L' := [some (.ref (eB E + 292)), some (.int (nI k)), some (.int (nI 0))]) e_X9_restore_31 rfl rfl ?_
      have hX := lp_X9_restore E k ((aI (A, T)).2 k) (fun σ' r => Fb 292 307 σ σ' ∧ IM σ' (oRestore (A, T) (nI k)).1 ∧ r = (oRestore (A, T) (nI k)).2) τ (by omega) ((hJ.2.2.2.1 k (by omega)).2 (by omega)) (by rw [show oRestore (A, T) (nI k) = (((aI (A, T)).2 k, ((aH (A, T)).1, 0), T.2), nI 1) from (by unfold oRestore; dsimp only; rw [if_neg c1, ixN (by omega)]; rw [if_neg d2])]; exact ⟨(hfb.tr (stM_fb (by decide) (by decide))).tr th_fb, res_im hJ (by omega) (by omega), rfl⟩) 55 0 rfl (by omega); rw [layW_0] at hX; exact hX
    · have d2 : (aI (A, T)).1 k = 0 := nq_eq (by first | omega | (split <;> omega)) (by first | omega | (split <;> omega)) c2
      refine V_ldc (v := (-1000002)) e_X9_restore_27 k_X9_194 ?_
      exact V_iret e_X9_restore_29 rfl (by rw [show oRestore (A, T) (nI k) = ((A, T), (-1000002)) from (by unfold oRestore; (try unfold gIn); (try dsimp only); (try (repeat rw [ixN (by omega)])); (first | rw [if_pos c1] | rw [if_neg c1] | skip); (first | rw [if_pos d2] | rw [if_neg d2] | skip); try rfl)]; exact ⟨hfb, hJ, rfl⟩)
  · refine V_ldc (v := (-1000001)) e_X9_restore_15 k_X9_73 ?_
    exact V_iret e_X9_restore_17 rfl (by rw [show oRestore (A, T) x = ((A, T), (-1000001)) from (by unfold oRestore; (try unfold gIn); (try dsimp only); (try (repeat rw [ixN (by omega)])); (first | rw [if_pos c1] | rw [if_neg c1] | skip); try rfl)]; exact ⟨hfb, hJ, rfl⟩)
theorem imst2 {σ : Sg} {S : Ab} {f g : Nat} (h : IM σ (wS S g)) (hf : f ≤ 5) : IM (up2 σ 292 1 (nI f)) (wS S f) := by have h2 := imst (f := f) h hf; exact h2
theorem isOf_t : ∀ k, k ≤ 5 → 1 ≤ k → ∀ j, j ≤ 5 → bitN (kiN k) j = if j = 0 ∨ k = j ∨ (j = 1 ∧ k < 4) ∨ (j = 4 ∧ k = 5) then 1 else 0 := by decide
set_option maxRecDepth 100000 in
set_option maxHeartbeats 4000000 in
theorem c_X9_isOf (E : En) (k j : Nat) (σ : Sg) (hk : k ≤ 5) (hk1 : 1 ≤ k) (hj : j ≤ 5) : Cn E m_X9_isOf 1 [.int (nI k), .int (nI j)] σ (pI (fun σ' r => σ' = σ ∧ r = nI (bitN (kiN k) j))) := by
  refine Cn.of [some (.int (nI k)), some (.int (nI j))] (by decide) (Nat.le_of_ble_eq_true rfl) rfl ?_
  refine V_iload_n e_X9_isOf_0 rfl rfl ?_
  refine V_if_eq (tgt := 29) e_X9_isOf_1 (by decide) (fun c1 => ?_) (fun c1 => ?_)
  · have d1 : j = 0 := nq_eq (by omega) (by omega) c1
    refine V_iconst (v := nI 1) e_X9_isOf_29 (by decide) ?_
    refine V_goto (tgt := 34) e_X9_isOf_30 (by decide) ?_
    exact V_zret e_X9_isOf_34 rfl (by first | exact Or.inl nI_0 | exact Or.inr rfl | assumption) (⟨rfl, by rw [isOf_t k hk hk1 j hj]; (first | (exfalso; omega) | rw [if_pos (by omega)] | rw [if_neg (by omega)])⟩)
  · have d1 : ¬ j = 0 := nq_ne (by omega) (by omega) c1
    refine V_iload_n e_X9_isOf_4 rfl rfl ?_
    refine V_iload_n e_X9_isOf_5 rfl rfl ?_
    refine V_icmp_eq (tgt := 29) e_X9_isOf_6 (by decide) (fun c2 => ?_) (fun c2 => ?_)
    · have d2 : k = j := nq_eq (by omega) (by omega) c2
      refine V_iconst (v := nI 1) e_X9_isOf_29 (by decide) ?_
      refine V_goto (tgt := 34) e_X9_isOf_30 (by decide) ?_
      exact V_zret e_X9_isOf_34 rfl (by first | exact Or.inl nI_0 | exact Or.inr rfl | assumption) (⟨rfl, by rw [isOf_t k hk hk1 j hj]; (first | (exfalso; omega) | rw [if_pos (by omega)] | rw [if_neg (by omega)])⟩)
    · have d2 : ¬ k = j := nq_ne (by omega) (by omega) c2
      refine V_iload_n e_X9_isOf_9 rfl rfl ?_
      refine V_iconst (v := nI 1) e_X9_isOf_10 (by decide) ?_
      refine V_icmp_ne (tgt := 19) e_X9_isOf_11 (by decide) (fun c3 => ?_) (fun c3 => ?_)
      · have d3 : ¬ j = 1 := nq_ne (by omega) (by omega) c3
        refine V_iload_n e_X9_isOf_19 rfl rfl ?_
        refine V_iconst (v := nI 4) e_X9_isOf_20 (by decide) ?_
        refine V_icmp_ne (tgt := 33) e_X9_isOf_21 (by decide) (fun c4 => ?_) (fun c4 => ?_)
        · have d4 : ¬ j = 4 := nq_ne (by omega) (by omega) c4
          refine V_iconst (v := nI 0) e_X9_isOf_33 (by decide) ?_
          exact V_zret e_X9_isOf_34 rfl (by first | exact Or.inl nI_0 | exact Or.inr rfl | assumption) (⟨rfl, by rw [isOf_t k hk hk1 j hj]; (first | (exfalso; omega) | rw [if_pos (by omega)] | rw [if_neg (by omega)])⟩)
        · have d4 : j = 4 := nq_eq (by omega) (by omega) c4
          refine V_iload_n e_X9_isOf_24 rfl rfl ?_
          refine V_iconst (v := nI 5) e_X9_isOf_25 (by decide) ?_
          refine V_icmp_ne (tgt := 33) e_X9_isOf_26 (by decide) (fun c5 => ?_) (fun c5 => ?_)
          · have d5 : ¬ k = 5 := nq_ne (by omega) (by omega) c5
            refine V_iconst (v := nI 0) e_X9_isOf_33 (by decide) ?_
            exact V_zret e_X9_isOf_34 rfl (by first | exact Or.inl nI_0 | exact Or.inr rfl | assumption) (⟨rfl, by rw [isOf_t k hk hk1 j hj]; (first | (exfalso; omega) | rw [if_pos (by omega)] | rw [if_neg (by omega)])⟩)
          · have d5 : k = 5 := nq_eq (by omega) (by omega) c5
            refine V_iconst (v := nI 1) e_X9_isOf_29 (by decide) ?_
            refine V_goto (tgt := 34) e_X9_isOf_30 (by decide) ?_
            exact V_zret e_X9_isOf_34 rfl (by first | exact Or.inl nI_0 | exact Or.inr rfl | assumption) (⟨rfl, by rw [isOf_t k hk hk1 j hj]; (first | (exfalso; omega) | rw [if_pos (by omega)] | rw [if_neg (by omega)])⟩)
      · have d3 : j = 1 := nq_eq (by omega) (by omega) c3
        refine V_iload_n e_X9_isOf_14 rfl rfl ?_
        refine V_iconst (v := nI 4) e_X9_isOf_15 (by decide) ?_
        refine V_icmp_lt (tgt := 29) e_X9_isOf_16 (by decide) (fun c6 => ?_) (fun c6 => ?_)
        · have d6 : k < 4 := nq_lt (by omega) (by omega) c6
          refine V_iconst (v := nI 1) e_X9_isOf_29 (by decide) ?_
          refine V_goto (tgt := 34) e_X9_isOf_30 (by decide) ?_
          exact V_zret e_X9_isOf_34 rfl (by first | exact Or.inl nI_0 | exact Or.inr rfl | assumption) (⟨rfl, by rw [isOf_t k hk hk1 j hj]; (first | (exfalso; omega) | rw [if_pos (by omega)] | rw [if_neg (by omega)])⟩)
        · have d6 : ¬ k < 4 := nq_nlt (by omega) (by omega) c6
          refine V_iload_n e_X9_isOf_19 rfl rfl ?_
          refine V_iconst (v := nI 4) e_X9_isOf_20 (by decide) ?_
          refine V_icmp_ne (tgt := 33) e_X9_isOf_21 (by decide) (fun c7 => ?_) (fun c7 => ?_)
          · have d7 : ¬ j = 4 := nq_ne (by omega) (by omega) c7
            refine V_iconst (v := nI 0) e_X9_isOf_33 (by decide) ?_
            exact V_zret e_X9_isOf_34 rfl (by first | exact Or.inl nI_0 | exact Or.inr rfl | assumption) (⟨rfl, by rw [isOf_t k hk hk1 j hj]; (first | (exfalso; omega) | rw [if_pos (by omega)] | rw [if_neg (by omega)])⟩)
          · have d7 : j = 4 := nq_eq (by omega) (by omega) c7
            refine V_iload_n e_X9_isOf_24 rfl rfl ?_
            refine V_iconst (v := nI 5) e_X9_isOf_25 (by decide) ?_
            refine V_icmp_ne (tgt := 33) e_X9_isOf_26 (by decide) (fun c8 => ?_) (fun c8 => ?_)
            · have d8 : ¬ k = 5 := nq_ne (by omega) (by omega) c8
              refine V_iconst (v := nI 0) e_X9_isOf_33 (by decide) ?_
              exact V_zret e_X9_isOf_34 rfl (by first | exact Or.inl nI_0 | exact Or.inr rfl | assumption) (⟨rfl, by rw [isOf_t k hk hk1 j hj]; (first | (exfalso; omega) | rw [if_pos (by omega)] | rw [if_neg (by omega)])⟩)
            · have d8 : k = 5 := nq_eq (by omega) (by omega) c8
              refine V_iconst (v := nI 1) e_X9_isOf_29 (by decide) ?_
              refine V_goto (tgt := 34) e_X9_isOf_30 (by decide) ?_
              exact V_zret e_X9_isOf_34 rfl (by first | exact Or.inl nI_0 | exact Or.inr rfl | assumption) (⟨rfl, by rw [isOf_t k hk hk1 j hj]; (first | (exfalso; omega) | rw [if_pos (by omega)] | rw [if_neg (by omega)])⟩)
set_option maxRecDepth 100000 in
set_option maxHeartbeats 4000000 in
theorem c_X9_finding (E : En) (x : Nat) (σ : Sg) : Cn E m_X9_finding 1 [.ref (eB E + 292), .int (nI x)] σ (pI (fun σ' r => σ' = up2 σ 292 1 (nI x) ∧ r = (-1000010) - nI x)) := by
  refine Cn.of [some (.ref (eB E + 292)), some (.int (nI x))] (by decide) (Nat.le_of_ble_eq_true rfl) rfl ?_
  refine V_aload_n e_X9_finding_0 rfl rfl ?_
  refine V_iload_n e_X9_finding_1 rfl rfl ?_
  refine V_puti e_X9_finding_2 F_X9_status f_X9_57 rfl ?_
  refine V_ldc (v := (-1000010)) e_X9_finding_5 k_X9_60 ?_
  refine V_iload_n e_X9_finding_7 rfl rfl ?_
  refine V_isub e_X9_finding_8 ?_
  exact V_iret e_X9_finding_9 rfl (⟨rfl, rfl⟩)
set_option maxRecDepth 100000 in
set_option maxHeartbeats 4000000 in
theorem c9_as (E : En) (x y : Int32) (A : Vec) (T : AbT) (σ : Sg) (hJ0 : IM σ (A, T)) : Cn E m_X9_as 12 [.ref (eB E + 292), .int x, .int y] σ (pM σ (oAs (A, T) x y)) := by
  have hGD : GD A := hJ0.1.1
  have hN : WN A := hGD.1
  have hNl := hN.le
  have hA4 : A 4 ≤ 999 := hGD.2.2
  have hG := hJ0.1
  refine Cn.of [some (.ref (eB E + 292)), some (.int x), some (.int y)] (by decide) (Nat.le_of_ble_eq_true rfl) rfl ?_
  refine V_aload_n e_X9_as_0 rfl rfl ?_
  refine V_iconst (v := nI 0) e_X9_as_1 (by decide) ?_
  refine V_puti e_X9_as_2 F_X9_thrown f_X9_53 rfl ?_
  generalize hτ : up2 σ 292 0 (nI 0) = τ
  have hfb : Fb 292 307 σ τ := hτ ▸ th_fb
  have hJ : IM τ (A, T) := hτ ▸ hJ0.fm Fm.th
  have hM : RepM τ 296 A := hJ.2.1
  refine V_aload_n e_X9_as_5 rfl rfl ?_
  refine V_iload_n e_X9_as_6 rfl rfl ?_
  refine V_cvIe (av := [.int x]) (st := []) e_X9_as_7 (c_X9_isGate E x A τ hM) l_X9_207 S_X9_isGate rfl (rm_ok (by decide) (by decide)) rfl rfl (Nat.le_of_ble_eq_true rfl) ?_
  refine V_if_eq (tgt := 25) e_X9_as_10 (by decide) (fun c1 => ?_) (fun c1 => ?_)
  · refine V_ldc (v := (-1000001)) e_X9_as_25 k_X9_73 ?_
    exact V_iret e_X9_as_27 rfl (by rw [show oAs (A, T) x y = ((A, T), (-1000001)) from (by unfold oAs; (try unfold gIn); (try dsimp only); (try (repeat rw [ixN (by omega)])); (first | rw [if_pos c1] | rw [if_neg c1] | skip); try rfl)]; exact ⟨hfb, hJ, rfl⟩)
  · obtain ⟨g, hg, rfl⟩ := (wi_nat (by omega)).mp c1
    have hF : WF A := hN.wf (by omega)
    refine V_iload_n e_X9_as_13 rfl rfl ?_
    refine V_i2l e_X9_as_14 ?_
    refine V_lconst (v := lN 0) e_X9_as_15 (by decide) ?_
    refine V_ldc2_w (v := lN 5) e_X9_as_16 kl_X9_278 ?_
    refine V_csIe (av := [.long y.toInt64, .long (lN 0), .long (lN 5)]) (st := []) e_X9_as_19 (c_X9_inN E y (nI 0) (nI 5) (lN 0) (lN 5) τ (nI_l (by omega)) (nI_l (by omega))) l_X9_63 S_X9_in (rm_ok (by decide) (by decide)) rfl rfl (Nat.le_of_ble_eq_true rfl) ?_
    refine V_if_ne (tgt := 28) e_X9_as_22 (by decide) (fun c2 => ?_) (fun c2 => ?_)
    · obtain ⟨k, hka, hk, rfl⟩ := (wi_le (by omega) (by omega)).mp c2
      have hkg := (hF.1.2.2.2.2.2.2.2.2 g hg)
      have hbk := bitN_le (kiN (A (7 + 3 * g))) k
      refine V_aload_n e_X9_as_28 rfl rfl ?_
      refine V_iconst (v := nI 0) e_X9_as_29 (by decide) ?_
      refine V_puti e_X9_as_30 F_X9_status f_X9_57 rfl ?_
      generalize hρ : up2 τ 292 1 (nI 0) = ρ
      have hfb0 : Fb 292 307 σ ρ := hρ ▸ hfb.tr th_fb
      have hK : IM ρ (wS (A, T) 0) := hρ ▸ imst hJ (by omega)
      have hMk : RepM ρ 296 A := hK.2.1
      refine V_aload_n e_X9_as_33 rfl rfl ?_
      refine V_getr (r := 296) e_X9_as_34 F_X9_shore f_X9_19 rfl rfl ?_
      refine V_iload_n e_X9_as_37 rfl rfl ?_
      refine V_iconst (v := nI 0) e_X9_as_38 (by decide) ?_
      refine V_csIe (av := [.ref (eB E + 296), .int (nI g), .int (nI 0)]) (st := []) e_X9_as_39 (c_X9_ofR_0 E 296 g A ρ rfl rfl hMk (by omega)) l_X9_162 S_X9_of (rm_ok (by decide) (by decide)) rfl rfl (Nat.le_of_ble_eq_true rfl) ?_
      refine V_iload_n e_X9_as_42 rfl rfl ?_
      refine V_csIe (av := [.int (nI (A (7 + 3 * g))), .int (nI k)]) (st := []) e_X9_as_43 (c_X9_isOf E (A (7 + 3 * g)) k ρ (by omega) (by omega) (by omega)) l_X9_280 S_X9_isOf (rm_ok (by decide) (by decide)) rfl rfl (Nat.le_of_ble_eq_true rfl) ?_
      refine V_if_eq (tgt := 53) e_X9_as_46 (by decide) (fun c3 => ?_) (fun c3 => ?_)
      · have d3 : bitN (kiN (A (7 + 3 * g))) k = 0 := nq_eq (by omega) (by omega) c3
        refine V_aload_n e_X9_as_53 rfl rfl ?_
        refine V_iconst (v := nI 3) e_X9_as_54 (by decide) ?_
        refine V_cvIe (av := [.int (nI 3)]) (st := []) e_X9_as_55 (c_X9_finding E 3 ρ) l_X9_74 S_X9_finding rfl (rm_ok (by decide) (by decide)) rfl rfl (Nat.le_of_ble_eq_true rfl) ?_
        exact V_iret e_X9_as_58 rfl (by rw [show oAs (A, T) (nI g) (nI k) = (wS (A, T) 3, (-1000010) - nI 3) from (by unfold oAs; (try unfold gIn); (try dsimp only); (try (repeat rw [ixN (by omega)])); (first | rw [if_pos c1] | rw [if_neg c1] | skip); (first | rw [if_pos c2] | rw [if_neg c2] | skip); (first | rw [if_pos d3] | rw [if_neg d3] | skip); try rfl)]; exact ⟨hfb0.tr th_fb, (show IM (up2 ρ 292 1 (nI 3)) (wS (A, T) 3) from imst2 hK (f := 3) (by omega)), rfl⟩)
      · have d3 : ¬ bitN (kiN (A (7 + 3 * g))) k = 0 := nq_ne (by omega) (by omega) c3
        refine V_iload_n e_X9_as_49 rfl rfl ?_
        refine V_goto (tgt := 58) e_X9_as_50 (by decide) ?_
        exact V_iret e_X9_as_58 rfl (by rw [show oAs (A, T) (nI g) (nI k) = (wS (A, T) 0, nI g) from (by unfold oAs; (try unfold gIn); (try dsimp only); (try (repeat rw [ixN (by omega)])); (first | rw [if_pos c1] | rw [if_neg c1] | skip); (first | rw [if_pos c2] | rw [if_neg c2] | skip); (first | rw [if_pos d3] | rw [if_neg d3] | skip); try rfl)]; exact ⟨(show Fb 292 307 σ (ρ) from hfb0), (show IM (ρ) (wS (A, T) 0) from hK), rfl⟩)
    · refine V_ldc (v := (-1000001)) e_X9_as_25 k_X9_73 ?_
      exact V_iret e_X9_as_27 rfl (by rw [show oAs (A, T) (nI g) y = ((A, T), (-1000001)) from (by unfold oAs; (try unfold gIn); (try dsimp only); (try (repeat rw [ixN (by omega)])); (first | rw [if_pos c1] | rw [if_neg c1] | skip); (first | rw [if_pos c2] | rw [if_neg c2] | skip); try rfl)]; exact ⟨hfb, hJ, rfl⟩)

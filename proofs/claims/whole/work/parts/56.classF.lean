theorem cd_pl {g i t : Nat} (ht : t < 64) (hi : i ≤ 1) : cd (128 * g + 64 * i + t) = 16 * t + 8 * i + g := by
  unfold cd
  rw [show (128 * g + 64 * i + t) % 64 = t by omega, show (128 * g + 64 * i + t) / 64 % 2 = i by omega, show (128 * g + 64 * i + t) / 128 = g by omega]
theorem cd_sub {P : Nat} : cd P - P / 128 = 16 * (P % 64) + 8 * (P / 64 % 2) := by unfold cd; omega
set_option maxRecDepth 100000 in
set_option maxHeartbeats 4000000 in
theorem c_X2_stateOf (E : En) (w at_ ins of_ : Nat) (σ : Sg) (ha : kd w = 7) (h0 : σ w 0 = nI at_) (h1 : σ w 1 = nI of_) (h5 : σ w 5 = nI ins) (a8 : at_ < 8) (i1 : ins ≤ 1) (o64 : of_ < 64) : Cn E m_X2_stateOf 1 [.ref (eB E + w)] σ (pI (fun σ' r => σ' = σ ∧ r = nI (cd (128 * at_ + 64 * ins + of_)))) := by
  refine Cn.of [some (.ref (eB E + w))] (by decide) (Nat.le_of_ble_eq_true rfl) rfl ?_
  refine V_aload_n e_X2_stateOf_0 rfl rfl ?_
  refine V_getiv (v := nI of_) e_X2_stateOf_1 F_X7_of f_X2_21 ha h1 ?_
  refine V_iconst (v := nI 4) e_X2_stateOf_4 (by decide) ?_
  refine V_ishlN (z := nI (of_ * 2 ^ 4)) e_X2_stateOf_5 (shlN (by omega)) ?_
  refine V_aload_n e_X2_stateOf_6 rfl rfl ?_
  refine V_getiv (v := nI ins) e_X2_stateOf_7 F_X7_inside f_X2_27 ha h5 ?_
  refine V_if_eq (tgt := 18) e_X2_stateOf_10 (by decide) (fun c1 => ?_) (fun c1 => ?_)
  · have d1 : ins = 0 := nq_eq (by omega) (by omega) c1
    refine V_iconst (v := nI 0) e_X2_stateOf_18 (by decide) ?_
    refine V_iorN (z := nI ((of_ * 2 ^ 4) ||| 0)) e_X2_stateOf_19 (lorI _ _) ?_
    refine V_aload_n e_X2_stateOf_20 rfl rfl ?_
    refine V_getiv (v := nI at_) e_X2_stateOf_21 F_X7_at f_X2_31 ha h0 ?_
    refine V_iorN (z := nI (((of_ * 2 ^ 4) ||| 0) ||| at_)) e_X2_stateOf_24 (lorI _ _) ?_
    exact V_iret e_X2_stateOf_25 rfl (⟨rfl, congrArg nI (by rw [cd_pl o64 i1]; have hz := orN of_ o64 at_ a8; first | (rw [show ins = 0 by omega]; exact hz.1) | (rw [show ins = 1 by omega]; exact hz.2))⟩)
  · have d1 : ¬ ins = 0 := nq_ne (by omega) (by omega) c1
    refine V_bipush (v := nI 8) e_X2_stateOf_13 (by decide) ?_
    refine V_goto (tgt := 19) e_X2_stateOf_15 (by decide) ?_
    refine V_iorN (z := nI ((of_ * 2 ^ 4) ||| 8)) e_X2_stateOf_19 (lorI _ _) ?_
    refine V_aload_n e_X2_stateOf_20 rfl rfl ?_
    refine V_getiv (v := nI at_) e_X2_stateOf_21 F_X7_at f_X2_31 ha h0 ?_
    refine V_iorN (z := nI (((of_ * 2 ^ 4) ||| 8) ||| at_)) e_X2_stateOf_24 (lorI _ _) ?_
    exact V_iret e_X2_stateOf_25 rfl (⟨rfl, congrArg nI (by rw [cd_pl o64 i1]; have hz := orN of_ o64 at_ a8; first | (rw [show ins = 0 by omega]; exact hz.1) | (rw [show ins = 1 by omega]; exact hz.2))⟩)
set_option maxRecDepth 100000 in
set_option maxHeartbeats 4000000 in
theorem c_X2_behind_0 (E : En) (P : Nat) (A : Vec) (σ : Sg) (hR : RepC σ 4 A) (hA : WE A) (hP : P < 128 * A 0) : Cn E m_X2_behind 3 [.ref (eB E + 4), .int (nI (cd P)), .int (nI 0)] σ (pI (fun σ' r => σ' = σ ∧ r = oc (nxt A P 0))) := by
  have hA6 := hA.2.1
  have hcd := cd_lt (show P < 1024 by omega)
  have hg : P / 128 < A 0 := by omega
  have hNl : A 0 ≤ 6 ∧ True := ⟨hA6, trivial⟩
  have ht0 := thr_64 (A := A) (g := P / 128) (gi := 0) (s := P % 64) (by omega) (by omega)
  have ht1 := thr_64 (A := A) (g := P / 128) (gi := 1) (s := P % 64) (by omega) (by omega)
  refine Cn.of [some (.ref (eB E + 4)), some (.int (nI (cd P))), some (.int (nI 0)), none, none, none] (by decide) (Nat.le_of_ble_eq_true rfl) rfl ?_
  refine V_iload_n e_X2_behind_0 rfl rfl ?_
  refine V_bipush (v := nI 7) e_X2_behind_1 (by decide) ?_
  refine V_iandN (z := nI ((cd P) &&& 7)) e_X2_behind_3 (andI _ _) ?_
  refine V_topi (y := nI (P / 128)) (congrArg nI (and7 P (by omega))) ?_
  refine V_istore_n (L' := [some (.ref (eB E + 4)), some (.int (nI (cd P))), some (.int (nI 0)), some (.int (nI (P / 128))), none, none]) e_X2_behind_4 rfl rfl ?_
  refine V_iload_n e_X2_behind_5 rfl rfl ?_
  refine V_bipush (v := nI 8) e_X2_behind_6 (by decide) ?_
  refine V_iandN (z := nI ((cd P) &&& 8)) e_X2_behind_8 (andI _ _) ?_
  refine V_topi (y := nI (8 * (P / 64 % 2))) (congrArg nI (and8c P (by omega))) ?_
  refine V_if_eq (tgt := 16) e_X2_behind_9 (by decide) (fun c1 => ?_) (fun c1 => ?_)
  · have d1 : 8 * (P / 64 % 2) = 0 := nq_eq (by omega) (by omega) c1
    refine V_iconst (v := nI 0) e_X2_behind_16 (by decide) ?_
    refine V_istore (L' := [some (.ref (eB E + 4)), some (.int (nI (cd P))), some (.int (nI 0)), some (.int (nI (P / 128))), some (.int (nI 0)), none]) e_X2_behind_17 rfl ?_
    refine V_iload_n e_X2_behind_19 rfl rfl ?_
    refine V_if_ne (tgt := 62) e_X2_behind_20 (by decide) (fun c2 => absurd c2 (by decide)) (fun c2 => ?_)
    refine V_aload_n e_X2_behind_23 rfl rfl ?_
    refine V_iload_n e_X2_behind_24 rfl rfl ?_
    refine V_iload e_X2_behind_25 rfl ?_
    refine V_if_ne (tgt := 34) e_X2_behind_27 (by decide) (fun c3 => absurd c3 (by decide)) (fun c3 => ?_)
    refine V_iconst (v := nI 1) e_X2_behind_30 (by decide) ?_
    refine V_goto (tgt := 35) e_X2_behind_31 (by decide) ?_
    refine V_iload_n e_X2_behind_35 rfl rfl ?_
    refine V_iconst (v := nI 4) e_X2_behind_36 (by decide) ?_
    refine V_ishrN (z := nI ((cd P) / 2 ^ 4)) e_X2_behind_37 (shrN (by omega) (by omega)) ?_
    refine V_topi (y := nI (P % 64)) (congrArg nI (by unfold cd; omega)) ?_
    refine V_cvIe (av := [.int (nI (P / 128)), .int (nI 1), .int (nI (P % 64))]) (st := []) e_X2_behind_38 (c_X5_ofBehind E 4 (P / 128) 1 (P % 64) A σ rfl hA hR.1 hg (by omega) (by omega)) l_X2_77 S_X5_ofBehind rfl (rm_ok (by decide) (by decide)) rfl rfl (Nat.le_of_ble_eq_true rfl) ?_
    refine V_istore (L' := [some (.ref (eB E + 4)), some (.int (nI (cd P))), some (.int (nI 0)), some (.int (nI (P / 128))), some (.int (nI 0)), some (.int (nI (thr A (P / 128) 1 (P % 64))))]) e_X2_behind_41 rfl ?_
    refine V_iload e_X2_behind_43 rfl ?_
    refine V_iconst (v := nI 4) e_X2_behind_45 (by decide) ?_
    refine V_ishlN (z := nI ((thr A (P / 128) 1 (P % 64)) * 2 ^ 4)) e_X2_behind_46 (shlN (by omega)) ?_
    refine V_iload e_X2_behind_47 rfl ?_
    refine V_if_eq (tgt := 56) e_X2_behind_49 (by decide) (fun c4 => ?_) (fun c4 => absurd c4 (by decide))
    refine V_bipush (v := nI 8) e_X2_behind_56 (by decide) ?_
    refine V_iorN (z := nI (((thr A (P / 128) 1 (P % 64)) * 2 ^ 4) ||| 8)) e_X2_behind_58 (lorI _ _) ?_
    refine V_iload_n e_X2_behind_59 rfl rfl ?_
    refine V_iorN (z := nI ((((thr A (P / 128) 1 (P % 64)) * 2 ^ 4) ||| 8) ||| (P / 128))) e_X2_behind_60 (lorI _ _) ?_
    exact V_iret e_X2_behind_61 rfl (⟨rfl, by have he : 1 - P / 64 % 2 = 1 := (by omega); rw [show nxt A P 0 = some (128 * (P / 128) + 64 * 1 + thr A (P / 128) 1 (P % 64)) from (by unfold nxt; rw [if_pos rfl, he])]; show _ = nI (cd _); rw [cd_pl ht1 (by omega)]; exact congrArg nI (orN _ ht1 _ (by omega)).2⟩)
  · have d1 : ¬ 8 * (P / 64 % 2) = 0 := nq_ne (by omega) (by omega) c1
    refine V_iconst (v := nI 1) e_X2_behind_12 (by decide) ?_
    refine V_goto (tgt := 17) e_X2_behind_13 (by decide) ?_
    refine V_istore (L' := [some (.ref (eB E + 4)), some (.int (nI (cd P))), some (.int (nI 0)), some (.int (nI (P / 128))), some (.int (nI 1)), none]) e_X2_behind_17 rfl ?_
    refine V_iload_n e_X2_behind_19 rfl rfl ?_
    refine V_if_ne (tgt := 62) e_X2_behind_20 (by decide) (fun c5 => absurd c5 (by decide)) (fun c5 => ?_)
    refine V_aload_n e_X2_behind_23 rfl rfl ?_
    refine V_iload_n e_X2_behind_24 rfl rfl ?_
    refine V_iload e_X2_behind_25 rfl ?_
    refine V_if_ne (tgt := 34) e_X2_behind_27 (by decide) (fun c6 => ?_) (fun c6 => absurd c6 (by decide))
    refine V_iconst (v := nI 0) e_X2_behind_34 (by decide) ?_
    refine V_iload_n e_X2_behind_35 rfl rfl ?_
    refine V_iconst (v := nI 4) e_X2_behind_36 (by decide) ?_
    refine V_ishrN (z := nI ((cd P) / 2 ^ 4)) e_X2_behind_37 (shrN (by omega) (by omega)) ?_
    refine V_topi (y := nI (P % 64)) (congrArg nI (by unfold cd; omega)) ?_
    refine V_cvIe (av := [.int (nI (P / 128)), .int (nI 0), .int (nI (P % 64))]) (st := []) e_X2_behind_38 (c_X5_ofBehind E 4 (P / 128) 0 (P % 64) A σ rfl hA hR.1 hg (by omega) (by omega)) l_X2_77 S_X5_ofBehind rfl (rm_ok (by decide) (by decide)) rfl rfl (Nat.le_of_ble_eq_true rfl) ?_
    refine V_istore (L' := [some (.ref (eB E + 4)), some (.int (nI (cd P))), some (.int (nI 0)), some (.int (nI (P / 128))), some (.int (nI 1)), some (.int (nI (thr A (P / 128) 0 (P % 64))))]) e_X2_behind_41 rfl ?_
    refine V_iload e_X2_behind_43 rfl ?_
    refine V_iconst (v := nI 4) e_X2_behind_45 (by decide) ?_
    refine V_ishlN (z := nI ((thr A (P / 128) 0 (P % 64)) * 2 ^ 4)) e_X2_behind_46 (shlN (by omega)) ?_
    refine V_iload e_X2_behind_47 rfl ?_
    refine V_if_eq (tgt := 56) e_X2_behind_49 (by decide) (fun c7 => absurd c7 (by decide)) (fun c7 => ?_)
    refine V_iconst (v := nI 0) e_X2_behind_52 (by decide) ?_
    refine V_goto (tgt := 58) e_X2_behind_53 (by decide) ?_
    refine V_iorN (z := nI (((thr A (P / 128) 0 (P % 64)) * 2 ^ 4) ||| 0)) e_X2_behind_58 (lorI _ _) ?_
    refine V_iload_n e_X2_behind_59 rfl rfl ?_
    refine V_iorN (z := nI ((((thr A (P / 128) 0 (P % 64)) * 2 ^ 4) ||| 0) ||| (P / 128))) e_X2_behind_60 (lorI _ _) ?_
    exact V_iret e_X2_behind_61 rfl (⟨rfl, by have he : 1 - P / 64 % 2 = 0 := (by omega); rw [show nxt A P 0 = some (128 * (P / 128) + 64 * 0 + thr A (P / 128) 0 (P % 64)) from (by unfold nxt; rw [if_pos rfl, he])]; show _ = nI (cd _); rw [cd_pl ht0 (by omega)]; exact congrArg nI (orN _ ht0 _ (by omega)).1⟩)
set_option maxRecDepth 100000 in
set_option maxHeartbeats 4000000 in
theorem c_X2_behind_1 (E : En) (P : Nat) (A : Vec) (σ : Sg) (hR : RepC σ 4 A) (hA : WE A) (hP : P < 128 * A 0) : Cn E m_X2_behind 3 [.ref (eB E + 4), .int (nI (cd P)), .int (nI 1)] σ (pI (fun σ' r => σ' = σ ∧ r = oc (nxt A P 1))) := by
  have hA6 := hA.2.1
  have hcd := cd_lt (show P < 1024 by omega)
  have hg : P / 128 < A 0 := by omega
  have hNl : A 0 ≤ 6 ∧ True := ⟨hA6, trivial⟩
  have ht0 := thr_64 (A := A) (g := P / 128) (gi := 0) (s := P % 64) (by omega) (by omega)
  have ht1 := thr_64 (A := A) (g := P / 128) (gi := 1) (s := P % 64) (by omega) (by omega)
  refine Cn.of [some (.ref (eB E + 4)), some (.int (nI (cd P))), some (.int (nI 1)), none, none, none] (by decide) (Nat.le_of_ble_eq_true rfl) rfl ?_
  refine V_iload_n e_X2_behind_0 rfl rfl ?_
  refine V_bipush (v := nI 7) e_X2_behind_1 (by decide) ?_
  refine V_iandN (z := nI ((cd P) &&& 7)) e_X2_behind_3 (andI _ _) ?_
  refine V_topi (y := nI (P / 128)) (congrArg nI (and7 P (by omega))) ?_
  refine V_istore_n (L' := [some (.ref (eB E + 4)), some (.int (nI (cd P))), some (.int (nI 1)), some (.int (nI (P / 128))), none, none]) e_X2_behind_4 rfl rfl ?_
  refine V_iload_n e_X2_behind_5 rfl rfl ?_
  refine V_bipush (v := nI 8) e_X2_behind_6 (by decide) ?_
  refine V_iandN (z := nI ((cd P) &&& 8)) e_X2_behind_8 (andI _ _) ?_
  refine V_topi (y := nI (8 * (P / 64 % 2))) (congrArg nI (and8c P (by omega))) ?_
  refine V_if_eq (tgt := 16) e_X2_behind_9 (by decide) (fun c1 => ?_) (fun c1 => ?_)
  · have d1 : 8 * (P / 64 % 2) = 0 := nq_eq (by first | omega | (split <;> omega)) (by first | omega | (split <;> omega)) c1
    refine V_iconst (v := nI 0) e_X2_behind_16 (by decide) ?_
    refine V_istore (L' := [some (.ref (eB E + 4)), some (.int (nI (cd P))), some (.int (nI 1)), some (.int (nI (P / 128))), some (.int (nI 0)), none]) e_X2_behind_17 rfl ?_
    refine V_iload_n e_X2_behind_19 rfl rfl ?_
    refine V_if_ne (tgt := 62) e_X2_behind_20 (by decide) (fun c2 => ?_) (fun c2 => absurd c2 (by decide))
    refine V_iload_n e_X2_behind_62 rfl rfl ?_
    refine V_iconst (v := nI 1) e_X2_behind_63 (by decide) ?_
    refine V_icmp_ne (tgt := 73) e_X2_behind_64 (by decide) (fun c3 => absurd c3 (by decide)) (fun c3 => ?_)
    refine V_iload_n e_X2_behind_67 rfl rfl ?_
    refine V_iconst (v := nI 1) e_X2_behind_68 (by decide) ?_
    refine V_iaddN (z := nI (P / 128 + 1)) e_X2_behind_69 (nI_add _ _) ?_
    refine V_goto (tgt := 76) e_X2_behind_70 (by decide) ?_
    refine V_istore (L' := [some (.ref (eB E + 4)), some (.int (nI (cd P))), some (.int (nI 1)), some (.int (nI (P / 128))), some (.int (nI 0)), some (.int (nI (P / 128 + 1)))]) e_X2_behind_76 rfl ?_
    refine V_iload e_X2_behind_78 rfl ?_
    refine V_if_ne (tgt := 92) e_X2_behind_80 (by decide) (fun c4 => absurd c4 (by decide)) (fun c4 => ?_)
    refine V_aload_n e_X2_behind_83 rfl rfl ?_
    refine V_iload e_X2_behind_84 rfl ?_
    refine V_cvIe (av := [.int (nI (P / 128 + 1))]) (st := []) e_X2_behind_86 (c_X5_hasGate E 4 (A 0) (nI (P / 128 + 1)) σ rfl hR.1.2.2.2.1) l_X2_83 S_X5_hasGate rfl (rm_ok (by decide) (by decide)) rfl rfl (Nat.le_of_ble_eq_true rfl) ?_
    refine V_topi (y := nI (if P / 128 + 1 < A 0 then 1 else 0)) (gup (A 0) (by omega) (P / 128) hg) ?_
    refine V_if_ne (tgt := 97) e_X2_behind_89 (by decide) (fun c5 => ?_) (fun c5 => ?_)
    · have d5 : ¬ (if P / 128 + 1 < A 0 then 1 else 0) = 0 := nq_ne (by first | omega | (split <;> omega)) (by first | omega | (split <;> omega)) c5
      have hq : P / 128 + 1 < A 0 := Decidable.byContradiction (fun z => by rw [if_neg z] at d5; exact d5 rfl)
      refine V_iload_n e_X2_behind_97 rfl rfl ?_
      refine V_iload_n e_X2_behind_98 rfl rfl ?_
      refine V_isubN (z := nI (cd P - (P / 128))) e_X2_behind_99 (pk_sub (by unfold cd; omega)) ?_
      refine V_iload e_X2_behind_100 rfl ?_
      refine V_iaddN (z := nI (cd P - (P / 128) + (P / 128 + 1))) e_X2_behind_102 (nI_add _ _) ?_
      exact V_iret e_X2_behind_103 rfl (⟨rfl, by rw [show nxt A P 1 = some (128 * (P / 128 + 1) + P % 64) from (by unfold nxt; rw [if_neg (by decide), if_neg (by omega), if_pos rfl, if_pos hq])]; show _ = nI (cd _); rw [cd_sub, show 128 * (P / 128 + 1) + P % 64 = 128 * (P / 128 + 1) + 64 * 0 + P % 64 by omega, cd_pl (by omega) (by omega)]; congr 1; omega⟩)
    · have d5 : (if P / 128 + 1 < A 0 then 1 else 0) = 0 := nq_eq (by first | omega | (split <;> omega)) (by first | omega | (split <;> omega)) c5
      have hq : ¬ P / 128 + 1 < A 0 := fun z => by rw [if_pos z] at d5; exact absurd d5 (by decide)
      refine V_ldc (v := (-1000000)) e_X2_behind_92 k_X2_38 ?_
      refine V_goto (tgt := 103) e_X2_behind_94 (by decide) ?_
      exact V_iret e_X2_behind_103 rfl (⟨rfl, by rw [show nxt A P 1 = none from (by unfold nxt; rw [if_neg (by decide), if_neg (by omega), if_pos rfl, if_neg hq])]; rfl⟩)
  · have d1 : ¬ 8 * (P / 64 % 2) = 0 := nq_ne (by first | omega | (split <;> omega)) (by first | omega | (split <;> omega)) c1
    refine V_iconst (v := nI 1) e_X2_behind_12 (by decide) ?_
    refine V_goto (tgt := 17) e_X2_behind_13 (by decide) ?_
    refine V_istore (L' := [some (.ref (eB E + 4)), some (.int (nI (cd P))), some (.int (nI 1)), some (.int (nI (P / 128))), some (.int (nI 1)), none]) e_X2_behind_17 rfl ?_
    refine V_iload_n e_X2_behind_19 rfl rfl ?_
    refine V_if_ne (tgt := 62) e_X2_behind_20 (by decide) (fun c6 => ?_) (fun c6 => absurd c6 (by decide))
    refine V_iload_n e_X2_behind_62 rfl rfl ?_
    refine V_iconst (v := nI 1) e_X2_behind_63 (by decide) ?_
    refine V_icmp_ne (tgt := 73) e_X2_behind_64 (by decide) (fun c7 => absurd c7 (by decide)) (fun c7 => ?_)
    refine V_iload_n e_X2_behind_67 rfl rfl ?_
    refine V_iconst (v := nI 1) e_X2_behind_68 (by decide) ?_
    refine V_iaddN (z := nI (P / 128 + 1)) e_X2_behind_69 (nI_add _ _) ?_
    refine V_goto (tgt := 76) e_X2_behind_70 (by decide) ?_
    refine V_istore (L' := [some (.ref (eB E + 4)), some (.int (nI (cd P))), some (.int (nI 1)), some (.int (nI (P / 128))), some (.int (nI 1)), some (.int (nI (P / 128 + 1)))]) e_X2_behind_76 rfl ?_
    refine V_iload e_X2_behind_78 rfl ?_
    refine V_if_ne (tgt := 92) e_X2_behind_80 (by decide) (fun c8 => ?_) (fun c8 => absurd c8 (by decide))
    refine V_ldc (v := (-1000000)) e_X2_behind_92 k_X2_38 ?_
    refine V_goto (tgt := 103) e_X2_behind_94 (by decide) ?_
    exact V_iret e_X2_behind_103 rfl (⟨rfl, by rw [show nxt A P 1 = none from (by unfold nxt; rw [if_neg (by decide), if_pos (by omega)])]; rfl⟩)
set_option maxRecDepth 100000 in
set_option maxHeartbeats 4000000 in
theorem c_X2_behind_2 (E : En) (P : Nat) (A : Vec) (σ : Sg) (hR : RepC σ 4 A) (hA : WE A) (hP : P < 128 * A 0) : Cn E m_X2_behind 3 [.ref (eB E + 4), .int (nI (cd P)), .int (nI 2)] σ (pI (fun σ' r => σ' = σ ∧ r = oc (nxt A P 2))) := by
  have hA6 := hA.2.1
  have hcd := cd_lt (show P < 1024 by omega)
  have hg : P / 128 < A 0 := by omega
  have hNl : A 0 ≤ 6 ∧ True := ⟨hA6, trivial⟩
  have ht0 := thr_64 (A := A) (g := P / 128) (gi := 0) (s := P % 64) (by omega) (by omega)
  have ht1 := thr_64 (A := A) (g := P / 128) (gi := 1) (s := P % 64) (by omega) (by omega)
  refine Cn.of [some (.ref (eB E + 4)), some (.int (nI (cd P))), some (.int (nI 2)), none, none, none] (by decide) (Nat.le_of_ble_eq_true rfl) rfl ?_
  refine V_iload_n e_X2_behind_0 rfl rfl ?_
  refine V_bipush (v := nI 7) e_X2_behind_1 (by decide) ?_
  refine V_iandN (z := nI ((cd P) &&& 7)) e_X2_behind_3 (andI _ _) ?_
  refine V_topi (y := nI (P / 128)) (congrArg nI (and7 P (by omega))) ?_
  refine V_istore_n (L' := [some (.ref (eB E + 4)), some (.int (nI (cd P))), some (.int (nI 2)), some (.int (nI (P / 128))), none, none]) e_X2_behind_4 rfl rfl ?_
  refine V_iload_n e_X2_behind_5 rfl rfl ?_
  refine V_bipush (v := nI 8) e_X2_behind_6 (by decide) ?_
  refine V_iandN (z := nI ((cd P) &&& 8)) e_X2_behind_8 (andI _ _) ?_
  refine V_topi (y := nI (8 * (P / 64 % 2))) (congrArg nI (and8c P (by omega))) ?_
  refine V_if_eq (tgt := 16) e_X2_behind_9 (by decide) (fun c1 => ?_) (fun c1 => ?_)
  · have d1 : 8 * (P / 64 % 2) = 0 := nq_eq (by omega) (by omega) c1
    refine V_iconst (v := nI 0) e_X2_behind_16 (by decide) ?_
    refine V_istore (L' := [some (.ref (eB E + 4)), some (.int (nI (cd P))), some (.int (nI 2)), some (.int (nI (P / 128))), some (.int (nI 0)), none]) e_X2_behind_17 rfl ?_
    refine V_iload_n e_X2_behind_19 rfl rfl ?_
    refine V_if_ne (tgt := 62) e_X2_behind_20 (by decide) (fun c2 => ?_) (fun c2 => absurd c2 (by decide))
    refine V_iload_n e_X2_behind_62 rfl rfl ?_
    refine V_iconst (v := nI 1) e_X2_behind_63 (by decide) ?_
    refine V_icmp_ne (tgt := 73) e_X2_behind_64 (by decide) (fun c3 => ?_) (fun c3 => absurd c3 (by decide))
    rcases Decidable.em (P / 128 = 0) with hz | hz
    · skip
      refine V_iload_n e_X2_behind_73 rfl rfl ?_
      refine V_iconst (v := nI 1) e_X2_behind_74 (by decide) ?_
      refine V_isub e_X2_behind_75 ?_
      refine V_topi (y := nI 0 - nI 1) (by rw [hz]) ?_
      refine V_istore (L' := [some (.ref (eB E + 4)), some (.int (nI (cd P))), some (.int (nI 2)), some (.int (nI (P / 128))), some (.int (nI 0)), some (.int (nI 0 - nI 1))]) e_X2_behind_76 rfl ?_
      refine V_iload e_X2_behind_78 rfl ?_
      refine V_if_ne (tgt := 92) e_X2_behind_80 (by decide) (fun c4 => absurd c4 (by decide)) (fun c4 => ?_)
      refine V_aload_n e_X2_behind_83 rfl rfl ?_
      refine V_iload e_X2_behind_84 rfl ?_
      refine V_cvIe (av := [.int (nI 0 - nI 1)]) (st := []) e_X2_behind_86 (c_X5_hasGate E 4 (A 0) (nI 0 - nI 1) σ rfl hR.1.2.2.2.1) l_X2_83 S_X5_hasGate rfl (rm_ok (by decide) (by decide)) rfl rfl (Nat.le_of_ble_eq_true rfl) ?_
      refine V_topi (y := nI 0) (gm1 (A 0) (by omega)) ?_
      refine V_if_ne (tgt := 97) e_X2_behind_89 (by decide) (fun c5 => absurd c5 (by decide)) (fun c5 => ?_)
      refine V_ldc (v := (-1000000)) e_X2_behind_92 k_X2_38 ?_
      refine V_goto (tgt := 103) e_X2_behind_94 (by decide) ?_
      exact V_iret e_X2_behind_103 rfl (⟨rfl, by rw [show nxt A P 2 = none from (by unfold nxt; rw [if_neg (by decide), if_neg (by omega), if_neg (by decide), if_pos hz])]; rfl⟩)
    · skip
      refine V_iload_n e_X2_behind_73 rfl rfl ?_
      refine V_iconst (v := nI 1) e_X2_behind_74 (by decide) ?_
      refine V_isubN (z := nI (P / 128 - 1)) e_X2_behind_75 (pk_sub (by omega)) ?_
      refine V_istore (L' := [some (.ref (eB E + 4)), some (.int (nI (cd P))), some (.int (nI 2)), some (.int (nI (P / 128))), some (.int (nI 0)), some (.int (nI (P / 128 - 1)))]) e_X2_behind_76 rfl ?_
      refine V_iload e_X2_behind_78 rfl ?_
      refine V_if_ne (tgt := 92) e_X2_behind_80 (by decide) (fun c6 => absurd c6 (by decide)) (fun c6 => ?_)
      refine V_aload_n e_X2_behind_83 rfl rfl ?_
      refine V_iload e_X2_behind_84 rfl ?_
      refine V_cvIe (av := [.int (nI (P / 128 - 1))]) (st := []) e_X2_behind_86 (c_X5_hasGate E 4 (A 0) (nI (P / 128 - 1)) σ rfl hR.1.2.2.2.1) l_X2_83 S_X5_hasGate rfl (rm_ok (by decide) (by decide)) rfl rfl (Nat.le_of_ble_eq_true rfl) ?_
      refine V_topi (y := nI 1) (gdn (A 0) (by omega) (P / 128 - 1) (by omega)) ?_
      refine V_if_ne (tgt := 97) e_X2_behind_89 (by decide) (fun c7 => ?_) (fun c7 => absurd c7 (by decide))
      refine V_iload_n e_X2_behind_97 rfl rfl ?_
      refine V_iload_n e_X2_behind_98 rfl rfl ?_
      refine V_isubN (z := nI (cd P - (P / 128))) e_X2_behind_99 (pk_sub (by unfold cd; omega)) ?_
      refine V_iload e_X2_behind_100 rfl ?_
      refine V_iaddN (z := nI (cd P - (P / 128) + (P / 128 - 1))) e_X2_behind_102 (nI_add _ _) ?_
      exact V_iret e_X2_behind_103 rfl (⟨rfl, by rw [show nxt A P 2 = some (128 * (P / 128 - 1) + P % 64) from (by unfold nxt; rw [if_neg (by decide), if_neg (by omega), if_neg (by decide), if_neg hz])]; show _ = nI (cd _); rw [cd_sub, show 128 * (P / 128 - 1) + P % 64 = 128 * (P / 128 - 1) + 64 * 0 + P % 64 by omega, cd_pl (by omega) (by omega)]; congr 1; omega⟩)
  · have d1 : ¬ 8 * (P / 64 % 2) = 0 := nq_ne (by omega) (by omega) c1
    refine V_iconst (v := nI 1) e_X2_behind_12 (by decide) ?_
    refine V_goto (tgt := 17) e_X2_behind_13 (by decide) ?_
    refine V_istore (L' := [some (.ref (eB E + 4)), some (.int (nI (cd P))), some (.int (nI 2)), some (.int (nI (P / 128))), some (.int (nI 1)), none]) e_X2_behind_17 rfl ?_
    refine V_iload_n e_X2_behind_19 rfl rfl ?_
    refine V_if_ne (tgt := 62) e_X2_behind_20 (by decide) (fun c8 => ?_) (fun c8 => absurd c8 (by decide))
    refine V_iload_n e_X2_behind_62 rfl rfl ?_
    refine V_iconst (v := nI 1) e_X2_behind_63 (by decide) ?_
    refine V_icmp_ne (tgt := 73) e_X2_behind_64 (by decide) (fun c9 => ?_) (fun c9 => absurd c9 (by decide))
    rcases Decidable.em (P / 128 = 0) with hz | hz
    · skip
      refine V_iload_n e_X2_behind_73 rfl rfl ?_
      refine V_iconst (v := nI 1) e_X2_behind_74 (by decide) ?_
      refine V_isub e_X2_behind_75 ?_
      refine V_topi (y := nI 0 - nI 1) (by rw [hz]) ?_
      refine V_istore (L' := [some (.ref (eB E + 4)), some (.int (nI (cd P))), some (.int (nI 2)), some (.int (nI (P / 128))), some (.int (nI 1)), some (.int (nI 0 - nI 1))]) e_X2_behind_76 rfl ?_
      refine V_iload e_X2_behind_78 rfl ?_
      refine V_if_ne (tgt := 92) e_X2_behind_80 (by decide) (fun c10 => ?_) (fun c10 => absurd c10 (by decide))
      refine V_ldc (v := (-1000000)) e_X2_behind_92 k_X2_38 ?_
      refine V_goto (tgt := 103) e_X2_behind_94 (by decide) ?_
      exact V_iret e_X2_behind_103 rfl (⟨rfl, by rw [show nxt A P 2 = none from (by unfold nxt; rw [if_neg (by decide), if_pos (by omega)])]; rfl⟩)
    · skip
      refine V_iload_n e_X2_behind_73 rfl rfl ?_
      refine V_iconst (v := nI 1) e_X2_behind_74 (by decide) ?_
      refine V_isubN (z := nI (P / 128 - 1)) e_X2_behind_75 (pk_sub (by omega)) ?_
      refine V_istore (L' := [some (.ref (eB E + 4)), some (.int (nI (cd P))), some (.int (nI 2)), some (.int (nI (P / 128))), some (.int (nI 1)), some (.int (nI (P / 128 - 1)))]) e_X2_behind_76 rfl ?_
      refine V_iload e_X2_behind_78 rfl ?_
      refine V_if_ne (tgt := 92) e_X2_behind_80 (by decide) (fun c11 => ?_) (fun c11 => absurd c11 (by decide))
      refine V_ldc (v := (-1000000)) e_X2_behind_92 k_X2_38 ?_
      refine V_goto (tgt := 103) e_X2_behind_94 (by decide) ?_
      exact V_iret e_X2_behind_103 rfl (⟨rfl, by rw [show nxt A P 2 = none from (by unfold nxt; rw [if_neg (by decide), if_pos (by omega)])]; rfl⟩)
theorem c_X2_behind (E : En) (P m : Nat) (A : Vec) (σ : Sg) (hR : RepC σ 4 A) (hA : WE A) (hP : P < 128 * A 0) (hm : m ≤ 2) : Cn E m_X2_behind 3 [.ref (eB E + 4), .int (nI (cd P)), .int (nI m)] σ (pI (fun σ' r => σ' = σ ∧ r = oc (nxt A P m))) := by
  rcases (show m = 0 ∨ m = 1 ∨ m = 2 by omega) with rfl | rfl | rfl
  · exact c_X2_behind_0 E P A σ hR hA hP
  · exact c_X2_behind_1 E P A σ hR hA hP
  · exact c_X2_behind_2 E P A σ hR hA hP
set_option maxRecDepth 100000 in
set_option maxHeartbeats 4000000 in
theorem c_X2_hoursOf_0 (E : En) (P : Nat) (A : Vec) (σ : Sg) (hR : RepC σ 4 A) (hA : WE A) (hP : P < 128 * A 0) : Cn E m_X2_hoursOf 1 [.ref (eB E + 4), .int (nI (cd P)), .int (nI 0)] σ (pI (fun σ' r => σ' = σ ∧ r = nI (cst A P 0))) := by
  have hA6 := hA.2.1
  have hcd := cd_lt (show P < 1024 by omega)
  have hg : P / 128 < A 0 := by omega
  refine Cn.of [some (.ref (eB E + 4)), some (.int (nI (cd P))), some (.int (nI 0)), none] (by decide) (Nat.le_of_ble_eq_true rfl) rfl ?_
  refine V_iload_n e_X2_hoursOf_0 rfl rfl ?_
  refine V_bipush (v := nI 7) e_X2_hoursOf_1 (by decide) ?_
  refine V_iandN (z := nI ((cd P) &&& 7)) e_X2_hoursOf_3 (andI _ _) ?_
  refine V_topi (y := nI (P / 128)) (congrArg nI (and7 P (by omega))) ?_
  refine V_istore_n (L' := [some (.ref (eB E + 4)), some (.int (nI (cd P))), some (.int (nI 0)), some (.int (nI (P / 128)))]) e_X2_hoursOf_4 rfl rfl ?_
  refine V_iload_n e_X2_hoursOf_5 rfl rfl ?_
  refine V_iconst (v := nI 2) e_X2_hoursOf_6 (by decide) ?_
  refine V_icmp_ne (tgt := 23) e_X2_hoursOf_7 (by decide) (fun c1 => ?_) (fun c1 => absurd c1 (by decide))
  refine V_iload_n e_X2_hoursOf_23 rfl rfl ?_
  refine V_iconst (v := nI 1) e_X2_hoursOf_24 (by decide) ?_
  refine V_icmp_ne (tgt := 37) e_X2_hoursOf_25 (by decide) (fun c2 => ?_) (fun c2 => absurd c2 (by decide))
  refine V_iconst (v := nI 1) e_X2_hoursOf_37 (by decide) ?_
  exact V_iret e_X2_hoursOf_38 rfl (⟨rfl, rfl⟩)
set_option maxRecDepth 100000 in
set_option maxHeartbeats 4000000 in
theorem c_X2_hoursOf_1 (E : En) (P : Nat) (A : Vec) (σ : Sg) (hR : RepC σ 4 A) (hA : WE A) (hP : P < 128 * A 0) : Cn E m_X2_hoursOf 1 [.ref (eB E + 4), .int (nI (cd P)), .int (nI 1)] σ (pI (fun σ' r => σ' = σ ∧ r = nI (cst A P 1))) := by
  have hA6 := hA.2.1
  have hcd := cd_lt (show P < 1024 by omega)
  have hg : P / 128 < A 0 := by omega
  refine Cn.of [some (.ref (eB E + 4)), some (.int (nI (cd P))), some (.int (nI 1)), none] (by decide) (Nat.le_of_ble_eq_true rfl) rfl ?_
  refine V_iload_n e_X2_hoursOf_0 rfl rfl ?_
  refine V_bipush (v := nI 7) e_X2_hoursOf_1 (by decide) ?_
  refine V_iandN (z := nI ((cd P) &&& 7)) e_X2_hoursOf_3 (andI _ _) ?_
  refine V_topi (y := nI (P / 128)) (congrArg nI (and7 P (by omega))) ?_
  refine V_istore_n (L' := [some (.ref (eB E + 4)), some (.int (nI (cd P))), some (.int (nI 1)), some (.int (nI (P / 128)))]) e_X2_hoursOf_4 rfl rfl ?_
  refine V_iload_n e_X2_hoursOf_5 rfl rfl ?_
  refine V_iconst (v := nI 2) e_X2_hoursOf_6 (by decide) ?_
  refine V_icmp_ne (tgt := 23) e_X2_hoursOf_7 (by decide) (fun c1 => ?_) (fun c1 => absurd c1 (by decide))
  refine V_iload_n e_X2_hoursOf_23 rfl rfl ?_
  refine V_iconst (v := nI 1) e_X2_hoursOf_24 (by decide) ?_
  refine V_icmp_ne (tgt := 37) e_X2_hoursOf_25 (by decide) (fun c2 => absurd c2 (by decide)) (fun c2 => ?_)
  refine V_aload_n e_X2_hoursOf_28 rfl rfl ?_
  refine V_getr (r := 6) e_X2_hoursOf_29 F_X5_lengths f_X2_87 rfl rfl ?_
  refine V_iload_n e_X2_hoursOf_32 rfl rfl ?_
  refine V_ialdv (v := nI (A (8 + 3 * (P / 128)))) (j := (P / 128)) e_X2_hoursOf_33 rfl rfl (by have q : ln 6 = 6 := rfl; omega) ((hR.1.2.2.2.2.2.2.2 (P / 128) (by omega)).2) ?_
  refine V_goto (tgt := 38) e_X2_hoursOf_34 (by decide) ?_
  exact V_iret e_X2_hoursOf_38 rfl (⟨rfl, rfl⟩)
set_option maxRecDepth 100000 in
set_option maxHeartbeats 4000000 in
theorem c_X2_hoursOf_2 (E : En) (P : Nat) (A : Vec) (σ : Sg) (hR : RepC σ 4 A) (hA : WE A) (hP : P < 128 * A 0) (h1 : ¬ P / 128 = 0) : Cn E m_X2_hoursOf 1 [.ref (eB E + 4), .int (nI (cd P)), .int (nI 2)] σ (pI (fun σ' r => σ' = σ ∧ r = nI (cst A P 2))) := by
  have hA6 := hA.2.1
  have hcd := cd_lt (show P < 1024 by omega)
  have hg : P / 128 < A 0 := by omega
  refine Cn.of [some (.ref (eB E + 4)), some (.int (nI (cd P))), some (.int (nI 2)), none] (by decide) (Nat.le_of_ble_eq_true rfl) rfl ?_
  refine V_iload_n e_X2_hoursOf_0 rfl rfl ?_
  refine V_bipush (v := nI 7) e_X2_hoursOf_1 (by decide) ?_
  refine V_iandN (z := nI ((cd P) &&& 7)) e_X2_hoursOf_3 (andI _ _) ?_
  refine V_topi (y := nI (P / 128)) (congrArg nI (and7 P (by omega))) ?_
  refine V_istore_n (L' := [some (.ref (eB E + 4)), some (.int (nI (cd P))), some (.int (nI 2)), some (.int (nI (P / 128)))]) e_X2_hoursOf_4 rfl rfl ?_
  refine V_iload_n e_X2_hoursOf_5 rfl rfl ?_
  refine V_iconst (v := nI 2) e_X2_hoursOf_6 (by decide) ?_
  refine V_icmp_ne (tgt := 23) e_X2_hoursOf_7 (by decide) (fun c1 => absurd c1 (by decide)) (fun c1 => ?_)
  refine V_iload_n e_X2_hoursOf_10 rfl rfl ?_
  refine V_if_le (tgt := 23) e_X2_hoursOf_11 (by decide) (fun c2 => ((absurd (show P / 128 ≤ 0 from nq_le (by omega) (by omega) c2) (by omega) : False)).elim) (fun c2 => ?_)
  refine V_aload_n e_X2_hoursOf_14 rfl rfl ?_
  refine V_getr (r := 6) e_X2_hoursOf_15 F_X5_lengths f_X2_87 rfl rfl ?_
  refine V_iload_n e_X2_hoursOf_18 rfl rfl ?_
  refine V_iconst (v := nI 1) e_X2_hoursOf_19 (by decide) ?_
  refine V_isubN (z := nI (P / 128 - 1)) e_X2_hoursOf_20 (pk_sub (by omega)) ?_
  refine V_ialdv (v := nI (A (8 + 3 * (P / 128 - 1)))) (j := (P / 128 - 1)) e_X2_hoursOf_21 rfl rfl (by have q : ln 6 = 6 := rfl; omega) ((hR.1.2.2.2.2.2.2.2 (P / 128 - 1) (by omega)).2) ?_
  exact V_iret e_X2_hoursOf_22 rfl (⟨rfl, rfl⟩)
theorem c_X2_hoursOf (E : En) (P m Q : Nat) (A : Vec) (σ : Sg) (hR : RepC σ 4 A) (hA : WE A) (hP : P < 128 * A 0) (hm : m ≤ 2) (h : nxt A P m = some Q) : Cn E m_X2_hoursOf 1 [.ref (eB E + 4), .int (nI (cd P)), .int (nI m)] σ (pI (fun σ' r => σ' = σ ∧ r = nI (cst A P m))) := by
  rcases (show m = 0 ∨ m = 1 ∨ m = 2 by omega) with rfl | rfl | rfl
  · exact c_X2_hoursOf_0 E P A σ hR hA hP
  · exact c_X2_hoursOf_1 E P A σ hR hA hP
  · refine c_X2_hoursOf_2 E P A σ hR hA hP (fun z => ?_)
    unfold nxt at h
    rw [if_neg (by decide)] at h
    split at h
    · cases h
    · rw [if_neg (by decide)] at h
      (try rw [if_pos z] at h)
      cases h
set_option maxRecDepth 100000 in
set_option maxHeartbeats 4000000 in
theorem c_X2_waysFrom_0 (E : En) (P s : Nat) (A : Vec) (σ : Sg) (hR : RepC σ 4 A) (hA : WE A) (hP : P < 128 * A 0) (hs : s < 64) : Cn E m_X2_waysFrom 3 [.ref (eB E + 4), .int (nI (cd P)), .int (nI s), .int (nI 0)] σ (pI (fun σ' r => σ' = σ ∧ r = nI (wy A s 0 P))) := by
  have hA6 := hA.2.1
  have hcd := cd_lt (show P < 1024 by omega)
  have hg : P / 128 < A 0 := by omega
  refine Cn.of [some (.ref (eB E + 4)), some (.int (nI (cd P))), some (.int (nI s)), some (.int (nI 0)), none, none, none] (by decide) (Nat.le_of_ble_eq_true rfl) rfl ?_
  refine V_iload_n e_X2_waysFrom_0 rfl rfl ?_
  refine V_if_gt (tgt := 17) e_X2_waysFrom_1 (by decide) (fun c1 => absurd c1 (by decide)) (fun c1 => ?_)
  refine V_iload_n e_X2_waysFrom_4 rfl rfl ?_
  refine V_iconst (v := nI 4) e_X2_waysFrom_5 (by decide) ?_
  refine V_ishrN (z := nI ((cd P) / 2 ^ 4)) e_X2_waysFrom_6 (shrN (by omega) (by omega)) ?_
  refine V_topi (y := nI (P % 64)) (congrArg nI (by unfold cd; omega)) ?_
  refine V_iload_n e_X2_waysFrom_7 rfl rfl ?_
  refine V_icmp_ne (tgt := 15) e_X2_waysFrom_8 (by decide) (fun c2 => ?_) (fun c2 => ?_)
  · have d2 : ¬ P % 64 = s := nq_ne (by omega) (by omega) c2
    refine V_iconst (v := nI 0) e_X2_waysFrom_15 (by decide) ?_
    exact V_iret e_X2_waysFrom_16 rfl (⟨rfl, congrArg nI (by show _ = if P % 64 = s then 1 else 0; (first | rw [if_pos d2] | rw [if_neg d2]))⟩)
  · have d2 : P % 64 = s := nq_eq (by omega) (by omega) c2
    refine V_iconst (v := nI 1) e_X2_waysFrom_11 (by decide) ?_
    refine V_goto (tgt := 16) e_X2_waysFrom_12 (by decide) ?_
    exact V_iret e_X2_waysFrom_16 rfl (⟨rfl, congrArg nI (by show _ = if P % 64 = s then 1 else 0; (first | rw [if_pos d2] | rw [if_neg d2]))⟩)
set_option maxRecDepth 100000 in
set_option maxHeartbeats 4000000 in
theorem lp_X2_waysFrom (E : En) (P s k : Nat) (A : Vec) (σ : Sg) (hR : RepC σ 4 A) (hA : WE A) (hP : P < 128 * A 0) (hs : s < 64) (hk : k ≤ 7) (hrec : ∀ Q, Q < 128 * A 0 → Cn E m_X2_waysFrom (k + 3) [.ref (eB E + 4), .int (nI (cd Q)), .int (nI s), .int (nI k)] σ (pI (fun σ' r => σ' = σ ∧ r = nI (wy A s k Q)))) (hA6 : A 0 ≤ 6) (hcd : cd P < 1024) : ∀ (mm : Nat) (m : Nat), 3 - m = mm → (m ≤ 3) → V E m_X2_waysFrom (kM E (k + 4) (pI (fun σ' r => σ' = σ ∧ r = nI (wy A s (k + 1) P)))) 23 [some (.ref (eB E + 4)), some (.int (nI (cd P))), some (.int (nI s)), some (.int (nI (k + 1))), some (.int (nI (sumN (fun m => og (wy A s k) (nxt A P m)) m))), some (.int (nI m)), none] [] σ := by
  intro mm
  induction mm using Nat.strongRecOn with
  | ind mm ih =>
    intro m hmm hm
    refine V_iload e_X2_waysFrom_23 rfl ?_
    refine V_iconst (v := nI 3) e_X2_waysFrom_25 (by decide) ?_
    refine V_icmp_ge (tgt := 70) e_X2_waysFrom_26 (by decide) (fun c1 => ?_) (fun c1 => ?_)
    · have d1 : 3 ≤ m := nq_le (by omega) (by omega) c1
      refine V_iload e_X2_waysFrom_70 rfl ?_
      exact V_iret e_X2_waysFrom_72 rfl (⟨rfl, by rw [show m = 3 by omega]; rfl⟩)
    · have d1 : ¬ 3 ≤ m := nq_nle (by omega) (by omega) c1
      refine V_aload_n e_X2_waysFrom_29 rfl rfl ?_
      refine V_iload_n e_X2_waysFrom_30 rfl rfl ?_
      refine V_iload e_X2_waysFrom_31 rfl ?_
      refine V_csIe (av := [.ref (eB E + 4), .int (nI (cd P)), .int (nI m)]) (st := []) e_X2_waysFrom_33 (c_X2_behind E P m A σ hR hA hP (by omega)) l_X2_34 S_X2_behind (rm_ok (by omega) (by decide)) rfl rfl (Nat.le_of_ble_eq_true rfl) ?_
      rcases hnx : nxt A P m with _ | Q
      · have hoc := hnx
        refine V_topi (y := (-1000000)) rfl ?_
        refine V_istore (L' := [some (.ref (eB E + 4)), some (.int (nI (cd P))), some (.int (nI s)), some (.int (nI (k + 1))), some (.int (nI (sumN (fun m => og (wy A s k) (nxt A P m)) m))), some (.int (nI m)), some (.int (-1000000))]) e_X2_waysFrom_36 rfl ?_
        refine V_iload e_X2_waysFrom_38 rfl ?_
        refine V_iload e_X2_waysFrom_40 rfl ?_
        refine V_ldc (v := (-1000000)) e_X2_waysFrom_42 k_X2_38 ?_
        refine V_icmp_ne (tgt := 51) e_X2_waysFrom_44 (by decide) (fun c2 => absurd c2 (fun q => q rfl)) (fun c2 => ?_)
        refine V_iconst (v := nI 0) e_X2_waysFrom_47 (by decide) ?_
        refine V_goto (tgt := 61) e_X2_waysFrom_48 (by decide) ?_
        refine V_iaddN (z := nI (sumN (fun m => og (wy A s k) (nxt A P m)) m + 0)) e_X2_waysFrom_61 (nI_add _ _) ?_
        refine V_istore (L' := [some (.ref (eB E + 4)), some (.int (nI (cd P))), some (.int (nI s)), some (.int (nI (k + 1))), some (.int (nI (sumN (fun m => og (wy A s k) (nxt A P m)) m + 0))), some (.int (nI m)), some (.int (-1000000))]) e_X2_waysFrom_62 rfl ?_
        refine V_iinc (v := nI (m + 1)) (L' := [some (.ref (eB E + 4)), some (.int (nI (cd P))), some (.int (nI s)), some (.int (nI (k + 1))), some (.int (nI (sumN (fun m => og (wy A s k) (nxt A P m)) m + 0))), some (.int (nI (m + 1))), some (.int (-1000000))]) e_X2_waysFrom_64 rfl (nI_add _ 1) rfl ?_
        refine V_goto (tgt := 23) e_X2_waysFrom_67 (by decide) ?_
        rw [show sumN (fun m => og (wy A s k) (nxt A P m)) m + 0 = sumN (fun m => og (wy A s k) (nxt A P m)) (m + 1) from (show sumN (fun m => og (wy A s k) (nxt A P m)) m + 0 = sumN (fun m => og (wy A s k) (nxt A P m)) m + og (wy A s k) (nxt A P m) from (by rw [hnx]; rfl))]; refine V_forget 6 ?_; exact ih (3 - (m + 1)) (by omega) (m + 1) rfl (by omega)
      · have hQ := nxt_lt hA6 hP hnx
        have hcq := cd_lt (show Q < 1024 by omega)
        refine V_topi (y := nI (cd Q)) rfl ?_
        refine V_istore (L' := [some (.ref (eB E + 4)), some (.int (nI (cd P))), some (.int (nI s)), some (.int (nI (k + 1))), some (.int (nI (sumN (fun m => og (wy A s k) (nxt A P m)) m))), some (.int (nI m)), some (.int (nI (cd Q)))]) e_X2_waysFrom_36 rfl ?_
        refine V_iload e_X2_waysFrom_38 rfl ?_
        refine V_iload e_X2_waysFrom_40 rfl ?_
        refine V_ldc (v := (-1000000)) e_X2_waysFrom_42 k_X2_38 ?_
        refine V_icmp_ne (tgt := 51) e_X2_waysFrom_44 (by decide) (fun c3 => ?_) (fun c3 => ((nI_nn (by omega) c3 : False)).elim)
        refine V_aload_n e_X2_waysFrom_51 rfl rfl ?_
        refine V_iload e_X2_waysFrom_52 rfl ?_
        refine V_iload_n e_X2_waysFrom_54 rfl rfl ?_
        refine V_iload_n e_X2_waysFrom_55 rfl rfl ?_
        refine V_iconst (v := nI 1) e_X2_waysFrom_56 (by decide) ?_
        refine V_isubN (z := nI (k + 1 - 1)) e_X2_waysFrom_57 (pk_sub (by omega)) ?_
        refine V_topi (y := nI k) (rfl) ?_
        refine V_csIe (av := [.ref (eB E + 4), .int (nI (cd Q)), .int (nI s), .int (nI k)]) (st := [.int (nI (sumN (fun m => og (wy A s k) (nxt A P m)) m))]) e_X2_waysFrom_58 (hrec Q hQ) l_X2_39 S_X2_waysFrom (rm_ok (by omega) (by decide)) rfl rfl (Nat.le_of_ble_eq_true rfl) ?_
        refine V_iaddN (z := nI (sumN (fun m => og (wy A s k) (nxt A P m)) m + (wy A s k Q))) e_X2_waysFrom_61 (nI_add _ _) ?_
        refine V_istore (L' := [some (.ref (eB E + 4)), some (.int (nI (cd P))), some (.int (nI s)), some (.int (nI (k + 1))), some (.int (nI (sumN (fun m => og (wy A s k) (nxt A P m)) m + (wy A s k Q)))), some (.int (nI m)), some (.int (nI (cd Q)))]) e_X2_waysFrom_62 rfl ?_
        refine V_iinc (v := nI (m + 1)) (L' := [some (.ref (eB E + 4)), some (.int (nI (cd P))), some (.int (nI s)), some (.int (nI (k + 1))), some (.int (nI (sumN (fun m => og (wy A s k) (nxt A P m)) m + (wy A s k Q)))), some (.int (nI (m + 1))), some (.int (nI (cd Q)))]) e_X2_waysFrom_64 rfl (nI_add _ 1) rfl ?_
        refine V_goto (tgt := 23) e_X2_waysFrom_67 (by decide) ?_
        rw [show sumN (fun m => og (wy A s k) (nxt A P m)) m + (wy A s k Q) = sumN (fun m => og (wy A s k) (nxt A P m)) (m + 1) from (show sumN (fun m => og (wy A s k) (nxt A P m)) m + (wy A s k Q) = sumN (fun m => og (wy A s k) (nxt A P m)) m + og (wy A s k) (nxt A P m) from (by rw [hnx]; rfl))]; refine V_forget 6 ?_; exact ih (3 - (m + 1)) (by omega) (m + 1) rfl (by omega)
set_option maxRecDepth 100000 in
set_option maxHeartbeats 4000000 in
theorem c_X2_waysFrom_s (E : En) (P s k : Nat) (A : Vec) (σ : Sg) (hR : RepC σ 4 A) (hA : WE A) (hP : P < 128 * A 0) (hs : s < 64) (hk : k ≤ 7) (hrec : ∀ Q, Q < 128 * A 0 → Cn E m_X2_waysFrom (k + 3) [.ref (eB E + 4), .int (nI (cd Q)), .int (nI s), .int (nI k)] σ (pI (fun σ' r => σ' = σ ∧ r = nI (wy A s k Q)))) : Cn E m_X2_waysFrom (k + 4) [.ref (eB E + 4), .int (nI (cd P)), .int (nI s), .int (nI (k + 1))] σ (pI (fun σ' r => σ' = σ ∧ r = nI (wy A s (k + 1) P))) := by
  have hA6 := hA.2.1
  have hcd := cd_lt (show P < 1024 by omega)
  have hg : P / 128 < A 0 := by omega
  refine Cn.of [some (.ref (eB E + 4)), some (.int (nI (cd P))), some (.int (nI s)), some (.int (nI (k + 1))), none, none, none] (by decide) (Nat.le_of_ble_eq_true rfl) rfl ?_
  refine V_iload_n e_X2_waysFrom_0 rfl rfl ?_
  refine V_if_gt (tgt := 17) e_X2_waysFrom_1 (by decide) (fun c1 => ?_) (fun c1 => ((absurd (show ¬ 0 < k + 1 from nq_nlt (by omega) (by omega) c1) (by omega) : False)).elim)
  refine V_iconst (v := nI 0) e_X2_waysFrom_17 (by decide) ?_
  refine V_istore (L' := [some (.ref (eB E + 4)), some (.int (nI (cd P))), some (.int (nI s)), some (.int (nI (k + 1))), some (.int (nI 0)), none, none]) e_X2_waysFrom_18 rfl ?_
  refine V_iconst (v := nI 0) e_X2_waysFrom_20 (by decide) ?_
  refine V_istore (L' := [some (.ref (eB E + 4)), some (.int (nI (cd P))), some (.int (nI s)), some (.int (nI (k + 1))), some (.int (nI 0)), some (.int (nI 0)), none]) e_X2_waysFrom_21 rfl ?_
  exact lp_X2_waysFrom E P s k A σ hR hA hP hs hk hrec hA6 hcd 3 0 rfl (by omega)
theorem c_X2_waysFrom (E : En) (s : Nat) (A : Vec) (σ : Sg) (hR : RepC σ 4 A) (hA : WE A) (hs : s < 64) : ∀ k, k ≤ 8 → ∀ P, P < 128 * A 0 → Cn E m_X2_waysFrom (k + 3) [.ref (eB E + 4), .int (nI (cd P)), .int (nI s), .int (nI k)] σ (pI (fun σ' r => σ' = σ ∧ r = nI (wy A s k P)))
  | 0, _, P, hP => c_X2_waysFrom_0 E P s A σ hR hA hP hs
  | k + 1, hk, P, hP => c_X2_waysFrom_s E P s k A σ hR hA hP hs (by omega) (fun Q hQ => c_X2_waysFrom E s A σ hR hA hs k (by omega) Q hQ)
set_option maxRecDepth 100000 in
set_option maxHeartbeats 4000000 in
theorem c8_ways (E : En) (x y z : Int32) (A : Vec) (T : AbT) (σ : Sg) (hI : IC σ (A, T)) : Cn E m_X8_ways 12 [.ref (eB E + 0), .int x, .int y, .int z] σ (pC σ (oWays (A, T) x y z)) := by
  have hR : RepC σ 4 A := hI.2.1
  have hGD : GD A := hI.1.1
  have hN : WN A := hGD.1
  have hNl := hN.le
  have hA4 : A 4 ≤ 999 := hGD.2.2
  have h2G := pow6 hNl.1
  refine Cn.of [some (.ref (eB E + 0)), some (.int x), some (.int y), some (.int z)] (by decide) (Nat.le_of_ble_eq_true rfl) rfl ?_
  refine V_aload_n e_X8_ways_0 rfl rfl ?_
  refine V_getr (r := 4) e_X8_ways_1 F_X8_now f_X8_25 rfl rfl ?_
  refine V_iload_n e_X8_ways_4 rfl rfl ?_
  refine V_cvIe (av := [.int x]) (st := []) e_X8_ways_5 (c_X5_hasPerson E 4 (A 1) x σ rfl hR.1.2.2.2.2.1) l_X8_164 S_X5_hasPerson rfl (rm_ok (by first | decide | omega) (by decide)) rfl rfl (Nat.le_of_ble_eq_true rfl) ?_
  refine V_if_eq (tgt := 32) e_X8_ways_8 (by decide) (fun c1 => ?_) (fun c1 => ?_)
  · refine V_ldc (v := (-1000001)) e_X8_ways_32 k_X8_73 ?_
    exact V_iret e_X8_ways_34 rfl (by rw [show oWays (A, T) x y z = ((A, T), (-1000001)) from (by unfold oWays; (try unfold gIn); (try dsimp only); (try (repeat rw [ixN (by omega)])); (first | rw [if_pos c1] | rw [if_neg c1] | skip); try rfl)]; exact ⟨Fb.rf, hI, rfl⟩)
  · obtain ⟨p, hp, rfl⟩ := (wi_nat (by omega)).mp c1
    have hF : WF A := hN.wf (by omega)
    refine V_aload_n e_X8_ways_11 rfl rfl ?_
    refine V_getr (r := 4) e_X8_ways_12 F_X8_now f_X8_25 rfl rfl ?_
    refine V_iload_n e_X8_ways_15 rfl rfl ?_
    refine V_cvIe (av := [.int y]) (st := []) e_X8_ways_16 (c_X5_hasSet E 4 (A 0) y σ rfl hR.1.2.2.2.1 hNl.1) l_X8_232 S_X5_hasSet rfl (rm_ok (by first | decide | omega) (by decide)) rfl rfl (Nat.le_of_ble_eq_true rfl) ?_
    refine V_if_eq (tgt := 32) e_X8_ways_19 (by decide) (fun c2 => ?_) (fun c2 => ?_)
    · refine V_ldc (v := (-1000001)) e_X8_ways_32 k_X8_73 ?_
      exact V_iret e_X8_ways_34 rfl (by rw [show oWays (A, T) (nI p) y z = ((A, T), (-1000001)) from (by unfold oWays; (try unfold gIn); (try dsimp only); (try (repeat rw [ixN (by omega)])); (first | rw [if_pos c1] | rw [if_neg c1] | skip); (first | rw [if_pos c2] | rw [if_neg c2] | skip); try rfl)]; exact ⟨Fb.rf, hI, rfl⟩)
    · obtain ⟨s, hs, rfl⟩ := (wi_nat (by omega)).mp c2
      refine V_iload_n e_X8_ways_22 rfl rfl ?_
      refine V_iconst (v := nI 0) e_X8_ways_23 (by decide) ?_
      refine V_bipush (v := nI 8) e_X8_ways_24 (by decide) ?_
      refine V_csIe (av := [.int z, .int (nI 0), .int (nI 8)]) (st := []) e_X8_ways_26 (c_X8_within E z (nI 0) (nI 8) σ) l_X8_69 S_X8_within (rm_ok (by first | decide | omega) (by decide)) rfl rfl (Nat.le_of_ble_eq_true rfl) ?_
      refine V_if_ne (tgt := 35) e_X8_ways_29 (by decide) (fun c3 => ?_) (fun c3 => ?_)
      · obtain ⟨k, hka, hk, rfl⟩ := (wi_le (by omega) (by omega)).mp c3
        obtain ⟨w1, w2, w3, w4, w5, w6⟩ := hF.per hp
        refine V_aload_n e_X8_ways_35 rfl rfl ?_
        refine V_getr (r := 4) e_X8_ways_36 F_X8_now f_X8_25 rfl rfl ?_
        refine V_aload_n e_X8_ways_39 rfl rfl ?_
        refine V_getr (r := 4) e_X8_ways_40 F_X8_now f_X8_25 rfl rfl ?_
        refine V_getr (r := 7) e_X8_ways_43 F_X5_walkers f_X8_167 rfl rfl ?_
        refine V_iload_n e_X8_ways_46 rfl rfl ?_
        refine V_aald (j := p) (r := 8 + p) e_X8_ways_47 (by decide) (by decide) rfl (by have q : ln 7 = 5 := rfl; omega) rfl ?_
        refine V_csIe (av := [.ref (eB E + (8 + p))]) (st := [.ref (eB E + 4)]) e_X8_ways_48 (c_X2_stateOf E (8 + p) (A (25 + 6 * p)) (A (26 + 6 * p)) (A (27 + 6 * p)) σ (kd_wk7 p (by have q : ln 7 = 5 := rfl; omega)) (by have hz9 := hR.2 p (by omega); rw [show 4 + 4 + p = 8 + p by omega] at hz9; exact hz9.1.1) (by have hz9 := hR.2 p (by omega); rw [show 4 + 4 + p = 8 + p by omega] at hz9; exact hz9.1.2.2.1) (by have hz9 := hR.2 p (by omega); rw [show 4 + 4 + p = 8 + p by omega] at hz9; exact hz9.1.2.1) (by omega) (by omega) (by omega)) l_X8_239 S_X2_stateOf (rm_ok (by first | decide | omega) (by decide)) rfl rfl (Nat.le_of_ble_eq_true rfl) ?_
        refine V_topi (y := nI (cd (plO A p))) (rfl) ?_
        refine V_iload_n e_X8_ways_51 rfl rfl ?_
        refine V_iload_n e_X8_ways_52 rfl rfl ?_
        refine V_csNIe (av := [.ref (eB E + 4), .int (nI (cd (plO A p))), .int (nI s), .int (nI k)]) (st := []) e_X8_ways_53 (c_X2_waysFrom E s A σ hR hF.1 (by omega) k (by omega) (plO A p) (plO_lt hF hp)) l_X8_243 S_X2_waysFrom (rm_ok (by first | decide | omega) (by decide)) rfl rfl (Nat.le_of_ble_eq_true rfl) ?_
        exact V_iret e_X8_ways_56 rfl (by rw [show oWays (A, T) (nI p) (nI s) (nI k) = ((A, T), nI (wy A s k (plO A p))) from (by unfold oWays; (try unfold gIn); (try dsimp only); (try (repeat rw [ixN (by omega)])); (first | rw [if_pos c1] | rw [if_neg c1] | skip); (first | rw [if_pos c2] | rw [if_neg c2] | skip); (first | rw [if_pos c3] | rw [if_neg c3] | skip); try rfl)]; exact ⟨Fb.rf, hI, rfl⟩)
      · refine V_ldc (v := (-1000001)) e_X8_ways_32 k_X8_73 ?_
        exact V_iret e_X8_ways_34 rfl (by rw [show oWays (A, T) (nI p) (nI s) z = ((A, T), (-1000001)) from (by unfold oWays; (try unfold gIn); (try dsimp only); (try (repeat rw [ixN (by omega)])); (first | rw [if_pos c1] | rw [if_neg c1] | skip); (first | rw [if_pos c2] | rw [if_neg c2] | skip); (first | rw [if_pos c3] | rw [if_neg c3] | skip); try rfl)]; exact ⟨Fb.rf, hI, rfl⟩)

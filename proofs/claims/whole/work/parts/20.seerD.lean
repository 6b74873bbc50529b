set_option maxRecDepth 100000 in
set_option maxHeartbeats 4000000 in
theorem lp_X4_likelyFed (E : En) (p n pr w : Nat) (A : Vec) (σ : Sg) (hR : RepC σ 4 A) (hF : WF A) (hp : p < A 1) (hn : n ≤ 30) (hpr : pr ≤ 10) (hw : w ≤ 1) (hub : ∀ s, ∀ i, i ≤ 30 → (pds A (fallV A s) p i).2.2.2.2.2 < 2 ^ 31) (h5 : A 1 ≤ 5) (hG6 : A 0 ≤ 6) (h2G : 2 ^ A 0 ≤ 64) (hA5 : A 5 < 64) (hc5 : cntN (A 5) ≤ A 0) : ∀ (mm : Nat) (s : Nat) (τ : Sg), 2 ^ A 0 - s = mm → (s ≤ 2 ^ A 0) → (Fb 242 251 σ τ ∧ RepC τ 4 A) → V E m_X4_likelyFed (kM E 7 (pJ (fun σ' r => Fb 242 251 σ σ' ∧ r = if cdv 100 (lkS A p n pr (2 ^ A 0)) (10 ^ (A 0 - cntN (A 5))) = 0 then (-1000000) else if w = 0 then lN (lkS A p n pr (2 ^ A 0) / cdv 100 (lkS A p n pr (2 ^ A 0)) (10 ^ (A 0 - cntN (A 5)))) else lN (10 ^ (A 0 - cntN (A 5)) / cdv 100 (lkS A p n pr (2 ^ A 0)) (10 ^ (A 0 - cntN (A 5))))))) 20 [some (.ref (eB E + 241)), some (.ref (eB E + 4)), some (.int (nI p)), some (.int (nI n)), some (.int (nI pr)), some (.int (nI w)), some (.int (nI (A 0 - cntN (A 5)))), some (.long (lN (lkS A p n pr s))), none, some (.int (nI s)), none, none, none] [] τ := by
  intro mm
  induction mm using Nat.strongRecOn with
  | ind mm ih =>
    intro s τ hmm hs hI
    refine V_iload e_X4_likelyFed_20 rfl ?_
    refine V_iconst (v := nI 1) e_X4_likelyFed_22 (by decide) ?_
    refine V_aload_n e_X4_likelyFed_23 rfl rfl ?_
    refine V_getiv (v := nI (A 0)) e_X4_likelyFed_24 F_X5_gates f_X4_51 rfl hI.2.1.2.2.2.1 ?_
    refine V_ishlN (z := nI (2 ^ (A 0))) e_X4_likelyFed_27 (shl1 (by omega)) ?_
    refine V_icmp_ge (tgt := 107) e_X4_likelyFed_28 (by decide) (fun c1 => ?_) (fun c1 => ?_)
    · have d1 : 2 ^ (A 0) ≤ s := nq_le (by first | omega | exact Nat.lt_of_le_of_lt Nat.and_le_left (by omega) | (have hq9 := csS_le hF.1 (show s < 2 ^ A 0 by omega) hpr (by assumption); have hq8 : (10 ^ 6 : Nat) < 2 ^ 60 := (by decide); omega)) (by first | omega | exact Nat.lt_of_le_of_lt Nat.and_le_left (by omega) | (have hq9 := csS_le hF.1 (show s < 2 ^ A 0 by omega) hpr (by assumption); have hq8 : (10 ^ 6 : Nat) < 2 ^ 60 := (by decide); omega)) c1
      have hs9 : 2 ^ A 0 = s := by omega
      have hla := lkS_le (p := p) (n := n) (pr := pr) (fun s h1 h2 => csS_le hF.1 h1 hpr h2) s hs
      have hla2 : lkS A p n pr s < 2 ^ 60 := Nat.lt_of_le_of_lt hla (Nat.lt_of_le_of_lt (Nat.mul_le_mul_left _ (show s ≤ 64 by omega)) (by decide))
      have hlb : 10 ^ (A 0 - cntN (A 5)) ≤ 10 ^ 6 := Nat.pow_le_pow_right (by decide) (by omega)
      have hlb2 : 10 ^ (A 0 - cntN (A 5)) < 2 ^ 60 := Nat.lt_of_le_of_lt hlb (by decide)
      have hcd := cdv_lt 100 _ _ hla2 hlb2
      refine V_bipush (v := nI 10) e_X4_likelyFed_107 (by decide) ?_
      refine V_iload e_X4_likelyFed_109 rfl ?_
      refine V_csJe (av := [.int (nI 10), .int (nI (A 0 - cntN (A 5)))]) (st := []) e_X4_likelyFed_111 (c_X4_power E 10 (A 0 - cntN (A 5)) τ (by omega) (by omega)) l_X4_104 S_X4_power (rm_ok (by decide) (by decide)) rfl rfl (Nat.le_of_ble_eq_true rfl) ?_
      refine V_lstore (L' := [some (.ref (eB E + 241)), some (.ref (eB E + 4)), some (.int (nI p)), some (.int (nI n)), some (.int (nI pr)), some (.int (nI w)), some (.int (nI (A 0 - cntN (A 5)))), some (.long (lN (lkS A p n pr s))), none, some (.long (lN (10 ^ (A 0 - cntN (A 5))))), none, none, none]) e_X4_likelyFed_114 rfl ?_
      refine V_lload e_X4_likelyFed_116 rfl ?_
      refine V_lload e_X4_likelyFed_118 rfl ?_
      refine V_csJe (av := [.long (lN (lkS A p n pr s)), .long (lN (10 ^ (A 0 - cntN (A 5))))]) (st := []) e_X4_likelyFed_120 (c_X4_commonDivisor E (lkS A p n pr s) (10 ^ (A 0 - cntN (A 5))) τ (by omega) (by omega)) l_X4_112 S_X4_commonDivisor (rm_ok (by decide) (by decide)) rfl rfl (Nat.le_of_ble_eq_true rfl) ?_
      refine V_lstore (L' := [some (.ref (eB E + 241)), some (.ref (eB E + 4)), some (.int (nI p)), some (.int (nI n)), some (.int (nI pr)), some (.int (nI w)), some (.int (nI (A 0 - cntN (A 5)))), some (.long (lN (lkS A p n pr s))), none, some (.long (lN (10 ^ (A 0 - cntN (A 5))))), none, some (.long (lN (cdv 100 (lkS A p n pr s) (10 ^ (A 0 - cntN (A 5)))))), none]) e_X4_likelyFed_123 rfl ?_
      refine V_lload e_X4_likelyFed_125 rfl ?_
      refine V_lconst (v := lN 0) e_X4_likelyFed_127 (by decide) ?_
      refine V_lcmp e_X4_likelyFed_128 ?_
      refine V_if_ne (tgt := 136) e_X4_likelyFed_129 (by decide) (fun c2 => ?_) (fun c2 => ?_)
      · have d2 : ¬ cdv 100 (lkS A p n pr s) (10 ^ (A 0 - cntN (A 5))) = 0 := lc_ne (by first | omega | exact Nat.lt_of_le_of_lt Nat.and_le_left (by omega) | (have hq9 := csS_le hF.1 (show s < 2 ^ A 0 by omega) hpr (by assumption); have hq8 : (10 ^ 6 : Nat) < 2 ^ 60 := (by decide); omega)) (by first | omega | exact Nat.lt_of_le_of_lt Nat.and_le_left (by omega) | (have hq9 := csS_le hF.1 (show s < 2 ^ A 0 by omega) hpr (by assumption); have hq8 : (10 ^ 6 : Nat) < 2 ^ 60 := (by decide); omega)) c2
        refine V_iload e_X4_likelyFed_136 rfl ?_
        refine V_if_ne (tgt := 149) e_X4_likelyFed_138 (by decide) (fun c3 => ?_) (fun c3 => ?_)
        · have d3 : ¬ w = 0 := nq_ne (by first | omega | exact Nat.lt_of_le_of_lt Nat.and_le_left (by omega) | (have hq9 := csS_le hF.1 (show s < 2 ^ A 0 by omega) hpr (by assumption); have hq8 : (10 ^ 6 : Nat) < 2 ^ 60 := (by decide); omega)) (by first | omega | exact Nat.lt_of_le_of_lt Nat.and_le_left (by omega) | (have hq9 := csS_le hF.1 (show s < 2 ^ A 0 by omega) hpr (by assumption); have hq8 : (10 ^ 6 : Nat) < 2 ^ 60 := (by decide); omega)) c3
          refine V_lload e_X4_likelyFed_149 rfl ?_
          refine V_lload e_X4_likelyFed_151 rfl ?_
          refine V_ldivN (z := lN ((10 ^ (A 0 - cntN (A 5))) / (cdv 100 (lkS A p n pr s) (10 ^ (A 0 - cntN (A 5)))))) e_X4_likelyFed_153 (lN0 (by omega) (by first | omega | exact Nat.lt_of_le_of_lt Nat.and_le_left (by omega) | (have hq9 := csS_le hF.1 (show s < 2 ^ A 0 by omega) hpr (by assumption); have hq8 : (10 ^ 6 : Nat) < 2 ^ 60 := (by decide); omega))) (pk_lDiv (by first | omega | exact Nat.lt_of_le_of_lt Nat.and_le_left (by omega) | (have hq9 := csS_le hF.1 (show s < 2 ^ A 0 by omega) hpr (by assumption); have hq8 : (10 ^ 6 : Nat) < 2 ^ 60 := (by decide); omega)) (by omega) (by first | omega | exact Nat.lt_of_le_of_lt Nat.and_le_left (by omega) | (have hq9 := csS_le hF.1 (show s < 2 ^ A 0 by omega) hpr (by assumption); have hq8 : (10 ^ 6 : Nat) < 2 ^ 60 := (by decide); omega))) ?_
          exact V_lret e_X4_likelyFed_154 rfl (⟨hI.1, by rw [hs9]; (first | rw [if_pos d2] | rw [if_neg d2] | skip); (first | rw [if_pos d3] | rw [if_neg d3] | skip)⟩)
        · have d3 : w = 0 := nq_eq (by first | omega | exact Nat.lt_of_le_of_lt Nat.and_le_left (by omega) | (have hq9 := csS_le hF.1 (show s < 2 ^ A 0 by omega) hpr (by assumption); have hq8 : (10 ^ 6 : Nat) < 2 ^ 60 := (by decide); omega)) (by first | omega | exact Nat.lt_of_le_of_lt Nat.and_le_left (by omega) | (have hq9 := csS_le hF.1 (show s < 2 ^ A 0 by omega) hpr (by assumption); have hq8 : (10 ^ 6 : Nat) < 2 ^ 60 := (by decide); omega)) c3
          refine V_lload e_X4_likelyFed_141 rfl ?_
          refine V_lload e_X4_likelyFed_143 rfl ?_
          refine V_ldivN (z := lN ((lkS A p n pr s) / (cdv 100 (lkS A p n pr s) (10 ^ (A 0 - cntN (A 5)))))) e_X4_likelyFed_145 (lN0 (by omega) (by first | omega | exact Nat.lt_of_le_of_lt Nat.and_le_left (by omega) | (have hq9 := csS_le hF.1 (show s < 2 ^ A 0 by omega) hpr (by assumption); have hq8 : (10 ^ 6 : Nat) < 2 ^ 60 := (by decide); omega))) (pk_lDiv (by first | omega | exact Nat.lt_of_le_of_lt Nat.and_le_left (by omega) | (have hq9 := csS_le hF.1 (show s < 2 ^ A 0 by omega) hpr (by assumption); have hq8 : (10 ^ 6 : Nat) < 2 ^ 60 := (by decide); omega)) (by omega) (by first | omega | exact Nat.lt_of_le_of_lt Nat.and_le_left (by omega) | (have hq9 := csS_le hF.1 (show s < 2 ^ A 0 by omega) hpr (by assumption); have hq8 : (10 ^ 6 : Nat) < 2 ^ 60 := (by decide); omega))) ?_
          refine V_goto (tgt := 154) e_X4_likelyFed_146 (by decide) ?_
          exact V_lret e_X4_likelyFed_154 rfl (⟨hI.1, by rw [hs9]; (first | rw [if_pos d2] | rw [if_neg d2] | skip); (first | rw [if_pos d3] | rw [if_neg d3] | skip)⟩)
      · have d2 : cdv 100 (lkS A p n pr s) (10 ^ (A 0 - cntN (A 5))) = 0 := lc_eq (by first | omega | exact Nat.lt_of_le_of_lt Nat.and_le_left (by omega) | (have hq9 := csS_le hF.1 (show s < 2 ^ A 0 by omega) hpr (by assumption); have hq8 : (10 ^ 6 : Nat) < 2 ^ 60 := (by decide); omega)) (by first | omega | exact Nat.lt_of_le_of_lt Nat.and_le_left (by omega) | (have hq9 := csS_le hF.1 (show s < 2 ^ A 0 by omega) hpr (by assumption); have hq8 : (10 ^ 6 : Nat) < 2 ^ 60 := (by decide); omega)) c2
        refine V_ldc2_w (v := (-1000000)) e_X4_likelyFed_132 kl_X4_116 ?_
        exact V_lret e_X4_likelyFed_135 rfl (⟨hI.1, by rw [hs9]; (first | rw [if_pos d2] | rw [if_neg d2] | skip)⟩)
    · have d1 : ¬ 2 ^ (A 0) ≤ s := nq_nle (by first | omega | exact Nat.lt_of_le_of_lt Nat.and_le_left (by omega) | (have hq9 := csS_le hF.1 (show s < 2 ^ A 0 by omega) hpr (by assumption); have hq8 : (10 ^ 6 : Nat) < 2 ^ 60 := (by decide); omega)) (by first | omega | exact Nat.lt_of_le_of_lt Nat.and_le_left (by omega) | (have hq9 := csS_le hF.1 (show s < 2 ^ A 0 by omega) hpr (by assumption); have hq8 : (10 ^ 6 : Nat) < 2 ^ 60 := (by decide); omega)) c1
      refine V_iload e_X4_likelyFed_31 rfl ?_
      refine V_aload_n e_X4_likelyFed_33 rfl rfl ?_
      refine V_getiv (v := nI (A 5)) e_X4_likelyFed_34 F_X5_fallen f_X4_62 rfl hI.2.1.2.2.2.2.2.1 ?_
      refine V_iandN (z := nI (s &&& (A 5))) e_X4_likelyFed_37 (andI _ _) ?_
      refine V_if_ne (tgt := 101) e_X4_likelyFed_38 (by decide) (fun c4 => ?_) (fun c4 => ?_)
      · have d4 : ¬ s &&& (A 5) = 0 := nq_ne (by first | omega | exact Nat.lt_of_le_of_lt Nat.and_le_left (by omega) | (have hq9 := csS_le hF.1 (show s < 2 ^ A 0 by omega) hpr (by assumption); have hq8 : (10 ^ 6 : Nat) < 2 ^ 60 := (by decide); omega)) (by first | omega | exact Nat.lt_of_le_of_lt Nat.and_le_left (by omega) | (have hq9 := csS_le hF.1 (show s < 2 ^ A 0 by omega) hpr (by assumption); have hq8 : (10 ^ 6 : Nat) < 2 ^ 60 := (by decide); omega)) c4
        refine V_iinc (v := nI (s + 1)) (L' := [some (.ref (eB E + 241)), some (.ref (eB E + 4)), some (.int (nI p)), some (.int (nI n)), some (.int (nI pr)), some (.int (nI w)), some (.int (nI (A 0 - cntN (A 5)))), some (.long (lN (lkS A p n pr s))), none, some (.int (nI (s + 1))), none, none, none]) e_X4_likelyFed_101 rfl (nI_add _ 1) rfl ?_
        refine V_goto (tgt := 20) e_X4_likelyFed_104 (by decide) ?_
        rw [show lkS A p n pr s = lkS A p n pr (s + 1) from (by rw [lkS]; (first | rw [if_pos d4] | rw [if_neg d4] | skip); try rfl)]; exact ih (2 ^ A 0 - (s + 1)) (by omega) (s + 1) τ rfl (by omega) hI
      · have d4 : s &&& (A 5) = 0 := nq_eq (by first | omega | exact Nat.lt_of_le_of_lt Nat.and_le_left (by omega) | (have hq9 := csS_le hF.1 (show s < 2 ^ A 0 by omega) hpr (by assumption); have hq8 : (10 ^ 6 : Nat) < 2 ^ 60 := (by decide); omega)) (by first | omega | exact Nat.lt_of_le_of_lt Nat.and_le_left (by omega) | (have hq9 := csS_le hF.1 (show s < 2 ^ A 0 by omega) hpr (by assumption); have hq8 : (10 ^ 6 : Nat) < 2 ^ 60 := (by decide); omega)) c4
        have hcs := cnt_sum hG6 (show s < 2 ^ A 0 by omega) hF.1.2.2.2.1 (by assumption)
        refine V_iload e_X4_likelyFed_41 rfl ?_
        refine V_csIe (av := [.int (nI s)]) (st := []) e_X4_likelyFed_43 (c_J6_bitCountN E s τ (by omega)) l_X4_98 S_J6_bitCount_0f7a4 (rm_ok (by decide) (by decide)) rfl rfl (Nat.le_of_ble_eq_true rfl) ?_
        refine V_istore (L' := [some (.ref (eB E + 241)), some (.ref (eB E + 4)), some (.int (nI p)), some (.int (nI n)), some (.int (nI pr)), some (.int (nI w)), some (.int (nI (A 0 - cntN (A 5)))), some (.long (lN (lkS A p n pr s))), none, some (.int (nI s)), some (.int (nI (cntN s))), none, none]) e_X4_likelyFed_46 rfl ?_
        refine V_iload e_X4_likelyFed_48 rfl ?_
        refine V_iload e_X4_likelyFed_50 rfl ?_
        refine V_csJe (av := [.int (nI pr), .int (nI (cntN s))]) (st := []) e_X4_likelyFed_52 (c_X4_power E pr (cntN s) τ (by omega) (by omega)) l_X4_104 S_X4_power (rm_ok (by decide) (by decide)) rfl rfl (Nat.le_of_ble_eq_true rfl) ?_
        refine V_bipush (v := nI 10) e_X4_likelyFed_55 (by decide) ?_
        refine V_iload e_X4_likelyFed_57 rfl ?_
        refine V_isubN (z := nI (10 - pr)) e_X4_likelyFed_59 (pk_sub (hpr)) ?_
        refine V_iload e_X4_likelyFed_60 rfl ?_
        refine V_iload e_X4_likelyFed_62 rfl ?_
        refine V_isubN (z := nI (A 0 - cntN (A 5) - (cntN s))) e_X4_likelyFed_64 (pk_sub (by omega)) ?_
        refine V_csJe (av := [.int (nI (10 - pr)), .int (nI (A 0 - cntN (A 5) - (cntN s)))]) (st := [.long (lN (pr ^ (cntN s)))]) e_X4_likelyFed_65 (c_X4_power E (10 - pr) (A 0 - cntN (A 5) - (cntN s)) τ (by omega) (by omega)) l_X4_104 S_X4_power (rm_ok (by decide) (by decide)) rfl rfl (Nat.le_of_ble_eq_true rfl) ?_
        refine V_lmulN (z := lN ((pr ^ (cntN s)) * ((10 - pr) ^ (A 0 - cntN (A 5) - (cntN s))))) e_X4_likelyFed_68 (lN_mul _ _) ?_
        refine V_topl (y := lN (csS A pr s)) (rfl) ?_
        refine V_lstore (L' := [some (.ref (eB E + 241)), some (.ref (eB E + 4)), some (.int (nI p)), some (.int (nI n)), some (.int (nI pr)), some (.int (nI w)), some (.int (nI (A 0 - cntN (A 5)))), some (.long (lN (lkS A p n pr s))), none, some (.int (nI s)), some (.int (nI (cntN s))), some (.long (lN (csS A pr s))), none]) e_X4_likelyFed_69 rfl ?_
        refine V_lload e_X4_likelyFed_71 rfl ?_
        refine V_lload e_X4_likelyFed_73 rfl ?_
        refine V_lconst (v := lN 0) e_X4_likelyFed_75 (by decide) ?_
        refine V_lcmp e_X4_likelyFed_76 ?_
        refine V_if_eq (tgt := 97) e_X4_likelyFed_77 (by decide) (fun c5 => ?_) (fun c5 => ?_)
        · have d5 : csS A pr s = 0 := lc_eq (by first | omega | exact Nat.lt_of_le_of_lt Nat.and_le_left (by omega) | (have hq9 := csS_le hF.1 (show s < 2 ^ A 0 by omega) hpr (by assumption); have hq8 : (10 ^ 6 : Nat) < 2 ^ 60 := (by decide); omega)) (by first | omega | exact Nat.lt_of_le_of_lt Nat.and_le_left (by omega) | (have hq9 := csS_le hF.1 (show s < 2 ^ A 0 by omega) hpr (by assumption); have hq8 : (10 ^ 6 : Nat) < 2 ^ 60 := (by decide); omega)) c5
          refine V_lconst (v := lN 0) e_X4_likelyFed_97 (by decide) ?_
          refine V_laddN (z := lN (lkS A p n pr s + 0)) e_X4_likelyFed_98 (lN_add _ _) ?_
          refine V_lstore (L' := [some (.ref (eB E + 241)), some (.ref (eB E + 4)), some (.int (nI p)), some (.int (nI n)), some (.int (nI pr)), some (.int (nI w)), some (.int (nI (A 0 - cntN (A 5)))), some (.long (lN (lkS A p n pr s + 0))), none, some (.int (nI s)), some (.int (nI (cntN s))), some (.long (lN (csS A pr s))), none]) e_X4_likelyFed_99 rfl ?_
          refine V_iinc (v := nI (s + 1)) (L' := [some (.ref (eB E + 241)), some (.ref (eB E + 4)), some (.int (nI p)), some (.int (nI n)), some (.int (nI pr)), some (.int (nI w)), some (.int (nI (A 0 - cntN (A 5)))), some (.long (lN (lkS A p n pr s + 0))), none, some (.int (nI (s + 1))), some (.int (nI (cntN s))), some (.long (lN (csS A pr s))), none]) e_X4_likelyFed_101 rfl (nI_add _ 1) rfl ?_
          refine V_goto (tgt := 20) e_X4_likelyFed_104 (by decide) ?_
          refine V_forget 10 ?_; refine V_forget 11 ?_; rw [show lkS A p n pr s + 0 = lkS A p n pr (s + 1) from (by rw [lkS]; (first | rw [if_pos d4] | rw [if_neg d4] | skip); (first | rw [if_pos d5] | rw [if_neg d5] | skip); try rfl)]; exact ih (2 ^ A 0 - (s + 1)) (by omega) (s + 1) τ rfl (by omega) hI
        · have d5 : ¬ csS A pr s = 0 := lc_ne (by first | omega | exact Nat.lt_of_le_of_lt Nat.and_le_left (by omega) | (have hq9 := csS_le hF.1 (show s < 2 ^ A 0 by omega) hpr (by assumption); have hq8 : (10 ^ 6 : Nat) < 2 ^ 60 := (by decide); omega)) (by first | omega | exact Nat.lt_of_le_of_lt Nat.and_le_left (by omega) | (have hq9 := csS_le hF.1 (show s < 2 ^ A 0 by omega) hpr (by assumption); have hq8 : (10 ^ 6 : Nat) < 2 ^ 60 := (by decide); omega)) c5
          refine V_aload_n e_X4_likelyFed_80 rfl rfl ?_
          refine V_aload_n e_X4_likelyFed_81 rfl rfl ?_
          refine V_iload_n e_X4_likelyFed_82 rfl rfl ?_
          refine V_iload_n e_X4_likelyFed_83 rfl rfl ?_
          refine V_iload e_X4_likelyFed_84 rfl ?_
          refine V_cvI (av := [.ref (eB E + 4), .int (nI p), .int (nI n), .int (nI s)]) (st := [.long (lN (lkS A p n pr s))]) e_X4_likelyFed_86 (c_X4_isFedIfFallen E p n s A τ hI.2 hF hp hn (by omega) (hub s)) l_X4_108 S_X4_isFedIfFallen rfl (rm_ok (by decide) (by decide)) rfl rfl (Nat.le_of_ble_eq_true rfl) ?_
          intro τ1 r hh
          obtain ⟨hf1, rfl⟩ := hh
          have hfd : fdS A p n s ≤ 1 := by unfold fdS; split <;> omega
          refine V_if_eq (tgt := 97) e_X4_likelyFed_89 (by decide) (fun c6 => ?_) (fun c6 => ?_)
          · have d6 : fdS A p n s = 0 := nq_eq (by first | omega | exact Nat.lt_of_le_of_lt Nat.and_le_left (by omega) | (have hq9 := csS_le hF.1 (show s < 2 ^ A 0 by omega) hpr (by assumption); have hq8 : (10 ^ 6 : Nat) < 2 ^ 60 := (by decide); omega)) (by first | omega | exact Nat.lt_of_le_of_lt Nat.and_le_left (by omega) | (have hq9 := csS_le hF.1 (show s < 2 ^ A 0 by omega) hpr (by assumption); have hq8 : (10 ^ 6 : Nat) < 2 ^ 60 := (by decide); omega)) c6
            refine V_lconst (v := lN 0) e_X4_likelyFed_97 (by decide) ?_
            refine V_laddN (z := lN (lkS A p n pr s + 0)) e_X4_likelyFed_98 (lN_add _ _) ?_
            refine V_lstore (L' := [some (.ref (eB E + 241)), some (.ref (eB E + 4)), some (.int (nI p)), some (.int (nI n)), some (.int (nI pr)), some (.int (nI w)), some (.int (nI (A 0 - cntN (A 5)))), some (.long (lN (lkS A p n pr s + 0))), none, some (.int (nI s)), some (.int (nI (cntN s))), some (.long (lN (csS A pr s))), none]) e_X4_likelyFed_99 rfl ?_
            refine V_iinc (v := nI (s + 1)) (L' := [some (.ref (eB E + 241)), some (.ref (eB E + 4)), some (.int (nI p)), some (.int (nI n)), some (.int (nI pr)), some (.int (nI w)), some (.int (nI (A 0 - cntN (A 5)))), some (.long (lN (lkS A p n pr s + 0))), none, some (.int (nI (s + 1))), some (.int (nI (cntN s))), some (.long (lN (csS A pr s))), none]) e_X4_likelyFed_101 rfl (nI_add _ 1) rfl ?_
            refine V_goto (tgt := 20) e_X4_likelyFed_104 (by decide) ?_
            refine V_forget 10 ?_; refine V_forget 11 ?_; rw [show lkS A p n pr s + 0 = lkS A p n pr (s + 1) from (by rw [lkS]; (first | rw [if_pos d4] | rw [if_neg d4] | skip); (first | rw [if_pos d5] | rw [if_neg d5] | skip); (first | rw [if_pos d6] | rw [if_neg d6] | skip); try rfl)]; exact ih (2 ^ A 0 - (s + 1)) (by omega) (s + 1) τ1 rfl (by omega) ⟨hI.1.tr hf1, hI.2.fb h5 hf1 (by omega)⟩
          · have d6 : ¬ fdS A p n s = 0 := nq_ne (by first | omega | exact Nat.lt_of_le_of_lt Nat.and_le_left (by omega) | (have hq9 := csS_le hF.1 (show s < 2 ^ A 0 by omega) hpr (by assumption); have hq8 : (10 ^ 6 : Nat) < 2 ^ 60 := (by decide); omega)) (by first | omega | exact Nat.lt_of_le_of_lt Nat.and_le_left (by omega) | (have hq9 := csS_le hF.1 (show s < 2 ^ A 0 by omega) hpr (by assumption); have hq8 : (10 ^ 6 : Nat) < 2 ^ 60 := (by decide); omega)) c6
            refine V_lload e_X4_likelyFed_92 rfl ?_
            refine V_goto (tgt := 98) e_X4_likelyFed_94 (by decide) ?_
            refine V_laddN (z := lN (lkS A p n pr s + (csS A pr s))) e_X4_likelyFed_98 (lN_add _ _) ?_
            refine V_lstore (L' := [some (.ref (eB E + 241)), some (.ref (eB E + 4)), some (.int (nI p)), some (.int (nI n)), some (.int (nI pr)), some (.int (nI w)), some (.int (nI (A 0 - cntN (A 5)))), some (.long (lN (lkS A p n pr s + (csS A pr s)))), none, some (.int (nI s)), some (.int (nI (cntN s))), some (.long (lN (csS A pr s))), none]) e_X4_likelyFed_99 rfl ?_
            refine V_iinc (v := nI (s + 1)) (L' := [some (.ref (eB E + 241)), some (.ref (eB E + 4)), some (.int (nI p)), some (.int (nI n)), some (.int (nI pr)), some (.int (nI w)), some (.int (nI (A 0 - cntN (A 5)))), some (.long (lN (lkS A p n pr s + (csS A pr s)))), none, some (.int (nI (s + 1))), some (.int (nI (cntN s))), some (.long (lN (csS A pr s))), none]) e_X4_likelyFed_101 rfl (nI_add _ 1) rfl ?_
            refine V_goto (tgt := 20) e_X4_likelyFed_104 (by decide) ?_
            refine V_forget 10 ?_; refine V_forget 11 ?_; rw [show lkS A p n pr s + (csS A pr s) = lkS A p n pr (s + 1) from (by rw [lkS]; (first | rw [if_pos d4] | rw [if_neg d4] | skip); (first | rw [if_pos d5] | rw [if_neg d5] | skip); (first | rw [if_pos d6] | rw [if_neg d6] | skip); try rfl)]; exact ih (2 ^ A 0 - (s + 1)) (by omega) (s + 1) τ1 rfl (by omega) ⟨hI.1.tr hf1, hI.2.fb h5 hf1 (by omega)⟩
set_option maxRecDepth 100000 in
set_option maxHeartbeats 4000000 in
theorem c_X4_likelyFed (E : En) (p n pr w : Nat) (A : Vec) (σ : Sg) (hR : RepC σ 4 A) (hF : WF A) (hp : p < A 1) (hn : n ≤ 30) (hpr : pr ≤ 10) (hw : w ≤ 1) (hub : ∀ s, ∀ i, i ≤ 30 → (pds A (fallV A s) p i).2.2.2.2.2 < 2 ^ 31) : Cn E m_X4_likelyFed 7 [.ref (eB E + 241), .ref (eB E + 4), .int (nI p), .int (nI n), .int (nI pr), .int (nI w)] σ (pJ (fun σ' r => Fb 242 251 σ σ' ∧ r = if cdv 100 (lkS A p n pr (2 ^ A 0)) (10 ^ (A 0 - cntN (A 5))) = 0 then (-1000000) else if w = 0 then lN (lkS A p n pr (2 ^ A 0) / cdv 100 (lkS A p n pr (2 ^ A 0)) (10 ^ (A 0 - cntN (A 5)))) else lN (10 ^ (A 0 - cntN (A 5)) / cdv 100 (lkS A p n pr (2 ^ A 0)) (10 ^ (A 0 - cntN (A 5)))))) := by
  have h5 := hF.2.2.1
  obtain ⟨hG2, hG6, hA5, hA5p, h2a, h2b, h3a, h3b, hgs⟩ := id hF.1
  have hc5 := cnt_G (A 0) (by omega) (A 5) hA5p
  refine Cn.of [some (.ref (eB E + 241)), some (.ref (eB E + 4)), some (.int (nI p)), some (.int (nI n)), some (.int (nI pr)), some (.int (nI w)), none, none, none, none, none, none, none] (by decide) (Nat.le_of_ble_eq_true rfl) rfl ?_
  refine V_aload_n e_X4_likelyFed_0 rfl rfl ?_
  refine V_getiv (v := nI (A 0)) e_X4_likelyFed_1 F_X5_gates f_X4_51 rfl hR.1.2.2.2.1 ?_
  refine V_aload_n e_X4_likelyFed_4 rfl rfl ?_
  refine V_getiv (v := nI (A 5)) e_X4_likelyFed_5 F_X5_fallen f_X4_62 rfl hR.1.2.2.2.2.2.1 ?_
  refine V_csIe (av := [.int (nI (A 5))]) (st := [.int (nI (A 0))]) e_X4_likelyFed_8 (c_J6_bitCountN E (A 5) σ (by omega)) l_X4_98 S_J6_bitCount_0f7a4 (rm_ok (by decide) (by decide)) rfl rfl (Nat.le_of_ble_eq_true rfl) ?_
  refine V_isubN (z := nI (A 0 - (cntN (A 5)))) e_X4_likelyFed_11 (pk_sub (hc5)) ?_
  refine V_istore (L' := [some (.ref (eB E + 241)), some (.ref (eB E + 4)), some (.int (nI p)), some (.int (nI n)), some (.int (nI pr)), some (.int (nI w)), some (.int (nI (A 0 - (cntN (A 5))))), none, none, none, none, none, none]) e_X4_likelyFed_12 rfl ?_
  refine V_lconst (v := lN 0) e_X4_likelyFed_14 (by decide) ?_
  refine V_lstore (L' := [some (.ref (eB E + 241)), some (.ref (eB E + 4)), some (.int (nI p)), some (.int (nI n)), some (.int (nI pr)), some (.int (nI w)), some (.int (nI (A 0 - (cntN (A 5))))), some (.long (lN 0)), none, none, none, none, none]) e_X4_likelyFed_15 rfl ?_
  refine V_iconst (v := nI 0) e_X4_likelyFed_17 (by decide) ?_
  refine V_istore (L' := [some (.ref (eB E + 241)), some (.ref (eB E + 4)), some (.int (nI p)), some (.int (nI n)), some (.int (nI pr)), some (.int (nI w)), some (.int (nI (A 0 - (cntN (A 5))))), some (.long (lN 0)), none, some (.int (nI 0)), none, none, none]) e_X4_likelyFed_18 rfl ?_
  exact lp_X4_likelyFed E p n pr w A σ hR hF hp hn hpr hw hub h5 hG6 (pow6 hG6) hA5 hc5 (2 ^ A 0) 0 σ rfl (by omega) ⟨Fb.rf, hR⟩
theorem nxD_eq (x : Nat) : x * 16807 % 2147483647 = nxD x := by unfold nxD; exact Eq.refl _
set_option maxRecDepth 100000 in
set_option maxHeartbeats 4000000 in
theorem lp_X4_yearsDrawn (E : En) (n x w : Nat) (A : Vec) (σ : Sg) (hR : RepC σ 4 A) (hF : WF A) (hn : n ≤ 60) (hx : x < 1000000) (hw : w ≤ 1) (h5 : A 1 ≤ 5) (hG2 : 2 ≤ A 0) (hG6 : A 0 ≤ 6) : ∀ (mm : Nat) (i : Nat) (τ : Sg), n - i = mm → (i ≤ n) → (Fb 242 251 σ τ ∧ RepC τ 242 (yrs A x i).1) → V E m_X4_yearsDrawn (kM E 7 (pI (fun σ' r => Fb 242 251 σ σ' ∧ r = if w = 0 then nI (hung (yrs A x n).1) - nI (hung A) else nI (fishs (yrs A x n).1)))) 15 [some (.ref (eB E + 241)), some (.ref (eB E + 4)), some (.int (nI n)), some (.int (nI x)), some (.int (nI w)), some (.long (lN ((yrs A x i).2))), none, some (.int (nI i)), none] [] τ := by
  intro mm
  induction mm using Nat.strongRecOn with
  | ind mm ih =>
    intro i τ hmm hi hI
    obtain ⟨hBW, hX, hB0, hB1⟩ := yrs_ok hF (show x < 2147483647 by omega) i
    have hB5 : (yrs A x i).1 1 ≤ 5 := by omega
    have hB6 : (yrs A x i).1 0 ≤ 6 := by omega
    refine V_iload e_X4_yearsDrawn_15 rfl ?_
    refine V_iload_n e_X4_yearsDrawn_17 rfl rfl ?_
    refine V_icmp_ge (tgt := 127) e_X4_yearsDrawn_18 (by decide) (fun c1 => ?_) (fun c1 => ?_)
    · have d1 : n ≤ i := nq_le (by omega) (by omega) c1
      refine V_iload e_X4_yearsDrawn_127 rfl ?_
      refine V_if_ne (tgt := 147) e_X4_yearsDrawn_129 (by decide) (fun c2 => ?_) (fun c2 => ?_)
      · have d2 : ¬ w = 0 := nq_ne (by omega) (by omega) c2
        refine V_aload_n e_X4_yearsDrawn_147 rfl rfl ?_
        refine V_getr (r := 242) e_X4_yearsDrawn_148 F_X4_trial f_X4_12 rfl rfl ?_
        refine V_cvIe (av := []) (st := []) e_X4_yearsDrawn_151 (c_X5_fishOfAll E 242 (yrs A x i).1 τ rfl hI.2 hB5) l_X4_133 S_X5_fishOfAll rfl (rm_ok (by decide) (by decide)) rfl rfl (Nat.le_of_ble_eq_true rfl) ?_
        exact V_iret e_X4_yearsDrawn_154 rfl (⟨hI.1, by rw [show n = i by omega]; (first | rw [if_pos d2] | rw [if_neg d2]); try rfl⟩)
      · have d2 : w = 0 := nq_eq (by omega) (by omega) c2
        refine V_aload_n e_X4_yearsDrawn_132 rfl rfl ?_
        refine V_getr (r := 242) e_X4_yearsDrawn_133 F_X4_trial f_X4_12 rfl rfl ?_
        refine V_cvIe (av := []) (st := []) e_X4_yearsDrawn_136 (c_X5_hungerOfAll E 242 (yrs A x i).1 τ rfl hI.2 hB5) l_X4_129 S_X5_hungerOfAll rfl (rm_ok (by decide) (by decide)) rfl rfl (Nat.le_of_ble_eq_true rfl) ?_
        refine V_aload_n e_X4_yearsDrawn_139 rfl rfl ?_
        refine V_cvIe (av := []) (st := [.int (nI (hung (yrs A x i).1))]) e_X4_yearsDrawn_140 (c_X5_hungerOfAll E 4 A τ rfl (hR.fb h5 hI.1 (by omega)) h5) l_X4_129 S_X5_hungerOfAll rfl (rm_ok (by decide) (by decide)) rfl rfl (Nat.le_of_ble_eq_true rfl) ?_
        refine V_isub e_X4_yearsDrawn_143 ?_
        refine V_goto (tgt := 154) e_X4_yearsDrawn_144 (by decide) ?_
        exact V_iret e_X4_yearsDrawn_154 rfl (⟨hI.1, by rw [show n = i by omega]; (first | rw [if_pos d2] | rw [if_neg d2]); try rfl⟩)
    · have d1 : ¬ n ≤ i := nq_nle (by omega) (by omega) c1
      refine V_aload_n e_X4_yearsDrawn_21 rfl rfl ?_
      refine V_getr (r := 242) e_X4_yearsDrawn_22 F_X4_trial f_X4_12 rfl rfl ?_
      refine V_getiv (v := nI (A 0)) e_X4_yearsDrawn_25 F_X5_gates f_X4_51 rfl (hI.2.1.2.2.2.1.trans (congrArg nI hB0)) ?_
      refine V_if_le (tgt := 127) e_X4_yearsDrawn_28 (by decide) (fun c3 => absurd c3 (nI_nle (by omega) (by omega))) (fun c3 => ?_)
      refine V_lload e_X4_yearsDrawn_31 rfl ?_
      refine V_ldc2_w (v := lN 16807) e_X4_yearsDrawn_33 kl_X4_118 ?_
      refine V_lmulN (z := lN (((yrs A x i).2) * 16807)) e_X4_yearsDrawn_36 (lN_mul _ _) ?_
      refine V_ldc2_w (v := lN 2147483647) e_X4_yearsDrawn_37 kl_X4_120 ?_
      refine V_lremN (z := lN ((((yrs A x i).2) * 16807) % 2147483647)) e_X4_yearsDrawn_40 (lN0 (by omega) (by omega)) (lrN (by omega) (by omega) (by omega)) ?_
      refine V_topl (y := lN (nxD (yrs A x i).2)) (congrArg lN (nxD_eq _)) ?_
      refine V_lstore (L' := [some (.ref (eB E + 241)), some (.ref (eB E + 4)), some (.int (nI n)), some (.int (nI x)), some (.int (nI w)), some (.long (lN (nxD (yrs A x i).2))), none, some (.int (nI i)), none]) e_X4_yearsDrawn_41 rfl ?_
      have hN := nxD_lt (yrs A x i).2
      have hgg : (nxD (yrs A x i).2 % A 0) < A 0 := Nat.mod_lt _ (by omega)
      have h2g6 : 2 ^ (nxD (yrs A x i).2 % A 0) < 2 ^ 6 := Nat.pow_lt_pow_right (by decide) (by omega)
      obtain ⟨F, hF2, e5, hFb⟩ := hI.2.1.2.2.2.2.2.2.1
      refine V_lload e_X4_yearsDrawn_43 rfl ?_
      refine V_aload_n e_X4_yearsDrawn_45 rfl rfl ?_
      refine V_getr (r := 242) e_X4_yearsDrawn_46 F_X4_trial f_X4_12 rfl rfl ?_
      refine V_getiv (v := nI (A 0)) e_X4_yearsDrawn_49 F_X5_gates f_X4_51 rfl (hI.2.1.2.2.2.1.trans (congrArg nI hB0)) ?_
      refine V_i2lN (z := lN (A 0)) e_X4_yearsDrawn_52 (nI_l (by omega)) ?_
      refine V_lremN (z := lN ((nxD (yrs A x i).2) % (A 0))) e_X4_yearsDrawn_53 (lN0 (by omega) (by omega)) (lrN (by omega) (by omega) (by omega)) ?_
      refine V_l2iN (z := nI ((nxD (yrs A x i).2) % (A 0))) e_X4_yearsDrawn_54 (lN_i _) ?_
      refine V_istore (L' := [some (.ref (eB E + 241)), some (.ref (eB E + 4)), some (.int (nI n)), some (.int (nI x)), some (.int (nI w)), some (.long (lN (nxD (yrs A x i).2))), none, some (.int (nI i)), some (.int (nI ((nxD (yrs A x i).2) % (A 0))))]) e_X4_yearsDrawn_55 rfl ?_
      refine V_lload e_X4_yearsDrawn_57 rfl ?_
      refine V_ldc2_w (v := lN 3) e_X4_yearsDrawn_59 kl_X4_122 ?_
      refine V_lremN (z := lN ((nxD (yrs A x i).2) % 3)) e_X4_yearsDrawn_62 (lN0 (by omega) (by omega)) (lrN (by omega) (by omega) (by omega)) ?_
      refine V_lconst (v := lN 0) e_X4_yearsDrawn_63 (by decide) ?_
      refine V_lcmp e_X4_yearsDrawn_64 ?_
      refine V_if_ne (tgt := 87) e_X4_yearsDrawn_65 (by decide) (fun c4 => ?_) (fun c4 => ?_)
      · have d4 : ¬ (nxD (yrs A x i).2) % 3 = 0 := lc_ne (by omega) (by omega) c4
        have dy3 := d4
        refine V_lload e_X4_yearsDrawn_87 rfl ?_
        refine V_ldc2_w (v := lN 5) e_X4_yearsDrawn_89 kl_X4_124 ?_
        refine V_lremN (z := lN ((nxD (yrs A x i).2) % 5)) e_X4_yearsDrawn_92 (lN0 (by omega) (by omega)) (lrN (by omega) (by omega) (by omega)) ?_
        refine V_lconst (v := lN 0) e_X4_yearsDrawn_93 (by decide) ?_
        refine V_lcmp e_X4_yearsDrawn_94 ?_
        refine V_if_ne (tgt := 114) e_X4_yearsDrawn_95 (by decide) (fun c5 => ?_) (fun c5 => ?_)
        · have d5 : ¬ (nxD (yrs A x i).2) % 5 = 0 := lc_ne (by omega) (by omega) c5
          have dy5 := d5
          have hR1 : RepC τ 242 (yrV (yrs A x i).1 (nxD (yrs A x i).2)) := by unfold yrV; rw [if_neg dy3, if_neg dy5]; exact hI.2
          have hf0 : Fb 242 251 σ (τ) := hI.1
          refine V_aload_n e_X4_yearsDrawn_114 rfl rfl ?_
          refine V_getr (r := 242) e_X4_yearsDrawn_115 F_X4_trial f_X4_12 rfl rfl ?_
          refine V_cvV (av := []) (st := []) e_X4_yearsDrawn_118 (c_X5_passDay E 242 (yrV (yrs A x i).1 (nxD (yrs A x i).2)) τ rfl hR1 hBW.yr) l_X4_126 S_X5_passDay rfl (rm_ok (by decide) (by decide)) rfl rfl (Nat.le_of_ble_eq_true rfl) ?_
          intro τ1 hh
          obtain ⟨hR2, hf2⟩ := hh
          refine V_iinc (v := nI (i + 1)) (L' := [some (.ref (eB E + 241)), some (.ref (eB E + 4)), some (.int (nI n)), some (.int (nI x)), some (.int (nI w)), some (.long (lN (nxD (yrs A x i).2))), none, some (.int (nI (i + 1))), some (.int (nI ((nxD (yrs A x i).2) % (A 0))))]) e_X4_yearsDrawn_121 rfl (nI_add _ 1) rfl ?_
          refine V_goto (tgt := 15) e_X4_yearsDrawn_124 (by decide) ?_
          refine V_forget 8 ?_; exact ih (n - (i + 1)) (by omega) (i + 1) τ1 rfl (by omega) ⟨hf0.tr (hf2.b (by omega) (by omega)), hR2⟩
        · have d5 : (nxD (yrs A x i).2) % 5 = 0 := lc_eq (by omega) (by omega) c5
          have dy5 := d5
          refine V_aload_n e_X4_yearsDrawn_98 rfl rfl ?_
          refine V_getr (r := 242) e_X4_yearsDrawn_99 F_X4_trial f_X4_12 rfl rfl ?_
          refine V_dup e_X4_yearsDrawn_102 rfl ?_
          refine V_getiv (v := nI ((yrs A x i).1 5)) e_X4_yearsDrawn_103 F_X5_fallen f_X4_62 rfl hI.2.1.2.2.2.2.2.1 ?_
          refine V_iconst (v := nI 1) e_X4_yearsDrawn_106 (by decide) ?_
          refine V_iload e_X4_yearsDrawn_107 rfl ?_
          refine V_ishlN (z := nI (2 ^ ((nxD (yrs A x i).2) % (A 0)))) e_X4_yearsDrawn_109 (shl1 (by omega)) ?_
          refine V_ixorN (z := nI (((yrs A x i).1 5) ^^^ (2 ^ ((nxD (yrs A x i).2) % (A 0))))) e_X4_yearsDrawn_110 (xorI _ _) ?_
          refine V_puti e_X4_yearsDrawn_111 F_X5_fallen f_X4_62 rfl ?_
          have hR1 : RepC (up2 τ 242 6 (nI (((yrs A x i).1 5) ^^^ (2 ^ ((nxD (yrs A x i).2) % (A 0)))))) 242 (yrV (yrs A x i).1 (nxD (yrs A x i).2)) := by unfold yrV; rw [if_neg dy3, if_pos dy5, hB0]; exact hI.2.chg hB5 hI.2.1.xfall (xfall_lo (by omega)) (xfall_lo (by omega)) (fun _ _ => pn_xfall)
          have hf0 : Fb 242 251 σ (up2 τ 242 6 (nI (((yrs A x i).1 5) ^^^ (2 ^ ((nxD (yrs A x i).2) % (A 0)))))) := hI.1.up (by omega) (by omega)
          refine V_aload_n e_X4_yearsDrawn_114 rfl rfl ?_
          refine V_getr (r := 242) e_X4_yearsDrawn_115 F_X4_trial f_X4_12 rfl rfl ?_
          refine V_cvV (av := []) (st := []) e_X4_yearsDrawn_118 (c_X5_passDay E 242 (yrV (yrs A x i).1 (nxD (yrs A x i).2)) (up2 τ 242 6 (nI (((yrs A x i).1 5) ^^^ (2 ^ ((nxD (yrs A x i).2) % (A 0)))))) rfl hR1 hBW.yr) l_X4_126 S_X5_passDay rfl (rm_ok (by decide) (by decide)) rfl rfl (Nat.le_of_ble_eq_true rfl) ?_
          intro τ1 hh
          obtain ⟨hR2, hf2⟩ := hh
          refine V_iinc (v := nI (i + 1)) (L' := [some (.ref (eB E + 241)), some (.ref (eB E + 4)), some (.int (nI n)), some (.int (nI x)), some (.int (nI w)), some (.long (lN (nxD (yrs A x i).2))), none, some (.int (nI (i + 1))), some (.int (nI ((nxD (yrs A x i).2) % (A 0))))]) e_X4_yearsDrawn_121 rfl (nI_add _ 1) rfl ?_
          refine V_goto (tgt := 15) e_X4_yearsDrawn_124 (by decide) ?_
          refine V_forget 8 ?_; exact ih (n - (i + 1)) (by omega) (i + 1) τ1 rfl (by omega) ⟨hf0.tr (hf2.b (by omega) (by omega)), hR2⟩
      · have d4 : (nxD (yrs A x i).2) % 3 = 0 := lc_eq (by omega) (by omega) c4
        have dy3 := d4
        refine V_aload_n e_X4_yearsDrawn_68 rfl rfl ?_
        refine V_getr (r := 242) e_X4_yearsDrawn_69 F_X4_trial f_X4_12 rfl rfl ?_
        refine V_dup e_X4_yearsDrawn_72 rfl ?_
        refine V_getiv (v := nI F) e_X4_yearsDrawn_73 F_X5_facing f_X4_89 rfl e5 ?_
        refine V_iconst (v := nI 1) e_X4_yearsDrawn_76 (by decide) ?_
        refine V_iload e_X4_yearsDrawn_77 rfl ?_
        refine V_ishlN (z := nI (2 ^ ((nxD (yrs A x i).2) % (A 0)))) e_X4_yearsDrawn_79 (shl1 (by omega)) ?_
        refine V_ixorN (z := nI (F ^^^ (2 ^ ((nxD (yrs A x i).2) % (A 0))))) e_X4_yearsDrawn_80 (xorI _ _) ?_
        refine V_puti e_X4_yearsDrawn_81 F_X5_facing f_X4_89 rfl ?_
        refine V_goto (tgt := 114) e_X4_yearsDrawn_84 (by decide) ?_
        have hR1 : RepC (up2 τ 242 5 (nI (F ^^^ (2 ^ ((nxD (yrs A x i).2) % (A 0)))))) 242 (yrV (yrs A x i).1 (nxD (yrs A x i).2)) := by unfold yrV; rw [if_pos dy3, hB0]; exact hI.2.chg hB5 (hI.2.1.turn hB6 h2g6 hF2 e5) (turnV_lo (by omega)) (turnV_lo (by omega)) (fun _ _ => pn_turn)
        have hf0 : Fb 242 251 σ (up2 τ 242 5 (nI (F ^^^ (2 ^ ((nxD (yrs A x i).2) % (A 0)))))) := hI.1.up (by omega) (by omega)
        refine V_aload_n e_X4_yearsDrawn_114 rfl rfl ?_
        refine V_getr (r := 242) e_X4_yearsDrawn_115 F_X4_trial f_X4_12 rfl rfl ?_
        refine V_cvV (av := []) (st := []) e_X4_yearsDrawn_118 (c_X5_passDay E 242 (yrV (yrs A x i).1 (nxD (yrs A x i).2)) (up2 τ 242 5 (nI (F ^^^ (2 ^ ((nxD (yrs A x i).2) % (A 0)))))) rfl hR1 hBW.yr) l_X4_126 S_X5_passDay rfl (rm_ok (by decide) (by decide)) rfl rfl (Nat.le_of_ble_eq_true rfl) ?_
        intro τ1 hh
        obtain ⟨hR2, hf2⟩ := hh
        refine V_iinc (v := nI (i + 1)) (L' := [some (.ref (eB E + 241)), some (.ref (eB E + 4)), some (.int (nI n)), some (.int (nI x)), some (.int (nI w)), some (.long (lN (nxD (yrs A x i).2))), none, some (.int (nI (i + 1))), some (.int (nI ((nxD (yrs A x i).2) % (A 0))))]) e_X4_yearsDrawn_121 rfl (nI_add _ 1) rfl ?_
        refine V_goto (tgt := 15) e_X4_yearsDrawn_124 (by decide) ?_
        refine V_forget 8 ?_; exact ih (n - (i + 1)) (by omega) (i + 1) τ1 rfl (by omega) ⟨hf0.tr (hf2.b (by omega) (by omega)), hR2⟩
set_option maxRecDepth 100000 in
set_option maxHeartbeats 4000000 in
theorem c_X4_yearsDrawn (E : En) (n x w : Nat) (A : Vec) (σ : Sg) (hR : RepC σ 4 A) (hF : WF A) (hn : n ≤ 60) (hx : x < 1000000) (hw : w ≤ 1) : Cn E m_X4_yearsDrawn 7 [.ref (eB E + 241), .ref (eB E + 4), .int (nI n), .int (nI x), .int (nI w)] σ (pI (fun σ' r => Fb 242 251 σ σ' ∧ r = if w = 0 then nI (hung (yrs A x n).1) - nI (hung A) else nI (fishs (yrs A x n).1))) := by
  have h5 := hF.2.2.1
  obtain ⟨hG2, hG6, hA5, hA5p, h2a, h2b, h3a, h3b, hgs⟩ := id hF.1
  refine Cn.of [some (.ref (eB E + 241)), some (.ref (eB E + 4)), some (.int (nI n)), some (.int (nI x)), some (.int (nI w)), none, none, none, none] (by decide) (Nat.le_of_ble_eq_true rfl) rfl ?_
  refine V_aload_n e_X4_yearsDrawn_0 rfl rfl ?_
  refine V_getr (r := 242) e_X4_yearsDrawn_1 F_X4_trial f_X4_12 rfl rfl ?_
  refine V_aload_n e_X4_yearsDrawn_4 rfl rfl ?_
  refine V_cvVe (av := [.ref (eB E + 4)]) (st := []) e_X4_yearsDrawn_5 (c_X5_become E 242 4 σ rfl rfl (by decide)) l_X4_22 S_X5_become rfl (rm_ok (by decide) (by decide)) rfl rfl (Nat.le_of_ble_eq_true rfl) ?_
  refine V_iload_n e_X4_yearsDrawn_8 rfl rfl ?_
  refine V_i2lN (z := lN x) e_X4_yearsDrawn_9 (nI_l (by omega)) ?_
  refine V_lstore (L' := [some (.ref (eB E + 241)), some (.ref (eB E + 4)), some (.int (nI n)), some (.int (nI x)), some (.int (nI w)), some (.long (lN x)), none, none, none]) e_X4_yearsDrawn_10 rfl ?_
  refine V_iconst (v := nI 0) e_X4_yearsDrawn_12 (by decide) ?_
  refine V_istore (L' := [some (.ref (eB E + 241)), some (.ref (eB E + 4)), some (.int (nI n)), some (.int (nI x)), some (.int (nI w)), some (.long (lN x)), none, some (.int (nI 0)), none]) e_X4_yearsDrawn_13 rfl ?_
  exact lp_X4_yearsDrawn E n x w A σ hR hF hn hx hw h5 hG2 hG6 n 0 _ rfl (by omega) ⟨bec_fb, bec_rep hG6 h5 hR⟩

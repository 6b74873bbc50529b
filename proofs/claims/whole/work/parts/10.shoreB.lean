set_option maxRecDepth 100000 in
set_option maxHeartbeats 4000000 in
theorem c_X5_isNone (E : En) (n G : Nat) (σ : Sg) (hn : kd n = 5) (hG : σ n 3 = nI G) (hb : G ≤ 6) : Cn E m_X5_isNone 1 [.ref (eB E + n)] σ (pI (fun σ' r => σ' = σ ∧ r = nI (if G = 0 then 1 else 0))) := by
  refine Cn.of [some (.ref (eB E + n))] (by decide) (Nat.le_of_ble_eq_true rfl) rfl ?_
  refine V_aload_n e_X5_isNone_0 rfl rfl ?_
  refine V_getiv (v := nI G) e_X5_isNone_1 F_X5_gates f_X5_29 hn hG ?_
  refine V_if_ne (tgt := 11) e_X5_isNone_4 (by decide) (fun c1 => ?_) (fun c1 => ?_)
  · have d1 : ¬ G = 0 := nq_ne (by omega) (by omega) c1
    refine V_iconst (v := nI 0) e_X5_isNone_11 (by decide) ?_
    exact V_zret e_X5_isNone_12 rfl (by first | exact Or.inl nI_0 | exact Or.inr rfl | assumption) (⟨rfl, by congr 1; split <;> omega⟩)
  · have d1 : G = 0 := nq_eq (by omega) (by omega) c1
    refine V_iconst (v := nI 1) e_X5_isNone_7 (by decide) ?_
    refine V_goto (tgt := 12) e_X5_isNone_8 (by decide) ?_
    exact V_zret e_X5_isNone_12 rfl (by first | exact Or.inl nI_0 | exact Or.inr rfl | assumption) (⟨rfl, by congr 1; split <;> omega⟩)
set_option maxRecDepth 100000 in
set_option maxHeartbeats 4000000 in
theorem c_X5_hasGate (E : En) (n G : Nat) (x : Int32) (σ : Sg) (hn : kd n = 5) (hG : σ n 3 = nI G) : Cn E m_X5_hasGate 2 [.ref (eB E + n), .int x] σ (pI (fun σ' r => σ' = σ ∧ r = wi x (nI 0) (nI G - nI 1))) := by
  refine Cn.of [some (.ref (eB E + n)), some (.int x)] (by decide) (Nat.le_of_ble_eq_true rfl) rfl ?_
  refine V_iload_n e_X5_hasGate_0 rfl rfl ?_
  refine V_iconst (v := nI 0) e_X5_hasGate_1 (by decide) ?_
  refine V_aload_n e_X5_hasGate_2 rfl rfl ?_
  refine V_getiv (v := nI G) e_X5_hasGate_3 F_X5_gates f_X5_29 hn hG ?_
  refine V_iconst (v := nI 1) e_X5_hasGate_6 (by decide) ?_
  refine V_isub e_X5_hasGate_7 ?_
  refine V_csNIe (av := [.int x, .int (nI 0), .int ((nI G) - (nI 1))]) (st := []) e_X5_hasGate_8 (c_X8_within E x (nI 0) ((nI G) - (nI 1)) σ) l_X5_51 S_X8_within (rm_ok (by decide) (by decide)) rfl rfl (Nat.le_of_ble_eq_true rfl) ?_
  exact V_zret e_X5_hasGate_11 rfl (wi01 _ _ _) (⟨rfl, rfl⟩)
set_option maxRecDepth 100000 in
set_option maxHeartbeats 4000000 in
theorem c_X5_hasPerson (E : En) (n G : Nat) (x : Int32) (σ : Sg) (hn : kd n = 5) (hG : σ n 4 = nI G) : Cn E m_X5_hasPerson 2 [.ref (eB E + n), .int x] σ (pI (fun σ' r => σ' = σ ∧ r = wi x (nI 0) (nI G - nI 1))) := by
  refine Cn.of [some (.ref (eB E + n)), some (.int x)] (by decide) (Nat.le_of_ble_eq_true rfl) rfl ?_
  refine V_iload_n e_X5_hasPerson_0 rfl rfl ?_
  refine V_iconst (v := nI 0) e_X5_hasPerson_1 (by decide) ?_
  refine V_aload_n e_X5_hasPerson_2 rfl rfl ?_
  refine V_getiv (v := nI G) e_X5_hasPerson_3 F_X5_people f_X5_32 hn hG ?_
  refine V_iconst (v := nI 1) e_X5_hasPerson_6 (by decide) ?_
  refine V_isub e_X5_hasPerson_7 ?_
  refine V_csNIe (av := [.int x, .int (nI 0), .int ((nI G) - (nI 1))]) (st := []) e_X5_hasPerson_8 (c_X8_within E x (nI 0) ((nI G) - (nI 1)) σ) l_X5_51 S_X8_within (rm_ok (by decide) (by decide)) rfl rfl (Nat.le_of_ble_eq_true rfl) ?_
  exact V_zret e_X5_hasPerson_11 rfl (wi01 _ _ _) (⟨rfl, rfl⟩)
set_option maxRecDepth 100000 in
set_option maxHeartbeats 4000000 in
theorem c_X5_hasSet (E : En) (n G : Nat) (x : Int32) (σ : Sg) (hn : kd n = 5) (hG : σ n 3 = nI G) (hb : G ≤ 6) : Cn E m_X5_hasSet 2 [.ref (eB E + n), .int x] σ (pI (fun σ' r => σ' = σ ∧ r = wi x (nI 0) (nI (2 ^ G) - nI 1))) := by
  refine Cn.of [some (.ref (eB E + n)), some (.int x)] (by decide) (Nat.le_of_ble_eq_true rfl) rfl ?_
  refine V_iload_n e_X5_hasSet_0 rfl rfl ?_
  refine V_iconst (v := nI 0) e_X5_hasSet_1 (by decide) ?_
  refine V_iconst (v := nI 1) e_X5_hasSet_2 (by decide) ?_
  refine V_aload_n e_X5_hasSet_3 rfl rfl ?_
  refine V_getiv (v := nI G) e_X5_hasSet_4 F_X5_gates f_X5_29 hn hG ?_
  refine V_ishlN (z := nI (2 ^ G)) e_X5_hasSet_7 (shl1 (by omega)) ?_
  refine V_iconst (v := nI 1) e_X5_hasSet_8 (by decide) ?_
  refine V_isub e_X5_hasSet_9 ?_
  refine V_csNIe (av := [.int x, .int (nI 0), .int ((nI (2 ^ G)) - (nI 1))]) (st := []) e_X5_hasSet_10 (c_X8_within E x (nI 0) ((nI (2 ^ G)) - (nI 1)) σ) l_X5_51 S_X8_within (rm_ok (by decide) (by decide)) rfl rfl (Nat.le_of_ble_eq_true rfl) ?_
  exact V_zret e_X5_hasSet_13 rfl (wi01 _ _ _) (⟨rfl, rfl⟩)
set_option maxRecDepth 100000 in
set_option maxHeartbeats 4000000 in
theorem c_X5_clear (E : En) (n : Nat) (σ : Sg) (hn : kd n = 5) : Cn E m_X5_clear 1 [.ref (eB E + n)] σ (pV (fun σ' => σ' = up2 (up2 (up2 (up2 (up2 σ n 2 (nI 0)) n 3 (nI 0)) n 4 (nI 0)) n 5 (nI 0)) n 6 (nI 0))) := by
  refine Cn.of [some (.ref (eB E + n))] (by decide) (Nat.le_of_ble_eq_true rfl) rfl ?_
  refine V_aload_n e_X5_clear_0 rfl rfl ?_
  refine V_iconst (v := nI 0) e_X5_clear_1 (by decide) ?_
  refine V_puti e_X5_clear_2 F_X5_day f_X5_25 hn ?_
  refine V_aload_n e_X5_clear_5 rfl rfl ?_
  refine V_iconst (v := nI 0) e_X5_clear_6 (by decide) ?_
  refine V_puti e_X5_clear_7 F_X5_gates f_X5_29 hn ?_
  refine V_aload_n e_X5_clear_10 rfl rfl ?_
  refine V_iconst (v := nI 0) e_X5_clear_11 (by decide) ?_
  refine V_puti e_X5_clear_12 F_X5_people f_X5_32 hn ?_
  refine V_aload_n e_X5_clear_15 rfl rfl ?_
  refine V_iconst (v := nI 0) e_X5_clear_16 (by decide) ?_
  refine V_puti e_X5_clear_17 F_X5_facing f_X5_35 hn ?_
  refine V_aload_n e_X5_clear_20 rfl rfl ?_
  refine V_iconst (v := nI 0) e_X5_clear_21 (by decide) ?_
  refine V_puti e_X5_clear_22 F_X5_fallen f_X5_38 hn ?_
  exact V_vret e_X5_clear_25 rfl (rfl)
set_option maxRecDepth 100000 in
set_option maxHeartbeats 4000000 in
theorem c_X5_addGate (E : En) (n G F : Nat) (x y : Int32) (z : Nat) (σ : Sg) (hn : kd n = 5) (hG : σ n 3 = nI G) (hF : σ n 5 = nI F) (hb : G < 6) (hz : z ≤ 1) : Cn E m_X5_addGate 1 [.ref (eB E + n), .int x, .int y, .int (nI z)] σ (pV (fun σ' => σ' = up2 (up2 (up2 (up2 σ (n + 1) G x) (n + 2) G y) n 5 (nI (F ||| z * 2 ^ G))) n 3 (nI (G + 1)))) := by
  refine Cn.of [some (.ref (eB E + n)), some (.int x), some (.int y), some (.int (nI z))] (by decide) (Nat.le_of_ble_eq_true rfl) rfl ?_
  refine V_aload_n e_X5_addGate_0 rfl rfl ?_
  refine V_getr (r := n + 1) e_X5_addGate_1 F_X5_sorts f_X5_9 hn (rf5_7 hn) ?_
  refine V_aload_n e_X5_addGate_4 rfl rfl ?_
  refine V_getiv (v := nI G) e_X5_addGate_5 F_X5_gates f_X5_29 hn hG ?_
  refine V_iload_n e_X5_addGate_8 rfl rfl ?_
  refine V_iast (j := G) e_X5_addGate_9 (kd5_1 hn) rfl (by have q := ln5_1  hn; omega) ?_
  refine V_aload_n e_X5_addGate_10 rfl rfl ?_
  refine V_getr (r := n + 2) e_X5_addGate_11 F_X5_lengths f_X5_15 hn (rf5_8 hn) ?_
  refine V_aload_n e_X5_addGate_14 rfl rfl ?_
  refine V_getiv (v := nI G) e_X5_addGate_15 F_X5_gates f_X5_29 hn (by simp [up2, hG]) ?_
  refine V_iload_n e_X5_addGate_18 rfl rfl ?_
  refine V_iast (j := G) e_X5_addGate_19 (kd5_2 hn) rfl (by have q := ln5_2  hn; omega) ?_
  refine V_aload_n e_X5_addGate_20 rfl rfl ?_
  refine V_dup e_X5_addGate_21 rfl ?_
  refine V_getiv (v := nI F) e_X5_addGate_22 F_X5_facing f_X5_35 hn (by simp [up2, hF]) ?_
  refine V_iload_n e_X5_addGate_25 rfl rfl ?_
  refine V_aload_n e_X5_addGate_26 rfl rfl ?_
  refine V_getiv (v := nI G) e_X5_addGate_27 F_X5_gates f_X5_29 hn (by simp [up2, hG]) ?_
  refine V_ishlN (z := nI (z * 2 ^ G)) e_X5_addGate_30 (shlN (shz hz hb)) ?_
  refine V_iorN (z := nI (F ||| (z * 2 ^ G))) e_X5_addGate_31 (lorI _ _) ?_
  refine V_puti e_X5_addGate_32 F_X5_facing f_X5_35 hn ?_
  refine V_aload_n e_X5_addGate_35 rfl rfl ?_
  refine V_dup e_X5_addGate_36 rfl ?_
  refine V_getiv (v := nI G) e_X5_addGate_37 F_X5_gates f_X5_29 hn (by simp [up2, hG]) ?_
  refine V_iconst (v := nI 1) e_X5_addGate_40 (by decide) ?_
  refine V_iaddN (z := nI (G + 1)) e_X5_addGate_41 (nI_add _ _) ?_
  refine V_puti e_X5_addGate_42 F_X5_gates f_X5_29 hn ?_
  exact V_vret e_X5_addGate_45 rfl (rfl)
set_option maxRecDepth 100000 in
set_option maxHeartbeats 4000000 in
theorem c_X5_addWalker (E : En) (n P : Nat) (x y z : Int32) (σ : Sg) (hn : kd n = 5) (hP : σ n 4 = nI P) (hb : P < 5) : Cn E m_X5_addWalker 1 [.ref (eB E + n), .int x, .int y, .int z] σ (pV (fun σ' => σ' = up2 (up2 (up2 (up2 (up2 (up2 (up2 (up2 σ (n + 4 + P) 0 x) (n + 4 + P) 1 (nI 0)) (n + 4 + P) 2 y) (n + 4 + P) 3 z) (n + 4 + P) 4 (nI 0)) (n + 4 + P) 5 (nI 0)) (n + 4 + P) 6 (nI 0)) n 4 (nI (P + 1)))) := by
  have hnw : ¬ n = n + 4 + P := by omega
  refine Cn.of [some (.ref (eB E + n)), some (.int x), some (.int y), some (.int z), none] (by decide) (Nat.le_of_ble_eq_true rfl) rfl ?_
  refine V_aload_n e_X5_addWalker_0 rfl rfl ?_
  refine V_getr (r := n + 3) e_X5_addWalker_1 F_X5_walkers f_X5_20 hn (rf5_9 hn) ?_
  refine V_aload_n e_X5_addWalker_4 rfl rfl ?_
  refine V_getiv (v := nI P) e_X5_addWalker_5 F_X5_people f_X5_32 hn hP ?_
  refine V_aald (j := P) (r := n + 4 + P) e_X5_addWalker_8 (by rw [kd5_3 hn]; decide) (by rw [kd5_3 hn]; decide) rfl (by have q := ln5_3  hn; omega) (rf14 hn) ?_
  refine V_astore (L' := [some (.ref (eB E + n)), some (.int x), some (.int y), some (.int z), some (.ref (eB E + (n + 4 + P)))]) e_X5_addWalker_9 rfl ?_
  refine V_aload e_X5_addWalker_11 rfl ?_
  refine V_iload_n e_X5_addWalker_13 rfl rfl ?_
  refine V_puti e_X5_addWalker_14 F_X7_at f_X5_55 (kd5_w hn (by have q := ln5_3  hn; omega)) ?_
  refine V_aload e_X5_addWalker_17 rfl ?_
  refine V_iconst (v := nI 0) e_X5_addWalker_19 (by decide) ?_
  refine V_puti e_X5_addWalker_20 F_X7_of f_X5_58 (kd5_w hn (by have q := ln5_3  hn; omega)) ?_
  refine V_aload e_X5_addWalker_23 rfl ?_
  refine V_iload_n e_X5_addWalker_25 rfl rfl ?_
  refine V_puti e_X5_addWalker_26 F_X7_heading f_X5_61 (kd5_w hn (by have q := ln5_3  hn; omega)) ?_
  refine V_aload e_X5_addWalker_29 rfl ?_
  refine V_iload_n e_X5_addWalker_31 rfl rfl ?_
  refine V_puti e_X5_addWalker_32 F_X7_fish f_X5_64 (kd5_w hn (by have q := ln5_3  hn; omega)) ?_
  refine V_aload e_X5_addWalker_35 rfl ?_
  refine V_iconst (v := nI 0) e_X5_addWalker_37 (by decide) ?_
  refine V_puti e_X5_addWalker_38 F_X7_hunger f_X5_67 (kd5_w hn (by have q := ln5_3  hn; omega)) ?_
  refine V_aload e_X5_addWalker_41 rfl ?_
  refine V_iconst (v := nI 0) e_X5_addWalker_43 (by decide) ?_
  refine V_putz e_X5_addWalker_44 F_X7_inside f_X5_70 (kd5_w hn (by have q := ln5_3  hn; omega)) (by first | exact Or.inl nI_0 | exact Or.inl rfl | exact Or.inr rfl | assumption) ?_
  refine V_aload e_X5_addWalker_47 rfl ?_
  refine V_iconst (v := nI 0) e_X5_addWalker_49 (by decide) ?_
  refine V_putz e_X5_addWalker_50 F_X7_stays f_X5_74 (kd5_w hn (by have q := ln5_3  hn; omega)) (by first | exact Or.inl nI_0 | exact Or.inl rfl | exact Or.inr rfl | assumption) ?_
  refine V_aload_n e_X5_addWalker_53 rfl rfl ?_
  refine V_dup e_X5_addWalker_54 rfl ?_
  refine V_getiv (v := nI P) e_X5_addWalker_55 F_X5_people f_X5_32 hn (by simp [up2, hnw, hP]) ?_
  refine V_iconst (v := nI 1) e_X5_addWalker_58 (by decide) ?_
  refine V_iaddN (z := nI (P + 1)) e_X5_addWalker_59 (nI_add _ _) ?_
  refine V_puti e_X5_addWalker_60 F_X5_people f_X5_32 hn ?_
  exact V_vret e_X5_addWalker_63 rfl (rfl)
set_option maxRecDepth 100000 in
set_option maxHeartbeats 4000000 in
theorem lp_X5_become_b (E : En) (n m : Nat) (σ : Sg) (hn : kd n = 5) (hm : kd m = 5) (hd : n + 9 ≤ m ∨ m + 9 ≤ n) : ∀ (mm : Nat) (p : Nat), 5 - p = mm → (p ≤ 5) → V E m_X5_become (kM E 2 (pV (fun σ' => σ' = bec n m σ))) 96 [some (.ref (eB E + n)), some (.ref (eB E + m)), some (.int (nI p))] [] (becA n m 6 p σ) := by
  intro mm
  induction mm using Nat.strongRecOn with
  | ind mm ih =>
    intro p hmm hp
    refine V_iload_n e_X5_become_96 rfl rfl ?_
    refine V_iconst (v := nI 5) e_X5_become_97 (by decide) ?_
    refine V_icmp_ge (tgt := 122) e_X5_become_98 (by decide) (fun c1 => ?_) (fun c1 => ?_)
    · have d1 : 5 ≤ p := nq_le (by omega) (by omega) c1
      exact V_vret e_X5_become_122 rfl (by obtain rfl : p = 5 := (by omega); exact becA_5)
    · have d1 : ¬ 5 ≤ p := nq_nle (by omega) (by omega) c1
      refine V_aload_n e_X5_become_101 rfl rfl ?_
      refine V_getr (r := n + 3) e_X5_become_102 F_X5_walkers f_X5_20 hn (rf5_9 hn) ?_
      refine V_iload_n e_X5_become_105 rfl rfl ?_
      refine V_aald (j := p) (r := n + 4 + p) e_X5_become_106 (by rw [kd5_3 hn]; decide) (by rw [kd5_3 hn]; decide) rfl (by have q := ln5_3  hn; omega) (rf14 hn) ?_
      refine V_aload_n e_X5_become_107 rfl rfl ?_
      refine V_getr (r := m + 3) e_X5_become_108 F_X5_walkers f_X5_20 hm (rf5_9 hm) ?_
      refine V_iload_n e_X5_become_111 rfl rfl ?_
      refine V_aald (j := p) (r := m + 4 + p) e_X5_become_112 (by rw [kd5_3 hm]; decide) (by rw [kd5_3 hm]; decide) rfl (by have q := ln5_3  hm; omega) (rf14 hm) ?_
      refine V_cvV (av := [.ref (eB E + (m + 4 + p))]) (st := []) e_X5_become_113 (c_X7_become E (n + 4 + p) (m + 4 + p) (becA n m 6 p σ) (kd5_w hn (by have q := ln5_3  hn; omega)) (kd5_w hm (by have q := ln5_3  hm; omega)) (by omega)) l_X5_47 S_X7_become (kd5_w hn (by have q := ln5_3  hn; omega)) (rm_ok (by decide) (by decide)) rfl rfl (Nat.le_of_ble_eq_true rfl) ?_
      intro τ hτ
      rw [hτ, becA_p hd (by omega)]
      clear hτ
      refine V_iinc (v := nI (p + 1)) (L' := [some (.ref (eB E + n)), some (.ref (eB E + m)), some (.int (nI (p + 1)))]) e_X5_become_116 rfl (nI_add _ 1) rfl ?_
      refine V_goto (tgt := 96) e_X5_become_119 (by decide) ?_
      exact ih (5 - (p + 1)) (by omega) (p + 1) rfl (by omega)
set_option maxRecDepth 100000 in
set_option maxHeartbeats 4000000 in
theorem lp_X5_become_a (E : En) (n m : Nat) (σ : Sg) (hn : kd n = 5) (hm : kd m = 5) (hd : n + 9 ≤ m ∨ m + 9 ≤ n) : ∀ (mm : Nat) (i : Nat), 6 - i = mm → (i ≤ 6) → V E m_X5_become (kM E 2 (pV (fun σ' => σ' = bec n m σ))) 58 [some (.ref (eB E + n)), some (.ref (eB E + m)), some (.int (nI i))] [] (becA n m i 0 σ) := by
  intro mm
  induction mm using Nat.strongRecOn with
  | ind mm ih =>
    intro i hmm hi
    refine V_iload_n e_X5_become_58 rfl rfl ?_
    refine V_bipush (v := nI 6) e_X5_become_59 (by decide) ?_
    refine V_icmp_ge (tgt := 94) e_X5_become_61 (by decide) (fun c1 => ?_) (fun c1 => ?_)
    · have d1 : 6 ≤ i := nq_le (by omega) (by omega) c1
      obtain rfl : i = 6 := by omega
      refine V_iconst (v := nI 0) e_X5_become_94 (by decide) ?_
      refine V_istore_n (L' := [some (.ref (eB E + n)), some (.ref (eB E + m)), some (.int (nI 0))]) e_X5_become_95 rfl rfl ?_
      exact lp_X5_become_b E n m σ hn hm hd 5 0 rfl (by omega)
    · have d1 : ¬ 6 ≤ i := nq_nle (by omega) (by omega) c1
      refine V_aload_n e_X5_become_64 rfl rfl ?_
      refine V_getr (r := n + 1) e_X5_become_65 F_X5_sorts f_X5_9 hn (rf5_7 hn) ?_
      refine V_iload_n e_X5_become_68 rfl rfl ?_
      refine V_aload_n e_X5_become_69 rfl rfl ?_
      refine V_getr (r := m + 1) e_X5_become_70 F_X5_sorts f_X5_9 hm (rf5_7 hm) ?_
      refine V_iload_n e_X5_become_73 rfl rfl ?_
      refine V_ialdv (v := σ (m + 1) i) (j := i) e_X5_become_74 (kd5_1 hm) rfl (by have q := ln5_1  hm; omega) (becA_m hd (by omega) (by omega) (by omega)) ?_
      refine V_iast (j := i) e_X5_become_75 (kd5_1 hn) rfl (by have q := ln5_1  hn; omega) ?_
      refine V_aload_n e_X5_become_76 rfl rfl ?_
      refine V_getr (r := n + 2) e_X5_become_77 F_X5_lengths f_X5_15 hn (rf5_8 hn) ?_
      refine V_iload_n e_X5_become_80 rfl rfl ?_
      refine V_aload_n e_X5_become_81 rfl rfl ?_
      refine V_getr (r := m + 2) e_X5_become_82 F_X5_lengths f_X5_15 hm (rf5_8 hm) ?_
      refine V_iload_n e_X5_become_85 rfl rfl ?_
      refine V_ialdv (v := σ (m + 2) i) (j := i) e_X5_become_86 (kd5_2 hm) rfl (by have q := ln5_2  hm; omega) (by rw [up2_ne (by omega)]; exact becA_m hd (by omega) (by omega) (by omega)) ?_
      refine V_iast (j := i) e_X5_become_87 (kd5_2 hn) rfl (by have q := ln5_2  hn; omega) ?_
      rw [show up2 (up2 (becA n m i 0 σ) (n + 1) i (σ (m + 1) i)) (n + 2) i (σ (m + 2) i) = becA n m (i + 1) 0 σ from becA_i hd (by omega)]
      refine V_iinc (v := nI (i + 1)) (L' := [some (.ref (eB E + n)), some (.ref (eB E + m)), some (.int (nI (i + 1)))]) e_X5_become_88 rfl (nI_add _ 1) rfl ?_
      refine V_goto (tgt := 58) e_X5_become_91 (by decide) ?_
      exact ih (6 - (i + 1)) (by omega) (i + 1) rfl (by omega)
set_option maxRecDepth 100000 in
set_option maxHeartbeats 4000000 in
theorem c_X5_become (E : En) (n m : Nat) (σ : Sg) (hn : kd n = 5) (hm : kd m = 5) (hd : n + 9 ≤ m ∨ m + 9 ≤ n) : Cn E m_X5_become 2 [.ref (eB E + n), .ref (eB E + m)] σ (pV (fun σ' => σ' = bec n m σ)) := by
  refine Cn.of [some (.ref (eB E + n)), some (.ref (eB E + m)), none] (by decide) (Nat.le_of_ble_eq_true rfl) rfl ?_
  refine V_aload_n e_X5_become_0 rfl rfl ?_
  refine V_aload_n e_X5_become_1 rfl rfl ?_
  refine V_geti e_X5_become_2 F_X5_dinner f_X5_41 hm ?_
  refine V_puti e_X5_become_5 F_X5_dinner f_X5_41 hn ?_
  refine V_aload_n e_X5_become_8 rfl rfl ?_
  refine V_aload_n e_X5_become_9 rfl rfl ?_
  refine V_getiv (v := σ m 1) e_X5_become_10 F_X5_toll f_X5_44 hm (by simp [up2, show ¬ m = n by omega]) ?_
  refine V_puti e_X5_become_13 F_X5_toll f_X5_44 hn ?_
  refine V_aload_n e_X5_become_16 rfl rfl ?_
  refine V_aload_n e_X5_become_17 rfl rfl ?_
  refine V_getiv (v := σ m 2) e_X5_become_18 F_X5_day f_X5_25 hm (by simp [up2, show ¬ m = n by omega]) ?_
  refine V_puti e_X5_become_21 F_X5_day f_X5_25 hn ?_
  refine V_aload_n e_X5_become_24 rfl rfl ?_
  refine V_aload_n e_X5_become_25 rfl rfl ?_
  refine V_getiv (v := σ m 3) e_X5_become_26 F_X5_gates f_X5_29 hm (by simp [up2, show ¬ m = n by omega]) ?_
  refine V_puti e_X5_become_29 F_X5_gates f_X5_29 hn ?_
  refine V_aload_n e_X5_become_32 rfl rfl ?_
  refine V_aload_n e_X5_become_33 rfl rfl ?_
  refine V_getiv (v := σ m 4) e_X5_become_34 F_X5_people f_X5_32 hm (by simp [up2, show ¬ m = n by omega]) ?_
  refine V_puti e_X5_become_37 F_X5_people f_X5_32 hn ?_
  refine V_aload_n e_X5_become_40 rfl rfl ?_
  refine V_aload_n e_X5_become_41 rfl rfl ?_
  refine V_getiv (v := σ m 5) e_X5_become_42 F_X5_facing f_X5_35 hm (by simp [up2, show ¬ m = n by omega]) ?_
  refine V_puti e_X5_become_45 F_X5_facing f_X5_35 hn ?_
  refine V_aload_n e_X5_become_48 rfl rfl ?_
  refine V_aload_n e_X5_become_49 rfl rfl ?_
  refine V_getiv (v := σ m 6) e_X5_become_50 F_X5_fallen f_X5_38 hm (by simp [up2, show ¬ m = n by omega]) ?_
  refine V_puti e_X5_become_53 F_X5_fallen f_X5_38 hn ?_
  rw [show up2 (up2 (up2 (up2 (up2 (up2 (up2 σ n 0 (σ m 0)) n 1 (σ m 1)) n 2 (σ m 2)) n 3 (σ m 3)) n 4 (σ m 4)) n 5 (σ m 5)) n 6 (σ m 6) = becA n m 0 0 σ from becA_0 hd]
  refine V_iconst (v := nI 0) e_X5_become_56 (by decide) ?_
  refine V_istore_n (L' := [some (.ref (eB E + n)), some (.ref (eB E + m)), some (.int (nI 0))]) e_X5_become_57 rfl rfl ?_
  exact lp_X5_become_a E n m σ hn hm hd 6 0 rfl (by omega)
set_option maxRecDepth 100000 in
set_option maxHeartbeats 4000000 in
theorem lp_X5_hungerOfAll (E : En) (n : Nat) (A : Vec) (σ : Sg) (hn : kd n = 5) (hR : RepC σ n A) (h5 : A 1 ≤ 5) : ∀ (mm : Nat) (p : Nat), A 1 - p = mm → (p ≤ A 1) → V E m_X5_hungerOfAll (kM E 2 (pI (fun σ' r => σ' = σ ∧ r = nI (sumN (fun m => A (30 + 6 * m)) (A 1))))) 4 [some (.ref (eB E + n)), some (.int (nI (sumN (fun m => A (30 + 6 * m)) p))), some (.int (nI p))] [] σ := by
  intro mm
  induction mm using Nat.strongRecOn with
  | ind mm ih =>
    intro p hmm hp
    refine V_iload_n e_X5_hungerOfAll_4 rfl rfl ?_
    refine V_aload_n e_X5_hungerOfAll_5 rfl rfl ?_
    refine V_getiv (v := nI (A 1)) e_X5_hungerOfAll_6 F_X5_people f_X5_32 hn hR.1.2.2.2.2.1 ?_
    refine V_icmp_ge (tgt := 30) e_X5_hungerOfAll_9 (by decide) (fun c1 => ?_) (fun c1 => ?_)
    · have d1 : A 1 ≤ p := nq_le (by omega) (by omega) c1
      refine V_iload_n e_X5_hungerOfAll_30 rfl rfl ?_
      exact V_iret e_X5_hungerOfAll_31 rfl (⟨rfl, by rw [show p = A 1 by omega]⟩)
    · have d1 : ¬ A 1 ≤ p := nq_nle (by omega) (by omega) c1
      refine V_iload_n e_X5_hungerOfAll_12 rfl rfl ?_
      refine V_aload_n e_X5_hungerOfAll_13 rfl rfl ?_
      refine V_getr (r := n + 3) e_X5_hungerOfAll_14 F_X5_walkers f_X5_20 hn (rf5_9 hn) ?_
      refine V_iload_n e_X5_hungerOfAll_17 rfl rfl ?_
      refine V_aald (j := p) (r := n + 4 + p) e_X5_hungerOfAll_18 (by rw [kd5_3 hn]; decide) (by rw [kd5_3 hn]; decide) rfl (by have q := ln5_3  hn; omega) (rf14 hn) ?_
      refine V_getiv (v := nI (A (30 + 6 * p))) e_X5_hungerOfAll_19 F_X7_hunger f_X5_67 (kd5_w hn (by have q := ln5_3  hn; omega)) ((hR.2 p (by omega)).1.2.2.2.2.2) ?_
      refine V_iaddN (z := nI (sumN (fun m => A (30 + 6 * m)) p + (A (30 + 6 * p)))) e_X5_hungerOfAll_22 (nI_add _ _) ?_
      refine V_istore_n (L' := [some (.ref (eB E + n)), some (.int (nI (sumN (fun m => A (30 + 6 * m)) p + (A (30 + 6 * p))))), some (.int (nI p))]) e_X5_hungerOfAll_23 rfl rfl ?_
      refine V_iinc (v := nI (p + 1)) (L' := [some (.ref (eB E + n)), some (.int (nI (sumN (fun m => A (30 + 6 * m)) p + (A (30 + 6 * p))))), some (.int (nI (p + 1)))]) e_X5_hungerOfAll_24 rfl (nI_add _ 1) rfl ?_
      refine V_goto (tgt := 4) e_X5_hungerOfAll_27 (by decide) ?_
      exact ih (A 1 - (p + 1)) (by omega) (p + 1) rfl (by omega)
set_option maxRecDepth 100000 in
set_option maxHeartbeats 4000000 in
theorem c_X5_hungerOfAll (E : En) (n : Nat) (A : Vec) (σ : Sg) (hn : kd n = 5) (hR : RepC σ n A) (h5 : A 1 ≤ 5) : Cn E m_X5_hungerOfAll 2 [.ref (eB E + n)] σ (pI (fun σ' r => σ' = σ ∧ r = nI (sumN (fun m => A (30 + 6 * m)) (A 1)))) := by
  refine Cn.of [some (.ref (eB E + n)), none, none] (by decide) (Nat.le_of_ble_eq_true rfl) rfl ?_
  refine V_iconst (v := nI 0) e_X5_hungerOfAll_0 (by decide) ?_
  refine V_istore_n (L' := [some (.ref (eB E + n)), some (.int (nI 0)), none]) e_X5_hungerOfAll_1 rfl rfl ?_
  refine V_iconst (v := nI 0) e_X5_hungerOfAll_2 (by decide) ?_
  refine V_istore_n (L' := [some (.ref (eB E + n)), some (.int (nI 0)), some (.int (nI 0))]) e_X5_hungerOfAll_3 rfl rfl ?_
  exact lp_X5_hungerOfAll E n A σ hn hR h5 (A 1) 0 rfl (by omega)
set_option maxRecDepth 100000 in
set_option maxHeartbeats 4000000 in
theorem lp_X5_fishOfAll (E : En) (n : Nat) (A : Vec) (σ : Sg) (hn : kd n = 5) (hR : RepC σ n A) (h5 : A 1 ≤ 5) : ∀ (mm : Nat) (p : Nat), A 1 - p = mm → (p ≤ A 1) → V E m_X5_fishOfAll (kM E 2 (pI (fun σ' r => σ' = σ ∧ r = nI (sumN (fun m => A (29 + 6 * m)) (A 1))))) 4 [some (.ref (eB E + n)), some (.int (nI (sumN (fun m => A (29 + 6 * m)) p))), some (.int (nI p))] [] σ := by
  intro mm
  induction mm using Nat.strongRecOn with
  | ind mm ih =>
    intro p hmm hp
    refine V_iload_n e_X5_fishOfAll_4 rfl rfl ?_
    refine V_aload_n e_X5_fishOfAll_5 rfl rfl ?_
    refine V_getiv (v := nI (A 1)) e_X5_fishOfAll_6 F_X5_people f_X5_32 hn hR.1.2.2.2.2.1 ?_
    refine V_icmp_ge (tgt := 30) e_X5_fishOfAll_9 (by decide) (fun c1 => ?_) (fun c1 => ?_)
    · have d1 : A 1 ≤ p := nq_le (by omega) (by omega) c1
      refine V_iload_n e_X5_fishOfAll_30 rfl rfl ?_
      exact V_iret e_X5_fishOfAll_31 rfl (⟨rfl, by rw [show p = A 1 by omega]⟩)
    · have d1 : ¬ A 1 ≤ p := nq_nle (by omega) (by omega) c1
      refine V_iload_n e_X5_fishOfAll_12 rfl rfl ?_
      refine V_aload_n e_X5_fishOfAll_13 rfl rfl ?_
      refine V_getr (r := n + 3) e_X5_fishOfAll_14 F_X5_walkers f_X5_20 hn (rf5_9 hn) ?_
      refine V_iload_n e_X5_fishOfAll_17 rfl rfl ?_
      refine V_aald (j := p) (r := n + 4 + p) e_X5_fishOfAll_18 (by rw [kd5_3 hn]; decide) (by rw [kd5_3 hn]; decide) rfl (by have q := ln5_3  hn; omega) (rf14 hn) ?_
      refine V_getiv (v := nI (A (29 + 6 * p))) e_X5_fishOfAll_19 F_X7_fish f_X5_64 (kd5_w hn (by have q := ln5_3  hn; omega)) ((hR.2 p (by omega)).1.2.2.2.2.1) ?_
      refine V_iaddN (z := nI (sumN (fun m => A (29 + 6 * m)) p + (A (29 + 6 * p)))) e_X5_fishOfAll_22 (nI_add _ _) ?_
      refine V_istore_n (L' := [some (.ref (eB E + n)), some (.int (nI (sumN (fun m => A (29 + 6 * m)) p + (A (29 + 6 * p))))), some (.int (nI p))]) e_X5_fishOfAll_23 rfl rfl ?_
      refine V_iinc (v := nI (p + 1)) (L' := [some (.ref (eB E + n)), some (.int (nI (sumN (fun m => A (29 + 6 * m)) p + (A (29 + 6 * p))))), some (.int (nI (p + 1)))]) e_X5_fishOfAll_24 rfl (nI_add _ 1) rfl ?_
      refine V_goto (tgt := 4) e_X5_fishOfAll_27 (by decide) ?_
      exact ih (A 1 - (p + 1)) (by omega) (p + 1) rfl (by omega)
set_option maxRecDepth 100000 in
set_option maxHeartbeats 4000000 in
theorem c_X5_fishOfAll (E : En) (n : Nat) (A : Vec) (σ : Sg) (hn : kd n = 5) (hR : RepC σ n A) (h5 : A 1 ≤ 5) : Cn E m_X5_fishOfAll 2 [.ref (eB E + n)] σ (pI (fun σ' r => σ' = σ ∧ r = nI (sumN (fun m => A (29 + 6 * m)) (A 1)))) := by
  refine Cn.of [some (.ref (eB E + n)), none, none] (by decide) (Nat.le_of_ble_eq_true rfl) rfl ?_
  refine V_iconst (v := nI 0) e_X5_fishOfAll_0 (by decide) ?_
  refine V_istore_n (L' := [some (.ref (eB E + n)), some (.int (nI 0)), none]) e_X5_fishOfAll_1 rfl rfl ?_
  refine V_iconst (v := nI 0) e_X5_fishOfAll_2 (by decide) ?_
  refine V_istore_n (L' := [some (.ref (eB E + n)), some (.int (nI 0)), some (.int (nI 0))]) e_X5_fishOfAll_3 rfl rfl ?_
  exact lp_X5_fishOfAll E n A σ hn hR h5 (A 1) 0 rfl (by omega)
set_option maxRecDepth 100000 in
set_option maxHeartbeats 4000000 in
theorem lp_X5_whoStays (E : En) (n : Nat) (A : Vec) (σ : Sg) (hn : kd n = 5) (hR : RepC σ n A) (h5 : A 1 ≤ 5) : ∀ (mm : Nat) (p : Nat), A 1 - p = mm → (p ≤ A 1) → V E m_X5_whoStays (kM E 2 (pI (fun σ' r => σ' = σ ∧ r = nI (mkN (stayF A) (A 1))))) 4 [some (.ref (eB E + n)), some (.int (nI (mkN (stayF A) p))), some (.int (nI p))] [] σ := by
  intro mm
  induction mm using Nat.strongRecOn with
  | ind mm ih =>
    intro p hmm hp
    refine V_iload_n e_X5_whoStays_4 rfl rfl ?_
    refine V_aload_n e_X5_whoStays_5 rfl rfl ?_
    refine V_getiv (v := nI (A 1)) e_X5_whoStays_6 F_X5_people f_X5_32 hn hR.1.2.2.2.2.1 ?_
    refine V_icmp_ge (tgt := 40) e_X5_whoStays_9 (by decide) (fun c1 => ?_) (fun c1 => ?_)
    · have d1 : A 1 ≤ p := nq_le (by first | omega | (have hb9 := bitN_le (A 6) p; omega)) (by first | omega | (have hb9 := bitN_le (A 6) p; omega)) c1
      refine V_iload_n e_X5_whoStays_40 rfl rfl ?_
      exact V_iret e_X5_whoStays_41 rfl (⟨rfl, by rw [show p = A 1 by omega]⟩)
    · have d1 : ¬ A 1 ≤ p := nq_nle (by first | omega | (have hb9 := bitN_le (A 6) p; omega)) (by first | omega | (have hb9 := bitN_le (A 6) p; omega)) c1
      refine V_iload_n e_X5_whoStays_12 rfl rfl ?_
      refine V_aload_n e_X5_whoStays_13 rfl rfl ?_
      refine V_getr (r := n + 3) e_X5_whoStays_14 F_X5_walkers f_X5_20 hn (rf5_9 hn) ?_
      refine V_iload_n e_X5_whoStays_17 rfl rfl ?_
      refine V_aald (j := p) (r := n + 4 + p) e_X5_whoStays_18 (by rw [kd5_3 hn]; decide) (by rw [kd5_3 hn]; decide) rfl (by have q := ln5_3  hn; omega) (rf14 hn) ?_
      refine V_getiv (v := nI (bitN (A 6) p)) e_X5_whoStays_19 F_X7_stays f_X5_74 (kd5_w hn (by have q := ln5_3  hn; omega)) ((hR.2 p (by omega)).2) ?_
      refine V_if_eq (tgt := 31) e_X5_whoStays_22 (by decide) (fun c2 => ?_) (fun c2 => ?_)
      · have d2 : bitN (A 6) p = 0 := nq_eq (by first | omega | (have hb9 := bitN_le (A 6) p; omega)) (by first | omega | (have hb9 := bitN_le (A 6) p; omega)) c2
        refine V_iconst (v := nI 0) e_X5_whoStays_31 (by decide) ?_
        refine V_iorN (z := nI ((mkN (stayF A) p) ||| 0)) e_X5_whoStays_32 (lorI _ _) ?_
        refine V_istore_n (L' := [some (.ref (eB E + n)), some (.int (nI ((mkN (stayF A) p) ||| 0))), some (.int (nI p))]) e_X5_whoStays_33 rfl rfl ?_
        refine V_iinc (v := nI (p + 1)) (L' := [some (.ref (eB E + n)), some (.int (nI ((mkN (stayF A) p) ||| 0))), some (.int (nI (p + 1)))]) e_X5_whoStays_34 rfl (nI_add _ 1) rfl ?_
        refine V_goto (tgt := 4) e_X5_whoStays_37 (by decide) ?_
        rw [show (mkN (stayF A) p) ||| 0 = mkN (stayF A) (p + 1) from (by rw [mkN, stayF]; first | rw [if_pos d2] | rw [if_neg d2])]; exact ih (A 1 - (p + 1)) (by omega) (p + 1) rfl (by omega)
      · have d2 : ¬ bitN (A 6) p = 0 := nq_ne (by first | omega | (have hb9 := bitN_le (A 6) p; omega)) (by first | omega | (have hb9 := bitN_le (A 6) p; omega)) c2
        refine V_iconst (v := nI 1) e_X5_whoStays_25 (by decide) ?_
        refine V_iload_n e_X5_whoStays_26 rfl rfl ?_
        refine V_ishlN (z := nI (2 ^ p)) e_X5_whoStays_27 (shl1 (by omega)) ?_
        refine V_goto (tgt := 32) e_X5_whoStays_28 (by decide) ?_
        refine V_iorN (z := nI ((mkN (stayF A) p) ||| (2 ^ p))) e_X5_whoStays_32 (lorI _ _) ?_
        refine V_istore_n (L' := [some (.ref (eB E + n)), some (.int (nI ((mkN (stayF A) p) ||| (2 ^ p)))), some (.int (nI p))]) e_X5_whoStays_33 rfl rfl ?_
        refine V_iinc (v := nI (p + 1)) (L' := [some (.ref (eB E + n)), some (.int (nI ((mkN (stayF A) p) ||| (2 ^ p)))), some (.int (nI (p + 1)))]) e_X5_whoStays_34 rfl (nI_add _ 1) rfl ?_
        refine V_goto (tgt := 4) e_X5_whoStays_37 (by decide) ?_
        rw [show (mkN (stayF A) p) ||| (2 ^ p) = mkN (stayF A) (p + 1) from (by rw [mkN, stayF]; first | rw [if_pos d2] | rw [if_neg d2])]; exact ih (A 1 - (p + 1)) (by omega) (p + 1) rfl (by omega)
set_option maxRecDepth 100000 in
set_option maxHeartbeats 4000000 in
theorem c_X5_whoStays (E : En) (n : Nat) (A : Vec) (σ : Sg) (hn : kd n = 5) (hR : RepC σ n A) (h5 : A 1 ≤ 5) : Cn E m_X5_whoStays 2 [.ref (eB E + n)] σ (pI (fun σ' r => σ' = σ ∧ r = nI (mkN (stayF A) (A 1)))) := by
  refine Cn.of [some (.ref (eB E + n)), none, none] (by decide) (Nat.le_of_ble_eq_true rfl) rfl ?_
  refine V_iconst (v := nI 0) e_X5_whoStays_0 (by decide) ?_
  refine V_istore_n (L' := [some (.ref (eB E + n)), some (.int (nI 0)), none]) e_X5_whoStays_1 rfl rfl ?_
  refine V_iconst (v := nI 0) e_X5_whoStays_2 (by decide) ?_
  refine V_istore_n (L' := [some (.ref (eB E + n)), some (.int (nI 0)), some (.int (nI 0))]) e_X5_whoStays_3 rfl rfl ?_
  exact lp_X5_whoStays E n A σ hn hR h5 (A 1) 0 rfl (by omega)

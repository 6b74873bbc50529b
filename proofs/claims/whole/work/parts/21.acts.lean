def actK (O S : Nat) (σ : Sg) : Sg := if S < 24 then up2 (bec (25 + 9 * ((O + S) % 24)) 4 σ) 23 2 (nI (S + 1)) else up2 (bec (25 + 9 * ((O + S) % 24)) 4 σ) 23 1 (nI ((O + 1) % 24))
set_option maxRecDepth 100000 in
set_option maxHeartbeats 4000000 in
theorem c_X0_keep (E : En) (O S : Nat) (σ : Sg) (h1 : σ 23 1 = nI O) (h2 : σ 23 2 = nI S) (hO : O < 24) (hS : S ≤ 24) : Cn E m_X0_keep 3 [.ref (eB E + 23), .ref (eB E + 4)] σ (pV (fun σ' => σ' = actK O S σ)) := by
  refine Cn.of [some (.ref (eB E + 23)), some (.ref (eB E + 4))] (by decide) (Nat.le_of_ble_eq_true rfl) rfl ?_
  refine V_aload_n e_X0_keep_0 rfl rfl ?_
  refine V_getr (r := 24) e_X0_keep_1 F_X0_kept f_X0_11 rfl rfl ?_
  refine V_aload_n e_X0_keep_4 rfl rfl ?_
  refine V_getiv (v := nI O) e_X0_keep_5 F_X0_oldest f_X0_18 rfl h1 ?_
  refine V_aload_n e_X0_keep_8 rfl rfl ?_
  refine V_getiv (v := nI S) e_X0_keep_9 F_X0_size f_X0_22 rfl h2 ?_
  refine V_iaddN (z := nI (O + S)) e_X0_keep_12 (nI_add _ _) ?_
  refine V_bipush (v := nI 24) e_X0_keep_13 (by decide) ?_
  refine V_iremN (z := nI ((O + S) % 24)) e_X0_keep_15 (nI_ne0 (by omega) (by omega)) (pk_rem (by omega) (by omega) (by omega)) ?_
  refine V_aald (j := ((O + S) % 24)) (r := 25 + (9 * ((O + S) % 24))) e_X0_keep_16 (by decide) (by decide) rfl (by have q : ln 24 = 24 := rfl; have := Nat.mod_lt (O + S) (show 24 > 0 by decide); omega) rfl ?_
  refine V_aload_n e_X0_keep_17 rfl rfl ?_
  refine V_cvVe (av := [.ref (eB E + 4)]) (st := []) e_X0_keep_18 (c_X5_become E (25 + (9 * ((O + S) % 24))) 4 σ (kd_kept ((O + S) % 24) (by have q : ln 24 = 24 := rfl; have := Nat.mod_lt (O + S) (show 24 > 0 by decide); omega)) rfl (by omega)) l_X0_25 S_X5_become (kd_kept ((O + S) % 24) (by have q : ln 24 = 24 := rfl; have := Nat.mod_lt (O + S) (show 24 > 0 by decide); omega)) (rm_ok (by decide) (by decide)) rfl rfl (Nat.le_of_ble_eq_true rfl) ?_
  refine V_aload_n e_X0_keep_21 rfl rfl ?_
  refine V_getiv (v := nI S) e_X0_keep_22 F_X0_size f_X0_22 rfl ((bec_fb 23 2 (by omega)).trans h2) ?_
  refine V_bipush (v := nI 24) e_X0_keep_25 (by decide) ?_
  refine V_icmp_ge (tgt := 43) e_X0_keep_27 (by decide) (fun c1 => ?_) (fun c1 => ?_)
  · have d1 : 24 ≤ S := nq_le (by omega) (by omega) c1
    refine V_aload_n e_X0_keep_43 rfl rfl ?_
    refine V_aload_n e_X0_keep_44 rfl rfl ?_
    refine V_getiv (v := nI O) e_X0_keep_45 F_X0_oldest f_X0_18 rfl ((bec_fb 23 1 (by omega)).trans h1) ?_
    refine V_iconst (v := nI 1) e_X0_keep_48 (by decide) ?_
    refine V_iaddN (z := nI (O + 1)) e_X0_keep_49 (nI_add _ _) ?_
    refine V_bipush (v := nI 24) e_X0_keep_50 (by decide) ?_
    refine V_iremN (z := nI ((O + 1) % 24)) e_X0_keep_52 (nI_ne0 (by omega) (by omega)) (pk_rem (by omega) (by omega) (by omega)) ?_
    refine V_puti e_X0_keep_53 F_X0_oldest f_X0_18 rfl ?_
    exact V_vret e_X0_keep_56 rfl (by unfold actK; (first | rw [if_pos (show S < 24 by omega)] | rw [if_neg (show ¬ S < 24 by omega)]))
  · have d1 : ¬ 24 ≤ S := nq_nle (by omega) (by omega) c1
    refine V_aload_n e_X0_keep_30 rfl rfl ?_
    refine V_dup e_X0_keep_31 rfl ?_
    refine V_getiv (v := nI S) e_X0_keep_32 F_X0_size f_X0_22 rfl ((bec_fb 23 2 (by omega)).trans h2) ?_
    refine V_iconst (v := nI 1) e_X0_keep_35 (by decide) ?_
    refine V_iaddN (z := nI (S + 1)) e_X0_keep_36 (nI_add _ _) ?_
    refine V_puti e_X0_keep_37 F_X0_size f_X0_22 rfl ?_
    refine V_goto (tgt := 56) e_X0_keep_40 (by decide) ?_
    exact V_vret e_X0_keep_56 rfl (by unfold actK; (first | rw [if_pos (show S < 24 by omega)] | rw [if_neg (show ¬ S < 24 by omega)]))
set_option maxRecDepth 100000 in
set_option maxHeartbeats 4000000 in
theorem c_X0_takeBack (E : En) (O S : Nat) (σ : Sg) (h1 : σ 23 1 = nI O) (h2 : σ 23 2 = nI S) (hO : O < 24) (hS : S ≤ 24) (hS0 : 0 < S) : Cn E m_X0_takeBack 3 [.ref (eB E + 23), .ref (eB E + 4)] σ (pI (fun σ' r => σ' = bec 4 (25 + 9 * ((O + (S - 1)) % 24)) (up2 σ 23 2 (nI (S - 1))) ∧ r = nI 1)) := by
  refine Cn.of [some (.ref (eB E + 23)), some (.ref (eB E + 4))] (by decide) (Nat.le_of_ble_eq_true rfl) rfl ?_
  refine V_aload_n e_X0_takeBack_0 rfl rfl ?_
  refine V_getiv (v := nI S) e_X0_takeBack_1 F_X0_size f_X0_22 rfl h2 ?_
  refine V_if_ne (tgt := 9) e_X0_takeBack_4 (by decide) (fun c1 => ?_) (fun c1 => ((by have := nq_eq (b := 0) (show S < 2 ^ 31 by omega) (by omega) c1; omega : False)).elim)
  refine V_aload_n e_X0_takeBack_9 rfl rfl ?_
  refine V_dup e_X0_takeBack_10 rfl ?_
  refine V_getiv (v := nI S) e_X0_takeBack_11 F_X0_size f_X0_22 rfl h2 ?_
  refine V_iconst (v := nI 1) e_X0_takeBack_14 (by decide) ?_
  refine V_isubN (z := nI (S - 1)) e_X0_takeBack_15 (pk_sub (by omega)) ?_
  refine V_puti e_X0_takeBack_16 F_X0_size f_X0_22 rfl ?_
  refine V_aload_n e_X0_takeBack_19 rfl rfl ?_
  refine V_aload_n e_X0_takeBack_20 rfl rfl ?_
  refine V_getr (r := 24) e_X0_takeBack_21 F_X0_kept f_X0_11 rfl rfl ?_
  refine V_aload_n e_X0_takeBack_24 rfl rfl ?_
  refine V_getiv (v := nI O) e_X0_takeBack_25 F_X0_oldest f_X0_18 rfl (by simp [up2, h1]) ?_
  refine V_aload_n e_X0_takeBack_28 rfl rfl ?_
  refine V_getiv (v := nI (S - 1)) e_X0_takeBack_29 F_X0_size f_X0_22 rfl (by simp [up2]) ?_
  refine V_iaddN (z := nI (O + (S - 1))) e_X0_takeBack_32 (nI_add _ _) ?_
  refine V_bipush (v := nI 24) e_X0_takeBack_33 (by decide) ?_
  refine V_iremN (z := nI ((O + (S - 1)) % 24)) e_X0_takeBack_35 (nI_ne0 (by omega) (by omega)) (pk_rem (by omega) (by omega) (by omega)) ?_
  refine V_aald (j := ((O + (S - 1)) % 24)) (r := 25 + (9 * ((O + (S - 1)) % 24))) e_X0_takeBack_36 (by decide) (by decide) rfl (by have q : ln 24 = 24 := rfl; have := Nat.mod_lt (O + (S - 1)) (show 24 > 0 by decide); omega) rfl ?_
  refine V_cvVe (av := [.ref (eB E + (25 + (9 * ((O + (S - 1)) % 24))))]) (st := []) e_X0_takeBack_37 (c_X5_become E 4 (25 + (9 * ((O + (S - 1)) % 24))) (up2 σ 23 2 (nI (S - 1))) rfl (kd_kept ((O + (S - 1)) % 24) (by have q : ln 24 = 24 := rfl; have := Nat.mod_lt (O + (S - 1)) (show 24 > 0 by decide); omega)) (by omega)) l_X0_25 S_X5_become rfl (rm_ok (by decide) (by decide)) rfl rfl (Nat.le_of_ble_eq_true rfl) ?_
  refine V_iconst (v := nI 1) e_X0_takeBack_40 (by decide) ?_
  exact V_zret e_X0_takeBack_41 rfl (by first | exact Or.inl nI_0 | exact Or.inr rfl | assumption) (⟨rfl, rfl⟩)
set_option maxRecDepth 100000 in
set_option maxHeartbeats 4000000 in
theorem c_X0_takeBack_0 (E : En) (σ : Sg) (h2 : σ 23 2 = nI 0) : Cn E m_X0_takeBack 3 [.ref (eB E + 23), .ref (eB E + 4)] σ (pI (fun σ' r => σ' = σ ∧ r = nI 0)) := by
  refine Cn.of [some (.ref (eB E + 23)), some (.ref (eB E + 4))] (by decide) (Nat.le_of_ble_eq_true rfl) rfl ?_
  refine V_aload_n e_X0_takeBack_0 rfl rfl ?_
  refine V_getiv (v := nI 0) e_X0_takeBack_1 F_X0_size f_X0_22 rfl h2 ?_
  refine V_if_ne (tgt := 9) e_X0_takeBack_4 (by decide) (fun c1 => absurd c1 (by decide)) (fun c1 => ?_)
  refine V_iconst (v := nI 0) e_X0_takeBack_7 (by decide) ?_
  exact V_zret e_X0_takeBack_8 rfl (by first | exact Or.inl nI_0 | exact Or.inr rfl | assumption) (⟨rfl, rfl⟩)
set_option maxRecDepth 100000 in
set_option maxHeartbeats 4000000 in
theorem c_X0_forgetAll (E : En) (σ : Sg) : Cn E m_X0_forgetAll 1 [.ref (eB E + 23)] σ (pV (fun σ' => σ' = up2 σ 23 2 (nI 0))) := by
  refine Cn.of [some (.ref (eB E + 23))] (by decide) (Nat.le_of_ble_eq_true rfl) rfl ?_
  refine V_aload_n e_X0_forgetAll_0 rfl rfl ?_
  refine V_iconst (v := nI 0) e_X0_forgetAll_1 (by decide) ?_
  refine V_puti e_X0_forgetAll_2 F_X0_size f_X0_22 rfl ?_
  exact V_vret e_X0_forgetAll_5 rfl (rfl)
def tr1 (t b : Nat) (σ : Sg) : Sg := up2 (up2 σ 257 t (nI b)) 256 1 (nI (t + 1))
def trL (t : Nat) : List Nat → Sg → Sg
  | [], σ => σ
  | b :: bs, σ => trL (t + 1) bs (tr1 t b σ)
theorem trL_fb {t : Nat} : ∀ (l : List Nat) (t : Nat) (σ : Sg), Fb 256 258 σ (trL t l σ)
  | [], _, _ => Fb.rf
  | b :: bs, t, σ => by
    have h1 : Fb 256 258 σ (tr1 t b σ) := (Fb.rf.up (by omega) (by omega)).up (by omega) (by omega)
    exact h1.tr (trL_fb (t := t) bs (t + 1) (tr1 t b σ))
theorem tr1_sz {t b : Nat} {σ : Sg} : tr1 t b σ 256 1 = nI (t + 1) := by unfold tr1; rw [up2_at]
theorem trL1_sz {t b : Nat} {σ : Sg} : trL t [b] σ 256 1 = nI (t + 1) := tr1_sz (t := t) (b := b) (σ := σ)
theorem RepC.tr {n t : Nat} {l : List Nat} {σ : Sg} {A : Vec} (h5 : A 1 ≤ 5) (h : RepC σ n A) (hn : n + 9 ≤ 256) : RepC (trL t l σ) n A := h.fb h5 (trL_fb (t := 0) l t σ) (Or.inr hn)
theorem mkN_lt {f : Nat → Nat} {G : Nat} : ∀ n, n ≤ G → (∀ m, m < n → f m < 2 ^ G) → mkN f n < 2 ^ G
  | 0, _, _ => Nat.two_pow_pos G
  | n + 1, h, hf => or2 (mkN_lt n (by omega) (fun m hm => hf m (by omega))) (hf n (by omega))
theorem mk_ofF {A : Vec} {g : Nat} (h5 : A 1 ≤ 5) : mkN (ofF A g) (A 1) < 64 := by
  refine Nat.lt_of_lt_of_le (mkN_lt (G := 5) (A 1) h5 (fun m hm => ?_)) (by decide)
  have h1 := bitN_le (A (27 + 6 * m)) g
  have h2 : 2 ^ m * 2 ≤ 2 ^ 5 := pow_le6 (by omega)
  have h3 : bitN (A (27 + 6 * m)) g * 2 ^ m ≤ 1 * 2 ^ m := Nat.mul_le_mul_right _ h1
  have h4 := Nat.two_pow_pos m
  unfold ofF
  omega
set_option maxRecDepth 100000 in
set_option maxHeartbeats 4000000 in
theorem c_X1_leaveTrace (E : En) (t b : Nat) (σ : Sg) (ht : σ 256 1 = nI t) (h16 : t < 16) : Cn E m_X1_leaveTrace 1 [.ref (eB E + 256), .int (nI b)] σ (pV (fun σ' => σ' = tr1 t b σ)) := by
  refine Cn.of [some (.ref (eB E + 256)), some (.int (nI b))] (by decide) (Nat.le_of_ble_eq_true rfl) rfl ?_
  refine V_aload_n e_X1_leaveTrace_0 rfl rfl ?_
  refine V_getiv (v := nI t) e_X1_leaveTrace_1 F_X1_traceSize f_X1_26 rfl ht ?_
  refine V_bipush (v := nI 16) e_X1_leaveTrace_4 (by decide) ?_
  refine V_icmp_ge (tgt := 29) e_X1_leaveTrace_6 (by decide) (fun c1 => ((by have := nq_le (by omega) (show t < 2 ^ 31 by omega) c1; omega : False)).elim) (fun c1 => ?_)
  refine V_aload_n e_X1_leaveTrace_9 rfl rfl ?_
  refine V_getr (r := 257) e_X1_leaveTrace_10 F_X1_traced f_X1_9 rfl rfl ?_
  refine V_aload_n e_X1_leaveTrace_13 rfl rfl ?_
  refine V_getiv (v := nI t) e_X1_leaveTrace_14 F_X1_traceSize f_X1_26 rfl ht ?_
  refine V_iload_n e_X1_leaveTrace_17 rfl rfl ?_
  refine V_iast (j := t) e_X1_leaveTrace_18 rfl rfl (by have q : ln 257 = 16 := rfl; omega) ?_
  refine V_aload_n e_X1_leaveTrace_19 rfl rfl ?_
  refine V_dup e_X1_leaveTrace_20 rfl ?_
  refine V_getiv (v := nI t) e_X1_leaveTrace_21 F_X1_traceSize f_X1_26 rfl (by simp [up2, ht]) ?_
  refine V_iconst (v := nI 1) e_X1_leaveTrace_24 (by decide) ?_
  refine V_iaddN (z := nI (t + 1)) e_X1_leaveTrace_25 (nI_add _ _) ?_
  refine V_puti e_X1_leaveTrace_26 F_X1_traceSize f_X1_26 rfl ?_
  exact V_vret e_X1_leaveTrace_29 rfl (rfl)
set_option maxRecDepth 100000 in
set_option maxHeartbeats 4000000 in
theorem c_X1_runBody_10 (E : En) (t g dp : Nat) (A : Vec) (σ : Sg) (hR : RepC σ 4 A) (hF : WF A) (hg : g < A 0) (ht : σ 256 1 = nI t) (ht9 : t + 1 ≤ 16) (hd : dp + 0 ≤ 12) : Cn E m_X1_runBody 6 [.ref (eB E + 256), .ref (eB E + 4), .int (nI g), .int (nI 10), .int (nI dp)] σ (pI (fun σ' r => σ' = trL t [10] σ ∧ r = nI (A (8 + 3 * g)))) := by
  have h5 := hF.2.2.1
  obtain ⟨hG2, hG6, hA5, hA5p, h2a, h2b, h3a, h3b, hgs⟩ := id hF.1
  refine Cn.of [some (.ref (eB E + 256)), some (.ref (eB E + 4)), some (.int (nI g)), some (.int (nI 10)), some (.int (nI dp)), none, none] (by decide) (Nat.le_of_ble_eq_true rfl) rfl ?_
  refine V_iload e_X1_runBody_0 rfl ?_
  refine V_bipush (v := nI 12) e_X1_runBody_2 (by decide) ?_
  refine V_icmp_le (tgt := 9) e_X1_runBody_4 (by decide) (fun c1 => ?_) (fun c1 => ((by have := c1; exact this (nI_le (by omega) (by omega)) : False)).elim)
  refine V_aload_n e_X1_runBody_9 rfl rfl ?_
  refine V_iload_n e_X1_runBody_10 rfl rfl ?_
  refine V_cvV (av := [.int (nI 10)]) (st := []) e_X1_runBody_11 (c_X1_leaveTrace E t 10 σ ht (by omega)) l_X1_45 S_X1_leaveTrace rfl (rm_ok (by decide) (by decide)) rfl rfl (Nat.le_of_ble_eq_true rfl) ?_
  intro τ hτ
  rw [show τ = trL t [10] σ from hτ]
  clear hτ
  have hR1 : RepC (trL t [10] σ) 4 A := hR.tr h5 (by omega)
  refine V_iload e_X1_runBody_14 rfl ?_
  refine V_iconst (v := nI 1) e_X1_runBody_16 (by decide) ?_
  refine V_iaddN (z := nI (dp + 1)) e_X1_runBody_17 (nI_add _ _) ?_
  refine V_istore (L' := [some (.ref (eB E + 256)), some (.ref (eB E + 4)), some (.int (nI g)), some (.int (nI 10)), some (.int (nI dp)), some (.int (nI (dp + 1))), none]) e_X1_runBody_18 rfl ?_
  refine V_aload_n e_X1_runBody_20 rfl rfl ?_
  refine V_getr (r := 5) e_X1_runBody_21 F_X5_sorts f_X1_30 rfl rfl ?_
  refine V_iload_n e_X1_runBody_24 rfl rfl ?_
  refine V_ialdv (v := nI (A (7 + 3 * g))) (j := g) e_X1_runBody_25 rfl rfl (by have q : ln 5 = 6 := rfl; omega) ((hR1.1.2.2.2.2.2.2.2 g hg).1) ?_
  refine V_istore (L' := [some (.ref (eB E + 256)), some (.ref (eB E + 4)), some (.int (nI g)), some (.int (nI 10)), some (.int (nI dp)), some (.int (nI (dp + 1))), some (.int (nI (A (7 + 3 * g))))]) e_X1_runBody_26 rfl ?_
  refine V_iload_n e_X1_runBody_28 rfl rfl ?_
  refine V_tab (j := 10) (tgt := 104) e_X1_runBody_29 rfl (by decide) (by decide +kernel) ?_
  refine V_aload_n e_X1_runBody_104 rfl rfl ?_
  refine V_getr (r := 6) e_X1_runBody_105 F_X5_lengths f_X1_49 rfl rfl ?_
  refine V_iload_n e_X1_runBody_108 rfl rfl ?_
  refine V_ialdv (v := nI (A (8 + 3 * g))) (j := g) e_X1_runBody_109 rfl rfl (by have q : ln 6 = 6 := rfl; omega) ((hR1.1.2.2.2.2.2.2.2 g hg).2) ?_
  exact V_iret e_X1_runBody_110 rfl (⟨rfl, by first | rfl | (rw [nI_add])⟩)
set_option maxRecDepth 100000 in
set_option maxHeartbeats 4000000 in
theorem c_X1_runBody_20 (E : En) (t g dp : Nat) (A : Vec) (σ : Sg) (hR : RepC σ 4 A) (hF : WF A) (hg : g < A 0) (ht : σ 256 1 = nI t) (ht9 : t + 1 ≤ 16) (hd : dp + 0 ≤ 12) : Cn E m_X1_runBody 6 [.ref (eB E + 256), .ref (eB E + 4), .int (nI g), .int (nI 20), .int (nI dp)] σ (pI (fun σ' r => σ' = trL t [20] σ ∧ r = nI g)) := by
  have h5 := hF.2.2.1
  obtain ⟨hG2, hG6, hA5, hA5p, h2a, h2b, h3a, h3b, hgs⟩ := id hF.1
  refine Cn.of [some (.ref (eB E + 256)), some (.ref (eB E + 4)), some (.int (nI g)), some (.int (nI 20)), some (.int (nI dp)), none, none] (by decide) (Nat.le_of_ble_eq_true rfl) rfl ?_
  refine V_iload e_X1_runBody_0 rfl ?_
  refine V_bipush (v := nI 12) e_X1_runBody_2 (by decide) ?_
  refine V_icmp_le (tgt := 9) e_X1_runBody_4 (by decide) (fun c1 => ?_) (fun c1 => ((by have := c1; exact this (nI_le (by omega) (by omega)) : False)).elim)
  refine V_aload_n e_X1_runBody_9 rfl rfl ?_
  refine V_iload_n e_X1_runBody_10 rfl rfl ?_
  refine V_cvV (av := [.int (nI 20)]) (st := []) e_X1_runBody_11 (c_X1_leaveTrace E t 20 σ ht (by omega)) l_X1_45 S_X1_leaveTrace rfl (rm_ok (by decide) (by decide)) rfl rfl (Nat.le_of_ble_eq_true rfl) ?_
  intro τ hτ
  rw [show τ = trL t [20] σ from hτ]
  clear hτ
  have hR1 : RepC (trL t [20] σ) 4 A := hR.tr h5 (by omega)
  refine V_iload e_X1_runBody_14 rfl ?_
  refine V_iconst (v := nI 1) e_X1_runBody_16 (by decide) ?_
  refine V_iaddN (z := nI (dp + 1)) e_X1_runBody_17 (nI_add _ _) ?_
  refine V_istore (L' := [some (.ref (eB E + 256)), some (.ref (eB E + 4)), some (.int (nI g)), some (.int (nI 20)), some (.int (nI dp)), some (.int (nI (dp + 1))), none]) e_X1_runBody_18 rfl ?_
  refine V_aload_n e_X1_runBody_20 rfl rfl ?_
  refine V_getr (r := 5) e_X1_runBody_21 F_X5_sorts f_X1_30 rfl rfl ?_
  refine V_iload_n e_X1_runBody_24 rfl rfl ?_
  refine V_ialdv (v := nI (A (7 + 3 * g))) (j := g) e_X1_runBody_25 rfl rfl (by have q : ln 5 = 6 := rfl; omega) ((hR1.1.2.2.2.2.2.2.2 g hg).1) ?_
  refine V_istore (L' := [some (.ref (eB E + 256)), some (.ref (eB E + 4)), some (.int (nI g)), some (.int (nI 20)), some (.int (nI dp)), some (.int (nI (dp + 1))), some (.int (nI (A (7 + 3 * g))))]) e_X1_runBody_26 rfl ?_
  refine V_iload_n e_X1_runBody_28 rfl rfl ?_
  refine V_tab (j := 20) (tgt := 176) e_X1_runBody_29 rfl (by decide) (by decide +kernel) ?_
  refine V_iload_n e_X1_runBody_176 rfl rfl ?_
  exact V_iret e_X1_runBody_177 rfl (⟨rfl, by first | rfl | (rw [nI_add])⟩)
set_option maxRecDepth 100000 in
set_option maxHeartbeats 4000000 in
theorem c_X1_runBody_21 (E : En) (t g dp : Nat) (A : Vec) (σ : Sg) (hR : RepC σ 4 A) (hF : WF A) (hg : g < A 0) (ht : σ 256 1 = nI t) (ht9 : t + 2 ≤ 16) (hd : dp + 1 ≤ 12) : Cn E m_X1_runBody 7 [.ref (eB E + 256), .ref (eB E + 4), .int (nI g), .int (nI 21), .int (nI dp)] σ (pI (fun σ' r => σ' = trL t [21, 20] σ ∧ r = nI g + nI (cntN (mkN (ofF A g) (A 1))))) := by
  have h5 := hF.2.2.1
  obtain ⟨hG2, hG6, hA5, hA5p, h2a, h2b, h3a, h3b, hgs⟩ := id hF.1
  refine Cn.of [some (.ref (eB E + 256)), some (.ref (eB E + 4)), some (.int (nI g)), some (.int (nI 21)), some (.int (nI dp)), none, none] (by decide) (Nat.le_of_ble_eq_true rfl) rfl ?_
  refine V_iload e_X1_runBody_0 rfl ?_
  refine V_bipush (v := nI 12) e_X1_runBody_2 (by decide) ?_
  refine V_icmp_le (tgt := 9) e_X1_runBody_4 (by decide) (fun c1 => ?_) (fun c1 => ((by have := c1; exact this (nI_le (by omega) (by omega)) : False)).elim)
  refine V_aload_n e_X1_runBody_9 rfl rfl ?_
  refine V_iload_n e_X1_runBody_10 rfl rfl ?_
  refine V_cvV (av := [.int (nI 21)]) (st := []) e_X1_runBody_11 (c_X1_leaveTrace E t 21 σ ht (by omega)) l_X1_45 S_X1_leaveTrace rfl (rm_ok (by decide) (by decide)) rfl rfl (Nat.le_of_ble_eq_true rfl) ?_
  intro τ hτ
  rw [show τ = trL t [21] σ from hτ]
  clear hτ
  have hR1 : RepC (trL t [21] σ) 4 A := hR.tr h5 (by omega)
  refine V_iload e_X1_runBody_14 rfl ?_
  refine V_iconst (v := nI 1) e_X1_runBody_16 (by decide) ?_
  refine V_iaddN (z := nI (dp + 1)) e_X1_runBody_17 (nI_add _ _) ?_
  refine V_istore (L' := [some (.ref (eB E + 256)), some (.ref (eB E + 4)), some (.int (nI g)), some (.int (nI 21)), some (.int (nI dp)), some (.int (nI (dp + 1))), none]) e_X1_runBody_18 rfl ?_
  refine V_aload_n e_X1_runBody_20 rfl rfl ?_
  refine V_getr (r := 5) e_X1_runBody_21 F_X5_sorts f_X1_30 rfl rfl ?_
  refine V_iload_n e_X1_runBody_24 rfl rfl ?_
  refine V_ialdv (v := nI (A (7 + 3 * g))) (j := g) e_X1_runBody_25 rfl rfl (by have q : ln 5 = 6 := rfl; omega) ((hR1.1.2.2.2.2.2.2.2 g hg).1) ?_
  refine V_istore (L' := [some (.ref (eB E + 256)), some (.ref (eB E + 4)), some (.int (nI g)), some (.int (nI 21)), some (.int (nI dp)), some (.int (nI (dp + 1))), some (.int (nI (A (7 + 3 * g))))]) e_X1_runBody_26 rfl ?_
  refine V_iload_n e_X1_runBody_28 rfl rfl ?_
  refine V_tab (j := 21) (tgt := 178) e_X1_runBody_29 rfl (by decide) (by decide +kernel) ?_
  refine V_aload_n e_X1_runBody_178 rfl rfl ?_
  refine V_aload_n e_X1_runBody_179 rfl rfl ?_
  refine V_iload_n e_X1_runBody_180 rfl rfl ?_
  refine V_bipush (v := nI 20) e_X1_runBody_181 (by decide) ?_
  refine V_iload e_X1_runBody_183 rfl ?_
  refine V_cvIe (av := [.ref (eB E + 4), .int (nI g), .int (nI 20), .int (nI (dp + 1))]) (st := []) e_X1_runBody_185 (c_X1_runBody_20 E (t + 1) g (dp + 1) A (trL t [21] σ) hR1 hF hg trL1_sz (by omega) (by omega)) l_X1_41 S_X1_runBody rfl (rm_ok (by decide) (by decide)) rfl rfl (Nat.le_of_ble_eq_true rfl) ?_
  refine V_aload_n e_X1_runBody_188 rfl rfl ?_
  refine V_iload_n e_X1_runBody_189 rfl rfl ?_
  refine V_cvIe (av := [.int (nI g)]) (st := [.int (nI g)]) e_X1_runBody_190 (c_X5_whoIsOf E 4 A g (trL (t + 1) [20] (trL t [21] σ)) rfl (hR1.tr h5 (by omega)) h5 hF (by omega)) l_X1_52 S_X5_whoIsOf rfl (rm_ok (by decide) (by decide)) rfl rfl (Nat.le_of_ble_eq_true rfl) ?_
  refine V_csIe (av := [.int (nI (mkN (ofF A g) (A 1)))]) (st := [.int (nI g)]) e_X1_runBody_193 (c_J6_bitCountN E (mkN (ofF A g) (A 1)) (trL (t + 1) [20] (trL t [21] σ)) (mk_ofF h5)) l_X1_56 S_J6_bitCount_0f7a4 (rm_ok (by decide) (by decide)) rfl rfl (Nat.le_of_ble_eq_true rfl) ?_
  refine V_iadd e_X1_runBody_196 ?_
  exact V_iret e_X1_runBody_197 rfl (⟨rfl, by first | rfl | (rw [nI_add])⟩)
set_option maxRecDepth 100000 in
set_option maxHeartbeats 4000000 in
theorem c_X1_runBody_22 (E : En) (t g dp : Nat) (A : Vec) (σ : Sg) (hR : RepC σ 4 A) (hF : WF A) (hg : g < A 0) (ht : σ 256 1 = nI t) (ht9 : t + 3 ≤ 16) (hd : dp + 2 ≤ 12) : Cn E m_X1_runBody 8 [.ref (eB E + 256), .ref (eB E + 4), .int (nI g), .int (nI 22), .int (nI dp)] σ (pI (fun σ' r => σ' = trL t [22, 21, 20] σ ∧ r = (nI g + nI (cntN (mkN (ofF A g) (A 1)))) - nI 1000)) := by
  have h5 := hF.2.2.1
  obtain ⟨hG2, hG6, hA5, hA5p, h2a, h2b, h3a, h3b, hgs⟩ := id hF.1
  refine Cn.of [some (.ref (eB E + 256)), some (.ref (eB E + 4)), some (.int (nI g)), some (.int (nI 22)), some (.int (nI dp)), none, none] (by decide) (Nat.le_of_ble_eq_true rfl) rfl ?_
  refine V_iload e_X1_runBody_0 rfl ?_
  refine V_bipush (v := nI 12) e_X1_runBody_2 (by decide) ?_
  refine V_icmp_le (tgt := 9) e_X1_runBody_4 (by decide) (fun c1 => ?_) (fun c1 => ((by have := c1; exact this (nI_le (by omega) (by omega)) : False)).elim)
  refine V_aload_n e_X1_runBody_9 rfl rfl ?_
  refine V_iload_n e_X1_runBody_10 rfl rfl ?_
  refine V_cvV (av := [.int (nI 22)]) (st := []) e_X1_runBody_11 (c_X1_leaveTrace E t 22 σ ht (by omega)) l_X1_45 S_X1_leaveTrace rfl (rm_ok (by decide) (by decide)) rfl rfl (Nat.le_of_ble_eq_true rfl) ?_
  intro τ hτ
  rw [show τ = trL t [22] σ from hτ]
  clear hτ
  have hR1 : RepC (trL t [22] σ) 4 A := hR.tr h5 (by omega)
  refine V_iload e_X1_runBody_14 rfl ?_
  refine V_iconst (v := nI 1) e_X1_runBody_16 (by decide) ?_
  refine V_iaddN (z := nI (dp + 1)) e_X1_runBody_17 (nI_add _ _) ?_
  refine V_istore (L' := [some (.ref (eB E + 256)), some (.ref (eB E + 4)), some (.int (nI g)), some (.int (nI 22)), some (.int (nI dp)), some (.int (nI (dp + 1))), none]) e_X1_runBody_18 rfl ?_
  refine V_aload_n e_X1_runBody_20 rfl rfl ?_
  refine V_getr (r := 5) e_X1_runBody_21 F_X5_sorts f_X1_30 rfl rfl ?_
  refine V_iload_n e_X1_runBody_24 rfl rfl ?_
  refine V_ialdv (v := nI (A (7 + 3 * g))) (j := g) e_X1_runBody_25 rfl rfl (by have q : ln 5 = 6 := rfl; omega) ((hR1.1.2.2.2.2.2.2.2 g hg).1) ?_
  refine V_istore (L' := [some (.ref (eB E + 256)), some (.ref (eB E + 4)), some (.int (nI g)), some (.int (nI 22)), some (.int (nI dp)), some (.int (nI (dp + 1))), some (.int (nI (A (7 + 3 * g))))]) e_X1_runBody_26 rfl ?_
  refine V_iload_n e_X1_runBody_28 rfl rfl ?_
  refine V_tab (j := 22) (tgt := 198) e_X1_runBody_29 rfl (by decide) (by decide +kernel) ?_
  refine V_aload_n e_X1_runBody_198 rfl rfl ?_
  refine V_aload_n e_X1_runBody_199 rfl rfl ?_
  refine V_iload_n e_X1_runBody_200 rfl rfl ?_
  refine V_bipush (v := nI 21) e_X1_runBody_201 (by decide) ?_
  refine V_iload e_X1_runBody_203 rfl ?_
  refine V_cvIe (av := [.ref (eB E + 4), .int (nI g), .int (nI 21), .int (nI (dp + 1))]) (st := []) e_X1_runBody_205 (c_X1_runBody_21 E (t + 1) g (dp + 1) A (trL t [22] σ) hR1 hF hg trL1_sz (by omega) (by omega)) l_X1_41 S_X1_runBody rfl (rm_ok (by decide) (by decide)) rfl rfl (Nat.le_of_ble_eq_true rfl) ?_
  refine V_sipush (v := nI 1000) e_X1_runBody_208 (by decide) ?_
  refine V_isub e_X1_runBody_211 ?_
  exact V_iret e_X1_runBody_212 rfl (⟨rfl, by first | rfl | (rw [nI_add])⟩)
set_option maxRecDepth 100000 in
set_option maxHeartbeats 4000000 in
theorem c_X1_runBody_24 (E : En) (t g dp : Nat) (A : Vec) (σ : Sg) (hR : RepC σ 4 A) (hF : WF A) (hg : g < A 0) (ht : σ 256 1 = nI t) (ht9 : t + 3 ≤ 16) (hd : dp + 2 ≤ 12) : Cn E m_X1_runBody 8 [.ref (eB E + 256), .ref (eB E + 4), .int (nI g), .int (nI 24), .int (nI dp)] σ (pI (fun σ' r => σ' = trL t [24, 21, 20] σ ∧ r = (nI g + nI (cntN (mkN (ofF A g) (A 1)))) * nI 2)) := by
  have h5 := hF.2.2.1
  obtain ⟨hG2, hG6, hA5, hA5p, h2a, h2b, h3a, h3b, hgs⟩ := id hF.1
  refine Cn.of [some (.ref (eB E + 256)), some (.ref (eB E + 4)), some (.int (nI g)), some (.int (nI 24)), some (.int (nI dp)), none, none] (by decide) (Nat.le_of_ble_eq_true rfl) rfl ?_
  refine V_iload e_X1_runBody_0 rfl ?_
  refine V_bipush (v := nI 12) e_X1_runBody_2 (by decide) ?_
  refine V_icmp_le (tgt := 9) e_X1_runBody_4 (by decide) (fun c1 => ?_) (fun c1 => ((by have := c1; exact this (nI_le (by omega) (by omega)) : False)).elim)
  refine V_aload_n e_X1_runBody_9 rfl rfl ?_
  refine V_iload_n e_X1_runBody_10 rfl rfl ?_
  refine V_cvV (av := [.int (nI 24)]) (st := []) e_X1_runBody_11 (c_X1_leaveTrace E t 24 σ ht (by omega)) l_X1_45 S_X1_leaveTrace rfl (rm_ok (by decide) (by decide)) rfl rfl (Nat.le_of_ble_eq_true rfl) ?_
  intro τ hτ
  rw [show τ = trL t [24] σ from hτ]
  clear hτ
  have hR1 : RepC (trL t [24] σ) 4 A := hR.tr h5 (by omega)
  refine V_iload e_X1_runBody_14 rfl ?_
  refine V_iconst (v := nI 1) e_X1_runBody_16 (by decide) ?_
  refine V_iaddN (z := nI (dp + 1)) e_X1_runBody_17 (nI_add _ _) ?_
  refine V_istore (L' := [some (.ref (eB E + 256)), some (.ref (eB E + 4)), some (.int (nI g)), some (.int (nI 24)), some (.int (nI dp)), some (.int (nI (dp + 1))), none]) e_X1_runBody_18 rfl ?_
  refine V_aload_n e_X1_runBody_20 rfl rfl ?_
  refine V_getr (r := 5) e_X1_runBody_21 F_X5_sorts f_X1_30 rfl rfl ?_
  refine V_iload_n e_X1_runBody_24 rfl rfl ?_
  refine V_ialdv (v := nI (A (7 + 3 * g))) (j := g) e_X1_runBody_25 rfl rfl (by have q : ln 5 = 6 := rfl; omega) ((hR1.1.2.2.2.2.2.2.2 g hg).1) ?_
  refine V_istore (L' := [some (.ref (eB E + 256)), some (.ref (eB E + 4)), some (.int (nI g)), some (.int (nI 24)), some (.int (nI dp)), some (.int (nI (dp + 1))), some (.int (nI (A (7 + 3 * g))))]) e_X1_runBody_26 rfl ?_
  refine V_iload_n e_X1_runBody_28 rfl rfl ?_
  refine V_tab (j := 24) (tgt := 239) e_X1_runBody_29 rfl (by decide) (by decide +kernel) ?_
  refine V_aload_n e_X1_runBody_239 rfl rfl ?_
  refine V_aload_n e_X1_runBody_240 rfl rfl ?_
  refine V_iload_n e_X1_runBody_241 rfl rfl ?_
  refine V_bipush (v := nI 21) e_X1_runBody_242 (by decide) ?_
  refine V_iload e_X1_runBody_244 rfl ?_
  refine V_cvIe (av := [.ref (eB E + 4), .int (nI g), .int (nI 21), .int (nI (dp + 1))]) (st := []) e_X1_runBody_246 (c_X1_runBody_21 E (t + 1) g (dp + 1) A (trL t [24] σ) hR1 hF hg trL1_sz (by omega) (by omega)) l_X1_41 S_X1_runBody rfl (rm_ok (by decide) (by decide)) rfl rfl (Nat.le_of_ble_eq_true rfl) ?_
  refine V_iconst (v := nI 2) e_X1_runBody_249 (by decide) ?_
  refine V_imul e_X1_runBody_250 ?_
  exact V_iret e_X1_runBody_251 rfl (⟨rfl, by first | rfl | (rw [nI_add])⟩)
set_option maxRecDepth 100000 in
set_option maxHeartbeats 4000000 in
theorem c_X1_runBody_13 (E : En) (t g dp : Nat) (A : Vec) (σ : Sg) (hR : RepC σ 4 A) (hF : WF A) (hg : g < A 0) (ht : σ 256 1 = nI t) (ht9 : t + 2 ≤ 16) (hd : dp + 1 ≤ 12) : Cn E m_X1_runBody 7 [.ref (eB E + 256), .ref (eB E + 4), .int (nI g), .int (nI 13), .int (nI dp)] σ (pI (fun σ' r => σ' = trL t [13, 10] σ ∧ r = nI (A (8 + 3 * g)) - nI 100)) := by
  have h5 := hF.2.2.1
  obtain ⟨hG2, hG6, hA5, hA5p, h2a, h2b, h3a, h3b, hgs⟩ := id hF.1
  refine Cn.of [some (.ref (eB E + 256)), some (.ref (eB E + 4)), some (.int (nI g)), some (.int (nI 13)), some (.int (nI dp)), none, none] (by decide) (Nat.le_of_ble_eq_true rfl) rfl ?_
  refine V_iload e_X1_runBody_0 rfl ?_
  refine V_bipush (v := nI 12) e_X1_runBody_2 (by decide) ?_
  refine V_icmp_le (tgt := 9) e_X1_runBody_4 (by decide) (fun c1 => ?_) (fun c1 => ((by have := c1; exact this (nI_le (by omega) (by omega)) : False)).elim)
  refine V_aload_n e_X1_runBody_9 rfl rfl ?_
  refine V_iload_n e_X1_runBody_10 rfl rfl ?_
  refine V_cvV (av := [.int (nI 13)]) (st := []) e_X1_runBody_11 (c_X1_leaveTrace E t 13 σ ht (by omega)) l_X1_45 S_X1_leaveTrace rfl (rm_ok (by decide) (by decide)) rfl rfl (Nat.le_of_ble_eq_true rfl) ?_
  intro τ hτ
  rw [show τ = trL t [13] σ from hτ]
  clear hτ
  have hR1 : RepC (trL t [13] σ) 4 A := hR.tr h5 (by omega)
  refine V_iload e_X1_runBody_14 rfl ?_
  refine V_iconst (v := nI 1) e_X1_runBody_16 (by decide) ?_
  refine V_iaddN (z := nI (dp + 1)) e_X1_runBody_17 (nI_add _ _) ?_
  refine V_istore (L' := [some (.ref (eB E + 256)), some (.ref (eB E + 4)), some (.int (nI g)), some (.int (nI 13)), some (.int (nI dp)), some (.int (nI (dp + 1))), none]) e_X1_runBody_18 rfl ?_
  refine V_aload_n e_X1_runBody_20 rfl rfl ?_
  refine V_getr (r := 5) e_X1_runBody_21 F_X5_sorts f_X1_30 rfl rfl ?_
  refine V_iload_n e_X1_runBody_24 rfl rfl ?_
  refine V_ialdv (v := nI (A (7 + 3 * g))) (j := g) e_X1_runBody_25 rfl rfl (by have q : ln 5 = 6 := rfl; omega) ((hR1.1.2.2.2.2.2.2.2 g hg).1) ?_
  refine V_istore (L' := [some (.ref (eB E + 256)), some (.ref (eB E + 4)), some (.int (nI g)), some (.int (nI 13)), some (.int (nI dp)), some (.int (nI (dp + 1))), some (.int (nI (A (7 + 3 * g))))]) e_X1_runBody_26 rfl ?_
  refine V_iload_n e_X1_runBody_28 rfl rfl ?_
  refine V_tab (j := 13) (tgt := 149) e_X1_runBody_29 rfl (by decide) (by decide +kernel) ?_
  refine V_aload_n e_X1_runBody_149 rfl rfl ?_
  refine V_aload_n e_X1_runBody_150 rfl rfl ?_
  refine V_iload_n e_X1_runBody_151 rfl rfl ?_
  refine V_bipush (v := nI 10) e_X1_runBody_152 (by decide) ?_
  refine V_iload e_X1_runBody_154 rfl ?_
  refine V_cvIe (av := [.ref (eB E + 4), .int (nI g), .int (nI 10), .int (nI (dp + 1))]) (st := []) e_X1_runBody_156 (c_X1_runBody_10 E (t + 1) g (dp + 1) A (trL t [13] σ) hR1 hF hg trL1_sz (by omega) (by omega)) l_X1_41 S_X1_runBody rfl (rm_ok (by decide) (by decide)) rfl rfl (Nat.le_of_ble_eq_true rfl) ?_
  refine V_bipush (v := nI 100) e_X1_runBody_159 (by decide) ?_
  refine V_isub e_X1_runBody_161 ?_
  exact V_iret e_X1_runBody_162 rfl (⟨rfl, by first | rfl | (rw [nI_add])⟩)
set_option maxRecDepth 100000 in
set_option maxHeartbeats 4000000 in
theorem c_X1_runBody_14 (E : En) (t g dp : Nat) (A : Vec) (σ : Sg) (hR : RepC σ 4 A) (hF : WF A) (hg : g < A 0) (ht : σ 256 1 = nI t) (ht9 : t + 3 ≤ 16) (hd : dp + 2 ≤ 12) : Cn E m_X1_runBody 8 [.ref (eB E + 256), .ref (eB E + 4), .int (nI g), .int (nI 14), .int (nI dp)] σ (pI (fun σ' r => σ' = trL t [14, 13, 10] σ ∧ r = (nI (A (8 + 3 * g)) - nI 100) * nI 2)) := by
  have h5 := hF.2.2.1
  obtain ⟨hG2, hG6, hA5, hA5p, h2a, h2b, h3a, h3b, hgs⟩ := id hF.1
  refine Cn.of [some (.ref (eB E + 256)), some (.ref (eB E + 4)), some (.int (nI g)), some (.int (nI 14)), some (.int (nI dp)), none, none] (by decide) (Nat.le_of_ble_eq_true rfl) rfl ?_
  refine V_iload e_X1_runBody_0 rfl ?_
  refine V_bipush (v := nI 12) e_X1_runBody_2 (by decide) ?_
  refine V_icmp_le (tgt := 9) e_X1_runBody_4 (by decide) (fun c1 => ?_) (fun c1 => ((by have := c1; exact this (nI_le (by omega) (by omega)) : False)).elim)
  refine V_aload_n e_X1_runBody_9 rfl rfl ?_
  refine V_iload_n e_X1_runBody_10 rfl rfl ?_
  refine V_cvV (av := [.int (nI 14)]) (st := []) e_X1_runBody_11 (c_X1_leaveTrace E t 14 σ ht (by omega)) l_X1_45 S_X1_leaveTrace rfl (rm_ok (by decide) (by decide)) rfl rfl (Nat.le_of_ble_eq_true rfl) ?_
  intro τ hτ
  rw [show τ = trL t [14] σ from hτ]
  clear hτ
  have hR1 : RepC (trL t [14] σ) 4 A := hR.tr h5 (by omega)
  refine V_iload e_X1_runBody_14 rfl ?_
  refine V_iconst (v := nI 1) e_X1_runBody_16 (by decide) ?_
  refine V_iaddN (z := nI (dp + 1)) e_X1_runBody_17 (nI_add _ _) ?_
  refine V_istore (L' := [some (.ref (eB E + 256)), some (.ref (eB E + 4)), some (.int (nI g)), some (.int (nI 14)), some (.int (nI dp)), some (.int (nI (dp + 1))), none]) e_X1_runBody_18 rfl ?_
  refine V_aload_n e_X1_runBody_20 rfl rfl ?_
  refine V_getr (r := 5) e_X1_runBody_21 F_X5_sorts f_X1_30 rfl rfl ?_
  refine V_iload_n e_X1_runBody_24 rfl rfl ?_
  refine V_ialdv (v := nI (A (7 + 3 * g))) (j := g) e_X1_runBody_25 rfl rfl (by have q : ln 5 = 6 := rfl; omega) ((hR1.1.2.2.2.2.2.2.2 g hg).1) ?_
  refine V_istore (L' := [some (.ref (eB E + 256)), some (.ref (eB E + 4)), some (.int (nI g)), some (.int (nI 14)), some (.int (nI dp)), some (.int (nI (dp + 1))), some (.int (nI (A (7 + 3 * g))))]) e_X1_runBody_26 rfl ?_
  refine V_iload_n e_X1_runBody_28 rfl rfl ?_
  refine V_tab (j := 14) (tgt := 163) e_X1_runBody_29 rfl (by decide) (by decide +kernel) ?_
  refine V_aload_n e_X1_runBody_163 rfl rfl ?_
  refine V_aload_n e_X1_runBody_164 rfl rfl ?_
  refine V_iload_n e_X1_runBody_165 rfl rfl ?_
  refine V_bipush (v := nI 13) e_X1_runBody_166 (by decide) ?_
  refine V_iload e_X1_runBody_168 rfl ?_
  refine V_cvIe (av := [.ref (eB E + 4), .int (nI g), .int (nI 13), .int (nI (dp + 1))]) (st := []) e_X1_runBody_170 (c_X1_runBody_13 E (t + 1) g (dp + 1) A (trL t [14] σ) hR1 hF hg trL1_sz (by omega) (by omega)) l_X1_41 S_X1_runBody rfl (rm_ok (by decide) (by decide)) rfl rfl (Nat.le_of_ble_eq_true rfl) ?_
  refine V_iconst (v := nI 2) e_X1_runBody_173 (by decide) ?_
  refine V_imul e_X1_runBody_174 ?_
  exact V_iret e_X1_runBody_175 rfl (⟨rfl, by first | rfl | (rw [nI_add])⟩)
set_option maxRecDepth 100000 in
set_option maxHeartbeats 4000000 in
theorem c_X1_runBody_23_4 (E : En) (t g dp : Nat) (A : Vec) (σ : Sg) (hR : RepC σ 4 A) (hF : WF A) (hg : g < A 0) (ht : σ 256 1 = nI t) (ht9 : t + 4 ≤ 16) (hd : dp + 3 ≤ 12) (hk : A (7 + 3 * g) = 4) : Cn E m_X1_runBody 9 [.ref (eB E + 256), .ref (eB E + 4), .int (nI g), .int (nI 23), .int (nI dp)] σ (pI (fun σ' r => σ' = trL t [23, 20, 13, 10] σ ∧ r = nI g - (nI (A (8 + 3 * g)) - nI 100))) := by
  have h5 := hF.2.2.1
  obtain ⟨hG2, hG6, hA5, hA5p, h2a, h2b, h3a, h3b, hgs⟩ := id hF.1
  refine Cn.of [some (.ref (eB E + 256)), some (.ref (eB E + 4)), some (.int (nI g)), some (.int (nI 23)), some (.int (nI dp)), none, none] (by decide) (Nat.le_of_ble_eq_true rfl) rfl ?_
  refine V_iload e_X1_runBody_0 rfl ?_
  refine V_bipush (v := nI 12) e_X1_runBody_2 (by decide) ?_
  refine V_icmp_le (tgt := 9) e_X1_runBody_4 (by decide) (fun c1 => ?_) (fun c1 => ((by have := c1; exact this (nI_le (by omega) (by omega)) : False)).elim)
  refine V_aload_n e_X1_runBody_9 rfl rfl ?_
  refine V_iload_n e_X1_runBody_10 rfl rfl ?_
  refine V_cvV (av := [.int (nI 23)]) (st := []) e_X1_runBody_11 (c_X1_leaveTrace E t 23 σ ht (by omega)) l_X1_45 S_X1_leaveTrace rfl (rm_ok (by decide) (by decide)) rfl rfl (Nat.le_of_ble_eq_true rfl) ?_
  intro τ hτ
  rw [show τ = trL t [23] σ from hτ]
  clear hτ
  have hR1 : RepC (trL t [23] σ) 4 A := hR.tr h5 (by omega)
  refine V_iload e_X1_runBody_14 rfl ?_
  refine V_iconst (v := nI 1) e_X1_runBody_16 (by decide) ?_
  refine V_iaddN (z := nI (dp + 1)) e_X1_runBody_17 (nI_add _ _) ?_
  refine V_istore (L' := [some (.ref (eB E + 256)), some (.ref (eB E + 4)), some (.int (nI g)), some (.int (nI 23)), some (.int (nI dp)), some (.int (nI (dp + 1))), none]) e_X1_runBody_18 rfl ?_
  refine V_aload_n e_X1_runBody_20 rfl rfl ?_
  refine V_getr (r := 5) e_X1_runBody_21 F_X5_sorts f_X1_30 rfl rfl ?_
  refine V_iload_n e_X1_runBody_24 rfl rfl ?_
  refine V_ialdv (v := nI (A (7 + 3 * g))) (j := g) e_X1_runBody_25 rfl rfl (by have q : ln 5 = 6 := rfl; omega) ((hR1.1.2.2.2.2.2.2.2 g hg).1) ?_
  refine V_istore (L' := [some (.ref (eB E + 256)), some (.ref (eB E + 4)), some (.int (nI g)), some (.int (nI 23)), some (.int (nI dp)), some (.int (nI (dp + 1))), some (.int (nI (A (7 + 3 * g))))]) e_X1_runBody_26 rfl ?_
  refine V_iload_n e_X1_runBody_28 rfl rfl ?_
  refine V_tab (j := 23) (tgt := 213) e_X1_runBody_29 rfl (by decide) (by decide +kernel) ?_
  refine V_aload_n e_X1_runBody_213 rfl rfl ?_
  refine V_aload_n e_X1_runBody_214 rfl rfl ?_
  refine V_iload_n e_X1_runBody_215 rfl rfl ?_
  refine V_bipush (v := nI 20) e_X1_runBody_216 (by decide) ?_
  refine V_iload e_X1_runBody_218 rfl ?_
  refine V_cvIe (av := [.ref (eB E + 4), .int (nI g), .int (nI 20), .int (nI (dp + 1))]) (st := []) e_X1_runBody_220 (c_X1_runBody_20 E (t + 1) g (dp + 1) A (trL t [23] σ) hR1 hF hg trL1_sz (by omega) (by omega)) l_X1_41 S_X1_runBody rfl (rm_ok (by decide) (by decide)) rfl rfl (Nat.le_of_ble_eq_true rfl) ?_
  refine V_aload_n e_X1_runBody_223 rfl rfl ?_
  refine V_aload_n e_X1_runBody_224 rfl rfl ?_
  refine V_iload_n e_X1_runBody_225 rfl rfl ?_
  refine V_getst (i := 0) e_X1_runBody_226 (by decide) f_X1_35 ?_
  refine V_iload e_X1_runBody_229 rfl ?_
  refine V_iads (i := 0) (j := 4) e_X1_runBody_231 (by decide) (by rw [hk]) (by decide) ?_
  refine V_topi (y := nI 13) (rfl) ?_
  refine V_iload e_X1_runBody_232 rfl ?_
  refine V_cvIe (av := [.ref (eB E + 4), .int (nI g), .int (nI 13), .int (nI (dp + 1))]) (st := [.int (nI g)]) e_X1_runBody_234 (c_X1_runBody_13 E (t + 1 + 1) g (dp + 1) A (trL (t + 1) [20] (trL t [23] σ)) (hR1.tr h5 (by omega)) hF hg trL1_sz (by omega) (by omega)) l_X1_41 S_X1_runBody rfl (rm_ok (by decide) (by decide)) rfl rfl (Nat.le_of_ble_eq_true rfl) ?_
  refine V_isub e_X1_runBody_237 ?_
  exact V_iret e_X1_runBody_238 rfl (⟨rfl, by first | rfl | (rw [nI_add])⟩)
set_option maxRecDepth 100000 in
set_option maxHeartbeats 4000000 in
theorem c_X1_runBody_23_5 (E : En) (t g dp : Nat) (A : Vec) (σ : Sg) (hR : RepC σ 4 A) (hF : WF A) (hg : g < A 0) (ht : σ 256 1 = nI t) (ht9 : t + 5 ≤ 16) (hd : dp + 3 ≤ 12) (hk : A (7 + 3 * g) = 5) : Cn E m_X1_runBody 9 [.ref (eB E + 256), .ref (eB E + 4), .int (nI g), .int (nI 23), .int (nI dp)] σ (pI (fun σ' r => σ' = trL t [23, 20, 14, 13, 10] σ ∧ r = nI g - ((nI (A (8 + 3 * g)) - nI 100) * nI 2))) := by
  have h5 := hF.2.2.1
  obtain ⟨hG2, hG6, hA5, hA5p, h2a, h2b, h3a, h3b, hgs⟩ := id hF.1
  refine Cn.of [some (.ref (eB E + 256)), some (.ref (eB E + 4)), some (.int (nI g)), some (.int (nI 23)), some (.int (nI dp)), none, none] (by decide) (Nat.le_of_ble_eq_true rfl) rfl ?_
  refine V_iload e_X1_runBody_0 rfl ?_
  refine V_bipush (v := nI 12) e_X1_runBody_2 (by decide) ?_
  refine V_icmp_le (tgt := 9) e_X1_runBody_4 (by decide) (fun c1 => ?_) (fun c1 => ((by have := c1; exact this (nI_le (by omega) (by omega)) : False)).elim)
  refine V_aload_n e_X1_runBody_9 rfl rfl ?_
  refine V_iload_n e_X1_runBody_10 rfl rfl ?_
  refine V_cvV (av := [.int (nI 23)]) (st := []) e_X1_runBody_11 (c_X1_leaveTrace E t 23 σ ht (by omega)) l_X1_45 S_X1_leaveTrace rfl (rm_ok (by decide) (by decide)) rfl rfl (Nat.le_of_ble_eq_true rfl) ?_
  intro τ hτ
  rw [show τ = trL t [23] σ from hτ]
  clear hτ
  have hR1 : RepC (trL t [23] σ) 4 A := hR.tr h5 (by omega)
  refine V_iload e_X1_runBody_14 rfl ?_
  refine V_iconst (v := nI 1) e_X1_runBody_16 (by decide) ?_
  refine V_iaddN (z := nI (dp + 1)) e_X1_runBody_17 (nI_add _ _) ?_
  refine V_istore (L' := [some (.ref (eB E + 256)), some (.ref (eB E + 4)), some (.int (nI g)), some (.int (nI 23)), some (.int (nI dp)), some (.int (nI (dp + 1))), none]) e_X1_runBody_18 rfl ?_
  refine V_aload_n e_X1_runBody_20 rfl rfl ?_
  refine V_getr (r := 5) e_X1_runBody_21 F_X5_sorts f_X1_30 rfl rfl ?_
  refine V_iload_n e_X1_runBody_24 rfl rfl ?_
  refine V_ialdv (v := nI (A (7 + 3 * g))) (j := g) e_X1_runBody_25 rfl rfl (by have q : ln 5 = 6 := rfl; omega) ((hR1.1.2.2.2.2.2.2.2 g hg).1) ?_
  refine V_istore (L' := [some (.ref (eB E + 256)), some (.ref (eB E + 4)), some (.int (nI g)), some (.int (nI 23)), some (.int (nI dp)), some (.int (nI (dp + 1))), some (.int (nI (A (7 + 3 * g))))]) e_X1_runBody_26 rfl ?_
  refine V_iload_n e_X1_runBody_28 rfl rfl ?_
  refine V_tab (j := 23) (tgt := 213) e_X1_runBody_29 rfl (by decide) (by decide +kernel) ?_
  refine V_aload_n e_X1_runBody_213 rfl rfl ?_
  refine V_aload_n e_X1_runBody_214 rfl rfl ?_
  refine V_iload_n e_X1_runBody_215 rfl rfl ?_
  refine V_bipush (v := nI 20) e_X1_runBody_216 (by decide) ?_
  refine V_iload e_X1_runBody_218 rfl ?_
  refine V_cvIe (av := [.ref (eB E + 4), .int (nI g), .int (nI 20), .int (nI (dp + 1))]) (st := []) e_X1_runBody_220 (c_X1_runBody_20 E (t + 1) g (dp + 1) A (trL t [23] σ) hR1 hF hg trL1_sz (by omega) (by omega)) l_X1_41 S_X1_runBody rfl (rm_ok (by decide) (by decide)) rfl rfl (Nat.le_of_ble_eq_true rfl) ?_
  refine V_aload_n e_X1_runBody_223 rfl rfl ?_
  refine V_aload_n e_X1_runBody_224 rfl rfl ?_
  refine V_iload_n e_X1_runBody_225 rfl rfl ?_
  refine V_getst (i := 0) e_X1_runBody_226 (by decide) f_X1_35 ?_
  refine V_iload e_X1_runBody_229 rfl ?_
  refine V_iads (i := 0) (j := 5) e_X1_runBody_231 (by decide) (by rw [hk]) (by decide) ?_
  refine V_topi (y := nI 14) (rfl) ?_
  refine V_iload e_X1_runBody_232 rfl ?_
  refine V_cvIe (av := [.ref (eB E + 4), .int (nI g), .int (nI 14), .int (nI (dp + 1))]) (st := [.int (nI g)]) e_X1_runBody_234 (c_X1_runBody_14 E (t + 1 + 1) g (dp + 1) A (trL (t + 1) [20] (trL t [23] σ)) (hR1.tr h5 (by omega)) hF hg trL1_sz (by omega) (by omega)) l_X1_41 S_X1_runBody rfl (rm_ok (by decide) (by decide)) rfl rfl (Nat.le_of_ble_eq_true rfl) ?_
  refine V_isub e_X1_runBody_237 ?_
  exact V_iret e_X1_runBody_238 rfl (⟨rfl, by first | rfl | (rw [nI_add])⟩)
set_option maxRecDepth 100000 in
set_option maxHeartbeats 4000000 in
theorem c_X1_runBody_11_1 (E : En) (t g dp : Nat) (A : Vec) (σ : Sg) (hR : RepC σ 4 A) (hF : WF A) (hg : g < A 0) (ht : σ 256 1 = nI t) (ht9 : t + 4 ≤ 16) (hd : dp + 3 ≤ 12) (hk : A (7 + 3 * g) = 1) : Cn E m_X1_runBody 9 [.ref (eB E + 256), .ref (eB E + 4), .int (nI g), .int (nI 11), .int (nI dp)] σ (pI (fun σ' r => σ' = trL t [11, 10, 21, 20] σ ∧ r = nI (A (8 + 3 * g)) + (nI g + nI (cntN (mkN (ofF A g) (A 1)))))) := by
  have h5 := hF.2.2.1
  obtain ⟨hG2, hG6, hA5, hA5p, h2a, h2b, h3a, h3b, hgs⟩ := id hF.1
  refine Cn.of [some (.ref (eB E + 256)), some (.ref (eB E + 4)), some (.int (nI g)), some (.int (nI 11)), some (.int (nI dp)), none, none] (by decide) (Nat.le_of_ble_eq_true rfl) rfl ?_
  refine V_iload e_X1_runBody_0 rfl ?_
  refine V_bipush (v := nI 12) e_X1_runBody_2 (by decide) ?_
  refine V_icmp_le (tgt := 9) e_X1_runBody_4 (by decide) (fun c1 => ?_) (fun c1 => ((by have := c1; exact this (nI_le (by omega) (by omega)) : False)).elim)
  refine V_aload_n e_X1_runBody_9 rfl rfl ?_
  refine V_iload_n e_X1_runBody_10 rfl rfl ?_
  refine V_cvV (av := [.int (nI 11)]) (st := []) e_X1_runBody_11 (c_X1_leaveTrace E t 11 σ ht (by omega)) l_X1_45 S_X1_leaveTrace rfl (rm_ok (by decide) (by decide)) rfl rfl (Nat.le_of_ble_eq_true rfl) ?_
  intro τ hτ
  rw [show τ = trL t [11] σ from hτ]
  clear hτ
  have hR1 : RepC (trL t [11] σ) 4 A := hR.tr h5 (by omega)
  refine V_iload e_X1_runBody_14 rfl ?_
  refine V_iconst (v := nI 1) e_X1_runBody_16 (by decide) ?_
  refine V_iaddN (z := nI (dp + 1)) e_X1_runBody_17 (nI_add _ _) ?_
  refine V_istore (L' := [some (.ref (eB E + 256)), some (.ref (eB E + 4)), some (.int (nI g)), some (.int (nI 11)), some (.int (nI dp)), some (.int (nI (dp + 1))), none]) e_X1_runBody_18 rfl ?_
  refine V_aload_n e_X1_runBody_20 rfl rfl ?_
  refine V_getr (r := 5) e_X1_runBody_21 F_X5_sorts f_X1_30 rfl rfl ?_
  refine V_iload_n e_X1_runBody_24 rfl rfl ?_
  refine V_ialdv (v := nI (A (7 + 3 * g))) (j := g) e_X1_runBody_25 rfl rfl (by have q : ln 5 = 6 := rfl; omega) ((hR1.1.2.2.2.2.2.2.2 g hg).1) ?_
  refine V_istore (L' := [some (.ref (eB E + 256)), some (.ref (eB E + 4)), some (.int (nI g)), some (.int (nI 11)), some (.int (nI dp)), some (.int (nI (dp + 1))), some (.int (nI (A (7 + 3 * g))))]) e_X1_runBody_26 rfl ?_
  refine V_iload_n e_X1_runBody_28 rfl rfl ?_
  refine V_tab (j := 11) (tgt := 111) e_X1_runBody_29 rfl (by decide) (by decide +kernel) ?_
  refine V_aload_n e_X1_runBody_111 rfl rfl ?_
  refine V_aload_n e_X1_runBody_112 rfl rfl ?_
  refine V_iload_n e_X1_runBody_113 rfl rfl ?_
  refine V_bipush (v := nI 10) e_X1_runBody_114 (by decide) ?_
  refine V_iload e_X1_runBody_116 rfl ?_
  refine V_cvIe (av := [.ref (eB E + 4), .int (nI g), .int (nI 10), .int (nI (dp + 1))]) (st := []) e_X1_runBody_118 (c_X1_runBody_10 E (t + 1) g (dp + 1) A (trL t [11] σ) hR1 hF hg trL1_sz (by omega) (by omega)) l_X1_41 S_X1_runBody rfl (rm_ok (by decide) (by decide)) rfl rfl (Nat.le_of_ble_eq_true rfl) ?_
  refine V_aload_n e_X1_runBody_121 rfl rfl ?_
  refine V_aload_n e_X1_runBody_122 rfl rfl ?_
  refine V_iload_n e_X1_runBody_123 rfl rfl ?_
  refine V_getst (i := 1) e_X1_runBody_124 (by decide) f_X1_38 ?_
  refine V_iload e_X1_runBody_127 rfl ?_
  refine V_iads (i := 1) (j := 1) e_X1_runBody_129 (by decide) (by rw [hk]) (by decide) ?_
  refine V_topi (y := nI 21) (rfl) ?_
  refine V_iload e_X1_runBody_130 rfl ?_
  refine V_cvIe (av := [.ref (eB E + 4), .int (nI g), .int (nI 21), .int (nI (dp + 1))]) (st := [.int (nI (A (8 + 3 * g)))]) e_X1_runBody_132 (c_X1_runBody_21 E (t + 1 + 1) g (dp + 1) A (trL (t + 1) [10] (trL t [11] σ)) (hR1.tr h5 (by omega)) hF hg trL1_sz (by omega) (by omega)) l_X1_41 S_X1_runBody rfl (rm_ok (by decide) (by decide)) rfl rfl (Nat.le_of_ble_eq_true rfl) ?_
  refine V_iadd e_X1_runBody_135 ?_
  exact V_iret e_X1_runBody_136 rfl (⟨rfl, by first | rfl | (rw [nI_add])⟩)
set_option maxRecDepth 100000 in
set_option maxHeartbeats 4000000 in
theorem c_X1_runBody_11_3 (E : En) (t g dp : Nat) (A : Vec) (σ : Sg) (hR : RepC σ 4 A) (hF : WF A) (hg : g < A 0) (ht : σ 256 1 = nI t) (ht9 : t + 5 ≤ 16) (hd : dp + 3 ≤ 12) (hk : A (7 + 3 * g) = 3) : Cn E m_X1_runBody 9 [.ref (eB E + 256), .ref (eB E + 4), .int (nI g), .int (nI 11), .int (nI dp)] σ (pI (fun σ' r => σ' = trL t [11, 10, 22, 21, 20] σ ∧ r = nI (A (8 + 3 * g)) + ((nI g + nI (cntN (mkN (ofF A g) (A 1)))) - nI 1000))) := by
  have h5 := hF.2.2.1
  obtain ⟨hG2, hG6, hA5, hA5p, h2a, h2b, h3a, h3b, hgs⟩ := id hF.1
  refine Cn.of [some (.ref (eB E + 256)), some (.ref (eB E + 4)), some (.int (nI g)), some (.int (nI 11)), some (.int (nI dp)), none, none] (by decide) (Nat.le_of_ble_eq_true rfl) rfl ?_
  refine V_iload e_X1_runBody_0 rfl ?_
  refine V_bipush (v := nI 12) e_X1_runBody_2 (by decide) ?_
  refine V_icmp_le (tgt := 9) e_X1_runBody_4 (by decide) (fun c1 => ?_) (fun c1 => ((by have := c1; exact this (nI_le (by omega) (by omega)) : False)).elim)
  refine V_aload_n e_X1_runBody_9 rfl rfl ?_
  refine V_iload_n e_X1_runBody_10 rfl rfl ?_
  refine V_cvV (av := [.int (nI 11)]) (st := []) e_X1_runBody_11 (c_X1_leaveTrace E t 11 σ ht (by omega)) l_X1_45 S_X1_leaveTrace rfl (rm_ok (by decide) (by decide)) rfl rfl (Nat.le_of_ble_eq_true rfl) ?_
  intro τ hτ
  rw [show τ = trL t [11] σ from hτ]
  clear hτ
  have hR1 : RepC (trL t [11] σ) 4 A := hR.tr h5 (by omega)
  refine V_iload e_X1_runBody_14 rfl ?_
  refine V_iconst (v := nI 1) e_X1_runBody_16 (by decide) ?_
  refine V_iaddN (z := nI (dp + 1)) e_X1_runBody_17 (nI_add _ _) ?_
  refine V_istore (L' := [some (.ref (eB E + 256)), some (.ref (eB E + 4)), some (.int (nI g)), some (.int (nI 11)), some (.int (nI dp)), some (.int (nI (dp + 1))), none]) e_X1_runBody_18 rfl ?_
  refine V_aload_n e_X1_runBody_20 rfl rfl ?_
  refine V_getr (r := 5) e_X1_runBody_21 F_X5_sorts f_X1_30 rfl rfl ?_
  refine V_iload_n e_X1_runBody_24 rfl rfl ?_
  refine V_ialdv (v := nI (A (7 + 3 * g))) (j := g) e_X1_runBody_25 rfl rfl (by have q : ln 5 = 6 := rfl; omega) ((hR1.1.2.2.2.2.2.2.2 g hg).1) ?_
  refine V_istore (L' := [some (.ref (eB E + 256)), some (.ref (eB E + 4)), some (.int (nI g)), some (.int (nI 11)), some (.int (nI dp)), some (.int (nI (dp + 1))), some (.int (nI (A (7 + 3 * g))))]) e_X1_runBody_26 rfl ?_
  refine V_iload_n e_X1_runBody_28 rfl rfl ?_
  refine V_tab (j := 11) (tgt := 111) e_X1_runBody_29 rfl (by decide) (by decide +kernel) ?_
  refine V_aload_n e_X1_runBody_111 rfl rfl ?_
  refine V_aload_n e_X1_runBody_112 rfl rfl ?_
  refine V_iload_n e_X1_runBody_113 rfl rfl ?_
  refine V_bipush (v := nI 10) e_X1_runBody_114 (by decide) ?_
  refine V_iload e_X1_runBody_116 rfl ?_
  refine V_cvIe (av := [.ref (eB E + 4), .int (nI g), .int (nI 10), .int (nI (dp + 1))]) (st := []) e_X1_runBody_118 (c_X1_runBody_10 E (t + 1) g (dp + 1) A (trL t [11] σ) hR1 hF hg trL1_sz (by omega) (by omega)) l_X1_41 S_X1_runBody rfl (rm_ok (by decide) (by decide)) rfl rfl (Nat.le_of_ble_eq_true rfl) ?_
  refine V_aload_n e_X1_runBody_121 rfl rfl ?_
  refine V_aload_n e_X1_runBody_122 rfl rfl ?_
  refine V_iload_n e_X1_runBody_123 rfl rfl ?_
  refine V_getst (i := 1) e_X1_runBody_124 (by decide) f_X1_38 ?_
  refine V_iload e_X1_runBody_127 rfl ?_
  refine V_iads (i := 1) (j := 3) e_X1_runBody_129 (by decide) (by rw [hk]) (by decide) ?_
  refine V_topi (y := nI 22) (rfl) ?_
  refine V_iload e_X1_runBody_130 rfl ?_
  refine V_cvIe (av := [.ref (eB E + 4), .int (nI g), .int (nI 22), .int (nI (dp + 1))]) (st := [.int (nI (A (8 + 3 * g)))]) e_X1_runBody_132 (c_X1_runBody_22 E (t + 1 + 1) g (dp + 1) A (trL (t + 1) [10] (trL t [11] σ)) (hR1.tr h5 (by omega)) hF hg trL1_sz (by omega) (by omega)) l_X1_41 S_X1_runBody rfl (rm_ok (by decide) (by decide)) rfl rfl (Nat.le_of_ble_eq_true rfl) ?_
  refine V_iadd e_X1_runBody_135 ?_
  exact V_iret e_X1_runBody_136 rfl (⟨rfl, by first | rfl | (rw [nI_add])⟩)
set_option maxRecDepth 100000 in
set_option maxHeartbeats 4000000 in
theorem c_X1_runBody_11_2 (E : En) (t g dp : Nat) (A : Vec) (σ : Sg) (hR : RepC σ 4 A) (hF : WF A) (hg : g < A 0) (ht : σ 256 1 = nI t) (ht9 : t + 5 ≤ 16) (hd : dp + 3 ≤ 12) (hk : A (7 + 3 * g) = 2) : Cn E m_X1_runBody 9 [.ref (eB E + 256), .ref (eB E + 4), .int (nI g), .int (nI 11), .int (nI dp)] σ (pI (fun σ' r => σ' = trL t [11, 10, 24, 21, 20] σ ∧ r = nI (A (8 + 3 * g)) + ((nI g + nI (cntN (mkN (ofF A g) (A 1)))) * nI 2))) := by
  have h5 := hF.2.2.1
  obtain ⟨hG2, hG6, hA5, hA5p, h2a, h2b, h3a, h3b, hgs⟩ := id hF.1
  refine Cn.of [some (.ref (eB E + 256)), some (.ref (eB E + 4)), some (.int (nI g)), some (.int (nI 11)), some (.int (nI dp)), none, none] (by decide) (Nat.le_of_ble_eq_true rfl) rfl ?_
  refine V_iload e_X1_runBody_0 rfl ?_
  refine V_bipush (v := nI 12) e_X1_runBody_2 (by decide) ?_
  refine V_icmp_le (tgt := 9) e_X1_runBody_4 (by decide) (fun c1 => ?_) (fun c1 => ((by have := c1; exact this (nI_le (by omega) (by omega)) : False)).elim)
  refine V_aload_n e_X1_runBody_9 rfl rfl ?_
  refine V_iload_n e_X1_runBody_10 rfl rfl ?_
  refine V_cvV (av := [.int (nI 11)]) (st := []) e_X1_runBody_11 (c_X1_leaveTrace E t 11 σ ht (by omega)) l_X1_45 S_X1_leaveTrace rfl (rm_ok (by decide) (by decide)) rfl rfl (Nat.le_of_ble_eq_true rfl) ?_
  intro τ hτ
  rw [show τ = trL t [11] σ from hτ]
  clear hτ
  have hR1 : RepC (trL t [11] σ) 4 A := hR.tr h5 (by omega)
  refine V_iload e_X1_runBody_14 rfl ?_
  refine V_iconst (v := nI 1) e_X1_runBody_16 (by decide) ?_
  refine V_iaddN (z := nI (dp + 1)) e_X1_runBody_17 (nI_add _ _) ?_
  refine V_istore (L' := [some (.ref (eB E + 256)), some (.ref (eB E + 4)), some (.int (nI g)), some (.int (nI 11)), some (.int (nI dp)), some (.int (nI (dp + 1))), none]) e_X1_runBody_18 rfl ?_
  refine V_aload_n e_X1_runBody_20 rfl rfl ?_
  refine V_getr (r := 5) e_X1_runBody_21 F_X5_sorts f_X1_30 rfl rfl ?_
  refine V_iload_n e_X1_runBody_24 rfl rfl ?_
  refine V_ialdv (v := nI (A (7 + 3 * g))) (j := g) e_X1_runBody_25 rfl rfl (by have q : ln 5 = 6 := rfl; omega) ((hR1.1.2.2.2.2.2.2.2 g hg).1) ?_
  refine V_istore (L' := [some (.ref (eB E + 256)), some (.ref (eB E + 4)), some (.int (nI g)), some (.int (nI 11)), some (.int (nI dp)), some (.int (nI (dp + 1))), some (.int (nI (A (7 + 3 * g))))]) e_X1_runBody_26 rfl ?_
  refine V_iload_n e_X1_runBody_28 rfl rfl ?_
  refine V_tab (j := 11) (tgt := 111) e_X1_runBody_29 rfl (by decide) (by decide +kernel) ?_
  refine V_aload_n e_X1_runBody_111 rfl rfl ?_
  refine V_aload_n e_X1_runBody_112 rfl rfl ?_
  refine V_iload_n e_X1_runBody_113 rfl rfl ?_
  refine V_bipush (v := nI 10) e_X1_runBody_114 (by decide) ?_
  refine V_iload e_X1_runBody_116 rfl ?_
  refine V_cvIe (av := [.ref (eB E + 4), .int (nI g), .int (nI 10), .int (nI (dp + 1))]) (st := []) e_X1_runBody_118 (c_X1_runBody_10 E (t + 1) g (dp + 1) A (trL t [11] σ) hR1 hF hg trL1_sz (by omega) (by omega)) l_X1_41 S_X1_runBody rfl (rm_ok (by decide) (by decide)) rfl rfl (Nat.le_of_ble_eq_true rfl) ?_
  refine V_aload_n e_X1_runBody_121 rfl rfl ?_
  refine V_aload_n e_X1_runBody_122 rfl rfl ?_
  refine V_iload_n e_X1_runBody_123 rfl rfl ?_
  refine V_getst (i := 1) e_X1_runBody_124 (by decide) f_X1_38 ?_
  refine V_iload e_X1_runBody_127 rfl ?_
  refine V_iads (i := 1) (j := 2) e_X1_runBody_129 (by decide) (by rw [hk]) (by decide) ?_
  refine V_topi (y := nI 24) (rfl) ?_
  refine V_iload e_X1_runBody_130 rfl ?_
  refine V_cvIe (av := [.ref (eB E + 4), .int (nI g), .int (nI 24), .int (nI (dp + 1))]) (st := [.int (nI (A (8 + 3 * g)))]) e_X1_runBody_132 (c_X1_runBody_24 E (t + 1 + 1) g (dp + 1) A (trL (t + 1) [10] (trL t [11] σ)) (hR1.tr h5 (by omega)) hF hg trL1_sz (by omega) (by omega)) l_X1_41 S_X1_runBody rfl (rm_ok (by decide) (by decide)) rfl rfl (Nat.le_of_ble_eq_true rfl) ?_
  refine V_iadd e_X1_runBody_135 ?_
  exact V_iret e_X1_runBody_136 rfl (⟨rfl, by first | rfl | (rw [nI_add])⟩)
set_option maxRecDepth 100000 in
set_option maxHeartbeats 4000000 in
theorem c_X1_runBody_12_2 (E : En) (t g dp : Nat) (A : Vec) (σ : Sg) (hR : RepC σ 4 A) (hF : WF A) (hg : g < A 0) (ht : σ 256 1 = nI t) (ht9 : t + 6 ≤ 16) (hd : dp + 4 ≤ 12) (hk : A (7 + 3 * g) = 2) : Cn E m_X1_runBody 10 [.ref (eB E + 256), .ref (eB E + 4), .int (nI g), .int (nI 12), .int (nI dp)] σ (pI (fun σ' r => σ' = trL t [12, 11, 10, 24, 21, 20] σ ∧ r = -(nI (A (8 + 3 * g)) + ((nI g + nI (cntN (mkN (ofF A g) (A 1)))) * nI 2)))) := by
  have h5 := hF.2.2.1
  obtain ⟨hG2, hG6, hA5, hA5p, h2a, h2b, h3a, h3b, hgs⟩ := id hF.1
  refine Cn.of [some (.ref (eB E + 256)), some (.ref (eB E + 4)), some (.int (nI g)), some (.int (nI 12)), some (.int (nI dp)), none, none] (by decide) (Nat.le_of_ble_eq_true rfl) rfl ?_
  refine V_iload e_X1_runBody_0 rfl ?_
  refine V_bipush (v := nI 12) e_X1_runBody_2 (by decide) ?_
  refine V_icmp_le (tgt := 9) e_X1_runBody_4 (by decide) (fun c1 => ?_) (fun c1 => ((by have := c1; exact this (nI_le (by omega) (by omega)) : False)).elim)
  refine V_aload_n e_X1_runBody_9 rfl rfl ?_
  refine V_iload_n e_X1_runBody_10 rfl rfl ?_
  refine V_cvV (av := [.int (nI 12)]) (st := []) e_X1_runBody_11 (c_X1_leaveTrace E t 12 σ ht (by omega)) l_X1_45 S_X1_leaveTrace rfl (rm_ok (by decide) (by decide)) rfl rfl (Nat.le_of_ble_eq_true rfl) ?_
  intro τ hτ
  rw [show τ = trL t [12] σ from hτ]
  clear hτ
  have hR1 : RepC (trL t [12] σ) 4 A := hR.tr h5 (by omega)
  refine V_iload e_X1_runBody_14 rfl ?_
  refine V_iconst (v := nI 1) e_X1_runBody_16 (by decide) ?_
  refine V_iaddN (z := nI (dp + 1)) e_X1_runBody_17 (nI_add _ _) ?_
  refine V_istore (L' := [some (.ref (eB E + 256)), some (.ref (eB E + 4)), some (.int (nI g)), some (.int (nI 12)), some (.int (nI dp)), some (.int (nI (dp + 1))), none]) e_X1_runBody_18 rfl ?_
  refine V_aload_n e_X1_runBody_20 rfl rfl ?_
  refine V_getr (r := 5) e_X1_runBody_21 F_X5_sorts f_X1_30 rfl rfl ?_
  refine V_iload_n e_X1_runBody_24 rfl rfl ?_
  refine V_ialdv (v := nI (A (7 + 3 * g))) (j := g) e_X1_runBody_25 rfl rfl (by have q : ln 5 = 6 := rfl; omega) ((hR1.1.2.2.2.2.2.2.2 g hg).1) ?_
  refine V_istore (L' := [some (.ref (eB E + 256)), some (.ref (eB E + 4)), some (.int (nI g)), some (.int (nI 12)), some (.int (nI dp)), some (.int (nI (dp + 1))), some (.int (nI (A (7 + 3 * g))))]) e_X1_runBody_26 rfl ?_
  refine V_iload_n e_X1_runBody_28 rfl rfl ?_
  refine V_tab (j := 12) (tgt := 137) e_X1_runBody_29 rfl (by decide) (by decide +kernel) ?_
  refine V_aload_n e_X1_runBody_137 rfl rfl ?_
  refine V_aload_n e_X1_runBody_138 rfl rfl ?_
  refine V_iload_n e_X1_runBody_139 rfl rfl ?_
  refine V_bipush (v := nI 11) e_X1_runBody_140 (by decide) ?_
  refine V_iload e_X1_runBody_142 rfl ?_
  refine V_cvIe (av := [.ref (eB E + 4), .int (nI g), .int (nI 11), .int (nI (dp + 1))]) (st := []) e_X1_runBody_144 (c_X1_runBody_11_2 E (t + 1) g (dp + 1) A (trL t [12] σ) hR1 hF hg trL1_sz (by omega) (by omega) hk) l_X1_41 S_X1_runBody rfl (rm_ok (by decide) (by decide)) rfl rfl (Nat.le_of_ble_eq_true rfl) ?_
  refine V_ineg e_X1_runBody_147 ?_
  exact V_iret e_X1_runBody_148 rfl (⟨rfl, by first | rfl | (rw [nI_add])⟩)
set_option maxRecDepth 100000 in
set_option maxHeartbeats 4000000 in
theorem c_X1_answer_1_0 (E : En) (g : Nat) (A : Vec) (σ : Sg) (hR : RepC σ 4 A) (hF : WF A) (hg : g < A 0) (hk : A (7 + 3 * g) = 1) : Cn E m_X1_answer 11 [.ref (eB E + 256), .ref (eB E + 4), .int (nI g), .int (nI 0)] σ (pI (fun σ' r => σ' = trL 0 [11, 10, 21, 20] (up2 σ 256 1 (nI 0)) ∧ r = nI (A (8 + 3 * g)) + (nI g + nI (cntN (mkN (ofF A g) (A 1)))))) := by
  have h5 := hF.2.2.1
  obtain ⟨hG2, hG6, hA5, hA5p, h2a, h2b, h3a, h3b, hgs⟩ := id hF.1
  have hR0 : RepC (up2 σ 256 1 (nI 0)) 4 A := hR.fb (lo := 256) (hi := 257) h5 (Fb.rf.up (by omega) (by omega)) (by omega)
  refine Cn.of [some (.ref (eB E + 256)), some (.ref (eB E + 4)), some (.int (nI g)), some (.int (nI 0)), none] (by decide) (Nat.le_of_ble_eq_true rfl) rfl ?_
  refine V_aload_n e_X1_answer_0 rfl rfl ?_
  refine V_iconst (v := nI 0) e_X1_answer_1 (by decide) ?_
  refine V_puti e_X1_answer_2 F_X1_traceSize f_X1_26 rfl ?_
  refine V_aload_n e_X1_answer_5 rfl rfl ?_
  refine V_getr (r := 5) e_X1_answer_6 F_X5_sorts f_X1_30 rfl rfl ?_
  refine V_iload_n e_X1_answer_9 rfl rfl ?_
  refine V_ialdv (v := nI (A (7 + 3 * g))) (j := g) e_X1_answer_10 rfl rfl (by have q : ln 5 = 6 := rfl; omega) ((hR0.1.2.2.2.2.2.2.2 g hg).1) ?_
  refine V_istore (L' := [some (.ref (eB E + 256)), some (.ref (eB E + 4)), some (.int (nI g)), some (.int (nI 0)), some (.int (nI (A (7 + 3 * g))))]) e_X1_answer_11 rfl ?_
  refine V_aload_n e_X1_answer_13 rfl rfl ?_
  refine V_aload_n e_X1_answer_14 rfl rfl ?_
  refine V_iload_n e_X1_answer_15 rfl rfl ?_
  refine V_iload_n e_X1_answer_16 rfl rfl ?_
  refine V_if_ne (tgt := 29) e_X1_answer_17 (by decide) (fun c1 => absurd c1 (by decide)) (fun c1 => ?_)
  refine V_getst (i := 0) e_X1_answer_20 (by decide) f_X1_35 ?_
  refine V_iload e_X1_answer_23 rfl ?_
  refine V_iads (i := 0) (j := 1) e_X1_answer_25 (by decide) (by rw [hk]) (by decide) ?_
  refine V_topi (y := nI 11) (rfl) ?_
  refine V_goto (tgt := 35) e_X1_answer_26 (by decide) ?_
  refine V_iconst (v := nI 0) e_X1_answer_35 (by decide) ?_
  refine V_cvIe (av := [.ref (eB E + 4), .int (nI g), .int (nI 11), .int (nI 0)]) (st := []) e_X1_answer_36 (c_X1_runBody_11_1 E 0 g 0 A (up2 σ 256 1 (nI 0)) hR0 hF hg up2_at (by omega) (by omega) hk) l_X1_41 S_X1_runBody rfl (rm_ok (by decide) (by decide)) rfl rfl (Nat.le_of_ble_eq_true rfl) ?_
  exact V_iret e_X1_answer_39 rfl (⟨rfl, rfl⟩)
set_option maxRecDepth 100000 in
set_option maxHeartbeats 4000000 in
theorem c_X1_answer_1_1 (E : En) (g : Nat) (A : Vec) (σ : Sg) (hR : RepC σ 4 A) (hF : WF A) (hg : g < A 0) (hk : A (7 + 3 * g) = 1) : Cn E m_X1_answer 11 [.ref (eB E + 256), .ref (eB E + 4), .int (nI g), .int (nI 1)] σ (pI (fun σ' r => σ' = trL 0 [21, 20] (up2 σ 256 1 (nI 0)) ∧ r = nI g + nI (cntN (mkN (ofF A g) (A 1))))) := by
  have h5 := hF.2.2.1
  obtain ⟨hG2, hG6, hA5, hA5p, h2a, h2b, h3a, h3b, hgs⟩ := id hF.1
  have hR0 : RepC (up2 σ 256 1 (nI 0)) 4 A := hR.fb (lo := 256) (hi := 257) h5 (Fb.rf.up (by omega) (by omega)) (by omega)
  refine Cn.of [some (.ref (eB E + 256)), some (.ref (eB E + 4)), some (.int (nI g)), some (.int (nI 1)), none] (by decide) (Nat.le_of_ble_eq_true rfl) rfl ?_
  refine V_aload_n e_X1_answer_0 rfl rfl ?_
  refine V_iconst (v := nI 0) e_X1_answer_1 (by decide) ?_
  refine V_puti e_X1_answer_2 F_X1_traceSize f_X1_26 rfl ?_
  refine V_aload_n e_X1_answer_5 rfl rfl ?_
  refine V_getr (r := 5) e_X1_answer_6 F_X5_sorts f_X1_30 rfl rfl ?_
  refine V_iload_n e_X1_answer_9 rfl rfl ?_
  refine V_ialdv (v := nI (A (7 + 3 * g))) (j := g) e_X1_answer_10 rfl rfl (by have q : ln 5 = 6 := rfl; omega) ((hR0.1.2.2.2.2.2.2.2 g hg).1) ?_
  refine V_istore (L' := [some (.ref (eB E + 256)), some (.ref (eB E + 4)), some (.int (nI g)), some (.int (nI 1)), some (.int (nI (A (7 + 3 * g))))]) e_X1_answer_11 rfl ?_
  refine V_aload_n e_X1_answer_13 rfl rfl ?_
  refine V_aload_n e_X1_answer_14 rfl rfl ?_
  refine V_iload_n e_X1_answer_15 rfl rfl ?_
  refine V_iload_n e_X1_answer_16 rfl rfl ?_
  refine V_if_ne (tgt := 29) e_X1_answer_17 (by decide) (fun c1 => ?_) (fun c1 => absurd c1 (by decide))
  refine V_getst (i := 1) e_X1_answer_29 (by decide) f_X1_38 ?_
  refine V_iload e_X1_answer_32 rfl ?_
  refine V_iads (i := 1) (j := 1) e_X1_answer_34 (by decide) (by rw [hk]) (by decide) ?_
  refine V_topi (y := nI 21) (rfl) ?_
  refine V_iconst (v := nI 0) e_X1_answer_35 (by decide) ?_
  refine V_cvIe (av := [.ref (eB E + 4), .int (nI g), .int (nI 21), .int (nI 0)]) (st := []) e_X1_answer_36 (c_X1_runBody_21 E 0 g 0 A (up2 σ 256 1 (nI 0)) hR0 hF hg up2_at (by omega) (by omega)) l_X1_41 S_X1_runBody rfl (rm_ok (by decide) (by decide)) rfl rfl (Nat.le_of_ble_eq_true rfl) ?_
  exact V_iret e_X1_answer_39 rfl (⟨rfl, rfl⟩)
set_option maxRecDepth 100000 in
set_option maxHeartbeats 4000000 in
theorem c_X1_answer_2_0 (E : En) (g : Nat) (A : Vec) (σ : Sg) (hR : RepC σ 4 A) (hF : WF A) (hg : g < A 0) (hk : A (7 + 3 * g) = 2) : Cn E m_X1_answer 11 [.ref (eB E + 256), .ref (eB E + 4), .int (nI g), .int (nI 0)] σ (pI (fun σ' r => σ' = trL 0 [12, 11, 10, 24, 21, 20] (up2 σ 256 1 (nI 0)) ∧ r = -(nI (A (8 + 3 * g)) + ((nI g + nI (cntN (mkN (ofF A g) (A 1)))) * nI 2)))) := by
  have h5 := hF.2.2.1
  obtain ⟨hG2, hG6, hA5, hA5p, h2a, h2b, h3a, h3b, hgs⟩ := id hF.1
  have hR0 : RepC (up2 σ 256 1 (nI 0)) 4 A := hR.fb (lo := 256) (hi := 257) h5 (Fb.rf.up (by omega) (by omega)) (by omega)
  refine Cn.of [some (.ref (eB E + 256)), some (.ref (eB E + 4)), some (.int (nI g)), some (.int (nI 0)), none] (by decide) (Nat.le_of_ble_eq_true rfl) rfl ?_
  refine V_aload_n e_X1_answer_0 rfl rfl ?_
  refine V_iconst (v := nI 0) e_X1_answer_1 (by decide) ?_
  refine V_puti e_X1_answer_2 F_X1_traceSize f_X1_26 rfl ?_
  refine V_aload_n e_X1_answer_5 rfl rfl ?_
  refine V_getr (r := 5) e_X1_answer_6 F_X5_sorts f_X1_30 rfl rfl ?_
  refine V_iload_n e_X1_answer_9 rfl rfl ?_
  refine V_ialdv (v := nI (A (7 + 3 * g))) (j := g) e_X1_answer_10 rfl rfl (by have q : ln 5 = 6 := rfl; omega) ((hR0.1.2.2.2.2.2.2.2 g hg).1) ?_
  refine V_istore (L' := [some (.ref (eB E + 256)), some (.ref (eB E + 4)), some (.int (nI g)), some (.int (nI 0)), some (.int (nI (A (7 + 3 * g))))]) e_X1_answer_11 rfl ?_
  refine V_aload_n e_X1_answer_13 rfl rfl ?_
  refine V_aload_n e_X1_answer_14 rfl rfl ?_
  refine V_iload_n e_X1_answer_15 rfl rfl ?_
  refine V_iload_n e_X1_answer_16 rfl rfl ?_
  refine V_if_ne (tgt := 29) e_X1_answer_17 (by decide) (fun c1 => absurd c1 (by decide)) (fun c1 => ?_)
  refine V_getst (i := 0) e_X1_answer_20 (by decide) f_X1_35 ?_
  refine V_iload e_X1_answer_23 rfl ?_
  refine V_iads (i := 0) (j := 2) e_X1_answer_25 (by decide) (by rw [hk]) (by decide) ?_
  refine V_topi (y := nI 12) (rfl) ?_
  refine V_goto (tgt := 35) e_X1_answer_26 (by decide) ?_
  refine V_iconst (v := nI 0) e_X1_answer_35 (by decide) ?_
  refine V_cvIe (av := [.ref (eB E + 4), .int (nI g), .int (nI 12), .int (nI 0)]) (st := []) e_X1_answer_36 (c_X1_runBody_12_2 E 0 g 0 A (up2 σ 256 1 (nI 0)) hR0 hF hg up2_at (by omega) (by omega) hk) l_X1_41 S_X1_runBody rfl (rm_ok (by decide) (by decide)) rfl rfl (Nat.le_of_ble_eq_true rfl) ?_
  exact V_iret e_X1_answer_39 rfl (⟨rfl, rfl⟩)
set_option maxRecDepth 100000 in
set_option maxHeartbeats 4000000 in
theorem c_X1_answer_2_1 (E : En) (g : Nat) (A : Vec) (σ : Sg) (hR : RepC σ 4 A) (hF : WF A) (hg : g < A 0) (hk : A (7 + 3 * g) = 2) : Cn E m_X1_answer 11 [.ref (eB E + 256), .ref (eB E + 4), .int (nI g), .int (nI 1)] σ (pI (fun σ' r => σ' = trL 0 [24, 21, 20] (up2 σ 256 1 (nI 0)) ∧ r = (nI g + nI (cntN (mkN (ofF A g) (A 1)))) * nI 2)) := by
  have h5 := hF.2.2.1
  obtain ⟨hG2, hG6, hA5, hA5p, h2a, h2b, h3a, h3b, hgs⟩ := id hF.1
  have hR0 : RepC (up2 σ 256 1 (nI 0)) 4 A := hR.fb (lo := 256) (hi := 257) h5 (Fb.rf.up (by omega) (by omega)) (by omega)
  refine Cn.of [some (.ref (eB E + 256)), some (.ref (eB E + 4)), some (.int (nI g)), some (.int (nI 1)), none] (by decide) (Nat.le_of_ble_eq_true rfl) rfl ?_
  refine V_aload_n e_X1_answer_0 rfl rfl ?_
  refine V_iconst (v := nI 0) e_X1_answer_1 (by decide) ?_
  refine V_puti e_X1_answer_2 F_X1_traceSize f_X1_26 rfl ?_
  refine V_aload_n e_X1_answer_5 rfl rfl ?_
  refine V_getr (r := 5) e_X1_answer_6 F_X5_sorts f_X1_30 rfl rfl ?_
  refine V_iload_n e_X1_answer_9 rfl rfl ?_
  refine V_ialdv (v := nI (A (7 + 3 * g))) (j := g) e_X1_answer_10 rfl rfl (by have q : ln 5 = 6 := rfl; omega) ((hR0.1.2.2.2.2.2.2.2 g hg).1) ?_
  refine V_istore (L' := [some (.ref (eB E + 256)), some (.ref (eB E + 4)), some (.int (nI g)), some (.int (nI 1)), some (.int (nI (A (7 + 3 * g))))]) e_X1_answer_11 rfl ?_
  refine V_aload_n e_X1_answer_13 rfl rfl ?_
  refine V_aload_n e_X1_answer_14 rfl rfl ?_
  refine V_iload_n e_X1_answer_15 rfl rfl ?_
  refine V_iload_n e_X1_answer_16 rfl rfl ?_
  refine V_if_ne (tgt := 29) e_X1_answer_17 (by decide) (fun c1 => ?_) (fun c1 => absurd c1 (by decide))
  refine V_getst (i := 1) e_X1_answer_29 (by decide) f_X1_38 ?_
  refine V_iload e_X1_answer_32 rfl ?_
  refine V_iads (i := 1) (j := 2) e_X1_answer_34 (by decide) (by rw [hk]) (by decide) ?_
  refine V_topi (y := nI 24) (rfl) ?_
  refine V_iconst (v := nI 0) e_X1_answer_35 (by decide) ?_
  refine V_cvIe (av := [.ref (eB E + 4), .int (nI g), .int (nI 24), .int (nI 0)]) (st := []) e_X1_answer_36 (c_X1_runBody_24 E 0 g 0 A (up2 σ 256 1 (nI 0)) hR0 hF hg up2_at (by omega) (by omega)) l_X1_41 S_X1_runBody rfl (rm_ok (by decide) (by decide)) rfl rfl (Nat.le_of_ble_eq_true rfl) ?_
  exact V_iret e_X1_answer_39 rfl (⟨rfl, rfl⟩)
set_option maxRecDepth 100000 in
set_option maxHeartbeats 4000000 in
theorem c_X1_answer_3_0 (E : En) (g : Nat) (A : Vec) (σ : Sg) (hR : RepC σ 4 A) (hF : WF A) (hg : g < A 0) (hk : A (7 + 3 * g) = 3) : Cn E m_X1_answer 11 [.ref (eB E + 256), .ref (eB E + 4), .int (nI g), .int (nI 0)] σ (pI (fun σ' r => σ' = trL 0 [11, 10, 22, 21, 20] (up2 σ 256 1 (nI 0)) ∧ r = nI (A (8 + 3 * g)) + ((nI g + nI (cntN (mkN (ofF A g) (A 1)))) - nI 1000))) := by
  have h5 := hF.2.2.1
  obtain ⟨hG2, hG6, hA5, hA5p, h2a, h2b, h3a, h3b, hgs⟩ := id hF.1
  have hR0 : RepC (up2 σ 256 1 (nI 0)) 4 A := hR.fb (lo := 256) (hi := 257) h5 (Fb.rf.up (by omega) (by omega)) (by omega)
  refine Cn.of [some (.ref (eB E + 256)), some (.ref (eB E + 4)), some (.int (nI g)), some (.int (nI 0)), none] (by decide) (Nat.le_of_ble_eq_true rfl) rfl ?_
  refine V_aload_n e_X1_answer_0 rfl rfl ?_
  refine V_iconst (v := nI 0) e_X1_answer_1 (by decide) ?_
  refine V_puti e_X1_answer_2 F_X1_traceSize f_X1_26 rfl ?_
  refine V_aload_n e_X1_answer_5 rfl rfl ?_
  refine V_getr (r := 5) e_X1_answer_6 F_X5_sorts f_X1_30 rfl rfl ?_
  refine V_iload_n e_X1_answer_9 rfl rfl ?_
  refine V_ialdv (v := nI (A (7 + 3 * g))) (j := g) e_X1_answer_10 rfl rfl (by have q : ln 5 = 6 := rfl; omega) ((hR0.1.2.2.2.2.2.2.2 g hg).1) ?_
  refine V_istore (L' := [some (.ref (eB E + 256)), some (.ref (eB E + 4)), some (.int (nI g)), some (.int (nI 0)), some (.int (nI (A (7 + 3 * g))))]) e_X1_answer_11 rfl ?_
  refine V_aload_n e_X1_answer_13 rfl rfl ?_
  refine V_aload_n e_X1_answer_14 rfl rfl ?_
  refine V_iload_n e_X1_answer_15 rfl rfl ?_
  refine V_iload_n e_X1_answer_16 rfl rfl ?_
  refine V_if_ne (tgt := 29) e_X1_answer_17 (by decide) (fun c1 => absurd c1 (by decide)) (fun c1 => ?_)
  refine V_getst (i := 0) e_X1_answer_20 (by decide) f_X1_35 ?_
  refine V_iload e_X1_answer_23 rfl ?_
  refine V_iads (i := 0) (j := 3) e_X1_answer_25 (by decide) (by rw [hk]) (by decide) ?_
  refine V_topi (y := nI 11) (rfl) ?_
  refine V_goto (tgt := 35) e_X1_answer_26 (by decide) ?_
  refine V_iconst (v := nI 0) e_X1_answer_35 (by decide) ?_
  refine V_cvIe (av := [.ref (eB E + 4), .int (nI g), .int (nI 11), .int (nI 0)]) (st := []) e_X1_answer_36 (c_X1_runBody_11_3 E 0 g 0 A (up2 σ 256 1 (nI 0)) hR0 hF hg up2_at (by omega) (by omega) hk) l_X1_41 S_X1_runBody rfl (rm_ok (by decide) (by decide)) rfl rfl (Nat.le_of_ble_eq_true rfl) ?_
  exact V_iret e_X1_answer_39 rfl (⟨rfl, rfl⟩)
set_option maxRecDepth 100000 in
set_option maxHeartbeats 4000000 in
theorem c_X1_answer_3_1 (E : En) (g : Nat) (A : Vec) (σ : Sg) (hR : RepC σ 4 A) (hF : WF A) (hg : g < A 0) (hk : A (7 + 3 * g) = 3) : Cn E m_X1_answer 11 [.ref (eB E + 256), .ref (eB E + 4), .int (nI g), .int (nI 1)] σ (pI (fun σ' r => σ' = trL 0 [22, 21, 20] (up2 σ 256 1 (nI 0)) ∧ r = (nI g + nI (cntN (mkN (ofF A g) (A 1)))) - nI 1000)) := by
  have h5 := hF.2.2.1
  obtain ⟨hG2, hG6, hA5, hA5p, h2a, h2b, h3a, h3b, hgs⟩ := id hF.1
  have hR0 : RepC (up2 σ 256 1 (nI 0)) 4 A := hR.fb (lo := 256) (hi := 257) h5 (Fb.rf.up (by omega) (by omega)) (by omega)
  refine Cn.of [some (.ref (eB E + 256)), some (.ref (eB E + 4)), some (.int (nI g)), some (.int (nI 1)), none] (by decide) (Nat.le_of_ble_eq_true rfl) rfl ?_
  refine V_aload_n e_X1_answer_0 rfl rfl ?_
  refine V_iconst (v := nI 0) e_X1_answer_1 (by decide) ?_
  refine V_puti e_X1_answer_2 F_X1_traceSize f_X1_26 rfl ?_
  refine V_aload_n e_X1_answer_5 rfl rfl ?_
  refine V_getr (r := 5) e_X1_answer_6 F_X5_sorts f_X1_30 rfl rfl ?_
  refine V_iload_n e_X1_answer_9 rfl rfl ?_
  refine V_ialdv (v := nI (A (7 + 3 * g))) (j := g) e_X1_answer_10 rfl rfl (by have q : ln 5 = 6 := rfl; omega) ((hR0.1.2.2.2.2.2.2.2 g hg).1) ?_
  refine V_istore (L' := [some (.ref (eB E + 256)), some (.ref (eB E + 4)), some (.int (nI g)), some (.int (nI 1)), some (.int (nI (A (7 + 3 * g))))]) e_X1_answer_11 rfl ?_
  refine V_aload_n e_X1_answer_13 rfl rfl ?_
  refine V_aload_n e_X1_answer_14 rfl rfl ?_
  refine V_iload_n e_X1_answer_15 rfl rfl ?_
  refine V_iload_n e_X1_answer_16 rfl rfl ?_
  refine V_if_ne (tgt := 29) e_X1_answer_17 (by decide) (fun c1 => ?_) (fun c1 => absurd c1 (by decide))
  refine V_getst (i := 1) e_X1_answer_29 (by decide) f_X1_38 ?_
  refine V_iload e_X1_answer_32 rfl ?_
  refine V_iads (i := 1) (j := 3) e_X1_answer_34 (by decide) (by rw [hk]) (by decide) ?_
  refine V_topi (y := nI 22) (rfl) ?_
  refine V_iconst (v := nI 0) e_X1_answer_35 (by decide) ?_
  refine V_cvIe (av := [.ref (eB E + 4), .int (nI g), .int (nI 22), .int (nI 0)]) (st := []) e_X1_answer_36 (c_X1_runBody_22 E 0 g 0 A (up2 σ 256 1 (nI 0)) hR0 hF hg up2_at (by omega) (by omega)) l_X1_41 S_X1_runBody rfl (rm_ok (by decide) (by decide)) rfl rfl (Nat.le_of_ble_eq_true rfl) ?_
  exact V_iret e_X1_answer_39 rfl (⟨rfl, rfl⟩)
set_option maxRecDepth 100000 in
set_option maxHeartbeats 4000000 in
theorem c_X1_answer_4_0 (E : En) (g : Nat) (A : Vec) (σ : Sg) (hR : RepC σ 4 A) (hF : WF A) (hg : g < A 0) (hk : A (7 + 3 * g) = 4) : Cn E m_X1_answer 11 [.ref (eB E + 256), .ref (eB E + 4), .int (nI g), .int (nI 0)] σ (pI (fun σ' r => σ' = trL 0 [13, 10] (up2 σ 256 1 (nI 0)) ∧ r = nI (A (8 + 3 * g)) - nI 100)) := by
  have h5 := hF.2.2.1
  obtain ⟨hG2, hG6, hA5, hA5p, h2a, h2b, h3a, h3b, hgs⟩ := id hF.1
  have hR0 : RepC (up2 σ 256 1 (nI 0)) 4 A := hR.fb (lo := 256) (hi := 257) h5 (Fb.rf.up (by omega) (by omega)) (by omega)
  refine Cn.of [some (.ref (eB E + 256)), some (.ref (eB E + 4)), some (.int (nI g)), some (.int (nI 0)), none] (by decide) (Nat.le_of_ble_eq_true rfl) rfl ?_
  refine V_aload_n e_X1_answer_0 rfl rfl ?_
  refine V_iconst (v := nI 0) e_X1_answer_1 (by decide) ?_
  refine V_puti e_X1_answer_2 F_X1_traceSize f_X1_26 rfl ?_
  refine V_aload_n e_X1_answer_5 rfl rfl ?_
  refine V_getr (r := 5) e_X1_answer_6 F_X5_sorts f_X1_30 rfl rfl ?_
  refine V_iload_n e_X1_answer_9 rfl rfl ?_
  refine V_ialdv (v := nI (A (7 + 3 * g))) (j := g) e_X1_answer_10 rfl rfl (by have q : ln 5 = 6 := rfl; omega) ((hR0.1.2.2.2.2.2.2.2 g hg).1) ?_
  refine V_istore (L' := [some (.ref (eB E + 256)), some (.ref (eB E + 4)), some (.int (nI g)), some (.int (nI 0)), some (.int (nI (A (7 + 3 * g))))]) e_X1_answer_11 rfl ?_
  refine V_aload_n e_X1_answer_13 rfl rfl ?_
  refine V_aload_n e_X1_answer_14 rfl rfl ?_
  refine V_iload_n e_X1_answer_15 rfl rfl ?_
  refine V_iload_n e_X1_answer_16 rfl rfl ?_
  refine V_if_ne (tgt := 29) e_X1_answer_17 (by decide) (fun c1 => absurd c1 (by decide)) (fun c1 => ?_)
  refine V_getst (i := 0) e_X1_answer_20 (by decide) f_X1_35 ?_
  refine V_iload e_X1_answer_23 rfl ?_
  refine V_iads (i := 0) (j := 4) e_X1_answer_25 (by decide) (by rw [hk]) (by decide) ?_
  refine V_topi (y := nI 13) (rfl) ?_
  refine V_goto (tgt := 35) e_X1_answer_26 (by decide) ?_
  refine V_iconst (v := nI 0) e_X1_answer_35 (by decide) ?_
  refine V_cvIe (av := [.ref (eB E + 4), .int (nI g), .int (nI 13), .int (nI 0)]) (st := []) e_X1_answer_36 (c_X1_runBody_13 E 0 g 0 A (up2 σ 256 1 (nI 0)) hR0 hF hg up2_at (by omega) (by omega)) l_X1_41 S_X1_runBody rfl (rm_ok (by decide) (by decide)) rfl rfl (Nat.le_of_ble_eq_true rfl) ?_
  exact V_iret e_X1_answer_39 rfl (⟨rfl, rfl⟩)
set_option maxRecDepth 100000 in
set_option maxHeartbeats 4000000 in
theorem c_X1_answer_4_1 (E : En) (g : Nat) (A : Vec) (σ : Sg) (hR : RepC σ 4 A) (hF : WF A) (hg : g < A 0) (hk : A (7 + 3 * g) = 4) : Cn E m_X1_answer 11 [.ref (eB E + 256), .ref (eB E + 4), .int (nI g), .int (nI 1)] σ (pI (fun σ' r => σ' = trL 0 [23, 20, 13, 10] (up2 σ 256 1 (nI 0)) ∧ r = nI g - (nI (A (8 + 3 * g)) - nI 100))) := by
  have h5 := hF.2.2.1
  obtain ⟨hG2, hG6, hA5, hA5p, h2a, h2b, h3a, h3b, hgs⟩ := id hF.1
  have hR0 : RepC (up2 σ 256 1 (nI 0)) 4 A := hR.fb (lo := 256) (hi := 257) h5 (Fb.rf.up (by omega) (by omega)) (by omega)
  refine Cn.of [some (.ref (eB E + 256)), some (.ref (eB E + 4)), some (.int (nI g)), some (.int (nI 1)), none] (by decide) (Nat.le_of_ble_eq_true rfl) rfl ?_
  refine V_aload_n e_X1_answer_0 rfl rfl ?_
  refine V_iconst (v := nI 0) e_X1_answer_1 (by decide) ?_
  refine V_puti e_X1_answer_2 F_X1_traceSize f_X1_26 rfl ?_
  refine V_aload_n e_X1_answer_5 rfl rfl ?_
  refine V_getr (r := 5) e_X1_answer_6 F_X5_sorts f_X1_30 rfl rfl ?_
  refine V_iload_n e_X1_answer_9 rfl rfl ?_
  refine V_ialdv (v := nI (A (7 + 3 * g))) (j := g) e_X1_answer_10 rfl rfl (by have q : ln 5 = 6 := rfl; omega) ((hR0.1.2.2.2.2.2.2.2 g hg).1) ?_
  refine V_istore (L' := [some (.ref (eB E + 256)), some (.ref (eB E + 4)), some (.int (nI g)), some (.int (nI 1)), some (.int (nI (A (7 + 3 * g))))]) e_X1_answer_11 rfl ?_
  refine V_aload_n e_X1_answer_13 rfl rfl ?_
  refine V_aload_n e_X1_answer_14 rfl rfl ?_
  refine V_iload_n e_X1_answer_15 rfl rfl ?_
  refine V_iload_n e_X1_answer_16 rfl rfl ?_
  refine V_if_ne (tgt := 29) e_X1_answer_17 (by decide) (fun c1 => ?_) (fun c1 => absurd c1 (by decide))
  refine V_getst (i := 1) e_X1_answer_29 (by decide) f_X1_38 ?_
  refine V_iload e_X1_answer_32 rfl ?_
  refine V_iads (i := 1) (j := 4) e_X1_answer_34 (by decide) (by rw [hk]) (by decide) ?_
  refine V_topi (y := nI 23) (rfl) ?_
  refine V_iconst (v := nI 0) e_X1_answer_35 (by decide) ?_
  refine V_cvIe (av := [.ref (eB E + 4), .int (nI g), .int (nI 23), .int (nI 0)]) (st := []) e_X1_answer_36 (c_X1_runBody_23_4 E 0 g 0 A (up2 σ 256 1 (nI 0)) hR0 hF hg up2_at (by omega) (by omega) hk) l_X1_41 S_X1_runBody rfl (rm_ok (by decide) (by decide)) rfl rfl (Nat.le_of_ble_eq_true rfl) ?_
  exact V_iret e_X1_answer_39 rfl (⟨rfl, rfl⟩)
set_option maxRecDepth 100000 in
set_option maxHeartbeats 4000000 in
theorem c_X1_answer_5_0 (E : En) (g : Nat) (A : Vec) (σ : Sg) (hR : RepC σ 4 A) (hF : WF A) (hg : g < A 0) (hk : A (7 + 3 * g) = 5) : Cn E m_X1_answer 11 [.ref (eB E + 256), .ref (eB E + 4), .int (nI g), .int (nI 0)] σ (pI (fun σ' r => σ' = trL 0 [14, 13, 10] (up2 σ 256 1 (nI 0)) ∧ r = (nI (A (8 + 3 * g)) - nI 100) * nI 2)) := by
  have h5 := hF.2.2.1
  obtain ⟨hG2, hG6, hA5, hA5p, h2a, h2b, h3a, h3b, hgs⟩ := id hF.1
  have hR0 : RepC (up2 σ 256 1 (nI 0)) 4 A := hR.fb (lo := 256) (hi := 257) h5 (Fb.rf.up (by omega) (by omega)) (by omega)
  refine Cn.of [some (.ref (eB E + 256)), some (.ref (eB E + 4)), some (.int (nI g)), some (.int (nI 0)), none] (by decide) (Nat.le_of_ble_eq_true rfl) rfl ?_
  refine V_aload_n e_X1_answer_0 rfl rfl ?_
  refine V_iconst (v := nI 0) e_X1_answer_1 (by decide) ?_
  refine V_puti e_X1_answer_2 F_X1_traceSize f_X1_26 rfl ?_
  refine V_aload_n e_X1_answer_5 rfl rfl ?_
  refine V_getr (r := 5) e_X1_answer_6 F_X5_sorts f_X1_30 rfl rfl ?_
  refine V_iload_n e_X1_answer_9 rfl rfl ?_
  refine V_ialdv (v := nI (A (7 + 3 * g))) (j := g) e_X1_answer_10 rfl rfl (by have q : ln 5 = 6 := rfl; omega) ((hR0.1.2.2.2.2.2.2.2 g hg).1) ?_
  refine V_istore (L' := [some (.ref (eB E + 256)), some (.ref (eB E + 4)), some (.int (nI g)), some (.int (nI 0)), some (.int (nI (A (7 + 3 * g))))]) e_X1_answer_11 rfl ?_
  refine V_aload_n e_X1_answer_13 rfl rfl ?_
  refine V_aload_n e_X1_answer_14 rfl rfl ?_
  refine V_iload_n e_X1_answer_15 rfl rfl ?_
  refine V_iload_n e_X1_answer_16 rfl rfl ?_
  refine V_if_ne (tgt := 29) e_X1_answer_17 (by decide) (fun c1 => absurd c1 (by decide)) (fun c1 => ?_)
  refine V_getst (i := 0) e_X1_answer_20 (by decide) f_X1_35 ?_
  refine V_iload e_X1_answer_23 rfl ?_
  refine V_iads (i := 0) (j := 5) e_X1_answer_25 (by decide) (by rw [hk]) (by decide) ?_
  refine V_topi (y := nI 14) (rfl) ?_
  refine V_goto (tgt := 35) e_X1_answer_26 (by decide) ?_
  refine V_iconst (v := nI 0) e_X1_answer_35 (by decide) ?_
  refine V_cvIe (av := [.ref (eB E + 4), .int (nI g), .int (nI 14), .int (nI 0)]) (st := []) e_X1_answer_36 (c_X1_runBody_14 E 0 g 0 A (up2 σ 256 1 (nI 0)) hR0 hF hg up2_at (by omega) (by omega)) l_X1_41 S_X1_runBody rfl (rm_ok (by decide) (by decide)) rfl rfl (Nat.le_of_ble_eq_true rfl) ?_
  exact V_iret e_X1_answer_39 rfl (⟨rfl, rfl⟩)
set_option maxRecDepth 100000 in
set_option maxHeartbeats 4000000 in
theorem c_X1_answer_5_1 (E : En) (g : Nat) (A : Vec) (σ : Sg) (hR : RepC σ 4 A) (hF : WF A) (hg : g < A 0) (hk : A (7 + 3 * g) = 5) : Cn E m_X1_answer 11 [.ref (eB E + 256), .ref (eB E + 4), .int (nI g), .int (nI 1)] σ (pI (fun σ' r => σ' = trL 0 [23, 20, 14, 13, 10] (up2 σ 256 1 (nI 0)) ∧ r = nI g - ((nI (A (8 + 3 * g)) - nI 100) * nI 2))) := by
  have h5 := hF.2.2.1
  obtain ⟨hG2, hG6, hA5, hA5p, h2a, h2b, h3a, h3b, hgs⟩ := id hF.1
  have hR0 : RepC (up2 σ 256 1 (nI 0)) 4 A := hR.fb (lo := 256) (hi := 257) h5 (Fb.rf.up (by omega) (by omega)) (by omega)
  refine Cn.of [some (.ref (eB E + 256)), some (.ref (eB E + 4)), some (.int (nI g)), some (.int (nI 1)), none] (by decide) (Nat.le_of_ble_eq_true rfl) rfl ?_
  refine V_aload_n e_X1_answer_0 rfl rfl ?_
  refine V_iconst (v := nI 0) e_X1_answer_1 (by decide) ?_
  refine V_puti e_X1_answer_2 F_X1_traceSize f_X1_26 rfl ?_
  refine V_aload_n e_X1_answer_5 rfl rfl ?_
  refine V_getr (r := 5) e_X1_answer_6 F_X5_sorts f_X1_30 rfl rfl ?_
  refine V_iload_n e_X1_answer_9 rfl rfl ?_
  refine V_ialdv (v := nI (A (7 + 3 * g))) (j := g) e_X1_answer_10 rfl rfl (by have q : ln 5 = 6 := rfl; omega) ((hR0.1.2.2.2.2.2.2.2 g hg).1) ?_
  refine V_istore (L' := [some (.ref (eB E + 256)), some (.ref (eB E + 4)), some (.int (nI g)), some (.int (nI 1)), some (.int (nI (A (7 + 3 * g))))]) e_X1_answer_11 rfl ?_
  refine V_aload_n e_X1_answer_13 rfl rfl ?_
  refine V_aload_n e_X1_answer_14 rfl rfl ?_
  refine V_iload_n e_X1_answer_15 rfl rfl ?_
  refine V_iload_n e_X1_answer_16 rfl rfl ?_
  refine V_if_ne (tgt := 29) e_X1_answer_17 (by decide) (fun c1 => ?_) (fun c1 => absurd c1 (by decide))
  refine V_getst (i := 1) e_X1_answer_29 (by decide) f_X1_38 ?_
  refine V_iload e_X1_answer_32 rfl ?_
  refine V_iads (i := 1) (j := 5) e_X1_answer_34 (by decide) (by rw [hk]) (by decide) ?_
  refine V_topi (y := nI 23) (rfl) ?_
  refine V_iconst (v := nI 0) e_X1_answer_35 (by decide) ?_
  refine V_cvIe (av := [.ref (eB E + 4), .int (nI g), .int (nI 23), .int (nI 0)]) (st := []) e_X1_answer_36 (c_X1_runBody_23_5 E 0 g 0 A (up2 σ 256 1 (nI 0)) hR0 hF hg up2_at (by omega) (by omega) hk) l_X1_41 S_X1_runBody rfl (rm_ok (by decide) (by decide)) rfl rfl (Nat.le_of_ble_eq_true rfl) ?_
  exact V_iret e_X1_answer_39 rfl (⟨rfl, rfl⟩)
def kiN (k : Nat) : Nat := [1, 3, 7, 11, 17, 49].getD k 0
theorem kiN_sT : ∀ k, k < 6 → sT 2 k = nI (kiN k) ∧ kiN k < 64 := by decide
set_option maxRecDepth 100000 in
set_option maxHeartbeats 4000000 in
theorem c_X1_isKind (E : En) (k j : Nat) (σ : Sg) (hk : k ≤ 5) (hj : j ≤ 5) : Cn E m_X1_isKind 2 [.int (nI k), .int (nI j)] σ (pI (fun σ' r => σ' = σ ∧ r = nI (bitN (kiN k) j))) := by
  refine Cn.of [some (.int (nI k)), some (.int (nI j))] (by decide) (Nat.le_of_ble_eq_true rfl) rfl ?_
  refine V_iload_n e_X1_isKind_0 rfl rfl ?_
  refine V_iconst (v := nI 0) e_X1_isKind_1 (by decide) ?_
  refine V_iconst (v := nI 5) e_X1_isKind_2 (by decide) ?_
  refine V_csNIe (av := [.int (nI k), .int (nI 0), .int (nI 5)]) (st := []) e_X1_isKind_3 (c_X8_within E (nI k) (nI 0) (nI 5) σ) l_X1_15 S_X8_within (rm_ok (by decide) (by decide)) rfl rfl (Nat.le_of_ble_eq_true rfl) ?_
  refine V_if_eq (tgt := 26) e_X1_isKind_6 (by decide) (fun c1 => absurd c1 (wi_one.mpr ⟨nI_nlt (by omega) (by omega), nI_nlt (by omega) (by omega)⟩)) (fun c1 => ?_)
  have hkb := (kiN_sT k (by omega)).2
  have hbb := bitN_le (kiN k) j
  refine V_getst (i := 2) e_X1_isKind_9 (by decide) f_X1_19 ?_
  refine V_iload_n e_X1_isKind_12 rfl rfl ?_
  refine V_iads (i := 2) (j := k) e_X1_isKind_13 (by decide) rfl (by omega) ?_
  refine V_topi (y := nI (kiN k)) ((kiN_sT k (by omega)).1) ?_
  refine V_iload_n e_X1_isKind_14 rfl rfl ?_
  refine V_csNIe (av := [.int (nI (kiN k)), .int (nI j)]) (st := []) e_X1_isKind_15 (c_X8_bitN E (kiN k) j σ (by omega) (by omega)) l_X1_22 S_X8_bit (rm_ok (by decide) (by decide)) rfl rfl (Nat.le_of_ble_eq_true rfl) ?_
  refine V_iconst (v := nI 1) e_X1_isKind_18 (by decide) ?_
  refine V_icmp_ne (tgt := 26) e_X1_isKind_19 (by decide) (fun c2 => ?_) (fun c2 => ?_)
  · have d2 : ¬ bitN (kiN k) j = 1 := nq_ne (by omega) (by omega) c2
    refine V_iconst (v := nI 0) e_X1_isKind_26 (by decide) ?_
    exact V_zret e_X1_isKind_27 rfl (by first | exact Or.inl nI_0 | exact Or.inr rfl | assumption) (⟨rfl, by congr 1; omega⟩)
  · have d2 : bitN (kiN k) j = 1 := nq_eq (by omega) (by omega) c2
    refine V_iconst (v := nI 1) e_X1_isKind_22 (by decide) ?_
    refine V_goto (tgt := 27) e_X1_isKind_23 (by decide) ?_
    exact V_zret e_X1_isKind_27 rfl (by first | exact Or.inl nI_0 | exact Or.inr rfl | assumption) (⟨rfl, by congr 1; omega⟩)

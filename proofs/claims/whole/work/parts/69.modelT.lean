set_option maxRecDepth 100000 in
set_option maxHeartbeats 4000000 in
theorem lp_sh151f (E : En) (T : Tp) (Q : Sg → Int32 → Prop) (σ : Sg) (hQf : ∀ ρ, MF σ ρ (pAll T).1 (pAll T).2.1 → ¬ (pAll T).1 = 0 → Q (up2 (up2 ρ 292 11 (nI 0)) 292 18 (nI (pAll T).1)) ((-1000100) - nI (pAll T).2.1)) : ∀ (mm : Nat) (k : Nat) (q : Nat) (τ : Sg), 0 = mm → (MF σ τ k q) → (¬ k = 0) → (k ≤ 3) → ((pAll T).1 = k) → ((pAll T).2.1 = q) → V E m_X9_shore (kM E 12 (pI Q)) 151 [some (.ref (eB E + 292)), none] [] τ := by
  intro mm
  induction mm using Nat.strongRecOn with
  | ind mm ih =>
    intro k q τ hmm hf hk hk3 hA1 hA2
    refine V_aload_n e_X9_shore_151 rfl rfl ?_
    refine V_cvIe (av := []) (st := []) e_X9_shore_152 (c_X9_failed_f E k q σ τ hf hk hk3) l_X9_151 S_X9_failed rfl (rm_ok (by decide) (by decide)) rfl rfl (Nat.le_of_ble_eq_true rfl) ?_
    refine V_if_eq (tgt := 166) e_X9_shore_155 (by decide) (fun c1 => absurd c1 (by decide)) (fun c1 => ?_)
    refine V_ldc (v := (-1000100)) e_X9_shore_158 k_X9_154 ?_
    refine V_aload_n e_X9_shore_160 rfl rfl ?_
    refine V_getiv (v := nI q) e_X9_shore_161 F_X9_faultAt f_X9_90 rfl ((up2_k (by decide)).trans ((up2_k (by decide)).trans (hf.2.2))) ?_
    refine V_isub e_X9_shore_164 ?_
    exact V_iret e_X9_shore_165 rfl (by have hq := hQf τ (by rw [hA1, hA2]; exact hf) (by rw [hA1]; exact hk); rw [hA1, hA2] at hq; exact hq)
set_option maxRecDepth 100000 in
set_option maxHeartbeats 4000000 in
theorem lp_sh135f (E : En) (T : Tp) (Q : Sg → Int32 → Prop) (σ : Sg) (hQf : ∀ ρ, MF σ ρ (pAll T).1 (pAll T).2.1 → ¬ (pAll T).1 = 0 → Q (up2 (up2 ρ 292 11 (nI 0)) 292 18 (nI (pAll T).1)) ((-1000100) - nI (pAll T).2.1)) : ∀ (mm : Nat) (k : Nat) (q : Nat) (τ : Sg), 0 = mm → (MF σ τ k q) → (¬ k = 0) → (k ≤ 3) → ((pAll T).1 = k) → ((pAll T).2.1 = q) → V E m_X9_shore (kM E 12 (pI Q)) 135 [some (.ref (eB E + 292)), none] [] τ := by
  intro mm
  induction mm using Nat.strongRecOn with
  | ind mm ih =>
    intro k q τ hmm hf hk hk3 hA1 hA2
    refine V_aload_n e_X9_shore_135 rfl rfl ?_
    refine V_bipush (v := nI 122) e_X9_shore_136 (by decide) ?_
    refine V_cvIe (av := [.int (nI 122)]) (st := []) e_X9_shore_138 (c_X9_isLetter_f E (nI 122) k q σ τ hf hk hk3) l_X9_135 S_X9_isLetter rfl (rm_ok (by decide) (by decide)) rfl rfl (Nat.le_of_ble_eq_true rfl) ?_
    refine V_if_eq (tgt := 151) e_X9_shore_141 (by decide) (fun c1 => ?_) (fun c1 => absurd c1 (by decide))
    exact lp_sh151f E T Q σ hQf 0 k q τ rfl hf hk hk3 hA1 hA2
set_option maxRecDepth 100000 in
set_option maxHeartbeats 4000000 in
theorem lp_sh107f (E : En) (T : Tp) (Q : Sg → Int32 → Prop) (σ : Sg) (hQf : ∀ ρ, MF σ ρ (pAll T).1 (pAll T).2.1 → ¬ (pAll T).1 = 0 → Q (up2 (up2 ρ 292 11 (nI 0)) 292 18 (nI (pAll T).1)) ((-1000100) - nI (pAll T).2.1)) : ∀ (mm : Nat) (k : Nat) (q : Nat) (τ : Sg), 0 = mm → (MF σ τ k q) → (¬ k = 0) → (k ≤ 3) → ((pAll T).1 = k) → ((pAll T).2.1 = q) → V E m_X9_shore (kM E 12 (pI Q)) 107 [some (.ref (eB E + 292)), none] [] τ := by
  intro mm
  induction mm using Nat.strongRecOn with
  | ind mm ih =>
    intro k q τ hmm hf hk hk3 hA1 hA2
    refine V_aload_n e_X9_shore_107 rfl rfl ?_
    refine V_cvIe (av := []) (st := []) e_X9_shore_108 (c_X9_isSort_f E k q σ τ hf hk hk3) l_X9_141 S_X9_isSort rfl (rm_ok (by decide) (by decide)) rfl rfl (Nat.le_of_ble_eq_true rfl) ?_
    refine V_if_eq (tgt := 121) e_X9_shore_111 (by decide) (fun c1 => ?_) (fun c1 => absurd c1 (by decide))
    refine V_aload_n e_X9_shore_121 rfl rfl ?_
    refine V_bipush (v := nI 122) e_X9_shore_122 (by decide) ?_
    refine V_cvIe (av := [.int (nI 122)]) (st := []) e_X9_shore_124 (c_X9_isLetter_f E (nI 122) k q σ τ hf hk hk3) l_X9_135 S_X9_isLetter rfl (rm_ok (by decide) (by decide)) rfl rfl (Nat.le_of_ble_eq_true rfl) ?_
    refine V_if_ne (tgt := 135) e_X9_shore_127 (by decide) (fun c2 => absurd c2 (by decide)) (fun c2 => ?_)
    refine V_aload_n e_X9_shore_130 rfl rfl ?_
    refine V_iconst (v := nI 1) e_X9_shore_131 (by decide) ?_
    refine V_cvV (av := [.int (nI 1)]) (st := []) e_X9_shore_132 (c_X9_bad_f E 1 k q σ τ hf hk hk3) l_X9_111 S_X9_bad rfl (rm_ok (by decide) (by decide)) rfl rfl (Nat.le_of_ble_eq_true rfl) ?_
    intro τ1 hh1
    exact lp_sh135f E T Q σ hQf 0 k q τ1 rfl hh1 hk hk3 hA1 hA2
set_option maxRecDepth 100000 in
set_option maxHeartbeats 4000000 in
theorem lp_sh80f (E : En) (T : Tp) (Q : Sg → Int32 → Prop) (σ : Sg) (hQf : ∀ ρ, MF σ ρ (pAll T).1 (pAll T).2.1 → ¬ (pAll T).1 = 0 → Q (up2 (up2 ρ 292 11 (nI 0)) 292 18 (nI (pAll T).1)) ((-1000100) - nI (pAll T).2.1)) : ∀ (mm : Nat) (j : Nat) (k : Nat) (q : Nat) (τ : Sg), 2 - j = mm → (j ≤ 2) → (MF σ τ k q) → (¬ k = 0) → (k ≤ 3) → ((pAll T).1 = k) → ((pAll T).2.1 = q) → V E m_X9_shore (kM E 12 (pI Q)) 80 [some (.ref (eB E + 292)), some (.int (nI j))] [] τ := by
  intro mm
  induction mm using Nat.strongRecOn with
  | ind mm ih =>
    intro j k q τ hmm hj hf hk hk3 hA1 hA2
    refine V_iload_n e_X9_shore_80 rfl rfl ?_
    refine V_iconst (v := nI 2) e_X9_shore_81 (by decide) ?_
    refine V_icmp_ge (tgt := 107) e_X9_shore_82 (by decide) (fun c1 => ?_) (fun c1 => ?_)
    · have d1 : 2 ≤ j := nq_le (by omega) (by omega) c1
      refine V_forget 1 ?_; exact lp_sh107f E T Q σ hQf 0 k q τ rfl hf hk hk3 hA1 hA2
    · have d1 : ¬ 2 ≤ j := nq_nle (by omega) (by omega) c1
      refine V_aload_n e_X9_shore_85 rfl rfl ?_
      refine V_cvIe (av := []) (st := []) e_X9_shore_86 (c_X9_isSort_f E k q σ τ hf hk hk3) l_X9_141 S_X9_isSort rfl (rm_ok (by decide) (by decide)) rfl rfl (Nat.le_of_ble_eq_true rfl) ?_
      refine V_if_ne (tgt := 97) e_X9_shore_89 (by decide) (fun c2 => absurd c2 (by decide)) (fun c2 => ?_)
      refine V_aload_n e_X9_shore_92 rfl rfl ?_
      refine V_iconst (v := nI 1) e_X9_shore_93 (by decide) ?_
      refine V_cvV (av := [.int (nI 1)]) (st := []) e_X9_shore_94 (c_X9_bad_f E 1 k q σ τ hf hk hk3) l_X9_111 S_X9_bad rfl (rm_ok (by decide) (by decide)) rfl rfl (Nat.le_of_ble_eq_true rfl) ?_
      intro τ1 hh1
      refine V_aload_n e_X9_shore_97 rfl rfl ?_
      refine V_cvV (av := []) (st := []) e_X9_shore_98 (c_X9_readGate_f E k q σ τ1 hh1 hk hk3) l_X9_145 S_X9_readGate rfl (rm_ok (by decide) (by decide)) rfl rfl (Nat.le_of_ble_eq_true rfl) ?_
      intro τ2 hh2
      refine V_iinc (v := nI (j + 1)) (L' := [some (.ref (eB E + 292)), some (.int (nI (j + 1)))]) e_X9_shore_101 rfl (nI_add _ 1) rfl ?_
      refine V_goto (tgt := 80) e_X9_shore_104 (by decide) ?_
      exact ih (2 - (j + 1)) (by omega) (j + 1) k q τ2 rfl (by omega) hh2 hk hk3 hA1 hA2
set_option maxRecDepth 100000 in
set_option maxHeartbeats 4000000 in
theorem lp_sh173 (E : En) (T : Tp) (Q : Sg → Int32 → Prop) (σ : Sg) (B : Vec) (ρ : Sg) (hB : RepM ρ 297 B) (hq : Q (layW 296 0 55 B ρ) (nI (B 0))) : ∀ (mm : Nat) (i : Nat), 55 - i = mm → (i ≤ 55) → V E m_X9_shore (kM E 12 (pI Q)) 173 [some (.ref (eB E + 292)), some (.int (nI i))] [] (layW 296 0 i B ρ) := by
  intro mm
  induction mm using Nat.strongRecOn with
  | ind mm ih =>
    intro i hmm hi
    refine V_iload_n e_X9_shore_173 rfl rfl ?_
    refine V_bipush (v := nI 55) e_X9_shore_174 (by decide) ?_
    refine V_icmp_ge (tgt := 197) e_X9_shore_176 (by decide) (fun c1 => ?_) (fun c1 => ?_)
    · have d1 : 55 ≤ i := nq_le (by omega) (by omega) c1
      obtain rfl : i = 55 := by omega
      refine V_aload_n e_X9_shore_197 rfl rfl ?_
      refine V_getr (r := 296) e_X9_shore_198 F_X9_shore f_X9_19 rfl rfl ?_
      refine V_iconst (v := nI 0) e_X9_shore_201 (by decide) ?_
      refine V_ialdv (v := nI (B 0)) (j := 0) e_X9_shore_202 rfl rfl (by decide) (layW_at (a := 0) (k := 0) (by omega)) ?_
      exact V_iret e_X9_shore_203 rfl (hq)
    · have d1 : ¬ 55 ≤ i := nq_nle (by omega) (by omega) c1
      refine V_aload_n e_X9_shore_179 rfl rfl ?_
      refine V_getr (r := 296) e_X9_shore_180 F_X9_shore f_X9_19 rfl rfl ?_
      refine V_iload_n e_X9_shore_183 rfl rfl ?_
      refine V_aload_n e_X9_shore_184 rfl rfl ?_
      refine V_getr (r := 297) e_X9_shore_185 F_X9_fresh f_X9_22 rfl rfl ?_
      refine V_iload_n e_X9_shore_188 rfl rfl ?_
      refine V_ialdv (v := nI (B i)) (j := i) e_X9_shore_189 rfl rfl (by have q : ln 297 = 55 := rfl; omega) ((layW_ne (by decide)).trans (hB i (by omega))) ?_
      refine V_iast (j := i) e_X9_shore_190 rfl rfl (by have q : ln 296 = 55 := rfl; omega) ?_
      rw [show up2 (layW 296 0 i B ρ) 296 i (nI (B i)) = layW 296 0 (i + 1) B ρ from (by have hz9 := layW_s (c := 296) (a := 0) (i := i) (A := B) (σ := ρ); rw [Nat.zero_add] at hz9; exact hz9)]
      refine V_iinc (v := nI (i + 1)) (L' := [some (.ref (eB E + 292)), some (.int (nI (i + 1)))]) e_X9_shore_191 rfl (nI_add _ 1) rfl ?_
      refine V_goto (tgt := 173) e_X9_shore_194 (by decide) ?_
      exact ih (55 - (i + 1)) (by omega) (i + 1) rfl (by omega)
set_option maxRecDepth 100000 in
set_option maxHeartbeats 4000000 in
theorem lp_sh151 (E : En) (T : Tp) (Q : Sg → Int32 → Prop) (σ : Sg) (hTb : T.1 ≤ 100) (hT6 : ∀ j, j < T.1 → T.2 j < 256) (hMT : MT σ T) (hQf : ∀ ρ, MF σ ρ (pAll T).1 (pAll T).2.1 → ¬ (pAll T).1 = 0 → Q (up2 (up2 ρ 292 11 (nI 0)) 292 18 (nI (pAll T).1)) ((-1000100) - nI (pAll T).2.1)) (hQ0 : ∀ ρ, FMr σ ρ → RepM ρ 297 (pAll T).2.2.2 → (pAll T).1 = 0 → PV (pAll T).2.2.2 → 2 ≤ (pAll T).2.2.2 0 → 1 ≤ (pAll T).2.2.2 1 → Q (layW 296 0 55 (pAll T).2.2.2 (up2 (up2 (up2 ρ 292 11 (nI 0)) 292 18 (ρ 292 18)) 292 9 (nI 0))) (nI ((pAll T).2.2.2 0))) : ∀ (mm : Nat) (q : Nat) (p : Nat) (A : Vec) (τ : Sg), 0 = mm → (M0 σ τ T p A) → (PV A) → (2 ≤ A 0) → (1 ≤ A 1) → (pAll T = pTake T 257 (0, q, p, A)) → V E m_X9_shore (kM E 12 (pI Q)) 151 [some (.ref (eB E + 292)), none] [] τ := by
  intro mm
  induction mm using Nat.strongRecOn with
  | ind mm ih =>
    intro q p A τ hmm h0 hV h2 h1 hA
    refine V_aload_n e_X9_shore_151 rfl rfl ?_
    refine V_cvI (av := []) (st := []) e_X9_shore_152 (c_X9_failed_0 E T p A σ τ h0) l_X9_151 S_X9_failed rfl (rm_ok (by decide) (by decide)) rfl rfl (Nat.le_of_ble_eq_true rfl) ?_
    intro τ1 r1 hh1
    rcases hh1 with ⟨ht, hs1, hr1⟩ | ⟨ht, ⟨ρ, hf1, hs1⟩, hr1⟩
    · subst hr1
      subst hs1
      have hE : pAll T = (0, q, nx T p, A) := hA.trans (pTake_y ht)
      refine V_if_eq (tgt := 166) e_X9_shore_155 (by decide) (fun c1 => ?_) (fun c1 => absurd c1 (by decide))
      refine V_aload_n e_X9_shore_166 rfl rfl ?_
      refine V_iconst (v := nI 0) e_X9_shore_167 (by decide) ?_
      refine V_puti e_X9_shore_168 F_X9_acts f_X9_155 rfl ?_
      refine V_iconst (v := nI 0) e_X9_shore_171 (by decide) ?_
      refine V_istore_n (L' := [some (.ref (eB E + 292)), some (.int (nI 0))]) e_X9_shore_172 rfl rfl ?_
      have hX := lp_sh173 E T Q σ A (up2 (up2 (up2 τ 292 11 (nI 0)) 292 18 (τ 292 18)) 292 9 (nI 0)) (fun k hk => (congrFun (up2_ne (by decide)) k).trans ((congrFun (up2_ne (by decide)) k).trans ((congrFun (up2_ne (by decide)) k).trans (h0.2.2.2.2 k hk)))) (by have hq := hQ0 τ h0.1 (by rw [hE]; exact h0.2.2.2.2) (by rw [hE]) (by rw [hE]; exact hV) (by rw [hE]; exact h2) (by rw [hE]; exact h1); rw [hE] at hq; exact hq) 55 0 rfl (by omega); rw [layW_0] at hX; exact hX
    · subst hr1
      subst hs1
      have hE : pAll T = (1, p, p, A) := hA.trans (pTake_n ht)
      refine V_if_eq (tgt := 166) e_X9_shore_155 (by decide) (fun c2 => absurd c2 (by decide)) (fun c2 => ?_)
      refine V_ldc (v := (-1000100)) e_X9_shore_158 k_X9_154 ?_
      refine V_aload_n e_X9_shore_160 rfl rfl ?_
      refine V_getiv (v := nI p) e_X9_shore_161 F_X9_faultAt f_X9_90 rfl ((up2_k (by decide)).trans ((up2_k (by decide)).trans (hf1.2.2))) ?_
      refine V_isub e_X9_shore_164 ?_
      exact V_iret e_X9_shore_165 rfl (by have hq := hQf ρ (by rw [hE]; exact hf1) (by rw [hE]; show ¬ 1 = 0; decide); rw [hE] at hq; exact hq)
set_option maxRecDepth 100000 in
set_option maxHeartbeats 4000000 in
theorem lp_sh135 (E : En) (T : Tp) (Q : Sg → Int32 → Prop) (σ : Sg) (X6 : PX) (hTb : T.1 ≤ 100) (hT6 : ∀ j, j < T.1 → T.2 j < 256) (hMT : MT σ T) (hQf : ∀ ρ, MF σ ρ (pAll T).1 (pAll T).2.1 → ¬ (pAll T).1 = 0 → Q (up2 (up2 ρ 292 11 (nI 0)) 292 18 (nI (pAll T).1)) ((-1000100) - nI (pAll T).2.1)) (hQ0 : ∀ ρ, FMr σ ρ → RepM ρ 297 (pAll T).2.2.2 → (pAll T).1 = 0 → PV (pAll T).2.2.2 → 2 ≤ (pAll T).2.2.2 0 → 1 ≤ (pAll T).2.2.2 1 → Q (layW 296 0 55 (pAll T).2.2.2 (up2 (up2 (up2 ρ 292 11 (nI 0)) 292 18 (ρ 292 18)) 292 9 (nI 0))) (nI ((pAll T).2.2.2 0))) (hA : pAll T = pTake T 257 (pMe (pMs T 6 X6))) : ∀ (mm : Nat) (q : Nat) (p : Nat) (A : Vec) (τ : Sg), 6 - A 1 = mm → (M0 σ τ T p A) → (PV A) → (2 ≤ A 0) → (pMs T 6 X6 = pMs T (6 - A 1) (0, q, p, A)) → (pAll T = pTake T 257 (pMe (pMs T 6 X6))) → (A 1 = 0 → tok T p = 122) → V E m_X9_shore (kM E 12 (pI Q)) 135 [some (.ref (eB E + 292)), none] [] τ := by
  intro mm
  induction mm using Nat.strongRecOn with
  | ind mm ih =>
    intro q p A τ hmm h0 hV h2 hX hA0 hz
    refine V_aload_n e_X9_shore_135 rfl rfl ?_
    refine V_bipush (v := nI 122) e_X9_shore_136 (by decide) ?_
    refine V_cvIe (av := [.int (nI 122)]) (st := []) e_X9_shore_138 (c_X9_isLetter_0 E 122 T p A σ τ h0 hT6 (by decide)) l_X9_135 S_X9_isLetter rfl (rm_ok (by decide) (by decide)) rfl rfl (Nat.le_of_ble_eq_true rfl) ?_
    rcases Decidable.em (tok T p = 122) with ht1 | ht1
    · refine V_topi (y := nI 1) (congrArg nI (if_pos ht1)) ?_
      refine V_if_eq (tgt := 151) e_X9_shore_141 (by decide) (fun c1 => absurd c1 (by decide)) (fun c1 => ?_)
      have h15 := hV.2.1
      refine V_aload_n e_X9_shore_144 rfl rfl ?_
      refine V_cvV (av := []) (st := []) e_X9_shore_145 (c_X9_readMan_0 E q T p A σ τ hMT hTb hT6 h0 hV h2 ht1) l_X9_148 S_X9_readMan rfl (rm_ok (by decide) (by decide)) rfl rfl (Nat.le_of_ble_eq_true rfl) ?_
      intro τ1 hh1
      rcases hG : pMan T (0, q, p, A) with ⟨k1, q1, p1, A1⟩
      rw [hG] at hh1
      rcases hh1 with ⟨hk1, hm1, hv1⟩ | ⟨hk1, hk3, hm1⟩
      · obtain rfl : k1 = 0 := hk1
        refine V_goto (tgt := 135) e_X9_shore_148 (by decide) ?_
        obtain ⟨a1, a2, a3⟩ := pMan_A hV.2.1 hG; exact ih (6 - A1 1) (by omega) q1 p1 A1 τ1 rfl hm1 hv1 (by omega) (by rw [hX, show 6 - A 1 = (6 - A1 1) + 1 by omega, pMs_s ht1, hG]) hA (fun z => by omega)
      · skip
        refine V_goto (tgt := 135) e_X9_shore_148 (by decide) ?_
        have hE : pAll T = (k1, q1, p1, A1) := (by rw [hA, hX, show 6 - A 1 = (5 - A 1) + 1 by omega, pMs_s ht1, hG, pMs_f hk1, pMe_f hk1, pTake_f hk1]); exact lp_sh135f E T Q σ hQf 0 k1 q1 τ1 rfl hm1 hk1 hk3 (by rw [hE]) (by rw [hE])
    · refine V_topi (y := nI 0) (congrArg nI (if_neg ht1)) ?_
      refine V_if_eq (tgt := 151) e_X9_shore_141 (by decide) (fun c2 => ?_) (fun c2 => absurd c2 (by decide))
      exact lp_sh151 E T Q σ hTb hT6 hMT hQf hQ0 0 q p A τ rfl h0 hV h2 (Decidable.byContradiction (fun z => ht1 (hz (by omega)))) (by rw [hA, hX, pMs_e ht1, pMe_y (fun z => ht1 (hz (by omega)))])
set_option maxRecDepth 100000 in
set_option maxHeartbeats 4000000 in
theorem lp_sh107 (E : En) (T : Tp) (Q : Sg → Int32 → Prop) (σ : Sg) (X7 : PX) (hTb : T.1 ≤ 100) (hT6 : ∀ j, j < T.1 → T.2 j < 256) (hMT : MT σ T) (hQf : ∀ ρ, MF σ ρ (pAll T).1 (pAll T).2.1 → ¬ (pAll T).1 = 0 → Q (up2 (up2 ρ 292 11 (nI 0)) 292 18 (nI (pAll T).1)) ((-1000100) - nI (pAll T).2.1)) (hQ0 : ∀ ρ, FMr σ ρ → RepM ρ 297 (pAll T).2.2.2 → (pAll T).1 = 0 → PV (pAll T).2.2.2 → 2 ≤ (pAll T).2.2.2 0 → 1 ≤ (pAll T).2.2.2 1 → Q (layW 296 0 55 (pAll T).2.2.2 (up2 (up2 (up2 ρ 292 11 (nI 0)) 292 18 (ρ 292 18)) 292 9 (nI 0))) (nI ((pAll T).2.2.2 0))) (hA : pAll T = pTake T 257 (pMe (pMs T 6 (pGe (pGs T 7 X7))))) : ∀ (mm : Nat) (q : Nat) (p : Nat) (A : Vec) (τ : Sg), 7 - A 0 = mm → (M0 σ τ T p A) → (PV A) → (2 ≤ A 0) → (A 1 = 0) → (pGs T 7 X7 = pGs T (7 - A 0) (0, q, p, A)) → V E m_X9_shore (kM E 12 (pI Q)) 107 [some (.ref (eB E + 292)), none] [] τ := by
  intro mm
  induction mm using Nat.strongRecOn with
  | ind mm ih =>
    intro q p A τ hmm h0 hV h2 h1 hX
    refine V_aload_n e_X9_shore_107 rfl rfl ?_
    refine V_cvIe (av := []) (st := []) e_X9_shore_108 (c_X9_isSort_0 E T p A σ τ h0 hT6) l_X9_141 S_X9_isSort rfl (rm_ok (by decide) (by decide)) rfl rfl (Nat.le_of_ble_eq_true rfl) ?_
    rcases Decidable.em (srt (tok T p) = 0) with ht1 | ht1
    · refine V_topi (y := nI 0) (congrArg nI (if_pos ht1)) ?_
      refine V_if_eq (tgt := 121) e_X9_shore_111 (by decide) (fun c1 => ?_) (fun c1 => absurd c1 (by decide))
      have hA2 : pAll T = pTake T 257 (pMe (pMs T 6 (0, q, p, A))) := by rw [hA, hX, pGs_e ht1, pGe_y (by omega)]
      refine V_aload_n e_X9_shore_121 rfl rfl ?_
      refine V_bipush (v := nI 122) e_X9_shore_122 (by decide) ?_
      refine V_cvIe (av := [.int (nI 122)]) (st := []) e_X9_shore_124 (c_X9_isLetter_0 E 122 T p A σ τ h0 hT6 (by decide)) l_X9_135 S_X9_isLetter rfl (rm_ok (by decide) (by decide)) rfl rfl (Nat.le_of_ble_eq_true rfl) ?_
      rcases Decidable.em (tok T p = 122) with ht2 | ht2
      · refine V_topi (y := nI 1) (congrArg nI (if_pos ht2)) ?_
        refine V_if_ne (tgt := 135) e_X9_shore_127 (by decide) (fun c2 => ?_) (fun c2 => absurd c2 (by decide))
        exact lp_sh135 E T Q σ (0, q, p, A) hTb hT6 hMT hQf hQ0 hA2 _ q p A τ rfl h0 hV h2 (by rw [h1]) hA2 (fun _ => ht2)
      · refine V_topi (y := nI 0) (congrArg nI (if_neg ht2)) ?_
        refine V_if_ne (tgt := 135) e_X9_shore_127 (by decide) (fun c3 => absurd c3 (by decide)) (fun c3 => ?_)
        refine V_aload_n e_X9_shore_130 rfl rfl ?_
        refine V_iconst (v := nI 1) e_X9_shore_131 (by decide) ?_
        refine V_cvV (av := [.int (nI 1)]) (st := []) e_X9_shore_132 (c_X9_bad_0 E 1 T p A σ τ h0) l_X9_111 S_X9_bad rfl (rm_ok (by decide) (by decide)) rfl rfl (Nat.le_of_ble_eq_true rfl) ?_
        intro τ3 hh3
        have hE : pAll T = (1, p, p, A) := (by rw [hA2, pMs_e ht2, pMe_n (by omega)]; exact pTake_f (by show ¬ 1 = 0; decide)); exact lp_sh135f E T Q σ hQf 0 1 p τ3 rfl hh3 (by decide) (by decide) (by rw [hE]) (by rw [hE])
    · refine V_topi (y := nI 1) (congrArg nI (if_neg ht1)) ?_
      refine V_if_eq (tgt := 121) e_X9_shore_111 (by decide) (fun c4 => absurd c4 (by decide)) (fun c4 => ?_)
      have h06 := hV.1
      refine V_aload_n e_X9_shore_114 rfl rfl ?_
      refine V_cvV (av := []) (st := []) e_X9_shore_115 (c_X9_readGate_0 E q T p A σ τ hMT hTb hT6 h0 hV ht1) l_X9_145 S_X9_readGate rfl (rm_ok (by decide) (by decide)) rfl rfl (Nat.le_of_ble_eq_true rfl) ?_
      intro τ1 hh1
      rcases hG : pGate T (0, q, p, A) with ⟨k1, q1, p1, A1⟩
      rw [hG] at hh1
      rcases hh1 with ⟨hk1, hm1, hv1⟩ | ⟨hk1, hk3, hm1⟩
      · obtain rfl : k1 = 0 := hk1
        refine V_goto (tgt := 107) e_X9_shore_118 (by decide) ?_
        obtain ⟨a1, a2, a3⟩ := pGate_A hV.1 hG; exact ih (7 - A1 0) (by omega) q1 p1 A1 τ1 rfl hm1 hv1 (by omega) (by omega) (by rw [hX, show 7 - A 0 = (7 - A1 0) + 1 by omega, pGs_s ht1, hG])
      · skip
        refine V_goto (tgt := 107) e_X9_shore_118 (by decide) ?_
        have hE : pAll T = (k1, q1, p1, A1) := (by rw [hA, hX, show 7 - A 0 = (6 - A 0) + 1 by omega, pGs_s ht1, hG, pGs_f hk1, pGe_f hk1, pMs_f hk1, pMe_f hk1, pTake_f hk1]); exact lp_sh107f E T Q σ hQf 0 k1 q1 τ1 rfl hm1 hk1 hk3 (by rw [hE]) (by rw [hE])
set_option maxRecDepth 100000 in
set_option maxHeartbeats 4000000 in
theorem lp_sh80 (E : En) (T : Tp) (Q : Sg → Int32 → Prop) (σ : Sg) (X7 : PX) (hTb : T.1 ≤ 100) (hT6 : ∀ j, j < T.1 → T.2 j < 256) (hMT : MT σ T) (hQf : ∀ ρ, MF σ ρ (pAll T).1 (pAll T).2.1 → ¬ (pAll T).1 = 0 → Q (up2 (up2 ρ 292 11 (nI 0)) 292 18 (nI (pAll T).1)) ((-1000100) - nI (pAll T).2.1)) (hQ0 : ∀ ρ, FMr σ ρ → RepM ρ 297 (pAll T).2.2.2 → (pAll T).1 = 0 → PV (pAll T).2.2.2 → 2 ≤ (pAll T).2.2.2 0 → 1 ≤ (pAll T).2.2.2 1 → Q (layW 296 0 55 (pAll T).2.2.2 (up2 (up2 (up2 ρ 292 11 (nI 0)) 292 18 (ρ 292 18)) 292 9 (nI 0))) (nI ((pAll T).2.2.2 0))) (hA : pAll T = pTake T 257 (pMe (pMs T 6 (pGe (pGs T 7 X7))))) : ∀ (mm : Nat) (j : Nat) (q : Nat) (p : Nat) (A : Vec) (τ : Sg), 2 - j = mm → (j ≤ 2) → (M0 σ τ T p A) → (PV A) → (A 0 = j) → (A 1 = 0) → (pGs T 7 X7 = pGs T (7 - j) (0, q, p, A)) → V E m_X9_shore (kM E 12 (pI Q)) 80 [some (.ref (eB E + 292)), some (.int (nI j))] [] τ := by
  intro mm
  induction mm using Nat.strongRecOn with
  | ind mm ih =>
    intro j q p A τ hmm hj h0 hV hj0 h1 hX
    refine V_iload_n e_X9_shore_80 rfl rfl ?_
    refine V_iconst (v := nI 2) e_X9_shore_81 (by decide) ?_
    refine V_icmp_ge (tgt := 107) e_X9_shore_82 (by decide) (fun c1 => ?_) (fun c1 => ?_)
    · have d1 : 2 ≤ j := nq_le (by omega) (by omega) c1
      refine V_forget 1 ?_; exact lp_sh107 E T Q σ X7 hTb hT6 hMT hQf hQ0 hA _ q p A τ rfl h0 hV (by omega) h1 (by rw [hX, hj0])
    · have d1 : ¬ 2 ≤ j := nq_nle (by omega) (by omega) c1
      refine V_aload_n e_X9_shore_85 rfl rfl ?_
      refine V_cvIe (av := []) (st := []) e_X9_shore_86 (c_X9_isSort_0 E T p A σ τ h0 hT6) l_X9_141 S_X9_isSort rfl (rm_ok (by decide) (by decide)) rfl rfl (Nat.le_of_ble_eq_true rfl) ?_
      rcases Decidable.em (srt (tok T p) = 0) with ht1 | ht1
      · refine V_topi (y := nI 0) (congrArg nI (if_pos ht1)) ?_
        refine V_if_ne (tgt := 97) e_X9_shore_89 (by decide) (fun c2 => absurd c2 (by decide)) (fun c2 => ?_)
        refine V_aload_n e_X9_shore_92 rfl rfl ?_
        refine V_iconst (v := nI 1) e_X9_shore_93 (by decide) ?_
        refine V_cvV (av := [.int (nI 1)]) (st := []) e_X9_shore_94 (c_X9_bad_0 E 1 T p A σ τ h0) l_X9_111 S_X9_bad rfl (rm_ok (by decide) (by decide)) rfl rfl (Nat.le_of_ble_eq_true rfl) ?_
        intro τ2 hh2
        refine V_aload_n e_X9_shore_97 rfl rfl ?_
        refine V_cvV (av := []) (st := []) e_X9_shore_98 (c_X9_readGate_f E 1 p σ τ2 hh2 (by decide) (by decide)) l_X9_145 S_X9_readGate rfl (rm_ok (by decide) (by decide)) rfl rfl (Nat.le_of_ble_eq_true rfl) ?_
        intro τ3 hh3
        refine V_iinc (v := nI (j + 1)) (L' := [some (.ref (eB E + 292)), some (.int (nI (j + 1)))]) e_X9_shore_101 rfl (nI_add _ 1) rfl ?_
        refine V_goto (tgt := 80) e_X9_shore_104 (by decide) ?_
        have hE : pAll T = (1, p, p, A) := (by rw [hA, hX, pGs_e ht1, pGe_n (by omega), pMs_f (show ¬ 1 = 0 by decide), pMe_f (show ¬ 1 = 0 by decide)]; exact pTake_f (by show ¬ 1 = 0; decide)); exact lp_sh80f E T Q σ hQf (2 - (j + 1)) (j + 1) 1 p τ3 rfl (by omega) hh3 (by decide) (by decide) (by rw [hE]) (by rw [hE])
      · refine V_topi (y := nI 1) (congrArg nI (if_neg ht1)) ?_
        refine V_if_ne (tgt := 97) e_X9_shore_89 (by decide) (fun c3 => ?_) (fun c3 => absurd c3 (by decide))
        refine V_aload_n e_X9_shore_97 rfl rfl ?_
        refine V_cvV (av := []) (st := []) e_X9_shore_98 (c_X9_readGate_0 E q T p A σ τ hMT hTb hT6 h0 hV ht1) l_X9_145 S_X9_readGate rfl (rm_ok (by decide) (by decide)) rfl rfl (Nat.le_of_ble_eq_true rfl) ?_
        intro τ1 hh1
        rcases hG : pGate T (0, q, p, A) with ⟨k1, q1, p1, A1⟩
        rw [hG] at hh1
        rcases hh1 with ⟨hk1, hm1, hv1⟩ | ⟨hk1, hk3, hm1⟩
        · obtain rfl : k1 = 0 := hk1
          refine V_iinc (v := nI (j + 1)) (L' := [some (.ref (eB E + 292)), some (.int (nI (j + 1)))]) e_X9_shore_101 rfl (nI_add _ 1) rfl ?_
          refine V_goto (tgt := 80) e_X9_shore_104 (by decide) ?_
          obtain ⟨a1, a2, a3⟩ := pGate_A hV.1 hG; exact ih (2 - (j + 1)) (by omega) (j + 1) q1 p1 A1 τ1 rfl (by omega) hm1 hv1 (by omega) (by omega) (by rw [hX, show 7 - j = (7 - (j + 1)) + 1 by omega, pGs_s ht1, hG])
        · skip
          refine V_iinc (v := nI (j + 1)) (L' := [some (.ref (eB E + 292)), some (.int (nI (j + 1)))]) e_X9_shore_101 rfl (nI_add _ 1) rfl ?_
          refine V_goto (tgt := 80) e_X9_shore_104 (by decide) ?_
          have hE : pAll T = (k1, q1, p1, A1) := (by rw [hA, hX, show 7 - j = (6 - j) + 1 by omega, pGs_s ht1, hG, pGs_f hk1, pGe_f hk1, pMs_f hk1, pMe_f hk1, pTake_f hk1]); exact lp_sh80f E T Q σ hQf (2 - (j + 1)) (j + 1) k1 q1 τ1 rfl (by omega) hm1 hk1 hk3 (by rw [hE]) (by rw [hE])
theorem lwV_pv {a b : Nat} (ha : 1 ≤ a ∧ a ≤ 9) (hb : 1 ≤ b ∧ b ≤ 30) : PV (lwV a b) := by
  have z0 : lwV a b 0 = 0 := lwV_z (by decide) (by decide)
  have z1 : lwV a b 1 = 0 := lwV_z (by decide) (by decide)
  exact ⟨by omega, by omega, by rw [lwV_2]; exact ha, by rw [lwV_3]; exact hb, lwV_z (by decide) (by decide), lwV_z (by decide) (by decide), lwV_z (by decide) (by decide), fun g hg => by omega, fun m hm => by omega, fun m hm => ⟨lwV_z (by omega) (by omega), lwV_z (by omega) (by omega), lwV_z (by omega) (by omega)⟩⟩
set_option maxRecDepth 100000 in
set_option maxHeartbeats 4000000 in
theorem lp_sh30 (E : En) (T : Tp) (Q : Sg → Int32 → Prop) (σ : Sg) (hTb : T.1 ≤ 100) (hT6 : ∀ j, j < T.1 → T.2 j < 256) (hMT : MT σ T) (hQf : ∀ ρ, MF σ ρ (pAll T).1 (pAll T).2.1 → ¬ (pAll T).1 = 0 → Q (up2 (up2 ρ 292 11 (nI 0)) 292 18 (nI (pAll T).1)) ((-1000100) - nI (pAll T).2.1)) (hQ0 : ∀ ρ, FMr σ ρ → RepM ρ 297 (pAll T).2.2.2 → (pAll T).1 = 0 → PV (pAll T).2.2.2 → 2 ≤ (pAll T).2.2.2 0 → 1 ≤ (pAll T).2.2.2 1 → Q (layW 296 0 55 (pAll T).2.2.2 (up2 (up2 (up2 ρ 292 11 (nI 0)) 292 18 (ρ 292 18)) 292 9 (nI 0))) (nI ((pAll T).2.2.2 0))) : ∀ (mm : Nat) (τ : Sg), 0 = mm → (M0 σ τ T 0 (fun _ => 0)) → V E m_X9_shore (kM E 12 (pI Q)) 30 [some (.ref (eB E + 292)), some (.int (nI 55))] [] τ := by
  intro mm
  induction mm using Nat.strongRecOn with
  | ind mm ih =>
    intro τ hmm h0
    refine V_aload_n e_X9_shore_30 rfl rfl ?_
    refine V_aload_n e_X9_shore_31 rfl rfl ?_
    refine V_bipush (v := nI 115) e_X9_shore_32 (by decide) ?_
    refine V_cvIe (av := [.int (nI 115)]) (st := [.ref (eB E + 292)]) e_X9_shore_34 (c_X9_isLetter_0 E 115 T 0 (fun _ => 0) σ τ h0 hT6 (by decide)) l_X9_135 S_X9_isLetter rfl (rm_ok (by decide) (by decide)) rfl rfl (Nat.le_of_ble_eq_true rfl) ?_
    rcases Decidable.em (tok T 0 = 115) with ht1 | ht1
    · refine V_topi (y := nI 1) (congrArg nI (if_pos ht1)) ?_
      refine V_cvV (av := [.int (nI 1)]) (st := []) e_X9_shore_37 (c_X9_must_1 E T 0 (fun _ => 0) σ τ hMT hTb hT6 h0) l_X9_118 S_X9_must rfl (rm_ok (by decide) (by decide)) rfl rfl (Nat.le_of_ble_eq_true rfl) ?_
      intro τ2 hh2
      refine V_aload_n e_X9_shore_40 rfl rfl ?_
      refine V_getr (r := 297) e_X9_shore_41 F_X9_fresh f_X9_22 rfl rfl ?_
      refine V_iconst (v := nI 2) e_X9_shore_44 (by decide) ?_
      refine V_aload_n e_X9_shore_45 rfl rfl ?_
      refine V_iconst (v := nI 1) e_X9_shore_46 (by decide) ?_
      refine V_bipush (v := nI 9) e_X9_shore_47 (by decide) ?_
      refine V_cvI (av := [.int (nI 1), .int (nI 9)]) (st := [.int (nI 2), .ref (eB E + 297)]) e_X9_shore_49 (c_X9_number_0 E 1 9 T (nx T 0) (fun _ => 0) σ τ2 hMT hTb hT6 hh2 (by omega) (by omega)) l_X9_128 S_X9_number rfl (rm_ok (by decide) (by decide)) rfl rfl (Nat.le_of_ble_eq_true rfl) ?_
      intro τ3 r3 hh3
      rcases hh3 with ⟨ht3, hv3, hr3, hm3⟩ | ⟨ht3, hr3, hm3⟩ | ⟨ht3, hv3, hr3, hm3⟩
      · subst hr3
        refine V_iast (j := 2) e_X9_shore_52 rfl rfl (by have q : ln 297 = 55 := rfl; omega) ?_
        obtain ⟨τ4, hτ4⟩ : ∃ τ9 : Sg, τ9 = up2 τ3 297 2 (nI (vl T (nx T 0))) := ⟨_, rfl⟩
        rw [← hτ4]
        have hh4 : M0 σ τ4 T (nx T (nx T 0)) (updN (fun _ => 0) 2 (vl T (nx T 0))) := by rw [hτ4]; exact M0.uf hm3 (by omega)
        refine V_aload_n e_X9_shore_53 rfl rfl ?_
        refine V_bipush (v := nI 44) e_X9_shore_54 (by decide) ?_
        refine V_cvV (av := [.int (nI 44)]) (st := []) e_X9_shore_56 (c_X9_mustSign_0 E 44 T (nx T (nx T 0)) (updN (fun _ => 0) 2 (vl T (nx T 0))) σ τ4 hMT hTb hT6 hh4 (by decide)) l_X9_132 S_X9_mustSign rfl (rm_ok (by decide) (by decide)) rfl rfl (Nat.le_of_ble_eq_true rfl) ?_
        intro τ5 hh5
        rcases hh5 with ⟨ht5, hm5⟩ | ⟨ht5, hm5⟩
        · skip
          refine V_aload_n e_X9_shore_59 rfl rfl ?_
          refine V_getr (r := 297) e_X9_shore_60 F_X9_fresh f_X9_22 rfl rfl ?_
          refine V_iconst (v := nI 3) e_X9_shore_63 (by decide) ?_
          refine V_aload_n e_X9_shore_64 rfl rfl ?_
          refine V_iconst (v := nI 1) e_X9_shore_65 (by decide) ?_
          refine V_bipush (v := nI 30) e_X9_shore_66 (by decide) ?_
          refine V_cvI (av := [.int (nI 1), .int (nI 30)]) (st := [.int (nI 3), .ref (eB E + 297)]) e_X9_shore_68 (c_X9_number_0 E 1 30 T (nx T (nx T (nx T 0))) (updN (fun _ => 0) 2 (vl T (nx T 0))) σ τ5 hMT hTb hT6 hm5 (by omega) (by omega)) l_X9_128 S_X9_number rfl (rm_ok (by decide) (by decide)) rfl rfl (Nat.le_of_ble_eq_true rfl) ?_
          intro τ6 r6 hh6
          rcases hh6 with ⟨ht6, hv6, hr6, hm6⟩ | ⟨ht6, hr6, hm6⟩ | ⟨ht6, hv6, hr6, hm6⟩
          · subst hr6
            refine V_iast (j := 3) e_X9_shore_71 rfl rfl (by have q : ln 297 = 55 := rfl; omega) ?_
            obtain ⟨τ7, hτ7⟩ : ∃ τ9 : Sg, τ9 = up2 τ6 297 3 (nI (vl T (nx T (nx T (nx T 0))))) := ⟨_, rfl⟩
            rw [← hτ7]
            have hh7 : M0 σ τ7 T (nx T (nx T (nx T (nx T 0)))) (updN (updN (fun _ => 0) 2 (vl T (nx T 0))) 3 (vl T (nx T (nx T (nx T 0))))) := by rw [hτ7]; exact M0.uf hm6 (by omega)
            refine V_aload_n e_X9_shore_72 rfl rfl ?_
            refine V_bipush (v := nI 59) e_X9_shore_73 (by decide) ?_
            refine V_cvV (av := [.int (nI 59)]) (st := []) e_X9_shore_75 (c_X9_mustSign_0 E 59 T (nx T (nx T (nx T (nx T 0)))) (updN (updN (fun _ => 0) 2 (vl T (nx T 0))) 3 (vl T (nx T (nx T (nx T 0))))) σ τ7 hMT hTb hT6 hh7 (by decide)) l_X9_132 S_X9_mustSign rfl (rm_ok (by decide) (by decide)) rfl rfl (Nat.le_of_ble_eq_true rfl) ?_
            intro τ8 hh8
            rcases hh8 with ⟨ht8, hm8⟩ | ⟨ht8, hm8⟩
            · skip
              refine V_iconst (v := nI 0) e_X9_shore_78 (by decide) ?_
              refine V_istore_n (L' := [some (.ref (eB E + 292)), some (.int (nI 0))]) e_X9_shore_79 rfl rfl ?_
              have hL : pLaw T X0 = (0, 0, nx T (nx T (nx T (nx T (nx T 0)))), lwV (vl T (nx T 0)) (vl T (nx T (nx T (nx T 0))))) := (by simp only [pLaw, X0, pTake_y ht1, pNum_y ht3 hv3, pTake_y ht5, pNum_y ht6 hv6, pTake_y ht8, tk_f1, tk_f2, nm_f1, nm_f2, mp_f1, mp_f2, pMap_y]; rfl); have hV9 : PV (lwV (vl T (nx T 0)) (vl T (nx T (nx T (nx T 0))))) := lwV_pv hv3 hv6; exact lp_sh80 E T Q σ (pLaw T X0) hTb hT6 hMT hQf hQ0 rfl 2 0 0 (nx T (nx T (nx T (nx T (nx T 0))))) _ τ8 rfl (by omega) hm8 hV9 (lwV_z (by decide) (by decide)) (lwV_z (by decide) (by decide)) (by rw [hL]; rfl)
            · skip
              refine V_iconst (v := nI 0) e_X9_shore_78 (by decide) ?_
              refine V_istore_n (L' := [some (.ref (eB E + 292)), some (.int (nI 0))]) e_X9_shore_79 rfl rfl ?_
              have hL : (pLaw T X0).1 = 1 ∧ (pLaw T X0).2.1 = nx T (nx T (nx T (nx T 0))) := (by constructor <;> simp only [pLaw, X0, pTake_y ht1, pNum_y ht3 hv3, pTake_y ht5, pNum_y ht6 hv6, pTake_n ht8, tk_f1, tk_f2, nm_f1, nm_f2, mp_f1, mp_f2, pMap_y]); have hk9 : ¬ (pLaw T X0).1 = 0 := (by rw [hL.1]; decide); have hE : pAll T = pLaw T X0 := (by unfold pAll; rw [pGs_f hk9, pGe_f hk9, pMs_f hk9, pMe_f hk9, pTake_f hk9]); exact lp_sh80f E T Q σ hQf 2 0 1 (nx T (nx T (nx T (nx T 0)))) τ8 rfl (by omega) hm8 (by decide) (by decide) (by rw [hE]; exact hL.1) (by rw [hE]; exact hL.2)
          · subst hr6
            refine V_iast (j := 3) e_X9_shore_71 rfl rfl (by have q : ln 297 = 55 := rfl; omega) ?_
            obtain ⟨τ7, hτ7⟩ : ∃ τ9 : Sg, τ9 = up2 τ6 297 3 (nI 1) := ⟨_, rfl⟩
            rw [← hτ7]
            have hh7 : MF σ τ7 1 (nx T (nx T (nx T 0))) := by rw [hτ7]; exact MF.uf hm6
            refine V_aload_n e_X9_shore_72 rfl rfl ?_
            refine V_bipush (v := nI 59) e_X9_shore_73 (by decide) ?_
            refine V_cvV (av := [.int (nI 59)]) (st := []) e_X9_shore_75 (c_X9_mustSign_f E (nI 59) 1 (nx T (nx T (nx T 0))) σ τ7 hh7 (by decide) (by decide)) l_X9_132 S_X9_mustSign rfl (rm_ok (by decide) (by decide)) rfl rfl (Nat.le_of_ble_eq_true rfl) ?_
            intro τ8 hh8
            refine V_iconst (v := nI 0) e_X9_shore_78 (by decide) ?_
            refine V_istore_n (L' := [some (.ref (eB E + 292)), some (.int (nI 0))]) e_X9_shore_79 rfl rfl ?_
            have hL : (pLaw T X0).1 = 1 ∧ (pLaw T X0).2.1 = nx T (nx T (nx T 0)) := (by constructor <;> simp only [pLaw, X0, pTake_y ht1, pNum_y ht3 hv3, pTake_y ht5, pNum_n ht6, tk_f1, tk_f2, nm_f1, nm_f2, mp_f1, mp_f2, pMap_y]); have hk9 : ¬ (pLaw T X0).1 = 0 := (by rw [hL.1]; decide); have hE : pAll T = pLaw T X0 := (by unfold pAll; rw [pGs_f hk9, pGe_f hk9, pMs_f hk9, pMe_f hk9, pTake_f hk9]); exact lp_sh80f E T Q σ hQf 2 0 1 (nx T (nx T (nx T 0))) τ8 rfl (by omega) hh8 (by decide) (by decide) (by rw [hE]; exact hL.1) (by rw [hE]; exact hL.2)
          · subst hr6
            refine V_iast (j := 3) e_X9_shore_71 rfl rfl (by have q : ln 297 = 55 := rfl; omega) ?_
            obtain ⟨τ7, hτ7⟩ : ∃ τ9 : Sg, τ9 = up2 τ6 297 3 (nI 1) := ⟨_, rfl⟩
            rw [← hτ7]
            have hh7 : MF σ τ7 2 (nx T (nx T (nx T 0))) := by rw [hτ7]; exact MF.uf hm6
            refine V_aload_n e_X9_shore_72 rfl rfl ?_
            refine V_bipush (v := nI 59) e_X9_shore_73 (by decide) ?_
            refine V_cvV (av := [.int (nI 59)]) (st := []) e_X9_shore_75 (c_X9_mustSign_f E (nI 59) 2 (nx T (nx T (nx T 0))) σ τ7 hh7 (by decide) (by decide)) l_X9_132 S_X9_mustSign rfl (rm_ok (by decide) (by decide)) rfl rfl (Nat.le_of_ble_eq_true rfl) ?_
            intro τ8 hh8
            refine V_iconst (v := nI 0) e_X9_shore_78 (by decide) ?_
            refine V_istore_n (L' := [some (.ref (eB E + 292)), some (.int (nI 0))]) e_X9_shore_79 rfl rfl ?_
            have hL : (pLaw T X0).1 = 2 ∧ (pLaw T X0).2.1 = nx T (nx T (nx T 0)) := (by constructor <;> simp only [pLaw, X0, pTake_y ht1, pNum_y ht3 hv3, pTake_y ht5, pNum_r ht6 hv6, tk_f1, tk_f2, nm_f1, nm_f2, mp_f1, mp_f2, pMap_y]); have hk9 : ¬ (pLaw T X0).1 = 0 := (by rw [hL.1]; decide); have hE : pAll T = pLaw T X0 := (by unfold pAll; rw [pGs_f hk9, pGe_f hk9, pMs_f hk9, pMe_f hk9, pTake_f hk9]); exact lp_sh80f E T Q σ hQf 2 0 2 (nx T (nx T (nx T 0))) τ8 rfl (by omega) hh8 (by decide) (by decide) (by rw [hE]; exact hL.1) (by rw [hE]; exact hL.2)
        · skip
          refine V_aload_n e_X9_shore_59 rfl rfl ?_
          refine V_getr (r := 297) e_X9_shore_60 F_X9_fresh f_X9_22 rfl rfl ?_
          refine V_iconst (v := nI 3) e_X9_shore_63 (by decide) ?_
          refine V_aload_n e_X9_shore_64 rfl rfl ?_
          refine V_iconst (v := nI 1) e_X9_shore_65 (by decide) ?_
          refine V_bipush (v := nI 30) e_X9_shore_66 (by decide) ?_
          refine V_cvI (av := [.int (nI 1), .int (nI 30)]) (st := [.int (nI 3), .ref (eB E + 297)]) e_X9_shore_68 (c_X9_number_f E (nI 1) (nI 30) 1 (nx T (nx T 0)) σ τ5 hm5 (by decide) (by decide)) l_X9_128 S_X9_number rfl (rm_ok (by decide) (by decide)) rfl rfl (Nat.le_of_ble_eq_true rfl) ?_
          intro τ6 r6 hq6
          obtain ⟨rfl, hh6⟩ := hq6
          refine V_iast (j := 3) e_X9_shore_71 rfl rfl (by have q : ln 297 = 55 := rfl; omega) ?_
          obtain ⟨τ7, hτ7⟩ : ∃ τ9 : Sg, τ9 = up2 τ6 297 3 (nI 1) := ⟨_, rfl⟩
          rw [← hτ7]
          have hh7 : MF σ τ7 1 (nx T (nx T 0)) := by rw [hτ7]; exact MF.uf hh6
          refine V_aload_n e_X9_shore_72 rfl rfl ?_
          refine V_bipush (v := nI 59) e_X9_shore_73 (by decide) ?_
          refine V_cvV (av := [.int (nI 59)]) (st := []) e_X9_shore_75 (c_X9_mustSign_f E (nI 59) 1 (nx T (nx T 0)) σ τ7 hh7 (by decide) (by decide)) l_X9_132 S_X9_mustSign rfl (rm_ok (by decide) (by decide)) rfl rfl (Nat.le_of_ble_eq_true rfl) ?_
          intro τ8 hh8
          refine V_iconst (v := nI 0) e_X9_shore_78 (by decide) ?_
          refine V_istore_n (L' := [some (.ref (eB E + 292)), some (.int (nI 0))]) e_X9_shore_79 rfl rfl ?_
          have hL : (pLaw T X0).1 = 1 ∧ (pLaw T X0).2.1 = nx T (nx T 0) := (by constructor <;> simp only [pLaw, X0, pTake_y ht1, pNum_y ht3 hv3, pTake_n ht5, tk_f1, tk_f2, nm_f1, nm_f2, mp_f1, mp_f2, pMap_y]); have hk9 : ¬ (pLaw T X0).1 = 0 := (by rw [hL.1]; decide); have hE : pAll T = pLaw T X0 := (by unfold pAll; rw [pGs_f hk9, pGe_f hk9, pMs_f hk9, pMe_f hk9, pTake_f hk9]); exact lp_sh80f E T Q σ hQf 2 0 1 (nx T (nx T 0)) τ8 rfl (by omega) hh8 (by decide) (by decide) (by rw [hE]; exact hL.1) (by rw [hE]; exact hL.2)
      · subst hr3
        refine V_iast (j := 2) e_X9_shore_52 rfl rfl (by have q : ln 297 = 55 := rfl; omega) ?_
        obtain ⟨τ4, hτ4⟩ : ∃ τ9 : Sg, τ9 = up2 τ3 297 2 (nI 1) := ⟨_, rfl⟩
        rw [← hτ4]
        have hh4 : MF σ τ4 1 (nx T 0) := by rw [hτ4]; exact MF.uf hm3
        refine V_aload_n e_X9_shore_53 rfl rfl ?_
        refine V_bipush (v := nI 44) e_X9_shore_54 (by decide) ?_
        refine V_cvV (av := [.int (nI 44)]) (st := []) e_X9_shore_56 (c_X9_mustSign_f E (nI 44) 1 (nx T 0) σ τ4 hh4 (by decide) (by decide)) l_X9_132 S_X9_mustSign rfl (rm_ok (by decide) (by decide)) rfl rfl (Nat.le_of_ble_eq_true rfl) ?_
        intro τ5 hh5
        refine V_aload_n e_X9_shore_59 rfl rfl ?_
        refine V_getr (r := 297) e_X9_shore_60 F_X9_fresh f_X9_22 rfl rfl ?_
        refine V_iconst (v := nI 3) e_X9_shore_63 (by decide) ?_
        refine V_aload_n e_X9_shore_64 rfl rfl ?_
        refine V_iconst (v := nI 1) e_X9_shore_65 (by decide) ?_
        refine V_bipush (v := nI 30) e_X9_shore_66 (by decide) ?_
        refine V_cvI (av := [.int (nI 1), .int (nI 30)]) (st := [.int (nI 3), .ref (eB E + 297)]) e_X9_shore_68 (c_X9_number_f E (nI 1) (nI 30) 1 (nx T 0) σ τ5 hh5 (by decide) (by decide)) l_X9_128 S_X9_number rfl (rm_ok (by decide) (by decide)) rfl rfl (Nat.le_of_ble_eq_true rfl) ?_
        intro τ6 r6 hq6
        obtain ⟨rfl, hh6⟩ := hq6
        refine V_iast (j := 3) e_X9_shore_71 rfl rfl (by have q : ln 297 = 55 := rfl; omega) ?_
        obtain ⟨τ7, hτ7⟩ : ∃ τ9 : Sg, τ9 = up2 τ6 297 3 (nI 1) := ⟨_, rfl⟩
        rw [← hτ7]
        have hh7 : MF σ τ7 1 (nx T 0) := by rw [hτ7]; exact MF.uf hh6
        refine V_aload_n e_X9_shore_72 rfl rfl ?_
        refine V_bipush (v := nI 59) e_X9_shore_73 (by decide) ?_
        refine V_cvV (av := [.int (nI 59)]) (st := []) e_X9_shore_75 (c_X9_mustSign_f E (nI 59) 1 (nx T 0) σ τ7 hh7 (by decide) (by decide)) l_X9_132 S_X9_mustSign rfl (rm_ok (by decide) (by decide)) rfl rfl (Nat.le_of_ble_eq_true rfl) ?_
        intro τ8 hh8
        refine V_iconst (v := nI 0) e_X9_shore_78 (by decide) ?_
        refine V_istore_n (L' := [some (.ref (eB E + 292)), some (.int (nI 0))]) e_X9_shore_79 rfl rfl ?_
        have hL : (pLaw T X0).1 = 1 ∧ (pLaw T X0).2.1 = nx T 0 := (by constructor <;> simp only [pLaw, X0, pTake_y ht1, pNum_n ht3, tk_f1, tk_f2, nm_f1, nm_f2, mp_f1, mp_f2, pMap_y]); have hk9 : ¬ (pLaw T X0).1 = 0 := (by rw [hL.1]; decide); have hE : pAll T = pLaw T X0 := (by unfold pAll; rw [pGs_f hk9, pGe_f hk9, pMs_f hk9, pMe_f hk9, pTake_f hk9]); exact lp_sh80f E T Q σ hQf 2 0 1 (nx T 0) τ8 rfl (by omega) hh8 (by decide) (by decide) (by rw [hE]; exact hL.1) (by rw [hE]; exact hL.2)
      · subst hr3
        refine V_iast (j := 2) e_X9_shore_52 rfl rfl (by have q : ln 297 = 55 := rfl; omega) ?_
        obtain ⟨τ4, hτ4⟩ : ∃ τ9 : Sg, τ9 = up2 τ3 297 2 (nI 1) := ⟨_, rfl⟩
        rw [← hτ4]
        have hh4 : MF σ τ4 2 (nx T 0) := by rw [hτ4]; exact MF.uf hm3
        refine V_aload_n e_X9_shore_53 rfl rfl ?_
        refine V_bipush (v := nI 44) e_X9_shore_54 (by decide) ?_
        refine V_cvV (av := [.int (nI 44)]) (st := []) e_X9_shore_56 (c_X9_mustSign_f E (nI 44) 2 (nx T 0) σ τ4 hh4 (by decide) (by decide)) l_X9_132 S_X9_mustSign rfl (rm_ok (by decide) (by decide)) rfl rfl (Nat.le_of_ble_eq_true rfl) ?_
        intro τ5 hh5
        refine V_aload_n e_X9_shore_59 rfl rfl ?_
        refine V_getr (r := 297) e_X9_shore_60 F_X9_fresh f_X9_22 rfl rfl ?_
        refine V_iconst (v := nI 3) e_X9_shore_63 (by decide) ?_
        refine V_aload_n e_X9_shore_64 rfl rfl ?_
        refine V_iconst (v := nI 1) e_X9_shore_65 (by decide) ?_
        refine V_bipush (v := nI 30) e_X9_shore_66 (by decide) ?_
        refine V_cvI (av := [.int (nI 1), .int (nI 30)]) (st := [.int (nI 3), .ref (eB E + 297)]) e_X9_shore_68 (c_X9_number_f E (nI 1) (nI 30) 2 (nx T 0) σ τ5 hh5 (by decide) (by decide)) l_X9_128 S_X9_number rfl (rm_ok (by decide) (by decide)) rfl rfl (Nat.le_of_ble_eq_true rfl) ?_
        intro τ6 r6 hq6
        obtain ⟨rfl, hh6⟩ := hq6
        refine V_iast (j := 3) e_X9_shore_71 rfl rfl (by have q : ln 297 = 55 := rfl; omega) ?_
        obtain ⟨τ7, hτ7⟩ : ∃ τ9 : Sg, τ9 = up2 τ6 297 3 (nI 1) := ⟨_, rfl⟩
        rw [← hτ7]
        have hh7 : MF σ τ7 2 (nx T 0) := by rw [hτ7]; exact MF.uf hh6
        refine V_aload_n e_X9_shore_72 rfl rfl ?_
        refine V_bipush (v := nI 59) e_X9_shore_73 (by decide) ?_
        refine V_cvV (av := [.int (nI 59)]) (st := []) e_X9_shore_75 (c_X9_mustSign_f E (nI 59) 2 (nx T 0) σ τ7 hh7 (by decide) (by decide)) l_X9_132 S_X9_mustSign rfl (rm_ok (by decide) (by decide)) rfl rfl (Nat.le_of_ble_eq_true rfl) ?_
        intro τ8 hh8
        refine V_iconst (v := nI 0) e_X9_shore_78 (by decide) ?_
        refine V_istore_n (L' := [some (.ref (eB E + 292)), some (.int (nI 0))]) e_X9_shore_79 rfl rfl ?_
        have hL : (pLaw T X0).1 = 2 ∧ (pLaw T X0).2.1 = nx T 0 := (by constructor <;> simp only [pLaw, X0, pTake_y ht1, pNum_r ht3 hv3, tk_f1, tk_f2, nm_f1, nm_f2, mp_f1, mp_f2, pMap_y]); have hk9 : ¬ (pLaw T X0).1 = 0 := (by rw [hL.1]; decide); have hE : pAll T = pLaw T X0 := (by unfold pAll; rw [pGs_f hk9, pGe_f hk9, pMs_f hk9, pMe_f hk9, pTake_f hk9]); exact lp_sh80f E T Q σ hQf 2 0 2 (nx T 0) τ8 rfl (by omega) hh8 (by decide) (by decide) (by rw [hE]; exact hL.1) (by rw [hE]; exact hL.2)
    · refine V_topi (y := nI 0) (congrArg nI (if_neg ht1)) ?_
      refine V_cvV (av := [.int (nI 0)]) (st := []) e_X9_shore_37 (c_X9_must_0 E T 0 (fun _ => 0) σ τ h0) l_X9_118 S_X9_must rfl (rm_ok (by decide) (by decide)) rfl rfl (Nat.le_of_ble_eq_true rfl) ?_
      intro τ2 hh2
      refine V_aload_n e_X9_shore_40 rfl rfl ?_
      refine V_getr (r := 297) e_X9_shore_41 F_X9_fresh f_X9_22 rfl rfl ?_
      refine V_iconst (v := nI 2) e_X9_shore_44 (by decide) ?_
      refine V_aload_n e_X9_shore_45 rfl rfl ?_
      refine V_iconst (v := nI 1) e_X9_shore_46 (by decide) ?_
      refine V_bipush (v := nI 9) e_X9_shore_47 (by decide) ?_
      refine V_cvI (av := [.int (nI 1), .int (nI 9)]) (st := [.int (nI 2), .ref (eB E + 297)]) e_X9_shore_49 (c_X9_number_f E (nI 1) (nI 9) 1 0 σ τ2 hh2 (by decide) (by decide)) l_X9_128 S_X9_number rfl (rm_ok (by decide) (by decide)) rfl rfl (Nat.le_of_ble_eq_true rfl) ?_
      intro τ3 r3 hq3
      obtain ⟨rfl, hh3⟩ := hq3
      refine V_iast (j := 2) e_X9_shore_52 rfl rfl (by have q : ln 297 = 55 := rfl; omega) ?_
      obtain ⟨τ4, hτ4⟩ : ∃ τ9 : Sg, τ9 = up2 τ3 297 2 (nI 1) := ⟨_, rfl⟩
      rw [← hτ4]
      have hh4 : MF σ τ4 1 0 := by rw [hτ4]; exact MF.uf hh3
      refine V_aload_n e_X9_shore_53 rfl rfl ?_
      refine V_bipush (v := nI 44) e_X9_shore_54 (by decide) ?_
      refine V_cvV (av := [.int (nI 44)]) (st := []) e_X9_shore_56 (c_X9_mustSign_f E (nI 44) 1 0 σ τ4 hh4 (by decide) (by decide)) l_X9_132 S_X9_mustSign rfl (rm_ok (by decide) (by decide)) rfl rfl (Nat.le_of_ble_eq_true rfl) ?_
      intro τ5 hh5
      refine V_aload_n e_X9_shore_59 rfl rfl ?_
      refine V_getr (r := 297) e_X9_shore_60 F_X9_fresh f_X9_22 rfl rfl ?_
      refine V_iconst (v := nI 3) e_X9_shore_63 (by decide) ?_
      refine V_aload_n e_X9_shore_64 rfl rfl ?_
      refine V_iconst (v := nI 1) e_X9_shore_65 (by decide) ?_
      refine V_bipush (v := nI 30) e_X9_shore_66 (by decide) ?_
      refine V_cvI (av := [.int (nI 1), .int (nI 30)]) (st := [.int (nI 3), .ref (eB E + 297)]) e_X9_shore_68 (c_X9_number_f E (nI 1) (nI 30) 1 0 σ τ5 hh5 (by decide) (by decide)) l_X9_128 S_X9_number rfl (rm_ok (by decide) (by decide)) rfl rfl (Nat.le_of_ble_eq_true rfl) ?_
      intro τ6 r6 hq6
      obtain ⟨rfl, hh6⟩ := hq6
      refine V_iast (j := 3) e_X9_shore_71 rfl rfl (by have q : ln 297 = 55 := rfl; omega) ?_
      obtain ⟨τ7, hτ7⟩ : ∃ τ9 : Sg, τ9 = up2 τ6 297 3 (nI 1) := ⟨_, rfl⟩
      rw [← hτ7]
      have hh7 : MF σ τ7 1 0 := by rw [hτ7]; exact MF.uf hh6
      refine V_aload_n e_X9_shore_72 rfl rfl ?_
      refine V_bipush (v := nI 59) e_X9_shore_73 (by decide) ?_
      refine V_cvV (av := [.int (nI 59)]) (st := []) e_X9_shore_75 (c_X9_mustSign_f E (nI 59) 1 0 σ τ7 hh7 (by decide) (by decide)) l_X9_132 S_X9_mustSign rfl (rm_ok (by decide) (by decide)) rfl rfl (Nat.le_of_ble_eq_true rfl) ?_
      intro τ8 hh8
      refine V_iconst (v := nI 0) e_X9_shore_78 (by decide) ?_
      refine V_istore_n (L' := [some (.ref (eB E + 292)), some (.int (nI 0))]) e_X9_shore_79 rfl rfl ?_
      have hL : (pLaw T X0).1 = 1 ∧ (pLaw T X0).2.1 = 0 := (by constructor <;> simp only [pLaw, X0, pTake_n ht1, tk_f1, tk_f2, nm_f1, nm_f2, mp_f1, mp_f2, pMap_y]); have hk9 : ¬ (pLaw T X0).1 = 0 := (by rw [hL.1]; decide); have hE : pAll T = pLaw T X0 := (by unfold pAll; rw [pGs_f hk9, pGe_f hk9, pMs_f hk9, pMe_f hk9, pTake_f hk9]); exact lp_sh80f E T Q σ hQf 2 0 1 0 τ8 rfl (by omega) hh8 (by decide) (by decide) (by rw [hE]; exact hL.1) (by rw [hE]; exact hL.2)
set_option maxRecDepth 100000 in
set_option maxHeartbeats 4000000 in
theorem lp_sh11 (E : En) (T : Tp) (Q : Sg → Int32 → Prop) (σ : Sg) (τ1 : Sg) (hTb : T.1 ≤ 100) (hT6 : ∀ j, j < T.1 → T.2 j < 256) (hMT : MT σ T) (hQf : ∀ ρ, MF σ ρ (pAll T).1 (pAll T).2.1 → ¬ (pAll T).1 = 0 → Q (up2 (up2 ρ 292 11 (nI 0)) 292 18 (nI (pAll T).1)) ((-1000100) - nI (pAll T).2.1)) (hQ0 : ∀ ρ, FMr σ ρ → RepM ρ 297 (pAll T).2.2.2 → (pAll T).1 = 0 → PV (pAll T).2.2.2 → 2 ≤ (pAll T).2.2.2 0 → 1 ≤ (pAll T).2.2.2 1 → Q (layW 296 0 55 (pAll T).2.2.2 (up2 (up2 (up2 ρ 292 11 (nI 0)) 292 18 (ρ 292 18)) 292 9 (nI 0))) (nI ((pAll T).2.2.2 0))) (hb : FMr σ τ1 ∧ τ1 292 16 = nI 0 ∧ MPos τ1 T 0) : ∀ (mm : Nat) (i : Nat), 55 - i = mm → (i ≤ 55) → V E m_X9_shore (kM E 12 (pI Q)) 11 [some (.ref (eB E + 292)), some (.int (nI i))] [] (layW 297 0 i (fun _ => 0) τ1) := by
  intro mm
  induction mm using Nat.strongRecOn with
  | ind mm ih =>
    intro i hmm hi
    refine V_iload_n e_X9_shore_11 rfl rfl ?_
    refine V_bipush (v := nI 55) e_X9_shore_12 (by decide) ?_
    refine V_icmp_ge (tgt := 30) e_X9_shore_14 (by decide) (fun c1 => ?_) (fun c1 => ?_)
    · have d1 : 55 ≤ i := nq_le (by omega) (by omega) c1
      obtain rfl : i = 55 := (by omega); exact lp_sh30 E T Q σ hTb hT6 hMT hQf hQ0 0 _ rfl ⟨fun a k h1 h2 => (layW_ne h2).trans (hb.1 a k h1 h2), (layW_ne (by decide)).trans hb.2.1, ⟨(layW_ne (by decide)).trans hb.2.2.1, (layW_ne (by decide)).trans hb.2.2.2.1, (layW_ne (by decide)).trans hb.2.2.2.2.1, fun z => (layW_ne (by decide)).trans (hb.2.2.2.2.2.1 z), fun z => (layW_ne (by decide)).trans (hb.2.2.2.2.2.2 z)⟩, Nat.zero_le _, fun k hk => by have hz9 := layW_at (c := 297) (a := 0) (A := fun _ => 0) (σ := τ1) hk; rw [Nat.zero_add] at hz9; exact hz9⟩
    · have d1 : ¬ 55 ≤ i := nq_nle (by omega) (by omega) c1
      refine V_aload_n e_X9_shore_17 rfl rfl ?_
      refine V_getr (r := 297) e_X9_shore_18 F_X9_fresh f_X9_22 rfl rfl ?_
      refine V_iload_n e_X9_shore_21 rfl rfl ?_
      refine V_iconst (v := nI 0) e_X9_shore_22 (by decide) ?_
      refine V_iast (j := i) e_X9_shore_23 rfl rfl (by have q : ln 297 = 55 := rfl; omega) ?_
      rw [show up2 (layW 297 0 i (fun _ => 0) τ1) 297 i (nI 0) = layW 297 0 (i + 1) (fun _ => 0) τ1 from (by have hz9 := layW_s (c := 297) (a := 0) (i := i) (A := fun _ => 0) (σ := τ1); rw [Nat.zero_add] at hz9; exact hz9)]
      refine V_iinc (v := nI (i + 1)) (L' := [some (.ref (eB E + 292)), some (.int (nI (i + 1)))]) e_X9_shore_24 rfl (nI_add _ 1) rfl ?_
      refine V_goto (tgt := 11) e_X9_shore_27 (by decide) ?_
      exact ih (55 - (i + 1)) (by omega) (i + 1) rfl (by omega)
theorem IM.fmr {σ τ : Sg} {S : Ab} (h : IM σ S) (e : FMr σ τ) : IM τ S := h.fr (fun a k hk => e a k (fun q => by
  have h1 := q.1
  subst h1
  have h2 : mrg 292 k = 0 := by
    unfold mrg
    rw [if_pos rfl, if_neg (by omega), if_neg (by omega), if_neg (by omega), if_neg (by omega), if_neg (by omega)]
  rw [h2] at hk
  omega) (fun q => by subst q; exact absurd hk (by show ¬ 0 < 0; decide)))
theorem FMr.b {σ τ : Sg} (h : FMr σ τ) : Fb 292 307 σ τ := fun a k hk => h a k (by omega) (by omega)
theorem shF_im {σ ρ : Sg} {S : Ab} {k : Nat} (h : IM σ S) (e : FMr σ ρ) (hk : k ≤ 3) : IM (up2 (up2 ρ 292 11 (nI 0)) 292 18 (nI k)) (wF (wT S (0, (aT S).2)) k) := by
  have h1 : IM (up2 ρ 292 11 (nI 0)) (wT S (0, (aT S).2)) := IM.wT (h.fmr e) ⟨Nat.zero_le _, fun j hj => absurd hj (Nat.not_lt_zero j)⟩ ⟨up2_at, fun j hj => absurd hj (Nat.not_lt_zero j)⟩ (mup rfl)
  exact IM.wF h1 hk up2_at (mup rfl)
theorem sh0_im {σ ρ : Sg} {S : Ab} {B : Vec} (h : IM σ S) (e : FMr σ ρ) (hB : GD B) : IM (layW 296 0 55 B (up2 (up2 (up2 ρ 292 11 (nI 0)) 292 18 (ρ 292 18)) 292 9 (nI 0))) (wA (wH (wT S (0, (aT S).2)) ((aH S).1, 0)) B) := by
  have h0 := h.fmr e
  have h1 : IM (up2 ρ 292 11 (nI 0)) (wT S (0, (aT S).2)) := IM.wT h0 ⟨Nat.zero_le _, fun j hj => absurd hj (Nat.not_lt_zero j)⟩ ⟨up2_at, fun j hj => absurd hj (Nat.not_lt_zero j)⟩ (mup rfl)
  have h2 : IM (up2 (up2 ρ 292 11 (nI 0)) 292 18 (ρ 292 18)) (wT S (0, (aT S).2)) := by
    have e2 : up2 (up2 ρ 292 11 (nI 0)) 292 18 (ρ 292 18) = up2 ρ 292 11 (nI 0) := by
      funext a k
      by_cases q : a = 292 ∧ k = 18
      · rw [q.1, q.2, up2_at, up2_k (by decide)]
      · rw [show up2 (up2 ρ 292 11 (nI 0)) 292 18 (ρ 292 18) a k = up2 ρ 292 11 (nI 0) a k from if_neg q]
    rw [e2]; exact h1
  have h3 : IM (up2 (up2 (up2 ρ 292 11 (nI 0)) 292 18 (ρ 292 18)) 292 9 (nI 0)) (wH (wT S (0, (aT S).2)) ((aH S).1, 0)) := IM.wH h2 ⟨Nat.zero_le _, fun j hj => absurd hj (Nat.not_lt_zero j)⟩ ⟨up2_at, fun j hj => absurd hj (Nat.not_lt_zero j)⟩ (mup rfl)
  rw [layW_st]
  exact imsh h3 hB
set_option maxRecDepth 100000 in
set_option maxHeartbeats 4000000 in
theorem c9_shore (E : En) (A : Vec) (T : AbT) (σ : Sg) (hJ0 : IM σ (A, T)) : Cn E m_X9_shore 12 [.ref (eB E + 292)] σ (pM σ (oShore (A, T))) := by
  have hGD : GD A := hJ0.1.1
  have hN : WN A := hGD.1
  have hNl := hN.le
  have hA4 : A 4 ≤ 999 := hGD.2.2
  have hG := hJ0.1
  refine Cn.of [some (.ref (eB E + 292)), none] (by decide) (Nat.le_of_ble_eq_true rfl) rfl ?_
  refine V_aload_n e_X9_shore_0 rfl rfl ?_
  refine V_iconst (v := nI 0) e_X9_shore_1 (by decide) ?_
  refine V_puti e_X9_shore_2 F_X9_thrown f_X9_53 rfl ?_
  generalize hτ : up2 σ 292 0 (nI 0) = τ
  have hfb : Fb 292 307 σ τ := hτ ▸ th_fb
  have hJ : IM τ (A, T) := hτ ▸ hJ0.fm Fm.th
  have hM : RepM τ 296 A := hJ.2.1
  refine V_aload_n e_X9_shore_5 rfl rfl ?_
  refine V_cvV (av := []) (st := []) e_X9_shore_6 (c_X9_begin E (aT (A, T)) τ hJ.2.2.2.2.2.1 hG.2.2.2.2.1.1 hG.2.2.2.2.1.2) l_X9_138 S_X9_begin rfl (rm_ok (by decide) (by decide)) rfl rfl (Nat.le_of_ble_eq_true rfl) ?_
  intro τ1 hb1
  refine V_iconst (v := nI 0) e_X9_shore_9 (by decide) ?_
  refine V_istore_n (L' := [some (.ref (eB E + 292)), some (.int (nI 0))]) e_X9_shore_10 rfl rfl ?_
  have hX := lp_sh11 E (aT (A, T)) (fun σ' r => Fb 292 307 σ σ' ∧ IM σ' (oShore (A, T)).1 ∧ r = (oShore (A, T)).2) τ τ1 hG.2.2.2.2.1.1 hG.2.2.2.2.1.2 hJ.2.2.2.2.2.1 (fun ρ hf hk => by rw [show oShore (A, T) = (wF (wT (A, T) (0, (aT (A, T)).2)) (pAll (aT (A, T))).1, (-1000100) - nI (pAll (aT (A, T))).2.1) from if_neg hk]; exact ⟨((hfb.tr hf.1.b).tr th_fb).tr th_fb, shF_im hJ hf.1 (PK.all _).1, rfl⟩) (fun ρ hf hB hk hv h2 h1 => by rw [show oShore (A, T) = (wA (wH (wT (A, T) (0, (aT (A, T)).2)) ((aH (A, T)).1, 0)) (pAll (aT (A, T))).2.2.2, nI ((pAll (aT (A, T))).2.2.2 0)) from if_pos hk]; exact ⟨((((hfb.tr hf.b).tr th_fb).tr th_fb).tr th_fb).tr (fun a k hk9 => layW_ne (by omega)), sh0_im hJ hf (hv.gd h2 h1), rfl⟩) hb1 55 0 rfl (by omega); rw [layW_0] at hX; exact hX

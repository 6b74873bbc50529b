theorem hm_tail {A : Vec} {x : Nat} : ∀ k, sumN (hmF A x) (x + k) = sumN (hmF A x) x
  | 0 => rfl
  | k + 1 => by
    show sumN (hmF A x) (x + k) + hmF A x (x + k) = _
    rw [hm_tail k, show hmF A x (x + k) = 0 from if_pos (by omega), Nat.add_zero]
theorem hm_end {A : Vec} {x p : Nat} (h : x ≤ p) : sumN (hmF A x) p = sumN (hmF A x) x := by
  have h1 := hm_tail (A := A) (x := x) (p - x)
  rwa [show x + (p - x) = p by omega] at h1
set_option maxRecDepth 100000 in
set_option maxHeartbeats 4000000 in
theorem lp_X9_share_3 (E : En) (x n : Nat) (A : Vec) (σ : Sg) (hM : RepM σ 296 A) (hF : WF A) (hx : x < A 1) (hn9 : n ≤ 999) (h5 : A 1 ≤ 5) (h0 : 0 < allH A) (h30 : allH A ≤ 30) : ∀ (mm : Nat) (p : Nat), x - p = mm → (p ≤ x) → V E m_X9_share (kM E 12 (pI (fun σ' r => σ' = σ ∧ r = nI (shC A x n)))) 123 [some (.ref (eB E + 292)), some (.int (nI x)), some (.int (nI n)), some (.int (nI (allH A))), some (.int (nI (n - sumN (shF A n) (A 1)))), some (.int (nI (sumN (hmF A x) p))), some (.int (nI p))] [] σ := by
  intro mm
  induction mm using Nat.strongRecOn with
  | ind mm ih =>
    intro p hmm hp
    have hho := hm_le A x p
    have hhx := hm_le A x x
    refine V_iload e_X9_share_123 rfl ?_
    refine V_iload_n e_X9_share_125 rfl rfl ?_
    refine V_icmp_ge (tgt := 158) e_X9_share_126 (by decide) (fun c1 => ?_) (fun c1 => ?_)
    · have d1 : x ≤ p := nq_le (by first | omega | (have hq9 : n * cntN (A (27 + 6 * x)) ≤ 999 * 6 := Nat.mul_le_mul hn9 (cnt_le _); omega) | (have hq9 : n * cntN (A (27 + 6 * x)) ≤ 999 * 6 := Nat.mul_le_mul hn9 (cnt_le _); omega)) (by first | omega | (have hq9 : n * cntN (A (27 + 6 * x)) ≤ 999 * 6 := Nat.mul_le_mul hn9 (cnt_le _); omega) | (have hq9 : n * cntN (A (27 + 6 * x)) ≤ 999 * 6 := Nat.mul_le_mul hn9 (cnt_le _); omega)) c1
      obtain rfl : x = p := by omega
      obtain ⟨v1, v2, v3, v4, v5, v6⟩ := hF.per hx
      refine V_iload_n e_X9_share_158 rfl rfl ?_
      refine V_aload_n e_X9_share_159 rfl rfl ?_
      refine V_getr (r := 296) e_X9_share_160 F_X9_shore f_X9_19 rfl rfl ?_
      refine V_iload_n e_X9_share_163 rfl rfl ?_
      refine V_iconst (v := nI 2) e_X9_share_164 (by decide) ?_
      refine V_csIe (av := [.ref (eB E + 296), .int (nI x), .int (nI 2)]) (st := [.int (nI n)]) e_X9_share_165 (c_X9_hisR_2 E 296 x A σ rfl rfl hM (by omega)) l_X9_166 S_X9_his (rm_ok (by decide) (by decide)) rfl rfl (Nat.le_of_ble_eq_true rfl) ?_
      refine V_csIe (av := [.int (nI (A (27 + 6 * x)))]) (st := [.int (nI n)]) e_X9_share_168 (c_X9_bits E (A (27 + 6 * x)) σ (by omega)) l_X9_248 S_X9_bits (rm_ok (by decide) (by decide)) rfl rfl (Nat.le_of_ble_eq_true rfl) ?_
      refine V_imulN (z := nI (n * (cntN (A (27 + 6 * x))))) e_X9_share_171 (pk_mul _ _) ?_
      refine V_iload_n e_X9_share_172 rfl rfl ?_
      refine V_idivN (z := nI ((n * (cntN (A (27 + 6 * x)))) / (allH A))) e_X9_share_173 (nI_ne0 (h0) (by first | omega | (have hq9 : n * cntN (A (27 + 6 * x)) ≤ 999 * 6 := Nat.mul_le_mul hn9 (cnt_le _); omega) | (have hq9 : n * cntN (A (27 + 6 * x)) ≤ 999 * 6 := Nat.mul_le_mul hn9 (cnt_le _); omega))) (pk_div (by first | omega | (have hq9 : n * cntN (A (27 + 6 * x)) ≤ 999 * 6 := Nat.mul_le_mul hn9 (cnt_le _); omega) | (have hq9 : n * cntN (A (27 + 6 * x)) ≤ 999 * 6 := Nat.mul_le_mul hn9 (cnt_le _); omega)) (h0) (by first | omega | (have hq9 : n * cntN (A (27 + 6 * x)) ≤ 999 * 6 := Nat.mul_le_mul hn9 (cnt_le _); omega) | (have hq9 : n * cntN (A (27 + 6 * x)) ≤ 999 * 6 := Nat.mul_le_mul hn9 (cnt_le _); omega))) ?_
      refine V_aload_n e_X9_share_174 rfl rfl ?_
      refine V_getr (r := 296) e_X9_share_175 F_X9_shore f_X9_19 rfl rfl ?_
      refine V_iload_n e_X9_share_178 rfl rfl ?_
      refine V_iconst (v := nI 2) e_X9_share_179 (by decide) ?_
      refine V_csIe (av := [.ref (eB E + 296), .int (nI x), .int (nI 2)]) (st := [.int (nI ((n * (cntN (A (27 + 6 * x)))) / (allH A)))]) e_X9_share_180 (c_X9_hisR_2 E 296 x A σ rfl rfl hM (by omega)) l_X9_166 S_X9_his (rm_ok (by decide) (by decide)) rfl rfl (Nat.le_of_ble_eq_true rfl) ?_
      refine V_if_eq (tgt := 197) e_X9_share_183 (by decide) (fun c2 => ?_) (fun c2 => ?_)
      · have d2 : A (27 + 6 * x) = 0 := nq_eq (by first | omega | (have hq9 : n * cntN (A (27 + 6 * x)) ≤ 999 * 6 := Nat.mul_le_mul hn9 (cnt_le _); omega) | (have hq9 : n * cntN (A (27 + 6 * x)) ≤ 999 * 6 := Nat.mul_le_mul hn9 (cnt_le _); omega)) (by first | omega | (have hq9 : n * cntN (A (27 + 6 * x)) ≤ 999 * 6 := Nat.mul_le_mul hn9 (cnt_le _); omega) | (have hq9 : n * cntN (A (27 + 6 * x)) ≤ 999 * 6 := Nat.mul_le_mul hn9 (cnt_le _); omega)) c2
        have dz0 : A (27 + 6 * x) = 0 := d2
        refine V_iconst (v := nI 0) e_X9_share_197 (by decide) ?_
        refine V_iaddN (z := nI ((n * (cntN (A (27 + 6 * x)))) / (allH A) + 0)) e_X9_share_198 (nI_add _ _) ?_
        exact V_iret e_X9_share_199 rfl (⟨rfl, by congr 1; unfold shC; rw [if_neg (show ¬ allH A = 0 by omega), if_pos dz0, dz0, show cntN 0 = 0 from rfl, Nat.mul_zero, Nat.zero_div]⟩)
      · have d2 : ¬ A (27 + 6 * x) = 0 := nq_ne (by first | omega | (have hq9 : n * cntN (A (27 + 6 * x)) ≤ 999 * 6 := Nat.mul_le_mul hn9 (cnt_le _); omega) | (have hq9 : n * cntN (A (27 + 6 * x)) ≤ 999 * 6 := Nat.mul_le_mul hn9 (cnt_le _); omega)) (by first | omega | (have hq9 : n * cntN (A (27 + 6 * x)) ≤ 999 * 6 := Nat.mul_le_mul hn9 (cnt_le _); omega) | (have hq9 : n * cntN (A (27 + 6 * x)) ≤ 999 * 6 := Nat.mul_le_mul hn9 (cnt_le _); omega)) c2
        have dz0 : ¬ A (27 + 6 * x) = 0 := d2
        refine V_iload e_X9_share_186 rfl ?_
        refine V_iload e_X9_share_188 rfl ?_
        refine V_icmp_ge (tgt := 197) e_X9_share_190 (by decide) (fun c3 => ?_) (fun c3 => ?_)
        · have d3 : n - sumN (shF A n) (A 1) ≤ sumN (hmF A x) x := nq_le (by first | omega | (have hq9 : n * cntN (A (27 + 6 * x)) ≤ 999 * 6 := Nat.mul_le_mul hn9 (cnt_le _); omega) | (have hq9 : n * cntN (A (27 + 6 * x)) ≤ 999 * 6 := Nat.mul_le_mul hn9 (cnt_le _); omega)) (by first | omega | (have hq9 : n * cntN (A (27 + 6 * x)) ≤ 999 * 6 := Nat.mul_le_mul hn9 (cnt_le _); omega) | (have hq9 : n * cntN (A (27 + 6 * x)) ≤ 999 * 6 := Nat.mul_le_mul hn9 (cnt_le _); omega)) c3
          have dz1 := d3
          refine V_iconst (v := nI 0) e_X9_share_197 (by decide) ?_
          refine V_iaddN (z := nI ((n * (cntN (A (27 + 6 * x)))) / (allH A) + 0)) e_X9_share_198 (nI_add _ _) ?_
          exact V_iret e_X9_share_199 rfl (⟨rfl, by congr 1; unfold shC; rw [if_neg (show ¬ allH A = 0 by omega), if_neg dz0, hm_end (show x ≤ A 1 by omega)]; (first | rw [if_pos dz1] | rw [if_neg dz1])⟩)
        · have d3 : ¬ n - sumN (shF A n) (A 1) ≤ sumN (hmF A x) x := nq_nle (by first | omega | (have hq9 : n * cntN (A (27 + 6 * x)) ≤ 999 * 6 := Nat.mul_le_mul hn9 (cnt_le _); omega) | (have hq9 : n * cntN (A (27 + 6 * x)) ≤ 999 * 6 := Nat.mul_le_mul hn9 (cnt_le _); omega)) (by first | omega | (have hq9 : n * cntN (A (27 + 6 * x)) ≤ 999 * 6 := Nat.mul_le_mul hn9 (cnt_le _); omega) | (have hq9 : n * cntN (A (27 + 6 * x)) ≤ 999 * 6 := Nat.mul_le_mul hn9 (cnt_le _); omega)) c3
          have dz1 := d3
          refine V_iconst (v := nI 1) e_X9_share_193 (by decide) ?_
          refine V_goto (tgt := 198) e_X9_share_194 (by decide) ?_
          refine V_iaddN (z := nI ((n * (cntN (A (27 + 6 * x)))) / (allH A) + 1)) e_X9_share_198 (nI_add _ _) ?_
          exact V_iret e_X9_share_199 rfl (⟨rfl, by congr 1; unfold shC; rw [if_neg (show ¬ allH A = 0 by omega), if_neg dz0, hm_end (show x ≤ A 1 by omega)]; (first | rw [if_pos dz1] | rw [if_neg dz1])⟩)
    · have d1 : ¬ x ≤ p := nq_nle (by first | omega | (have hq9 : n * cntN (A (27 + 6 * x)) ≤ 999 * 6 := Nat.mul_le_mul hn9 (cnt_le _); omega) | (have hq9 : n * cntN (A (27 + 6 * x)) ≤ 999 * 6 := Nat.mul_le_mul hn9 (cnt_le _); omega)) (by first | omega | (have hq9 : n * cntN (A (27 + 6 * x)) ≤ 999 * 6 := Nat.mul_le_mul hn9 (cnt_le _); omega) | (have hq9 : n * cntN (A (27 + 6 * x)) ≤ 999 * 6 := Nat.mul_le_mul hn9 (cnt_le _); omega)) c1
      obtain ⟨w1, w2, w3, w4, w5, w6⟩ := hF.per (show p < A 1 by omega)
      refine V_iload e_X9_share_129 rfl ?_
      refine V_aload_n e_X9_share_131 rfl rfl ?_
      refine V_getr (r := 296) e_X9_share_132 F_X9_shore f_X9_19 rfl rfl ?_
      refine V_iload e_X9_share_135 rfl ?_
      refine V_iconst (v := nI 2) e_X9_share_137 (by decide) ?_
      refine V_csIe (av := [.ref (eB E + 296), .int (nI p), .int (nI 2)]) (st := [.int (nI (sumN (hmF A x) p))]) e_X9_share_138 (c_X9_hisR_2 E 296 p A σ rfl rfl hM (by omega)) l_X9_166 S_X9_his (rm_ok (by decide) (by decide)) rfl rfl (Nat.le_of_ble_eq_true rfl) ?_
      refine V_if_ne (tgt := 148) e_X9_share_141 (by decide) (fun c4 => ?_) (fun c4 => ?_)
      · have d4 : ¬ A (27 + 6 * p) = 0 := nq_ne (by first | omega | (have hq9 : n * cntN (A (27 + 6 * x)) ≤ 999 * 6 := Nat.mul_le_mul hn9 (cnt_le _); omega) | (have hq9 : n * cntN (A (27 + 6 * x)) ≤ 999 * 6 := Nat.mul_le_mul hn9 (cnt_le _); omega)) (by first | omega | (have hq9 : n * cntN (A (27 + 6 * x)) ≤ 999 * 6 := Nat.mul_le_mul hn9 (cnt_le _); omega) | (have hq9 : n * cntN (A (27 + 6 * x)) ≤ 999 * 6 := Nat.mul_le_mul hn9 (cnt_le _); omega)) c4
        refine V_iconst (v := nI 1) e_X9_share_148 (by decide) ?_
        refine V_iaddN (z := nI (sumN (hmF A x) p + 1)) e_X9_share_149 (nI_add _ _) ?_
        refine V_istore (L' := [some (.ref (eB E + 292)), some (.int (nI x)), some (.int (nI n)), some (.int (nI (allH A))), some (.int (nI (n - sumN (shF A n) (A 1)))), some (.int (nI (sumN (hmF A x) p + 1))), some (.int (nI p))]) e_X9_share_150 rfl ?_
        refine V_iinc (v := nI (p + 1)) (L' := [some (.ref (eB E + 292)), some (.int (nI x)), some (.int (nI n)), some (.int (nI (allH A))), some (.int (nI (n - sumN (shF A n) (A 1)))), some (.int (nI (sumN (hmF A x) p + 1))), some (.int (nI (p + 1)))]) e_X9_share_152 rfl (nI_add _ 1) rfl ?_
        refine V_goto (tgt := 123) e_X9_share_155 (by decide) ?_
        rw [show sumN (hmF A x) p + 1 = sumN (hmF A x) (p + 1) from (by rw [sumN]; congr 1; rw [hmF, if_neg (by omega)]; (first | rw [if_pos d4] | rw [if_neg d4]))]; exact ih (x - (p + 1)) (by omega) (p + 1) rfl (by omega)
      · have d4 : A (27 + 6 * p) = 0 := nq_eq (by first | omega | (have hq9 : n * cntN (A (27 + 6 * x)) ≤ 999 * 6 := Nat.mul_le_mul hn9 (cnt_le _); omega) | (have hq9 : n * cntN (A (27 + 6 * x)) ≤ 999 * 6 := Nat.mul_le_mul hn9 (cnt_le _); omega)) (by first | omega | (have hq9 : n * cntN (A (27 + 6 * x)) ≤ 999 * 6 := Nat.mul_le_mul hn9 (cnt_le _); omega) | (have hq9 : n * cntN (A (27 + 6 * x)) ≤ 999 * 6 := Nat.mul_le_mul hn9 (cnt_le _); omega)) c4
        refine V_iconst (v := nI 0) e_X9_share_144 (by decide) ?_
        refine V_goto (tgt := 149) e_X9_share_145 (by decide) ?_
        refine V_iaddN (z := nI (sumN (hmF A x) p + 0)) e_X9_share_149 (nI_add _ _) ?_
        refine V_istore (L' := [some (.ref (eB E + 292)), some (.int (nI x)), some (.int (nI n)), some (.int (nI (allH A))), some (.int (nI (n - sumN (shF A n) (A 1)))), some (.int (nI (sumN (hmF A x) p + 0))), some (.int (nI p))]) e_X9_share_150 rfl ?_
        refine V_iinc (v := nI (p + 1)) (L' := [some (.ref (eB E + 292)), some (.int (nI x)), some (.int (nI n)), some (.int (nI (allH A))), some (.int (nI (n - sumN (shF A n) (A 1)))), some (.int (nI (sumN (hmF A x) p + 0))), some (.int (nI (p + 1)))]) e_X9_share_152 rfl (nI_add _ 1) rfl ?_
        refine V_goto (tgt := 123) e_X9_share_155 (by decide) ?_
        rw [show sumN (hmF A x) p + 0 = sumN (hmF A x) (p + 1) from (by rw [sumN]; congr 1; rw [hmF, if_neg (by omega)]; (first | rw [if_pos d4] | rw [if_neg d4]))]; exact ih (x - (p + 1)) (by omega) (p + 1) rfl (by omega)
set_option maxRecDepth 100000 in
set_option maxHeartbeats 4000000 in
theorem lp_X9_share_2 (E : En) (x n : Nat) (A : Vec) (σ : Sg) (hM : RepM σ 296 A) (hF : WF A) (hx : x < A 1) (hn9 : n ≤ 999) (h5 : A 1 ≤ 5) (h0 : 0 < allH A) (h30 : allH A ≤ 30) : ∀ (mm : Nat) (p : Nat), A 1 - p = mm → (p ≤ A 1) → V E m_X9_share (kM E 12 (pI (fun σ' r => σ' = σ ∧ r = nI (shC A x n)))) 78 [some (.ref (eB E + 292)), some (.int (nI x)), some (.int (nI n)), some (.int (nI (allH A))), some (.int (nI (n - sumN (shF A n) p))), some (.int (nI p)), none] [] σ := by
  intro mm
  induction mm using Nat.strongRecOn with
  | ind mm ih =>
    intro p hmm hp
    refine V_iload e_X9_share_78 rfl ?_
    refine V_aload_n e_X9_share_80 rfl rfl ?_
    refine V_getr (r := 296) e_X9_share_81 F_X9_shore f_X9_19 rfl rfl ?_
    refine V_iconst (v := nI 1) e_X9_share_84 (by decide) ?_
    refine V_ialdv (v := nI (A 1)) (j := 1) e_X9_share_85 rfl rfl (by decide) (hM 1 (by omega)) ?_
    refine V_icmp_ge (tgt := 117) e_X9_share_86 (by decide) (fun c1 => ?_) (fun c1 => ?_)
    · have d1 : A 1 ≤ p := nq_le (by first | omega | (have hq9 : n * cntN (A (27 + 6 * p)) ≤ 999 * 6 := Nat.mul_le_mul hn9 (cnt_le _); omega) | (have hq9 : n * cntN (A (27 + 6 * x)) ≤ 999 * 6 := Nat.mul_le_mul hn9 (cnt_le _); omega)) (by first | omega | (have hq9 : n * cntN (A (27 + 6 * p)) ≤ 999 * 6 := Nat.mul_le_mul hn9 (cnt_le _); omega) | (have hq9 : n * cntN (A (27 + 6 * x)) ≤ 999 * 6 := Nat.mul_le_mul hn9 (cnt_le _); omega)) c1
      obtain rfl : p = A 1 := by omega
      refine V_iconst (v := nI 0) e_X9_share_117 (by decide) ?_
      refine V_istore (L' := [some (.ref (eB E + 292)), some (.int (nI x)), some (.int (nI n)), some (.int (nI (allH A))), some (.int (nI (n - sumN (shF A n) (A 1)))), some (.int (nI 0)), none]) e_X9_share_118 rfl ?_
      refine V_iconst (v := nI 0) e_X9_share_120 (by decide) ?_
      refine V_istore (L' := [some (.ref (eB E + 292)), some (.int (nI x)), some (.int (nI n)), some (.int (nI (allH A))), some (.int (nI (n - sumN (shF A n) (A 1)))), some (.int (nI 0)), some (.int (nI 0))]) e_X9_share_121 rfl ?_
      have hX := lp_X9_share_3 E x n A σ hM hF hx hn9 h5 h0 h30 x 0 rfl (by omega); exact hX
    · have d1 : ¬ A 1 ≤ p := nq_nle (by first | omega | (have hq9 : n * cntN (A (27 + 6 * p)) ≤ 999 * 6 := Nat.mul_le_mul hn9 (cnt_le _); omega) | (have hq9 : n * cntN (A (27 + 6 * x)) ≤ 999 * 6 := Nat.mul_le_mul hn9 (cnt_le _); omega)) (by first | omega | (have hq9 : n * cntN (A (27 + 6 * p)) ≤ 999 * 6 := Nat.mul_le_mul hn9 (cnt_le _); omega) | (have hq9 : n * cntN (A (27 + 6 * x)) ≤ 999 * 6 := Nat.mul_le_mul hn9 (cnt_le _); omega)) c1
      obtain ⟨w1, w2, w3, w4, w5, w6⟩ := hF.per (show p < A 1 by omega)
      have hcp := cnt_le (A (27 + 6 * p))
      have hsb : n * cntN (A (27 + 6 * p)) / allH A ≤ n - sumN (shF A n) p := by have hq9 := shF_le (n := n) (p := p + 1) h0 (by omega); rw [sumN] at hq9; unfold shF at hq9 ⊢; omega
      refine V_iload e_X9_share_89 rfl ?_
      refine V_iload_n e_X9_share_91 rfl rfl ?_
      refine V_aload_n e_X9_share_92 rfl rfl ?_
      refine V_getr (r := 296) e_X9_share_93 F_X9_shore f_X9_19 rfl rfl ?_
      refine V_iload e_X9_share_96 rfl ?_
      refine V_iconst (v := nI 2) e_X9_share_98 (by decide) ?_
      refine V_csIe (av := [.ref (eB E + 296), .int (nI p), .int (nI 2)]) (st := [.int (nI n), .int (nI (n - sumN (shF A n) p))]) e_X9_share_99 (c_X9_hisR_2 E 296 p A σ rfl rfl hM (by omega)) l_X9_166 S_X9_his (rm_ok (by decide) (by decide)) rfl rfl (Nat.le_of_ble_eq_true rfl) ?_
      refine V_csIe (av := [.int (nI (A (27 + 6 * p)))]) (st := [.int (nI n), .int (nI (n - sumN (shF A n) p))]) e_X9_share_102 (c_X9_bits E (A (27 + 6 * p)) σ (by omega)) l_X9_248 S_X9_bits (rm_ok (by decide) (by decide)) rfl rfl (Nat.le_of_ble_eq_true rfl) ?_
      refine V_imulN (z := nI (n * (cntN (A (27 + 6 * p))))) e_X9_share_105 (pk_mul _ _) ?_
      refine V_iload_n e_X9_share_106 rfl rfl ?_
      refine V_idivN (z := nI ((n * (cntN (A (27 + 6 * p)))) / (allH A))) e_X9_share_107 (nI_ne0 (h0) (by first | omega | (have hq9 : n * cntN (A (27 + 6 * p)) ≤ 999 * 6 := Nat.mul_le_mul hn9 (cnt_le _); omega) | (have hq9 : n * cntN (A (27 + 6 * x)) ≤ 999 * 6 := Nat.mul_le_mul hn9 (cnt_le _); omega))) (pk_div (by first | omega | (have hq9 : n * cntN (A (27 + 6 * p)) ≤ 999 * 6 := Nat.mul_le_mul hn9 (cnt_le _); omega) | (have hq9 : n * cntN (A (27 + 6 * x)) ≤ 999 * 6 := Nat.mul_le_mul hn9 (cnt_le _); omega)) (h0) (by first | omega | (have hq9 : n * cntN (A (27 + 6 * p)) ≤ 999 * 6 := Nat.mul_le_mul hn9 (cnt_le _); omega) | (have hq9 : n * cntN (A (27 + 6 * x)) ≤ 999 * 6 := Nat.mul_le_mul hn9 (cnt_le _); omega))) ?_
      refine V_isubN (z := nI (n - sumN (shF A n) p - ((n * (cntN (A (27 + 6 * p)))) / (allH A)))) e_X9_share_108 (pk_sub (hsb)) ?_
      refine V_istore (L' := [some (.ref (eB E + 292)), some (.int (nI x)), some (.int (nI n)), some (.int (nI (allH A))), some (.int (nI (n - sumN (shF A n) p - ((n * (cntN (A (27 + 6 * p)))) / (allH A))))), some (.int (nI p)), none]) e_X9_share_109 rfl ?_
      refine V_iinc (v := nI (p + 1)) (L' := [some (.ref (eB E + 292)), some (.int (nI x)), some (.int (nI n)), some (.int (nI (allH A))), some (.int (nI (n - sumN (shF A n) p - ((n * (cntN (A (27 + 6 * p)))) / (allH A))))), some (.int (nI (p + 1))), none]) e_X9_share_111 rfl (nI_add _ 1) rfl ?_
      refine V_goto (tgt := 78) e_X9_share_114 (by decide) ?_
      rw [show n - sumN (shF A n) p - ((n * (cntN (A (27 + 6 * p)))) / (allH A)) = n - sumN (shF A n) (p + 1) from (by rw [sumN]; exact Nat.sub_sub _ _ _)]; exact ih (A 1 - (p + 1)) (by omega) (p + 1) rfl (by omega)
set_option maxRecDepth 100000 in
set_option maxHeartbeats 4000000 in
theorem lp_X9_share_1 (E : En) (x n : Nat) (A : Vec) (σ : Sg) (hM : RepM σ 296 A) (hF : WF A) (hx : x < A 1) (hn9 : n ≤ 999) (h5 : A 1 ≤ 5) : ∀ (mm : Nat) (p : Nat), A 1 - p = mm → (p ≤ A 1) → V E m_X9_share (kM E 12 (pI (fun σ' r => σ' = σ ∧ r = nI (shC A x n)))) 33 [some (.ref (eB E + 292)), some (.int (nI x)), some (.int (nI n)), some (.int (nI (sumN (cF A) p))), some (.int (nI p)), none, none] [] σ := by
  intro mm
  induction mm using Nat.strongRecOn with
  | ind mm ih =>
    intro p hmm hp
    have hcp := cF_le A p
    have hcl := cF_le A (A 1)
    refine V_iload e_X9_share_33 rfl ?_
    refine V_aload_n e_X9_share_35 rfl rfl ?_
    refine V_getr (r := 296) e_X9_share_36 F_X9_shore f_X9_19 rfl rfl ?_
    refine V_iconst (v := nI 1) e_X9_share_39 (by decide) ?_
    refine V_ialdv (v := nI (A 1)) (j := 1) e_X9_share_40 rfl rfl (by decide) (hM 1 (by omega)) ?_
    refine V_icmp_ge (tgt := 66) e_X9_share_41 (by decide) (fun c1 => ?_) (fun c1 => ?_)
    · have d1 : A 1 ≤ p := nq_le (by omega) (by omega) c1
      obtain rfl : p = A 1 := by omega
      have hal : allH A = sumN (cF A) (A 1) := rfl
      rw [← hal]
      refine V_iload_n e_X9_share_66 rfl rfl ?_
      refine V_if_ne (tgt := 72) e_X9_share_67 (by decide) (fun c2 => ?_) (fun c2 => ?_)
      · have d2 : ¬ allH A = 0 := nq_ne (by omega) (by omega) c2
        refine V_iload_n e_X9_share_72 rfl rfl ?_
        refine V_istore (L' := [some (.ref (eB E + 292)), some (.int (nI x)), some (.int (nI n)), some (.int (nI (allH A))), some (.int (nI n)), none, none]) e_X9_share_73 rfl ?_
        refine V_iconst (v := nI 0) e_X9_share_75 (by decide) ?_
        refine V_istore (L' := [some (.ref (eB E + 292)), some (.int (nI x)), some (.int (nI n)), some (.int (nI (allH A))), some (.int (nI n)), some (.int (nI 0)), none]) e_X9_share_76 rfl ?_
        have hX := lp_X9_share_2 E x n A σ hM hF hx hn9 h5 (by omega) (by omega) (A 1) 0 rfl (by omega); exact hX
      · have d2 : allH A = 0 := nq_eq (by omega) (by omega) c2
        refine V_iconst (v := nI 0) e_X9_share_70 (by decide) ?_
        exact V_iret e_X9_share_71 rfl (⟨rfl, by congr 1; unfold shC; rw [if_pos d2]⟩)
    · have d1 : ¬ A 1 ≤ p := nq_nle (by omega) (by omega) c1
      obtain ⟨w1, w2, w3, w4, w5, w6⟩ := hF.per (show p < A 1 by omega)
      refine V_iload_n e_X9_share_44 rfl rfl ?_
      refine V_aload_n e_X9_share_45 rfl rfl ?_
      refine V_getr (r := 296) e_X9_share_46 F_X9_shore f_X9_19 rfl rfl ?_
      refine V_iload e_X9_share_49 rfl ?_
      refine V_iconst (v := nI 2) e_X9_share_51 (by decide) ?_
      refine V_csIe (av := [.ref (eB E + 296), .int (nI p), .int (nI 2)]) (st := [.int (nI (sumN (cF A) p))]) e_X9_share_52 (c_X9_hisR_2 E 296 p A σ rfl rfl hM (by omega)) l_X9_166 S_X9_his (rm_ok (by decide) (by decide)) rfl rfl (Nat.le_of_ble_eq_true rfl) ?_
      refine V_csIe (av := [.int (nI (A (27 + 6 * p)))]) (st := [.int (nI (sumN (cF A) p))]) e_X9_share_55 (c_X9_bits E (A (27 + 6 * p)) σ (by omega)) l_X9_248 S_X9_bits (rm_ok (by decide) (by decide)) rfl rfl (Nat.le_of_ble_eq_true rfl) ?_
      refine V_iaddN (z := nI (sumN (cF A) p + (cntN (A (27 + 6 * p))))) e_X9_share_58 (nI_add _ _) ?_
      refine V_istore_n (L' := [some (.ref (eB E + 292)), some (.int (nI x)), some (.int (nI n)), some (.int (nI (sumN (cF A) p + (cntN (A (27 + 6 * p)))))), some (.int (nI p)), none, none]) e_X9_share_59 rfl rfl ?_
      refine V_iinc (v := nI (p + 1)) (L' := [some (.ref (eB E + 292)), some (.int (nI x)), some (.int (nI n)), some (.int (nI (sumN (cF A) p + (cntN (A (27 + 6 * p)))))), some (.int (nI (p + 1))), none, none]) e_X9_share_60 rfl (nI_add _ 1) rfl ?_
      refine V_goto (tgt := 33) e_X9_share_63 (by decide) ?_
      exact ih (A 1 - (p + 1)) (by omega) (p + 1) rfl (by omega)
set_option maxRecDepth 100000 in
set_option maxHeartbeats 4000000 in
theorem c_X9_share (E : En) (x y : Int32) (A : Vec) (σ : Sg) (hM : RepM σ 296 A) (hN : WN A) : Cn E m_X9_share 12 [.ref (eB E + 292), .int x, .int y] σ (pI (fun σ' r => σ' = up2 σ 292 0 (nI 0) ∧ r = sShare A x y)) := by
  have hNl := hN.le
  have hM1 : RepM (up2 σ 292 0 (nI 0)) 296 A := hM.fm Fm.th (by decide) (by decide)
  refine Cn.of [some (.ref (eB E + 292)), some (.int x), some (.int y), none, none, none, none] (by decide) (Nat.le_of_ble_eq_true rfl) rfl ?_
  refine V_aload_n e_X9_share_0 rfl rfl ?_
  refine V_iconst (v := nI 0) e_X9_share_1 (by decide) ?_
  refine V_puti e_X9_share_2 F_X9_thrown f_X9_53 rfl ?_
  refine V_aload_n e_X9_share_5 rfl rfl ?_
  refine V_iload_n e_X9_share_6 rfl rfl ?_
  refine V_cvIe (av := [.int x]) (st := []) e_X9_share_7 (c_X9_isMan E x A (up2 σ 292 0 (nI 0)) hM1) l_X9_204 S_X9_isMan rfl (rm_ok (by decide) (by decide)) rfl rfl (Nat.le_of_ble_eq_true rfl) ?_
  refine V_if_eq (tgt := 25) e_X9_share_10 (by decide) (fun c1 => ?_) (fun c1 => ?_)
  · refine V_ldc (v := (-1000001)) e_X9_share_25 k_X9_73 ?_
    exact V_iret e_X9_share_27 rfl (⟨rfl, by unfold sShare; (try unfold gIn); (first | rw [if_pos c1] | rw [if_neg c1] | skip); (try dsimp only); (repeat rw [ixN (by omega)]); try rfl⟩)
  · obtain ⟨p, hp, rfl⟩ := (wi_nat (by omega)).mp c1
    have hF : WF A := hN.wf (by omega)
    refine V_iload_n e_X9_share_13 rfl rfl ?_
    refine V_i2l e_X9_share_14 ?_
    refine V_lconst (v := lN 0) e_X9_share_15 (by decide) ?_
    refine V_ldc2_w (v := lN 999) e_X9_share_16 kl_X9_254 ?_
    refine V_csIe (av := [.long y.toInt64, .long (lN 0), .long (lN 999)]) (st := []) e_X9_share_19 (c_X9_inN E y (nI 0) (nI 999) (lN 0) (lN 999) (up2 σ 292 0 (nI 0)) (nI_l (by omega)) (nI_l (by omega))) l_X9_63 S_X9_in (rm_ok (by decide) (by decide)) rfl rfl (Nat.le_of_ble_eq_true rfl) ?_
    refine V_if_ne (tgt := 28) e_X9_share_22 (by decide) (fun c2 => ?_) (fun c2 => ?_)
    · obtain ⟨n, hna, hn, rfl⟩ := (wi_le (by omega) (by omega)).mp c2
      refine V_iconst (v := nI 0) e_X9_share_28 (by decide) ?_
      refine V_istore_n (L' := [some (.ref (eB E + 292)), some (.int (nI p)), some (.int (nI n)), some (.int (nI 0)), none, none, none]) e_X9_share_29 rfl rfl ?_
      refine V_iconst (v := nI 0) e_X9_share_30 (by decide) ?_
      refine V_istore (L' := [some (.ref (eB E + 292)), some (.int (nI p)), some (.int (nI n)), some (.int (nI 0)), some (.int (nI 0)), none, none]) e_X9_share_31 rfl ?_
      have hX := lp_X9_share_1 E p n A (up2 σ 292 0 (nI 0)) hM1 hF hp (by omega) hNl.2 (A 1) 0 rfl (by omega); unfold sShare; rw [if_neg (show ¬ gIn (nI p) (A 1) = 0 from c1), if_neg c2, ixN (by omega), ixN (by omega)]; exact hX
    · refine V_ldc (v := (-1000001)) e_X9_share_25 k_X9_73 ?_
      exact V_iret e_X9_share_27 rfl (⟨rfl, by unfold sShare; (try unfold gIn); (first | rw [if_pos c1] | rw [if_neg c1] | skip); (first | rw [if_pos c2] | rw [if_neg c2] | skip); (try dsimp only); (repeat rw [ixN (by omega)]); try rfl⟩)
set_option maxRecDepth 100000 in
set_option maxHeartbeats 4000000 in
theorem lp_X9_drawn_f (E : En) (n sd v X : Nat) (A B : Vec) (Q : Sg → Int32 → Prop) (σ : Sg) (hM : RepM σ 296 A) (h5 : A 1 ≤ 5) (hB5 : B 1 ≤ 5) (hv : v ≤ 1) (hQ : Q (stM σ 298 B) (if v = 0 then nI (hung B) - nI (hung A) else nI (fishs B))) : ∀ (mm : Nat) (p : Nat), B 1 - p = mm → (p ≤ B 1) → V E m_X9_drawn (kM E 12 (pI Q)) 169 [some (.ref (eB E + 292)), some (.int (nI n)), some (.int (nI sd)), some (.int (nI v)), some (.long (lN X)), none, some (.int (nI (sumN (fun m => B (29 + 6 * m)) p))), some (.int (nI p))] [] (stM σ 298 B) := by
  intro mm
  induction mm using Nat.strongRecOn with
  | ind mm ih =>
    intro p hmm hp
    refine V_iload e_X9_drawn_169 rfl ?_
    refine V_aload_n e_X9_drawn_171 rfl rfl ?_
    refine V_getr (r := 298) e_X9_drawn_172 F_X9_then f_X9_25 rfl rfl ?_
    refine V_iconst (v := nI 1) e_X9_drawn_175 (by decide) ?_
    refine V_ialdv (v := nI (B 1)) (j := 1) e_X9_drawn_176 rfl rfl (by decide) (stM_at (by omega)) ?_
    refine V_icmp_ge (tgt := 201) e_X9_drawn_177 (by decide) (fun c1 => ?_) (fun c1 => ?_)
    · have d1 : B 1 ≤ p := nq_le (by omega) (by omega) c1
      refine V_iload_n e_X9_drawn_201 rfl rfl ?_
      refine V_if_ne (tgt := 223) e_X9_drawn_202 (by decide) (fun c2 => ?_) (fun c2 => ?_)
      · have d2 : ¬ v = 0 := nq_ne (by omega) (by omega) c2
        refine V_iload e_X9_drawn_223 rfl ?_
        exact V_iret e_X9_drawn_225 rfl (by have hq := hQ; (first | rw [if_pos d2] at hq | rw [if_neg d2] at hq); (try (rw [show p = B 1 by omega])); exact hq)
      · have d2 : v = 0 := nq_eq (by omega) (by omega) c2
        refine V_aload_n e_X9_drawn_205 rfl rfl ?_
        refine V_getr (r := 298) e_X9_drawn_206 F_X9_then f_X9_25 rfl rfl ?_
        refine V_csIe (av := [.ref (eB E + 298)]) (st := []) e_X9_drawn_209 (c_X9_hungry E 298 B σ rfl rfl hB5) l_X9_200 S_X9_hungry (rm_ok (by decide) (by decide)) rfl rfl (Nat.le_of_ble_eq_true rfl) ?_
        refine V_aload_n e_X9_drawn_212 rfl rfl ?_
        refine V_getr (r := 296) e_X9_drawn_213 F_X9_shore f_X9_19 rfl rfl ?_
        refine V_csIe (av := [.ref (eB E + 296)]) (st := [.int (nI (hung B))]) e_X9_drawn_216 (c_X9_hungryR E 296 A (stM σ 298 B) rfl rfl hM.t h5) l_X9_200 S_X9_hungry (rm_ok (by decide) (by decide)) rfl rfl (Nat.le_of_ble_eq_true rfl) ?_
        refine V_isub e_X9_drawn_219 ?_
        refine V_goto (tgt := 225) e_X9_drawn_220 (by decide) ?_
        exact V_iret e_X9_drawn_225 rfl (by have hq := hQ; (first | rw [if_pos d2] at hq | rw [if_neg d2] at hq); (try (rw [show p = B 1 by omega])); exact hq)
    · have d1 : ¬ B 1 ≤ p := nq_nle (by omega) (by omega) c1
      refine V_iload e_X9_drawn_180 rfl ?_
      refine V_aload_n e_X9_drawn_182 rfl rfl ?_
      refine V_getr (r := 298) e_X9_drawn_183 F_X9_then f_X9_25 rfl rfl ?_
      refine V_iload e_X9_drawn_186 rfl ?_
      refine V_iconst (v := nI 4) e_X9_drawn_188 (by decide) ?_
      refine V_csIe (av := [.ref (eB E + 298), .int (nI p), .int (nI 4)]) (st := [.int (nI (sumN (fun m => B (29 + 6 * m)) p))]) e_X9_drawn_189 (c_X9_hisT_w E p 4 B σ (by omega) (by omega)) l_X9_166 S_X9_his (rm_ok (by decide) (by decide)) rfl rfl (Nat.le_of_ble_eq_true rfl) ?_
      refine V_topi (y := nI (B (29 + 6 * p))) (congrArg nI (congrArg B (by omega))) ?_
      refine V_iaddN (z := nI (sumN (fun m => B (29 + 6 * m)) p + (B (29 + 6 * p)))) e_X9_drawn_192 (nI_add _ _) ?_
      refine V_istore (L' := [some (.ref (eB E + 292)), some (.int (nI n)), some (.int (nI sd)), some (.int (nI v)), some (.long (lN X)), none, some (.int (nI (sumN (fun m => B (29 + 6 * m)) p + (B (29 + 6 * p))))), some (.int (nI p))]) e_X9_drawn_193 rfl ?_
      refine V_iinc (v := nI (p + 1)) (L' := [some (.ref (eB E + 292)), some (.int (nI n)), some (.int (nI sd)), some (.int (nI v)), some (.long (lN X)), none, some (.int (nI (sumN (fun m => B (29 + 6 * m)) p + (B (29 + 6 * p))))), some (.int (nI (p + 1)))]) e_X9_drawn_195 rfl (nI_add _ 1) rfl ?_
      refine V_goto (tgt := 169) e_X9_drawn_198 (by decide) ?_
      exact ih (B 1 - (p + 1)) (by omega) (p + 1) rfl (by omega)
theorem turn_x {B : Vec} {g : Nat} (h6 : B 0 ≤ 6) (hg : g < B 0) (hf : B (9 + 3 * g) ≤ 1) : updN B (7 + 3 * g + 2) (B (9 + 3 * g) ^^^ 1) = turnV B (2 ^ g) := by
  rw [← round_v h6 hg hf]
  congr 1
  rcases (show B (9 + 3 * g) = 0 ∨ B (9 + 3 * g) = 1 by omega) with q | q <;> rw [q] <;> rfl
set_option maxRecDepth 100000 in
set_option maxHeartbeats 4000000 in
theorem lp_X9_drawn_d (E : En) (n sd v : Nat) (A : Vec) (Q : Sg → Int32 → Prop) (σ : Sg) (hM : RepM σ 296 A) (hF : WF A) (h5 : A 1 ≤ 5) (hG2 : 2 ≤ A 0) (hG6 : A 0 ≤ 6) (hn : n ≤ 60) (hsd : sd < 1000000) (hv : v ≤ 1) (hQ : Q (stM σ 298 (yrs A sd n).1) (drR A n sd v)) : ∀ (mm : Nat) (i : Nat), n - i = mm → (i ≤ n) → V E m_X9_drawn (kM E 12 (pI Q)) 63 [some (.ref (eB E + 292)), some (.int (nI n)), some (.int (nI sd)), some (.int (nI v)), some (.long (lN ((yrs A sd i).2))), none, some (.int (nI i)), none] [] (stM σ 298 (yrs A sd i).1) := by
  intro mm
  induction mm using Nat.strongRecOn with
  | ind mm ih =>
    intro i hmm hi
    obtain ⟨hBW, hX, hB0, hB1⟩ := yrs_ok hF (show sd < 2147483647 by omega) i
    refine V_iload e_X9_drawn_63 rfl ?_
    refine V_iload_n e_X9_drawn_65 rfl rfl ?_
    refine V_icmp_ge (tgt := 163) e_X9_drawn_66 (by decide) (fun c1 => ?_) (fun c1 => ?_)
    · have d1 : n ≤ i := nq_le (by omega) (by omega) c1
      obtain rfl : n = i := by omega
      refine V_iconst (v := nI 0) e_X9_drawn_163 (by decide) ?_
      refine V_istore (L' := [some (.ref (eB E + 292)), some (.int (nI n)), some (.int (nI sd)), some (.int (nI v)), some (.long (lN ((yrs A sd n).2))), none, some (.int (nI 0)), none]) e_X9_drawn_164 rfl ?_
      refine V_iconst (v := nI 0) e_X9_drawn_166 (by decide) ?_
      refine V_istore (L' := [some (.ref (eB E + 292)), some (.int (nI n)), some (.int (nI sd)), some (.int (nI v)), some (.long (lN ((yrs A sd n).2))), none, some (.int (nI 0)), some (.int (nI 0))]) e_X9_drawn_167 rfl ?_
      have hX := lp_X9_drawn_f E n sd v (yrs A sd n).2 A (yrs A sd n).1 Q σ hM h5 (by omega) hv hQ _ 0 rfl (by omega); exact hX
    · have d1 : ¬ n ≤ i := nq_nle (by omega) (by omega) c1
      refine V_lload e_X9_drawn_69 rfl ?_
      refine V_ldc2_w (v := lN 16807) e_X9_drawn_71 kl_X9_272 ?_
      refine V_lmulN (z := lN (((yrs A sd i).2) * 16807)) e_X9_drawn_74 (lN_mul _ _) ?_
      refine V_ldc2_w (v := lN 2147483647) e_X9_drawn_75 kl_X9_274 ?_
      refine V_lremN (z := lN ((((yrs A sd i).2) * 16807) % 2147483647)) e_X9_drawn_78 (lN0 (by omega) (by omega)) (lrN (by omega) (by omega) (by omega)) ?_
      refine V_topl (y := lN (nxD (yrs A sd i).2)) (congrArg lN (nxD_eq _)) ?_
      refine V_lstore (L' := [some (.ref (eB E + 292)), some (.int (nI n)), some (.int (nI sd)), some (.int (nI v)), some (.long (lN (nxD (yrs A sd i).2))), none, some (.int (nI i)), none]) e_X9_drawn_79 rfl ?_
      have hN := nxD_lt (yrs A sd i).2
      refine V_lload e_X9_drawn_81 rfl ?_
      refine V_aload_n e_X9_drawn_83 rfl rfl ?_
      refine V_getr (r := 298) e_X9_drawn_84 F_X9_then f_X9_25 rfl rfl ?_
      refine V_iconst (v := nI 0) e_X9_drawn_87 (by decide) ?_
      refine V_ialdv (v := nI (A 0)) (j := 0) e_X9_drawn_88 rfl rfl (by decide) ((stM_at (by omega)).trans (congrArg nI hB0)) ?_
      refine V_i2lN (z := lN (A 0)) e_X9_drawn_89 (nI_l (by omega)) ?_
      refine V_lremN (z := lN ((nxD (yrs A sd i).2) % (A 0))) e_X9_drawn_90 (lN0 (by omega) (by omega)) (lrN (by omega) (by omega) (by omega)) ?_
      refine V_l2iN (z := nI ((nxD (yrs A sd i).2) % (A 0))) e_X9_drawn_91 (lN_i _) ?_
      refine V_istore (L' := [some (.ref (eB E + 292)), some (.int (nI n)), some (.int (nI sd)), some (.int (nI v)), some (.long (lN (nxD (yrs A sd i).2))), none, some (.int (nI i)), some (.int (nI ((nxD (yrs A sd i).2) % (A 0))))]) e_X9_drawn_92 rfl ?_
      have hgg : nxD (yrs A sd i).2 % A 0 < A 0 := Nat.mod_lt _ (by omega)
      obtain ⟨g, hg⟩ : ∃ g, nxD (yrs A sd i).2 % A 0 = g := ⟨_, rfl⟩
      rw [hg] at hgg ⊢
      have h2g := pow_le6 hgg
      have hfg := (hBW.1.2.2.2.2.2.2.2.2 g (by omega)).2.2.2.2
      refine V_lload e_X9_drawn_94 rfl ?_
      refine V_ldc2_w (v := lN 3) e_X9_drawn_96 kl_X9_276 ?_
      refine V_lremN (z := lN ((nxD (yrs A sd i).2) % 3)) e_X9_drawn_99 (lN0 (by omega) (by omega)) (lrN (by omega) (by omega) (by omega)) ?_
      refine V_lconst (v := lN 0) e_X9_drawn_100 (by decide) ?_
      refine V_lcmp e_X9_drawn_101 ?_
      refine V_if_ne (tgt := 126) e_X9_drawn_102 (by decide) (fun c2 => ?_) (fun c2 => ?_)
      · have d2 : ¬ (nxD (yrs A sd i).2) % 3 = 0 := lc_ne (by omega) (by omega) c2
        have dy3 := d2
        refine V_lload e_X9_drawn_126 rfl ?_
        refine V_ldc2_w (v := lN 5) e_X9_drawn_128 kl_X9_278 ?_
        refine V_lremN (z := lN ((nxD (yrs A sd i).2) % 5)) e_X9_drawn_131 (lN0 (by omega) (by omega)) (lrN (by omega) (by omega) (by omega)) ?_
        refine V_lconst (v := lN 0) e_X9_drawn_132 (by decide) ?_
        refine V_lcmp e_X9_drawn_133 ?_
        refine V_if_ne (tgt := 150) e_X9_drawn_134 (by decide) (fun c3 => ?_) (fun c3 => ?_)
        · have d3 : ¬ (nxD (yrs A sd i).2) % 5 = 0 := lc_ne (by omega) (by omega) c3
          have dy5 := d3
          refine V_sig (show stM σ 298 (yrs A sd i).1 = stM σ 298 (yrV (yrs A sd i).1 (nxD (yrs A sd i).2)) by unfold yrV; rw [if_neg dy3, if_neg dy5]) ?_
          refine V_aload_n e_X9_drawn_150 rfl rfl ?_
          refine V_getr (r := 298) e_X9_drawn_151 F_X9_then f_X9_25 rfl rfl ?_
          refine V_csVe (av := [.ref (eB E + 298)]) (st := []) e_X9_drawn_154 (c_X9_day E 298 (yrV (yrs A sd i).1 (nxD (yrs A sd i).2)) σ rfl rfl hBW.yr) l_X9_187 S_X9_day (rm_ok (by decide) (by decide)) rfl rfl (Nat.le_of_ble_eq_true rfl) ?_
          refine V_iinc (v := nI (i + 1)) (L' := [some (.ref (eB E + 292)), some (.int (nI n)), some (.int (nI sd)), some (.int (nI v)), some (.long (lN (nxD (yrs A sd i).2))), none, some (.int (nI (i + 1))), some (.int (nI g))]) e_X9_drawn_157 rfl (nI_add _ 1) rfl ?_
          refine V_goto (tgt := 63) e_X9_drawn_160 (by decide) ?_
          refine V_forget 7 ?_; exact ih (n - (i + 1)) (by omega) (i + 1) rfl (by omega)
        · have d3 : (nxD (yrs A sd i).2) % 5 = 0 := lc_eq (by omega) (by omega) c3
          have dy5 := d3
          refine V_aload_n e_X9_drawn_137 rfl rfl ?_
          refine V_getr (r := 298) e_X9_drawn_138 F_X9_then f_X9_25 rfl rfl ?_
          refine V_iconst (v := nI 5) e_X9_drawn_141 (by decide) ?_
          refine V_dup2 e_X9_drawn_142 rfl rfl ?_
          refine V_ialdv (v := nI ((yrs A sd i).1 5)) (j := 5) e_X9_drawn_143 rfl rfl (by decide) (stM_at (by omega)) ?_
          refine V_iconst (v := nI 1) e_X9_drawn_144 (by decide) ?_
          refine V_iload e_X9_drawn_145 rfl ?_
          refine V_ishlN (z := nI (2 ^ g)) e_X9_drawn_147 (shl1 (by omega)) ?_
          refine V_ixorN (z := nI (((yrs A sd i).1 5) ^^^ (2 ^ g))) e_X9_drawn_148 (xorI _ _) ?_
          refine V_iast (j := 5) e_X9_drawn_149 rfl rfl (by decide) ?_
          rw [show up2 (stM σ 298 (yrs A sd i).1) 298 5 (nI (((yrs A sd i).1 5) ^^^ (2 ^ g))) = stM σ 298 (xfall (yrs A sd i).1 (2 ^ g)) from (by rw [stM_up (by omega)]; rfl)]
          refine V_sig (show stM σ 298 (xfall (yrs A sd i).1 (2 ^ g)) = stM σ 298 (yrV (yrs A sd i).1 (nxD (yrs A sd i).2)) by unfold yrV; rw [if_neg dy3, if_pos dy5, hB0, hg]) ?_
          refine V_aload_n e_X9_drawn_150 rfl rfl ?_
          refine V_getr (r := 298) e_X9_drawn_151 F_X9_then f_X9_25 rfl rfl ?_
          refine V_csVe (av := [.ref (eB E + 298)]) (st := []) e_X9_drawn_154 (c_X9_day E 298 (yrV (yrs A sd i).1 (nxD (yrs A sd i).2)) σ rfl rfl hBW.yr) l_X9_187 S_X9_day (rm_ok (by decide) (by decide)) rfl rfl (Nat.le_of_ble_eq_true rfl) ?_
          refine V_iinc (v := nI (i + 1)) (L' := [some (.ref (eB E + 292)), some (.int (nI n)), some (.int (nI sd)), some (.int (nI v)), some (.long (lN (nxD (yrs A sd i).2))), none, some (.int (nI (i + 1))), some (.int (nI g))]) e_X9_drawn_157 rfl (nI_add _ 1) rfl ?_
          refine V_goto (tgt := 63) e_X9_drawn_160 (by decide) ?_
          refine V_forget 7 ?_; exact ih (n - (i + 1)) (by omega) (i + 1) rfl (by omega)
      · have d2 : (nxD (yrs A sd i).2) % 3 = 0 := lc_eq (by omega) (by omega) c2
        have dy3 := d2
        refine V_aload_n e_X9_drawn_105 rfl rfl ?_
        refine V_getr (r := 298) e_X9_drawn_106 F_X9_then f_X9_25 rfl rfl ?_
        refine V_bipush (v := nI 7) e_X9_drawn_109 (by decide) ?_
        refine V_iconst (v := nI 3) e_X9_drawn_111 (by decide) ?_
        refine V_iload e_X9_drawn_112 rfl ?_
        refine V_imulN (z := nI (3 * g)) e_X9_drawn_114 (pk_mul _ _) ?_
        refine V_iaddN (z := nI (7 + (3 * g))) e_X9_drawn_115 (nI_add _ _) ?_
        refine V_iconst (v := nI 2) e_X9_drawn_116 (by decide) ?_
        refine V_iaddN (z := nI (7 + (3 * g) + 2)) e_X9_drawn_117 (nI_add _ _) ?_
        refine V_dup2 e_X9_drawn_118 rfl rfl ?_
        refine V_ialdv (v := nI ((yrs A sd i).1 (9 + 3 * g))) (j := (7 + (3 * g) + 2)) e_X9_drawn_119 rfl rfl (by have q : ln 298 = 55 := rfl; omega) ((stM_at (by omega)).trans (congrArg nI (congrArg (yrs A sd i).1 (by omega)))) ?_
        refine V_iconst (v := nI 1) e_X9_drawn_120 (by decide) ?_
        refine V_ixorN (z := nI (((yrs A sd i).1 (9 + 3 * g)) ^^^ 1)) e_X9_drawn_121 (xorI _ _) ?_
        refine V_iast (j := (7 + (3 * g) + 2)) e_X9_drawn_122 rfl rfl (by have q : ln 298 = 55 := rfl; omega) ?_
        rw [show up2 (stM σ 298 (yrs A sd i).1) 298 (7 + (3 * g) + 2) (nI (((yrs A sd i).1 (9 + 3 * g)) ^^^ 1)) = stM σ 298 (turnV (yrs A sd i).1 (2 ^ g)) from (by rw [stM_up (by omega), turn_x (by omega) (by omega) hfg])]
        refine V_goto (tgt := 150) e_X9_drawn_123 (by decide) ?_
        refine V_sig (show stM σ 298 (turnV (yrs A sd i).1 (2 ^ g)) = stM σ 298 (yrV (yrs A sd i).1 (nxD (yrs A sd i).2)) by unfold yrV; rw [if_pos dy3, hB0, hg]) ?_
        refine V_aload_n e_X9_drawn_150 rfl rfl ?_
        refine V_getr (r := 298) e_X9_drawn_151 F_X9_then f_X9_25 rfl rfl ?_
        refine V_csVe (av := [.ref (eB E + 298)]) (st := []) e_X9_drawn_154 (c_X9_day E 298 (yrV (yrs A sd i).1 (nxD (yrs A sd i).2)) σ rfl rfl hBW.yr) l_X9_187 S_X9_day (rm_ok (by decide) (by decide)) rfl rfl (Nat.le_of_ble_eq_true rfl) ?_
        refine V_iinc (v := nI (i + 1)) (L' := [some (.ref (eB E + 292)), some (.int (nI n)), some (.int (nI sd)), some (.int (nI v)), some (.long (lN (nxD (yrs A sd i).2))), none, some (.int (nI (i + 1))), some (.int (nI g))]) e_X9_drawn_157 rfl (nI_add _ 1) rfl ?_
        refine V_goto (tgt := 63) e_X9_drawn_160 (by decide) ?_
        refine V_forget 7 ?_; exact ih (n - (i + 1)) (by omega) (i + 1) rfl (by omega)
set_option maxRecDepth 100000 in
set_option maxHeartbeats 4000000 in
theorem c_X9_drawn (E : En) (x y z : Int32) (A : Vec) (σ : Sg) (hM : RepM σ 296 A) (hN : WN A) : Cn E m_X9_drawn 12 [.ref (eB E + 292), .int x, .int y, .int z] σ (pI (fun σ' r => Fm σ σ' ∧ r = sDrawn A x y z)) := by
  have hNl := hN.le
  have hM1 : RepM (up2 σ 292 0 (nI 0)) 296 A := hM.fm Fm.th (by decide) (by decide)
  refine Cn.of [some (.ref (eB E + 292)), some (.int x), some (.int y), some (.int z), none, none, none, none] (by decide) (Nat.le_of_ble_eq_true rfl) rfl ?_
  refine V_aload_n e_X9_drawn_0 rfl rfl ?_
  refine V_iconst (v := nI 0) e_X9_drawn_1 (by decide) ?_
  refine V_puti e_X9_drawn_2 F_X9_thrown f_X9_53 rfl ?_
  refine V_aload_n e_X9_drawn_5 rfl rfl ?_
  refine V_cvIe (av := []) (st := []) e_X9_drawn_6 (c_X9_isThere E A (up2 σ 292 0 (nI 0)) hM1 hNl.1) l_X9_191 S_X9_isThere rfl (rm_ok (by decide) (by decide)) rfl rfl (Nat.le_of_ble_eq_true rfl) ?_
  refine V_if_ne (tgt := 15) e_X9_drawn_9 (by decide) (fun c1 => ?_) (fun c1 => ?_)
  · have d1 : ¬ (if A 0 = 0 then 0 else 1) = 0 := nq_ne (by first | omega | (split <;> omega)) (by first | omega | (split <;> omega)) c1
    have hA0 : ¬ A 0 = 0 := fun q => by rw [if_pos q] at d1; omega
    have hF : WF A := hN.wf (by omega)
    refine V_iload_n e_X9_drawn_15 rfl rfl ?_
    refine V_i2l e_X9_drawn_16 ?_
    refine V_lconst (v := lN 0) e_X9_drawn_17 (by decide) ?_
    refine V_ldc2_w (v := lN 60) e_X9_drawn_18 kl_X9_219 ?_
    refine V_csIe (av := [.long x.toInt64, .long (lN 0), .long (lN 60)]) (st := []) e_X9_drawn_21 (c_X9_inN E x (nI 0) (nI 60) (lN 0) (lN 60) (up2 σ 292 0 (nI 0)) (nI_l (by omega)) (nI_l (by omega))) l_X9_63 S_X9_in (rm_ok (by decide) (by decide)) rfl rfl (Nat.le_of_ble_eq_true rfl) ?_
    refine V_if_eq (tgt := 49) e_X9_drawn_24 (by decide) (fun c2 => ?_) (fun c2 => ?_)
    · refine V_ldc (v := (-1000001)) e_X9_drawn_49 k_X9_73 ?_
      exact V_iret e_X9_drawn_51 rfl (⟨Fm.th, by unfold sDrawn; (try unfold gIn); (first | rw [if_pos hA0] | rw [if_neg hA0] | skip); (first | rw [if_pos d1] | rw [if_neg d1] | skip); (first | rw [if_pos c2] | rw [if_neg c2] | skip); (try dsimp only); (repeat rw [ixN (by omega)]); try rfl⟩)
    · obtain ⟨n, hna, hn, rfl⟩ := (wi_le (by omega) (by omega)).mp c2
      refine V_iload_n e_X9_drawn_27 rfl rfl ?_
      refine V_i2l e_X9_drawn_28 ?_
      refine V_lconst (v := lN 1) e_X9_drawn_29 (by decide) ?_
      refine V_ldc2_w (v := lN 999999) e_X9_drawn_30 kl_X9_270 ?_
      refine V_csIe (av := [.long y.toInt64, .long (lN 1), .long (lN 999999)]) (st := []) e_X9_drawn_33 (c_X9_inN E y (nI 1) (nI 999999) (lN 1) (lN 999999) (up2 σ 292 0 (nI 0)) (nI_l (by omega)) (nI_l (by omega))) l_X9_63 S_X9_in (rm_ok (by decide) (by decide)) rfl rfl (Nat.le_of_ble_eq_true rfl) ?_
      refine V_if_eq (tgt := 49) e_X9_drawn_36 (by decide) (fun c3 => ?_) (fun c3 => ?_)
      · refine V_ldc (v := (-1000001)) e_X9_drawn_49 k_X9_73 ?_
        exact V_iret e_X9_drawn_51 rfl (⟨Fm.th, by unfold sDrawn; (try unfold gIn); (first | rw [if_pos hA0] | rw [if_neg hA0] | skip); (first | rw [if_pos d1] | rw [if_neg d1] | skip); (first | rw [if_pos c2] | rw [if_neg c2] | skip); (first | rw [if_pos c3] | rw [if_neg c3] | skip); (try dsimp only); (repeat rw [ixN (by omega)]); try rfl⟩)
      · obtain ⟨sd, hsda, hsd, rfl⟩ := (wi_le (by omega) (by omega)).mp c3
        refine V_iload_n e_X9_drawn_39 rfl rfl ?_
        refine V_i2l e_X9_drawn_40 ?_
        refine V_lconst (v := lN 0) e_X9_drawn_41 (by decide) ?_
        refine V_lconst (v := lN 1) e_X9_drawn_42 (by decide) ?_
        refine V_csIe (av := [.long z.toInt64, .long (lN 0), .long (lN 1)]) (st := []) e_X9_drawn_43 (c_X9_inN E z (nI 0) (nI 1) (lN 0) (lN 1) (up2 σ 292 0 (nI 0)) (nI_l (by omega)) (nI_l (by omega))) l_X9_63 S_X9_in (rm_ok (by decide) (by decide)) rfl rfl (Nat.le_of_ble_eq_true rfl) ?_
        refine V_if_ne (tgt := 52) e_X9_drawn_46 (by decide) (fun c4 => ?_) (fun c4 => ?_)
        · obtain ⟨v, hva, hv, rfl⟩ := (wi_le (by omega) (by omega)).mp c4
          refine V_aload_n e_X9_drawn_52 rfl rfl ?_
          refine V_cvVe (av := []) (st := []) e_X9_drawn_53 (c_X9_layThen E A (up2 σ 292 0 (nI 0)) hM1) l_X9_223 S_X9_layThen rfl (rm_ok (by decide) (by decide)) rfl rfl (Nat.le_of_ble_eq_true rfl) ?_
          refine V_iload_n e_X9_drawn_56 rfl rfl ?_
          refine V_i2lN (z := lN sd) e_X9_drawn_57 (nI_l (by first | omega | (split <;> omega))) ?_
          refine V_lstore (L' := [some (.ref (eB E + 292)), some (.int (nI n)), some (.int (nI sd)), some (.int (nI v)), some (.long (lN sd)), none, none, none]) e_X9_drawn_58 rfl ?_
          refine V_iconst (v := nI 0) e_X9_drawn_60 (by decide) ?_
          refine V_istore (L' := [some (.ref (eB E + 292)), some (.int (nI n)), some (.int (nI sd)), some (.int (nI v)), some (.long (lN sd)), none, some (.int (nI 0)), none]) e_X9_drawn_61 rfl ?_
          have hX := lp_X9_drawn_d E n sd v A (fun σ' r => Fm σ σ' ∧ r = sDrawn A (nI n) (nI sd) (nI v)) (up2 σ 292 0 (nI 0)) hM1 hF hNl.2 hF.1.1 hNl.1 (by omega) (by omega) (by omega) ⟨Fm.th.st, by unfold sDrawn; rw [if_neg hA0, if_neg c2, if_neg c3, if_neg c4, ixN (by omega), ixN (by omega), ixN (by omega)]⟩ n 0 rfl (by omega); exact hX
        · refine V_ldc (v := (-1000001)) e_X9_drawn_49 k_X9_73 ?_
          exact V_iret e_X9_drawn_51 rfl (⟨Fm.th, by unfold sDrawn; (try unfold gIn); (first | rw [if_pos hA0] | rw [if_neg hA0] | skip); (first | rw [if_pos d1] | rw [if_neg d1] | skip); (first | rw [if_pos c2] | rw [if_neg c2] | skip); (first | rw [if_pos c3] | rw [if_neg c3] | skip); (first | rw [if_pos c4] | rw [if_neg c4] | skip); (try dsimp only); (repeat rw [ixN (by omega)]); try rfl⟩)
  · have d1 : (if A 0 = 0 then 0 else 1) = 0 := nq_eq (by first | omega | (split <;> omega)) (by first | omega | (split <;> omega)) c1
    have hA0 : A 0 = 0 := Decidable.byContradiction (fun q => by rw [if_neg q] at d1; omega)
    refine V_ldc (v := (-1000002)) e_X9_drawn_12 k_X9_194 ?_
    exact V_iret e_X9_drawn_14 rfl (⟨Fm.th, by unfold sDrawn; (try unfold gIn); (first | rw [if_pos hA0] | rw [if_neg hA0] | skip); (first | rw [if_pos d1] | rw [if_neg d1] | skip); (try dsimp only); (repeat rw [ixN (by omega)]); try rfl⟩)
theorem c9_share (E : En) (x y : Int32) (S : Ab) (σ : Sg) (hI : IM σ S) : Cn E m_X9_share 12 [.ref (eB E + 292), .int x, .int y] σ (pM σ (S, sShare S.1 x y)) := (c_X9_share E x y S.1 σ hI.2.1 hI.1.1.1).mono (fun σ' v hv => by obtain ⟨r, hv1, hv2, hv3⟩ := hv; exact ⟨r, hv1, by rw [hv2]; exact th_fb, by rw [hv2]; exact hI.fm Fm.th, hv3⟩)
theorem c9_drawn (E : En) (x y z : Int32) (S : Ab) (σ : Sg) (hI : IM σ S) : Cn E m_X9_drawn 12 [.ref (eB E + 292), .int x, .int y, .int z] σ (pM σ (S, sDrawn S.1 x y z)) := (c_X9_drawn E x y z S.1 σ hI.2.1 hI.1.1.1).mono (fun σ' v hv => by obtain ⟨r, hv1, hv2, hv3⟩ := hv; exact ⟨r, hv1, hv2.b, hI.fm hv2, hv3⟩)

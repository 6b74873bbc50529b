def cF (A : Vec) (m : Nat) : Nat := cntN (A (27 + 6 * m))
def allH (A : Vec) : Nat := sumN (cF A) (A 1)
def shF (A : Vec) (n m : Nat) : Nat := n * cntN (A (27 + 6 * m)) / allH A
def hmF (A : Vec) (x m : Nat) : Nat := if x ≤ m then 0 else if A (27 + 6 * m) = 0 then 0 else 1
def shC (A : Vec) (x n : Nat) : Nat := if allH A = 0 then 0 else if A (27 + 6 * x) = 0 then 0 else n * cntN (A (27 + 6 * x)) / allH A + (if n - sumN (shF A n) (A 1) ≤ sumN (hmF A x) (A 1) then 0 else 1)
theorem shF_mul {A : Vec} {n : Nat} : ∀ p, sumN (shF A n) p * allH A ≤ n * sumN (cF A) p
  | 0 => by show 0 * _ ≤ n * 0; rw [Nat.zero_mul]; exact Nat.zero_le _
  | p + 1 => by
    have h1 := shF_mul (A := A) (n := n) p
    have h2 : shF A n p * allH A ≤ n * cF A p := Nat.div_mul_le_self _ _
    unfold sumN
    rw [Nat.add_mul, Nat.mul_add]
    exact Nat.add_le_add h1 h2
theorem sumN_mono {f : Nat → Nat} {p q : Nat} (h : p ≤ q) : sumN f p ≤ sumN f q := by
  induction q with
  | zero => rw [show p = 0 by omega]; exact Nat.le_refl _
  | succ q ih =>
    by_cases e : p = q + 1
    · rw [e]; exact Nat.le_refl _
    · exact Nat.le_trans (ih (by omega)) (Nat.le_add_right _ _)
theorem shF_le {A : Vec} {n p : Nat} (h0 : 0 < allH A) (hp : p ≤ A 1) : sumN (shF A n) p ≤ n := by
  have h1 := shF_mul (A := A) (n := n) p
  have h2 : sumN (cF A) p ≤ allH A := sumN_mono hp
  have h3 := Nat.mul_le_mul_left n h2
  exact Nat.le_of_mul_le_mul_right (Nat.le_trans h1 h3) h0
theorem cF_le (A : Vec) : ∀ p, sumN (cF A) p ≤ 6 * p
  | 0 => Nat.le_refl _
  | p + 1 => by
    have h1 := cF_le A p
    have h2 := cnt_le (A (27 + 6 * p))
    unfold sumN cF
    unfold cF at h1
    omega
theorem hm_le (A : Vec) (x : Nat) : ∀ p, sumN (hmF A x) p ≤ p
  | 0 => Nat.le_refl _
  | p + 1 => by
    have h1 := hm_le A x p
    have h2 : hmF A x p ≤ 1 := by unfold hmF; (repeat' split) <;> omega
    unfold sumN
    omega
set_option maxRecDepth 100000 in
set_option maxHeartbeats 4000000 in
theorem lp_X5_shareOf_2 (E : En) (k x n : Nat) (A : Vec) (σ : Sg) (hn : kd k = 5) (hR : RepC σ k A) (hF : WF A) (hx : x < A 1) (hn9 : n ≤ 999) (h5 : A 1 ≤ 5) (h0 : 0 < allH A) (h30 : allH A ≤ 30) (hx0 : ¬ A (27 + 6 * x) = 0) : ∀ (mm : Nat) (p : Nat), A 1 - p = mm → (p ≤ A 1) → V E m_X5_shareOf (kM E 2 (pI (fun σ' r => σ' = σ ∧ r = nI (shC A x n)))) 63 [some (.ref (eB E + k)), some (.int (nI x)), some (.int (nI n)), some (.int (nI (allH A))), some (.int (nI (n - sumN (shF A n) p))), some (.int (nI (sumN (hmF A x) p))), some (.int (nI p))] [] σ := by
  intro mm
  induction mm using Nat.strongRecOn with
  | ind mm ih =>
    intro p hmm hp
    obtain ⟨v1, v2, v3, v4, v5, v6⟩ := hF.per hx
    have hho := hm_le A x p
    refine V_iload e_X5_shareOf_63 rfl ?_
    refine V_aload_n e_X5_shareOf_65 rfl rfl ?_
    refine V_getiv (v := nI (A 1)) e_X5_shareOf_66 F_X5_people f_X5_32 hn hR.1.2.2.2.2.1 ?_
    refine V_icmp_ge (tgt := 129) e_X5_shareOf_69 (by decide) (fun c1 => ?_) (fun c1 => ?_)
    · have d1 : A 1 ≤ p := nq_le (by first | omega | (have hq9 : n * cntN (A (27 + 6 * p)) ≤ 999 * 6 := Nat.mul_le_mul hn9 (cnt_le _); omega) | (have hq9 : n * cntN (A (27 + 6 * x)) ≤ 999 * 6 := Nat.mul_le_mul hn9 (cnt_le _); omega)) (by first | omega | (have hq9 : n * cntN (A (27 + 6 * p)) ≤ 999 * 6 := Nat.mul_le_mul hn9 (cnt_le _); omega) | (have hq9 : n * cntN (A (27 + 6 * x)) ≤ 999 * 6 := Nat.mul_le_mul hn9 (cnt_le _); omega)) c1
      refine V_iload_n e_X5_shareOf_129 rfl rfl ?_
      refine V_aload_n e_X5_shareOf_130 rfl rfl ?_
      refine V_getr (r := k + 3) e_X5_shareOf_131 F_X5_walkers f_X5_20 hn (rf5_9 hn) ?_
      refine V_iload_n e_X5_shareOf_134 rfl rfl ?_
      refine V_aald (j := x) (r := k + 4 + x) e_X5_shareOf_135 (by rw [kd5_3 hn]; decide) (by rw [kd5_3 hn]; decide) rfl (by have q := ln5_3  hn; omega) (rf14 hn) ?_
      refine V_getiv (v := nI (A (27 + 6 * x))) e_X5_shareOf_136 F_X7_of f_X5_58 (kd5_w hn (by have q := ln5_3  hn; omega)) ((hR.2 x (by omega)).1.2.2.1) ?_
      refine V_csIe (av := [.int (nI (A (27 + 6 * x)))]) (st := [.int (nI n)]) e_X5_shareOf_139 (c_J6_bitCountN E (A (27 + 6 * x)) σ (by omega)) l_X5_107 S_J6_bitCount_0f7a4 (rm_ok (by decide) (by decide)) rfl rfl (Nat.le_of_ble_eq_true rfl) ?_
      refine V_imulN (z := nI (n * (cntN (A (27 + 6 * x))))) e_X5_shareOf_142 (pk_mul _ _) ?_
      refine V_iload_n e_X5_shareOf_143 rfl rfl ?_
      refine V_idivN (z := nI ((n * (cntN (A (27 + 6 * x)))) / (allH A))) e_X5_shareOf_144 (nI_ne0 (h0) (by first | omega | (have hq9 : n * cntN (A (27 + 6 * p)) ≤ 999 * 6 := Nat.mul_le_mul hn9 (cnt_le _); omega) | (have hq9 : n * cntN (A (27 + 6 * x)) ≤ 999 * 6 := Nat.mul_le_mul hn9 (cnt_le _); omega))) (pk_div (by first | omega | (have hq9 : n * cntN (A (27 + 6 * p)) ≤ 999 * 6 := Nat.mul_le_mul hn9 (cnt_le _); omega) | (have hq9 : n * cntN (A (27 + 6 * x)) ≤ 999 * 6 := Nat.mul_le_mul hn9 (cnt_le _); omega)) (h0) (by first | omega | (have hq9 : n * cntN (A (27 + 6 * p)) ≤ 999 * 6 := Nat.mul_le_mul hn9 (cnt_le _); omega) | (have hq9 : n * cntN (A (27 + 6 * x)) ≤ 999 * 6 := Nat.mul_le_mul hn9 (cnt_le _); omega))) ?_
      refine V_iload e_X5_shareOf_145 rfl ?_
      refine V_iload e_X5_shareOf_147 rfl ?_
      refine V_icmp_ge (tgt := 156) e_X5_shareOf_149 (by decide) (fun c2 => ?_) (fun c2 => ?_)
      · have d2 : n - sumN (shF A n) p ≤ sumN (hmF A x) p := nq_le (by first | omega | (have hq9 : n * cntN (A (27 + 6 * p)) ≤ 999 * 6 := Nat.mul_le_mul hn9 (cnt_le _); omega) | (have hq9 : n * cntN (A (27 + 6 * x)) ≤ 999 * 6 := Nat.mul_le_mul hn9 (cnt_le _); omega)) (by first | omega | (have hq9 : n * cntN (A (27 + 6 * p)) ≤ 999 * 6 := Nat.mul_le_mul hn9 (cnt_le _); omega) | (have hq9 : n * cntN (A (27 + 6 * x)) ≤ 999 * 6 := Nat.mul_le_mul hn9 (cnt_le _); omega)) c2
        refine V_iconst (v := nI 0) e_X5_shareOf_156 (by decide) ?_
        refine V_iaddN (z := nI ((n * (cntN (A (27 + 6 * x)))) / (allH A) + 0)) e_X5_shareOf_157 (nI_add _ _) ?_
        exact V_iret e_X5_shareOf_158 rfl (⟨rfl, by congr 1; unfold shC; rw [if_neg (by omega), if_neg hx0, show A 1 = p by omega]; (first | rw [if_pos d2] | rw [if_neg d2] | skip)⟩)
      · have d2 : ¬ n - sumN (shF A n) p ≤ sumN (hmF A x) p := nq_nle (by first | omega | (have hq9 : n * cntN (A (27 + 6 * p)) ≤ 999 * 6 := Nat.mul_le_mul hn9 (cnt_le _); omega) | (have hq9 : n * cntN (A (27 + 6 * x)) ≤ 999 * 6 := Nat.mul_le_mul hn9 (cnt_le _); omega)) (by first | omega | (have hq9 : n * cntN (A (27 + 6 * p)) ≤ 999 * 6 := Nat.mul_le_mul hn9 (cnt_le _); omega) | (have hq9 : n * cntN (A (27 + 6 * x)) ≤ 999 * 6 := Nat.mul_le_mul hn9 (cnt_le _); omega)) c2
        refine V_iconst (v := nI 1) e_X5_shareOf_152 (by decide) ?_
        refine V_goto (tgt := 157) e_X5_shareOf_153 (by decide) ?_
        refine V_iaddN (z := nI ((n * (cntN (A (27 + 6 * x)))) / (allH A) + 1)) e_X5_shareOf_157 (nI_add _ _) ?_
        exact V_iret e_X5_shareOf_158 rfl (⟨rfl, by congr 1; unfold shC; rw [if_neg (by omega), if_neg hx0, show A 1 = p by omega]; (first | rw [if_pos d2] | rw [if_neg d2] | skip)⟩)
    · have d1 : ¬ A 1 ≤ p := nq_nle (by first | omega | (have hq9 : n * cntN (A (27 + 6 * p)) ≤ 999 * 6 := Nat.mul_le_mul hn9 (cnt_le _); omega) | (have hq9 : n * cntN (A (27 + 6 * x)) ≤ 999 * 6 := Nat.mul_le_mul hn9 (cnt_le _); omega)) (by first | omega | (have hq9 : n * cntN (A (27 + 6 * p)) ≤ 999 * 6 := Nat.mul_le_mul hn9 (cnt_le _); omega) | (have hq9 : n * cntN (A (27 + 6 * x)) ≤ 999 * 6 := Nat.mul_le_mul hn9 (cnt_le _); omega)) c1
      obtain ⟨w1, w2, w3, w4, w5, w6⟩ := hF.per (show p < A 1 by omega)
      have hsb : n * cntN (A (27 + 6 * p)) / allH A ≤ n - sumN (shF A n) p := by have hq9 := shF_le (n := n) (p := p + 1) h0 (by omega); rw [sumN] at hq9; unfold shF at hq9 ⊢; omega
      refine V_iload e_X5_shareOf_72 rfl ?_
      refine V_iload_n e_X5_shareOf_74 rfl rfl ?_
      refine V_aload_n e_X5_shareOf_75 rfl rfl ?_
      refine V_getr (r := k + 3) e_X5_shareOf_76 F_X5_walkers f_X5_20 hn (rf5_9 hn) ?_
      refine V_iload e_X5_shareOf_79 rfl ?_
      refine V_aald (j := p) (r := k + 4 + p) e_X5_shareOf_81 (by rw [kd5_3 hn]; decide) (by rw [kd5_3 hn]; decide) rfl (by have q := ln5_3  hn; omega) (rf14 hn) ?_
      refine V_getiv (v := nI (A (27 + 6 * p))) e_X5_shareOf_82 F_X7_of f_X5_58 (kd5_w hn (by have q := ln5_3  hn; omega)) ((hR.2 p (by omega)).1.2.2.1) ?_
      refine V_csIe (av := [.int (nI (A (27 + 6 * p)))]) (st := [.int (nI n), .int (nI (n - sumN (shF A n) p))]) e_X5_shareOf_85 (c_J6_bitCountN E (A (27 + 6 * p)) σ (by omega)) l_X5_107 S_J6_bitCount_0f7a4 (rm_ok (by decide) (by decide)) rfl rfl (Nat.le_of_ble_eq_true rfl) ?_
      refine V_imulN (z := nI (n * (cntN (A (27 + 6 * p))))) e_X5_shareOf_88 (pk_mul _ _) ?_
      refine V_iload_n e_X5_shareOf_89 rfl rfl ?_
      refine V_idivN (z := nI ((n * (cntN (A (27 + 6 * p)))) / (allH A))) e_X5_shareOf_90 (nI_ne0 (h0) (by first | omega | (have hq9 : n * cntN (A (27 + 6 * p)) ≤ 999 * 6 := Nat.mul_le_mul hn9 (cnt_le _); omega) | (have hq9 : n * cntN (A (27 + 6 * x)) ≤ 999 * 6 := Nat.mul_le_mul hn9 (cnt_le _); omega))) (pk_div (by first | omega | (have hq9 : n * cntN (A (27 + 6 * p)) ≤ 999 * 6 := Nat.mul_le_mul hn9 (cnt_le _); omega) | (have hq9 : n * cntN (A (27 + 6 * x)) ≤ 999 * 6 := Nat.mul_le_mul hn9 (cnt_le _); omega)) (h0) (by first | omega | (have hq9 : n * cntN (A (27 + 6 * p)) ≤ 999 * 6 := Nat.mul_le_mul hn9 (cnt_le _); omega) | (have hq9 : n * cntN (A (27 + 6 * x)) ≤ 999 * 6 := Nat.mul_le_mul hn9 (cnt_le _); omega))) ?_
      refine V_isubN (z := nI (n - sumN (shF A n) p - ((n * (cntN (A (27 + 6 * p)))) / (allH A)))) e_X5_shareOf_91 (pk_sub (hsb)) ?_
      refine V_istore (L' := [some (.ref (eB E + k)), some (.int (nI x)), some (.int (nI n)), some (.int (nI (allH A))), some (.int (nI (n - sumN (shF A n) p - ((n * (cntN (A (27 + 6 * p)))) / (allH A))))), some (.int (nI (sumN (hmF A x) p))), some (.int (nI p))]) e_X5_shareOf_92 rfl ?_
      refine V_iload e_X5_shareOf_94 rfl ?_
      refine V_iload e_X5_shareOf_96 rfl ?_
      refine V_iload_n e_X5_shareOf_98 rfl rfl ?_
      refine V_icmp_ge (tgt := 119) e_X5_shareOf_99 (by decide) (fun c3 => ?_) (fun c3 => ?_)
      · have d3 : x ≤ p := nq_le (by first | omega | (have hq9 : n * cntN (A (27 + 6 * p)) ≤ 999 * 6 := Nat.mul_le_mul hn9 (cnt_le _); omega) | (have hq9 : n * cntN (A (27 + 6 * x)) ≤ 999 * 6 := Nat.mul_le_mul hn9 (cnt_le _); omega)) (by first | omega | (have hq9 : n * cntN (A (27 + 6 * p)) ≤ 999 * 6 := Nat.mul_le_mul hn9 (cnt_le _); omega) | (have hq9 : n * cntN (A (27 + 6 * x)) ≤ 999 * 6 := Nat.mul_le_mul hn9 (cnt_le _); omega)) c3
        refine V_iconst (v := nI 0) e_X5_shareOf_119 (by decide) ?_
        refine V_iaddN (z := nI (sumN (hmF A x) p + 0)) e_X5_shareOf_120 (nI_add _ _) ?_
        refine V_istore (L' := [some (.ref (eB E + k)), some (.int (nI x)), some (.int (nI n)), some (.int (nI (allH A))), some (.int (nI (n - sumN (shF A n) p - ((n * (cntN (A (27 + 6 * p)))) / (allH A))))), some (.int (nI (sumN (hmF A x) p + 0))), some (.int (nI p))]) e_X5_shareOf_121 rfl ?_
        refine V_iinc (v := nI (p + 1)) (L' := [some (.ref (eB E + k)), some (.int (nI x)), some (.int (nI n)), some (.int (nI (allH A))), some (.int (nI (n - sumN (shF A n) p - ((n * (cntN (A (27 + 6 * p)))) / (allH A))))), some (.int (nI (sumN (hmF A x) p + 0))), some (.int (nI (p + 1)))]) e_X5_shareOf_123 rfl (nI_add _ 1) rfl ?_
        refine V_goto (tgt := 63) e_X5_shareOf_126 (by decide) ?_
        rw [show n - sumN (shF A n) p - ((n * (cntN (A (27 + 6 * p)))) / (allH A)) = n - sumN (shF A n) (p + 1) from (by rw [sumN]; exact Nat.sub_sub _ _ _), show sumN (hmF A x) p + 0 = sumN (hmF A x) (p + 1) from (by rw [sumN]; rw [hmF]; (first | rw [if_pos d3] | rw [if_neg d3] | skip))]; exact ih (A 1 - (p + 1)) (by omega) (p + 1) rfl (by omega)
      · have d3 : ¬ x ≤ p := nq_nle (by first | omega | (have hq9 : n * cntN (A (27 + 6 * p)) ≤ 999 * 6 := Nat.mul_le_mul hn9 (cnt_le _); omega) | (have hq9 : n * cntN (A (27 + 6 * x)) ≤ 999 * 6 := Nat.mul_le_mul hn9 (cnt_le _); omega)) (by first | omega | (have hq9 : n * cntN (A (27 + 6 * p)) ≤ 999 * 6 := Nat.mul_le_mul hn9 (cnt_le _); omega) | (have hq9 : n * cntN (A (27 + 6 * x)) ≤ 999 * 6 := Nat.mul_le_mul hn9 (cnt_le _); omega)) c3
        refine V_aload_n e_X5_shareOf_102 rfl rfl ?_
        refine V_getr (r := k + 3) e_X5_shareOf_103 F_X5_walkers f_X5_20 hn (rf5_9 hn) ?_
        refine V_iload e_X5_shareOf_106 rfl ?_
        refine V_aald (j := p) (r := k + 4 + p) e_X5_shareOf_108 (by rw [kd5_3 hn]; decide) (by rw [kd5_3 hn]; decide) rfl (by have q := ln5_3  hn; omega) (rf14 hn) ?_
        refine V_getiv (v := nI (A (27 + 6 * p))) e_X5_shareOf_109 F_X7_of f_X5_58 (kd5_w hn (by have q := ln5_3  hn; omega)) ((hR.2 p (by omega)).1.2.2.1) ?_
        refine V_if_eq (tgt := 119) e_X5_shareOf_112 (by decide) (fun c4 => ?_) (fun c4 => ?_)
        · have d4 : A (27 + 6 * p) = 0 := nq_eq (by first | omega | (have hq9 : n * cntN (A (27 + 6 * p)) ≤ 999 * 6 := Nat.mul_le_mul hn9 (cnt_le _); omega) | (have hq9 : n * cntN (A (27 + 6 * x)) ≤ 999 * 6 := Nat.mul_le_mul hn9 (cnt_le _); omega)) (by first | omega | (have hq9 : n * cntN (A (27 + 6 * p)) ≤ 999 * 6 := Nat.mul_le_mul hn9 (cnt_le _); omega) | (have hq9 : n * cntN (A (27 + 6 * x)) ≤ 999 * 6 := Nat.mul_le_mul hn9 (cnt_le _); omega)) c4
          refine V_iconst (v := nI 0) e_X5_shareOf_119 (by decide) ?_
          refine V_iaddN (z := nI (sumN (hmF A x) p + 0)) e_X5_shareOf_120 (nI_add _ _) ?_
          refine V_istore (L' := [some (.ref (eB E + k)), some (.int (nI x)), some (.int (nI n)), some (.int (nI (allH A))), some (.int (nI (n - sumN (shF A n) p - ((n * (cntN (A (27 + 6 * p)))) / (allH A))))), some (.int (nI (sumN (hmF A x) p + 0))), some (.int (nI p))]) e_X5_shareOf_121 rfl ?_
          refine V_iinc (v := nI (p + 1)) (L' := [some (.ref (eB E + k)), some (.int (nI x)), some (.int (nI n)), some (.int (nI (allH A))), some (.int (nI (n - sumN (shF A n) p - ((n * (cntN (A (27 + 6 * p)))) / (allH A))))), some (.int (nI (sumN (hmF A x) p + 0))), some (.int (nI (p + 1)))]) e_X5_shareOf_123 rfl (nI_add _ 1) rfl ?_
          refine V_goto (tgt := 63) e_X5_shareOf_126 (by decide) ?_
          rw [show n - sumN (shF A n) p - ((n * (cntN (A (27 + 6 * p)))) / (allH A)) = n - sumN (shF A n) (p + 1) from (by rw [sumN]; exact Nat.sub_sub _ _ _), show sumN (hmF A x) p + 0 = sumN (hmF A x) (p + 1) from (by rw [sumN]; rw [hmF]; (first | rw [if_pos d3] | rw [if_neg d3] | skip); (first | rw [if_pos d4] | rw [if_neg d4] | skip))]; exact ih (A 1 - (p + 1)) (by omega) (p + 1) rfl (by omega)
        · have d4 : ¬ A (27 + 6 * p) = 0 := nq_ne (by first | omega | (have hq9 : n * cntN (A (27 + 6 * p)) ≤ 999 * 6 := Nat.mul_le_mul hn9 (cnt_le _); omega) | (have hq9 : n * cntN (A (27 + 6 * x)) ≤ 999 * 6 := Nat.mul_le_mul hn9 (cnt_le _); omega)) (by first | omega | (have hq9 : n * cntN (A (27 + 6 * p)) ≤ 999 * 6 := Nat.mul_le_mul hn9 (cnt_le _); omega) | (have hq9 : n * cntN (A (27 + 6 * x)) ≤ 999 * 6 := Nat.mul_le_mul hn9 (cnt_le _); omega)) c4
          refine V_iconst (v := nI 1) e_X5_shareOf_115 (by decide) ?_
          refine V_goto (tgt := 120) e_X5_shareOf_116 (by decide) ?_
          refine V_iaddN (z := nI (sumN (hmF A x) p + 1)) e_X5_shareOf_120 (nI_add _ _) ?_
          refine V_istore (L' := [some (.ref (eB E + k)), some (.int (nI x)), some (.int (nI n)), some (.int (nI (allH A))), some (.int (nI (n - sumN (shF A n) p - ((n * (cntN (A (27 + 6 * p)))) / (allH A))))), some (.int (nI (sumN (hmF A x) p + 1))), some (.int (nI p))]) e_X5_shareOf_121 rfl ?_
          refine V_iinc (v := nI (p + 1)) (L' := [some (.ref (eB E + k)), some (.int (nI x)), some (.int (nI n)), some (.int (nI (allH A))), some (.int (nI (n - sumN (shF A n) p - ((n * (cntN (A (27 + 6 * p)))) / (allH A))))), some (.int (nI (sumN (hmF A x) p + 1))), some (.int (nI (p + 1)))]) e_X5_shareOf_123 rfl (nI_add _ 1) rfl ?_
          refine V_goto (tgt := 63) e_X5_shareOf_126 (by decide) ?_
          rw [show n - sumN (shF A n) p - ((n * (cntN (A (27 + 6 * p)))) / (allH A)) = n - sumN (shF A n) (p + 1) from (by rw [sumN]; exact Nat.sub_sub _ _ _), show sumN (hmF A x) p + 1 = sumN (hmF A x) (p + 1) from (by rw [sumN]; rw [hmF]; (first | rw [if_pos d3] | rw [if_neg d3] | skip); (first | rw [if_pos d4] | rw [if_neg d4] | skip))]; exact ih (A 1 - (p + 1)) (by omega) (p + 1) rfl (by omega)
set_option maxRecDepth 100000 in
set_option maxHeartbeats 4000000 in
theorem lp_X5_shareOf_1 (E : En) (k x n : Nat) (A : Vec) (σ : Sg) (hn : kd k = 5) (hR : RepC σ k A) (hF : WF A) (hx : x < A 1) (hn9 : n ≤ 999) (h5 : A 1 ≤ 5) (hcl : sumN (cF A) (A 1) ≤ 6 * A 1) : ∀ (mm : Nat) (p : Nat), A 1 - p = mm → (p ≤ A 1) → V E m_X5_shareOf (kM E 2 (pI (fun σ' r => σ' = σ ∧ r = nI (shC A x n)))) 5 [some (.ref (eB E + k)), some (.int (nI x)), some (.int (nI n)), some (.int (nI (sumN (cF A) p))), some (.int (nI p)), none, none] [] σ := by
  intro mm
  induction mm using Nat.strongRecOn with
  | ind mm ih =>
    intro p hmm hp
    obtain ⟨v1, v2, v3, v4, v5, v6⟩ := hF.per hx
    have hcp := cF_le A p
    refine V_iload e_X5_shareOf_5 rfl ?_
    refine V_aload_n e_X5_shareOf_7 rfl rfl ?_
    refine V_getiv (v := nI (A 1)) e_X5_shareOf_8 F_X5_people f_X5_32 hn hR.1.2.2.2.2.1 ?_
    refine V_icmp_ge (tgt := 36) e_X5_shareOf_11 (by decide) (fun c1 => ?_) (fun c1 => ?_)
    · have d1 : A 1 ≤ p := nq_le (by omega) (by omega) c1
      obtain rfl : p = A 1 := by omega
      have hal : allH A = sumN (cF A) (A 1) := rfl
      rw [← hal]
      refine V_iload_n e_X5_shareOf_36 rfl rfl ?_
      refine V_if_eq (tgt := 52) e_X5_shareOf_37 (by decide) (fun c2 => ?_) (fun c2 => ?_)
      · have d2 : allH A = 0 := nq_eq (by omega) (by omega) c2
        refine V_iconst (v := nI 0) e_X5_shareOf_52 (by decide) ?_
        exact V_iret e_X5_shareOf_53 rfl (⟨rfl, by congr 1; unfold shC; (first | rw [if_pos d2] | rw [if_neg d2] | skip)⟩)
      · have d2 : ¬ allH A = 0 := nq_ne (by omega) (by omega) c2
        refine V_aload_n e_X5_shareOf_40 rfl rfl ?_
        refine V_getr (r := k + 3) e_X5_shareOf_41 F_X5_walkers f_X5_20 hn (rf5_9 hn) ?_
        refine V_iload_n e_X5_shareOf_44 rfl rfl ?_
        refine V_aald (j := x) (r := k + 4 + x) e_X5_shareOf_45 (by rw [kd5_3 hn]; decide) (by rw [kd5_3 hn]; decide) rfl (by have q := ln5_3  hn; omega) (rf14 hn) ?_
        refine V_getiv (v := nI (A (27 + 6 * x))) e_X5_shareOf_46 F_X7_of f_X5_58 (kd5_w hn (by have q := ln5_3  hn; omega)) ((hR.2 x (by omega)).1.2.2.1) ?_
        refine V_if_ne (tgt := 54) e_X5_shareOf_49 (by decide) (fun c3 => ?_) (fun c3 => ?_)
        · have d3 : ¬ A (27 + 6 * x) = 0 := nq_ne (by omega) (by omega) c3
          refine V_iload_n e_X5_shareOf_54 rfl rfl ?_
          refine V_istore (L' := [some (.ref (eB E + k)), some (.int (nI x)), some (.int (nI n)), some (.int (nI (allH A))), some (.int (nI n)), none, none]) e_X5_shareOf_55 rfl ?_
          refine V_iconst (v := nI 0) e_X5_shareOf_57 (by decide) ?_
          refine V_istore (L' := [some (.ref (eB E + k)), some (.int (nI x)), some (.int (nI n)), some (.int (nI (allH A))), some (.int (nI n)), some (.int (nI 0)), none]) e_X5_shareOf_58 rfl ?_
          refine V_iconst (v := nI 0) e_X5_shareOf_60 (by decide) ?_
          refine V_istore (L' := [some (.ref (eB E + k)), some (.int (nI x)), some (.int (nI n)), some (.int (nI (allH A))), some (.int (nI n)), some (.int (nI 0)), some (.int (nI 0))]) e_X5_shareOf_61 rfl ?_
          have hX := lp_X5_shareOf_2 E k x n A σ hn hR hF hx hn9 h5 (by omega) (by omega) d3 (A 1) 0 rfl (by omega); exact hX
        · have d3 : A (27 + 6 * x) = 0 := nq_eq (by omega) (by omega) c3
          refine V_iconst (v := nI 0) e_X5_shareOf_52 (by decide) ?_
          exact V_iret e_X5_shareOf_53 rfl (⟨rfl, by congr 1; unfold shC; (first | rw [if_pos d2] | rw [if_neg d2] | skip); (first | rw [if_pos d3] | rw [if_neg d3] | skip)⟩)
    · have d1 : ¬ A 1 ≤ p := nq_nle (by omega) (by omega) c1
      obtain ⟨w1, w2, w3, w4, w5, w6⟩ := hF.per (show p < A 1 by omega)
      refine V_iload_n e_X5_shareOf_14 rfl rfl ?_
      refine V_aload_n e_X5_shareOf_15 rfl rfl ?_
      refine V_getr (r := k + 3) e_X5_shareOf_16 F_X5_walkers f_X5_20 hn (rf5_9 hn) ?_
      refine V_iload e_X5_shareOf_19 rfl ?_
      refine V_aald (j := p) (r := k + 4 + p) e_X5_shareOf_21 (by rw [kd5_3 hn]; decide) (by rw [kd5_3 hn]; decide) rfl (by have q := ln5_3  hn; omega) (rf14 hn) ?_
      refine V_getiv (v := nI (A (27 + 6 * p))) e_X5_shareOf_22 F_X7_of f_X5_58 (kd5_w hn (by have q := ln5_3  hn; omega)) ((hR.2 p (by omega)).1.2.2.1) ?_
      refine V_csIe (av := [.int (nI (A (27 + 6 * p)))]) (st := [.int (nI (sumN (cF A) p))]) e_X5_shareOf_25 (c_J6_bitCountN E (A (27 + 6 * p)) σ (by omega)) l_X5_107 S_J6_bitCount_0f7a4 (rm_ok (by decide) (by decide)) rfl rfl (Nat.le_of_ble_eq_true rfl) ?_
      refine V_iaddN (z := nI (sumN (cF A) p + (cntN (A (27 + 6 * p))))) e_X5_shareOf_28 (nI_add _ _) ?_
      refine V_istore_n (L' := [some (.ref (eB E + k)), some (.int (nI x)), some (.int (nI n)), some (.int (nI (sumN (cF A) p + (cntN (A (27 + 6 * p)))))), some (.int (nI p)), none, none]) e_X5_shareOf_29 rfl rfl ?_
      refine V_iinc (v := nI (p + 1)) (L' := [some (.ref (eB E + k)), some (.int (nI x)), some (.int (nI n)), some (.int (nI (sumN (cF A) p + (cntN (A (27 + 6 * p)))))), some (.int (nI (p + 1))), none, none]) e_X5_shareOf_30 rfl (nI_add _ 1) rfl ?_
      refine V_goto (tgt := 5) e_X5_shareOf_33 (by decide) ?_
      exact ih (A 1 - (p + 1)) (by omega) (p + 1) rfl (by omega)
set_option maxRecDepth 100000 in
set_option maxHeartbeats 4000000 in
theorem c_X5_shareOf (E : En) (k x n : Nat) (A : Vec) (σ : Sg) (hn : kd k = 5) (hR : RepC σ k A) (hF : WF A) (hx : x < A 1) (hn9 : n ≤ 999) : Cn E m_X5_shareOf 2 [.ref (eB E + k), .int (nI x), .int (nI n)] σ (pI (fun σ' r => σ' = σ ∧ r = nI (shC A x n))) := by
  have h5 := hF.2.2.1
  obtain ⟨v1, v2, v3, v4, v5, v6⟩ := hF.per hx
  have hcl := cF_le A (A 1)
  have hcx := cnt_le (A (27 + 6 * x))
  refine Cn.of [some (.ref (eB E + k)), some (.int (nI x)), some (.int (nI n)), none, none, none, none] (by decide) (Nat.le_of_ble_eq_true rfl) rfl ?_
  refine V_iconst (v := nI 0) e_X5_shareOf_0 (by decide) ?_
  refine V_istore_n (L' := [some (.ref (eB E + k)), some (.int (nI x)), some (.int (nI n)), some (.int (nI 0)), none, none, none]) e_X5_shareOf_1 rfl rfl ?_
  refine V_iconst (v := nI 0) e_X5_shareOf_2 (by decide) ?_
  refine V_istore (L' := [some (.ref (eB E + k)), some (.int (nI x)), some (.int (nI n)), some (.int (nI 0)), some (.int (nI 0)), none, none]) e_X5_shareOf_3 rfl ?_
  exact lp_X5_shareOf_1 E k x n A σ hn hR hF hx hn9 h5 hcl (A 1) 0 rfl (by omega)

theorem hd_step {σ τ : Sg} {r i n j : Nat} (h : τ 241 2 = nI n ∧ (∀ m, m < j → τ 251 m = σ (r + 1) (i + m)) ∧ ∀ a k, a ≠ 251 → ¬ (a = 241 ∧ k = 2) → τ a k = σ a k) : (up2 τ 251 j (σ (r + 1) (i + j))) 241 2 = nI n ∧ (∀ m, m < j + 1 → (up2 τ 251 j (σ (r + 1) (i + j))) 251 m = σ (r + 1) (i + m)) ∧ ∀ a k, a ≠ 251 → ¬ (a = 241 ∧ k = 2) → (up2 τ 251 j (σ (r + 1) (i + j))) a k = σ a k := by
  obtain ⟨h1, h2, h3⟩ := h
  refine ⟨by rw [up2_ne (by decide)]; exact h1, fun m hm => ?_, fun a k ha hk => ?_⟩
  · by_cases e : m = j
    · subst e
      rw [up2_at]
    · rw [up2_k e]
      exact h2 m (by omega)
  · rw [up2_ne ha]
    exact h3 a k ha hk
theorem row_apart {r : Nat} (hr : kd r = 3) : ∀ a, a = 251 ∨ a = 241 → r + 1 ≠ a := by
  have h := (show ∀ n, n < 307 → kd n = 3 → 258 ≤ n by decide +kernel) r (kd_lt (by omega)) hr
  intro a ha
  omega
set_option maxRecDepth 100000 in
set_option maxHeartbeats 4000000 in
theorem lp_X4_hearDinners (E : En) (r i n : Nat) (σ : Sg) (hr : kd r = 3) (hn : n ≤ 12) (hin : i + n ≤ 40) (hr1 : ∀ a, a = 251 ∨ a = 241 → r + 1 ≠ a) : ∀ (mm : Nat) (j : Nat) (τ : Sg), n - j = mm → (j ≤ n) → (τ 241 2 = nI n ∧ (∀ m, m < j → τ 251 m = σ (r + 1) (i + m)) ∧ ∀ a k, a ≠ 251 → ¬ (a = 241 ∧ k = 2) → τ a k = σ a k) → V E m_X4_hearDinners (kM E 2 (pV (fun σ' => σ' 241 2 = nI n ∧ (∀ j, j < n → σ' 251 j = σ (r + 1) (i + j)) ∧ ∀ a k, a ≠ 251 → ¬ (a = 241 ∧ k = 2) → σ' a k = σ a k))) 13 [some (.ref (eB E + 241)), some (.ref (eB E + r)), some (.int (nI i)), some (.int (nI n)), some (.int (nI j))] [] τ := by
  intro mm
  induction mm using Nat.strongRecOn with
  | ind mm ih =>
    intro j τ hmm hj hI
    refine V_iload e_X4_hearDinners_13 rfl ?_
    refine V_aload_n e_X4_hearDinners_15 rfl rfl ?_
    refine V_getiv (v := nI n) e_X4_hearDinners_16 F_X4_dinnersTold f_X4_74 rfl hI.1 ?_
    refine V_icmp_ge (tgt := 44) e_X4_hearDinners_19 (by decide) (fun c1 => ?_) (fun c1 => ?_)
    · have d1 : n ≤ j := nq_le (by omega) (by omega) c1
      exact V_vret e_X4_hearDinners_44 rfl (by obtain rfl : n = j := (by omega); exact hI)
    · have d1 : ¬ n ≤ j := nq_nle (by omega) (by omega) c1
      refine V_aload_n e_X4_hearDinners_22 rfl rfl ?_
      refine V_getr (r := 251) e_X4_hearDinners_23 F_X4_dinners f_X4_18 rfl rfl ?_
      refine V_iload e_X4_hearDinners_26 rfl ?_
      refine V_aload_n e_X4_hearDinners_28 rfl rfl ?_
      refine V_getr (r := r + 1) e_X4_hearDinners_29 F_X3_items f_X4_77 hr (rf3_0 hr) ?_
      refine V_iload_n e_X4_hearDinners_32 rfl rfl ?_
      refine V_iload e_X4_hearDinners_33 rfl ?_
      refine V_iaddN (z := nI (i + j)) e_X4_hearDinners_35 (nI_add _ _) ?_
      refine V_ialdv (v := σ (r + 1) (i + j)) (j := (i + j)) e_X4_hearDinners_36 (kd3_1 hr) rfl (by have q := ln3_1  hr; omega) (hI.2.2 _ _ (hr1 251 (by decide)) (fun q => hr1 241 (by decide) q.1)) ?_
      refine V_iast (j := j) e_X4_hearDinners_37 rfl rfl (by have q : ln 251 = 12 := rfl; omega) ?_
      refine V_iinc (v := nI (j + 1)) (L' := [some (.ref (eB E + 241)), some (.ref (eB E + r)), some (.int (nI i)), some (.int (nI n)), some (.int (nI (j + 1)))]) e_X4_hearDinners_38 rfl (nI_add _ 1) rfl ?_
      refine V_goto (tgt := 13) e_X4_hearDinners_41 (by decide) ?_
      exact ih (n - (j + 1)) (by omega) (j + 1) _ rfl (by omega) (hd_step hI)
set_option maxRecDepth 100000 in
set_option maxHeartbeats 4000000 in
theorem c_X4_hearDinners (E : En) (r i n : Nat) (σ : Sg) (hr : kd r = 3) (hn : n ≤ 12) (hin : i + n ≤ 40) : Cn E m_X4_hearDinners 2 [.ref (eB E + 241), .ref (eB E + r), .int (nI i), .int (nI n)] σ (pV (fun σ' => σ' 241 2 = nI n ∧ (∀ j, j < n → σ' 251 j = σ (r + 1) (i + j)) ∧ ∀ a k, a ≠ 251 → ¬ (a = 241 ∧ k = 2) → σ' a k = σ a k)) := by
  refine Cn.of [some (.ref (eB E + 241)), some (.ref (eB E + r)), some (.int (nI i)), some (.int (nI n)), none] (by decide) (Nat.le_of_ble_eq_true rfl) rfl ?_
  refine V_aload_n e_X4_hearDinners_0 rfl rfl ?_
  refine V_iload_n e_X4_hearDinners_1 rfl rfl ?_
  refine V_bipush (v := nI 12) e_X4_hearDinners_2 (by decide) ?_
  refine V_mmin e_X4_hearDinners_4 l_X4_69 (rm_ok (by decide) (by decide)) (Nat.le_of_ble_eq_true rfl) ?_
  rw [show (if nI 12 < nI n then nI 12 else nI n) = mn (nI n) (nI 12) from rfl]
  refine V_topi (y := nI (min n 12)) (mnN (by omega) (by omega)) ?_
  rw [show min n 12 = n from Nat.min_eq_left hn]
  refine V_puti e_X4_hearDinners_7 F_X4_dinnersTold f_X4_74 rfl ?_
  refine V_iconst (v := nI 0) e_X4_hearDinners_10 (by decide) ?_
  refine V_istore (L' := [some (.ref (eB E + 241)), some (.ref (eB E + r)), some (.int (nI i)), some (.int (nI n)), some (.int (nI 0))]) e_X4_hearDinners_11 rfl ?_
  exact lp_X4_hearDinners E r i n σ hr hn hin (row_apart hr) n 0 _ rfl (by omega) ⟨by simp [up2], fun m hm => absurd hm (by omega), fun a k _ hk => by unfold up2; rw [if_neg hk]⟩
set_option maxRecDepth 100000 in
set_option maxHeartbeats 4000000 in
theorem lp_X4_isAsTold (E : En) (p n st : Nat) (B : Vec) (q : Pn) (σ : Sg) (hE : EnvC σ 242 B) (hw : Wk σ (246 + p) q) (hst : σ (246 + p) 6 = nI st) (hB : WE B) (hq : WP B q) (hst1 : st ≤ 1) (hp : p < 5) (hn : σ 241 2 = nI n) (hn12 : n ≤ 12) : ∀ (mm : Nat) (i : Nat) (τ : Sg), n - i = mm → (i ≤ n) → (TS σ τ B p st (pdays B st q i)) → (toldR (fun i => eatsP B st (pdays B st q i)) (σ 251) n 0 = toldR (fun i => eatsP B st (pdays B st q i)) (σ 251) (n - i) i) → V E m_X4_isAsTold (kM E 6 (pI (fun σ' r => Fb 242 251 σ σ' ∧ r = nI (tld B st q (σ 251) n)))) 2 [some (.ref (eB E + 241)), some (.int (nI p)), some (.int (nI i)), none] [] τ := by
  intro mm
  induction mm using Nat.strongRecOn with
  | ind mm ih =>
    intro i τ hmm hi hI ht
    refine V_iload_n e_X4_isAsTold_2 rfl rfl ?_
    refine V_aload_n e_X4_isAsTold_3 rfl rfl ?_
    refine V_getiv (v := nI n) e_X4_isAsTold_4 F_X4_dinnersTold f_X4_74 rfl ((hI.1 241 2 (by omega)).trans hn) ?_
    refine V_icmp_ge (tgt := 53) e_X4_isAsTold_7 (by decide) (fun c1 => ?_) (fun c1 => ?_)
    · have d1 : n ≤ i := nq_le (by omega) (by omega) c1
      refine V_iconst (v := nI 1) e_X4_isAsTold_53 (by decide) ?_
      exact V_zret e_X4_isAsTold_54 rfl (by first | exact Or.inl nI_0 | exact Or.inr rfl | assumption) (⟨hI.1, by congr 1; unfold tld; rw [ht, show n - i = 0 by omega]; rfl⟩)
    · have d1 : ¬ n ≤ i := nq_nle (by omega) (by omega) c1
      refine V_aload_n e_X4_isAsTold_10 rfl rfl ?_
      refine V_getr (r := 242) e_X4_isAsTold_11 F_X4_trial f_X4_12 rfl rfl ?_
      refine V_aload_n e_X4_isAsTold_14 rfl rfl ?_
      refine V_getr (r := 242) e_X4_isAsTold_15 F_X4_trial f_X4_12 rfl rfl ?_
      refine V_getr (r := 245) e_X4_isAsTold_18 F_X5_walkers f_X4_26 rfl rfl ?_
      refine V_iload_n e_X4_isAsTold_21 rfl rfl ?_
      refine V_aald (j := p) (r := 246 + p) e_X4_isAsTold_22 (by decide) (by decide) rfl (by have q : ln 245 = 5 := rfl; omega) rfl ?_
      refine V_cvI (av := [.ref (eB E + (246 + p))]) (st := []) e_X4_isAsTold_23 (c_X5_liveDay E 242 (246 + p) st B (pdays B st q i) τ rfl hB hI.2.1 (kd_wk245 p (by have q : ln 245 = 5 := rfl; omega)) hI.2.2.1 (hq.days hB.1 i) hI.2.2.2 hst1 (by omega) (by omega) (by omega)) l_X4_30 S_X5_liveDay rfl (rm_ok (by decide) (by decide)) rfl rfl (Nat.le_of_ble_eq_true rfl) ?_
      intro τ' r hh
      obtain ⟨⟨hq', hf'⟩, rfl⟩ := hh
      have he1 := eatsP_le B st (pdays B st q i)
      refine V_if_eq (tgt := 33) e_X4_isAsTold_26 (by decide) (fun c2 => ?_) (fun c2 => ?_)
      · have d2 : eatsP B st (pdays B st q i) = 0 := nq_eq (by omega) (by omega) c2
        refine V_iconst (v := nI 0) e_X4_isAsTold_33 (by decide) ?_
        refine V_istore_n (L' := [some (.ref (eB E + 241)), some (.int (nI p)), some (.int (nI i)), some (.int (nI 0))]) e_X4_isAsTold_34 rfl rfl ?_
        refine V_iload_n e_X4_isAsTold_35 rfl rfl ?_
        refine V_aload_n e_X4_isAsTold_36 rfl rfl ?_
        refine V_getr (r := 251) e_X4_isAsTold_37 F_X4_dinners f_X4_18 rfl rfl ?_
        refine V_iload_n e_X4_isAsTold_40 rfl rfl ?_
        refine V_ialdv (v := σ 251 i) (j := i) e_X4_isAsTold_41 rfl rfl (by have q : ln 251 = 12 := rfl; omega) ((hI.1.tr (hf'.b (by omega) (by omega))) 251 _ (by omega)) ?_
        refine V_icmp_eq (tgt := 47) e_X4_isAsTold_42 (by decide) (fun c3 => ?_) (fun c3 => ?_)
        · refine V_iinc (v := nI (i + 1)) (L' := [some (.ref (eB E + 241)), some (.int (nI p)), some (.int (nI (i + 1))), some (.int (nI 0))]) e_X4_isAsTold_47 rfl (nI_add _ 1) rfl ?_
          refine V_goto (tgt := 2) e_X4_isAsTold_50 (by decide) ?_
          refine V_forget 3 ?_; exact ih (n - (i + 1)) (by omega) (i + 1) τ' rfl (by omega) (hI.step hp hq' hf') (by rw [ht]; exact toldR_step (by omega) (by show _ = _; rw [show eatsP B st (pdays B st q i) = 0 by omega]; exact c3))
        · refine V_iconst (v := nI 0) e_X4_isAsTold_45 (by decide) ?_
          exact V_zret e_X4_isAsTold_46 rfl (by first | exact Or.inl nI_0 | exact Or.inr rfl | assumption) (⟨hI.1.tr (hf'.b (by omega) (by omega)), by congr 1; unfold tld; rw [ht, toldR_no (by omega) (by show ¬ _ = _; rw [show eatsP B st (pdays B st q i) = 0 by omega]; exact c3)]⟩)
      · have d2 : ¬ eatsP B st (pdays B st q i) = 0 := nq_ne (by omega) (by omega) c2
        refine V_iconst (v := nI 1) e_X4_isAsTold_29 (by decide) ?_
        refine V_goto (tgt := 34) e_X4_isAsTold_30 (by decide) ?_
        refine V_istore_n (L' := [some (.ref (eB E + 241)), some (.int (nI p)), some (.int (nI i)), some (.int (nI 1))]) e_X4_isAsTold_34 rfl rfl ?_
        refine V_iload_n e_X4_isAsTold_35 rfl rfl ?_
        refine V_aload_n e_X4_isAsTold_36 rfl rfl ?_
        refine V_getr (r := 251) e_X4_isAsTold_37 F_X4_dinners f_X4_18 rfl rfl ?_
        refine V_iload_n e_X4_isAsTold_40 rfl rfl ?_
        refine V_ialdv (v := σ 251 i) (j := i) e_X4_isAsTold_41 rfl rfl (by have q : ln 251 = 12 := rfl; omega) ((hI.1.tr (hf'.b (by omega) (by omega))) 251 _ (by omega)) ?_
        refine V_icmp_eq (tgt := 47) e_X4_isAsTold_42 (by decide) (fun c4 => ?_) (fun c4 => ?_)
        · refine V_iinc (v := nI (i + 1)) (L' := [some (.ref (eB E + 241)), some (.int (nI p)), some (.int (nI (i + 1))), some (.int (nI 1))]) e_X4_isAsTold_47 rfl (nI_add _ 1) rfl ?_
          refine V_goto (tgt := 2) e_X4_isAsTold_50 (by decide) ?_
          refine V_forget 3 ?_; exact ih (n - (i + 1)) (by omega) (i + 1) τ' rfl (by omega) (hI.step hp hq' hf') (by rw [ht]; exact toldR_step (by omega) (by show _ = _; rw [show eatsP B st (pdays B st q i) = 1 by omega]; exact c4))
        · refine V_iconst (v := nI 0) e_X4_isAsTold_45 (by decide) ?_
          exact V_zret e_X4_isAsTold_46 rfl (by first | exact Or.inl nI_0 | exact Or.inr rfl | assumption) (⟨hI.1.tr (hf'.b (by omega) (by omega)), by congr 1; unfold tld; rw [ht, toldR_no (by omega) (by show ¬ _ = _; rw [show eatsP B st (pdays B st q i) = 1 by omega]; exact c4)]⟩)
set_option maxRecDepth 100000 in
set_option maxHeartbeats 4000000 in
theorem c_X4_isAsTold (E : En) (p n st : Nat) (B : Vec) (q : Pn) (σ : Sg) (hE : EnvC σ 242 B) (hw : Wk σ (246 + p) q) (hst : σ (246 + p) 6 = nI st) (hB : WE B) (hq : WP B q) (hst1 : st ≤ 1) (hp : p < 5) (hn : σ 241 2 = nI n) (hn12 : n ≤ 12) : Cn E m_X4_isAsTold 6 [.ref (eB E + 241), .int (nI p)] σ (pI (fun σ' r => Fb 242 251 σ σ' ∧ r = nI (tld B st q (σ 251) n))) := by
  refine Cn.of [some (.ref (eB E + 241)), some (.int (nI p)), none, none] (by decide) (Nat.le_of_ble_eq_true rfl) rfl ?_
  refine V_iconst (v := nI 0) e_X4_isAsTold_0 (by decide) ?_
  refine V_istore_n (L' := [some (.ref (eB E + 241)), some (.int (nI p)), some (.int (nI 0)), none]) e_X4_isAsTold_1 rfl rfl ?_
  exact lp_X4_isAsTold E p n st B q σ hE hw hst hB hq hst1 hp hn hn12 n 0 σ rfl (by omega) ⟨Fb.rf, hE, hw, hst⟩ rfl
set_option maxRecDepth 100000 in
set_option maxHeartbeats 4000000 in
theorem lp_X4_kindsThatFit (E : En) (p g n : Nat) (A : Vec) (σ : Sg) (hR : RepC σ 4 A) (hF : WF A) (hn : σ 241 2 = nI n) (hn12 : n ≤ 12) (hp : p < A 1) (hg : g < A 0) (h5 : A 1 ≤ 5) (hG2 : 2 ≤ A 0) (hG6 : A 0 ≤ 6) : ∀ (mm : Nat) (k : Nat) (τ : Sg), 5 - k = mm → (k ≤ 5) → (Fb 242 251 σ τ) → V E m_X4_kindsThatFit (kM E 7 (pI (fun σ' r => Fb 242 251 σ σ' ∧ r = nI (fitK (fun v => tld (setK A g v) (bitN (A 6) p) (pn A p) (σ 251) n) 1 5)))) 6 [some (.ref (eB E + 241)), some (.ref (eB E + 4)), some (.int (nI g)), some (.int (nI p)), some (.int (nI (fitK (fun v => tld (setK A g v) (bitN (A 6) p) (pn A p) (σ 251) n) 1 k))), some (.int (nI (1 + k)))] [] τ := by
  intro mm
  induction mm using Nat.strongRecOn with
  | ind mm ih =>
    intro k τ hmm hk hI
    refine V_iload e_X4_kindsThatFit_6 rfl ?_
    refine V_iconst (v := nI 5) e_X4_kindsThatFit_8 (by decide) ?_
    refine V_icmp_gt (tgt := 58) e_X4_kindsThatFit_9 (by decide) (fun c1 => ?_) (fun c1 => ?_)
    · have d1 : 5 < 1 + k := nq_lt (by omega) (by omega) c1
      refine V_iload e_X4_kindsThatFit_58 rfl ?_
      exact V_iret e_X4_kindsThatFit_60 rfl (⟨hI, by rw [show k = 5 by omega]⟩)
    · have d1 : ¬ 5 < 1 + k := nq_nlt (by omega) (by omega) c1
      refine V_aload_n e_X4_kindsThatFit_12 rfl rfl ?_
      refine V_getr (r := 242) e_X4_kindsThatFit_13 F_X4_trial f_X4_12 rfl rfl ?_
      refine V_aload_n e_X4_kindsThatFit_16 rfl rfl ?_
      have hRt := hR.fb h5 hI (by omega)
      have hz := TS.zero hG6 h5 hp hRt
      refine V_cvVe (av := [.ref (eB E + 4)]) (st := []) e_X4_kindsThatFit_17 (c_X5_become E 242 4 τ rfl rfl (by decide)) l_X4_22 S_X5_become rfl (rm_ok (by decide) (by decide)) rfl rfl (Nat.le_of_ble_eq_true rfl) ?_
      refine V_aload_n e_X4_kindsThatFit_20 rfl rfl ?_
      refine V_getr (r := 242) e_X4_kindsThatFit_21 F_X4_trial f_X4_12 rfl rfl ?_
      refine V_getr (r := 243) e_X4_kindsThatFit_24 F_X5_sorts f_X4_82 rfl rfl ?_
      refine V_iload_n e_X4_kindsThatFit_27 rfl rfl ?_
      refine V_iload e_X4_kindsThatFit_28 rfl ?_
      refine V_iast (j := g) e_X4_kindsThatFit_30 rfl rfl (by have q : ln 243 = 6 := rfl; omega) ?_
      refine V_iload e_X4_kindsThatFit_31 rfl ?_
      refine V_aload_n e_X4_kindsThatFit_33 rfl rfl ?_
      refine V_iload_n e_X4_kindsThatFit_34 rfl rfl ?_
      have hz2 := hz.env (B := setK A g (1 + k)) (a := 243) (k := g) (by omega) (by omega) (hz.2.1.kind hg)
      have hfz := hz2.1
      have hnz : up2 (bec 242 4 τ) 243 g (nI (1 + k)) 241 2 = nI n := (hfz 241 2 (by omega)).trans ((hI 241 2 (by omega)).trans hn)
      have hdz : up2 (bec 242 4 τ) 243 g (nI (1 + k)) 251 = σ 251 := by funext j; exact (hfz 251 j (by omega)).trans (hI 251 j (by omega))
      refine V_cvI (av := [.int (nI p)]) (st := [.int (nI (fitK (fun v => tld (setK A g v) (bitN (A 6) p) (pn A p) (σ 251) n) 1 k))]) e_X4_kindsThatFit_35 (c_X4_isAsTold E p n (bitN (A 6) p) (setK A g (1 + k)) (pn A p) (up2 (bec 242 4 τ) 243 g (nI (1 + k))) hz2.2.1 hz2.2.2.1 hz2.2.2.2 (setK_WE hF.1 (by omega) (by omega)) ((hF.2.2.2.2.2 p hp).env (if_neg (by omega))) (bitN_le _ _) (by omega) (hnz) hn12) l_X4_85 S_X4_isAsTold rfl (rm_ok (by decide) (by decide)) rfl rfl (Nat.le_of_ble_eq_true rfl) ?_
      rw [hdz]
      intro τ1 r hh
      obtain ⟨hf0, rfl⟩ := hh
      have hf1 : Fb 242 251 τ τ1 := hfz.tr hf0
      have htl := tld_le (setK A g (1 + k)) (bitN (A 6) p) (pn A p) (σ 251) n
      refine V_if_eq (tgt := 48) e_X4_kindsThatFit_38 (by decide) (fun c2 => ?_) (fun c2 => ?_)
      · have d2 : tld (setK A g (1 + k)) (bitN (A 6) p) (pn A p) (σ 251) n = 0 := nq_eq (by omega) (by omega) c2
        refine V_iconst (v := nI 0) e_X4_kindsThatFit_48 (by decide) ?_
        refine V_iorN (z := nI ((fitK (fun v => tld (setK A g v) (bitN (A 6) p) (pn A p) (σ 251) n) 1 k) ||| 0)) e_X4_kindsThatFit_49 (lorI _ _) ?_
        refine V_istore (L' := [some (.ref (eB E + 241)), some (.ref (eB E + 4)), some (.int (nI g)), some (.int (nI p)), some (.int (nI ((fitK (fun v => tld (setK A g v) (bitN (A 6) p) (pn A p) (σ 251) n) 1 k) ||| 0))), some (.int (nI (1 + k)))]) e_X4_kindsThatFit_50 rfl ?_
        refine V_iinc (v := nI (1 + k + 1)) (L' := [some (.ref (eB E + 241)), some (.ref (eB E + 4)), some (.int (nI g)), some (.int (nI p)), some (.int (nI ((fitK (fun v => tld (setK A g v) (bitN (A 6) p) (pn A p) (σ 251) n) 1 k) ||| 0))), some (.int (nI (1 + k + 1)))]) e_X4_kindsThatFit_52 rfl (nI_add _ 1) rfl ?_
        refine V_goto (tgt := 6) e_X4_kindsThatFit_55 (by decide) ?_
        rw [show (fitK (fun v => tld (setK A g v) (bitN (A 6) p) (pn A p) (σ 251) n) 1 k) ||| 0 = fitK (fun v => tld (setK A g v) (bitN (A 6) p) (pn A p) (σ 251) n) 1 (k + 1) from (by rw [fitK]; (try dsimp only); (first | rw [if_pos d2] | rw [if_neg d2] | skip))]; rw [show 1 + k + 1 = 1 + (k + 1) from by omega]; exact ih (5 - (k + 1)) (by omega) (k + 1) τ1 rfl (by omega) (hI.tr hf1)
      · have d2 : ¬ tld (setK A g (1 + k)) (bitN (A 6) p) (pn A p) (σ 251) n = 0 := nq_ne (by omega) (by omega) c2
        refine V_iconst (v := nI 1) e_X4_kindsThatFit_41 (by decide) ?_
        refine V_iload e_X4_kindsThatFit_42 rfl ?_
        refine V_ishlN (z := nI (2 ^ (1 + k))) e_X4_kindsThatFit_44 (shl1 (by omega)) ?_
        refine V_goto (tgt := 49) e_X4_kindsThatFit_45 (by decide) ?_
        refine V_iorN (z := nI ((fitK (fun v => tld (setK A g v) (bitN (A 6) p) (pn A p) (σ 251) n) 1 k) ||| (2 ^ (1 + k)))) e_X4_kindsThatFit_49 (lorI _ _) ?_
        refine V_istore (L' := [some (.ref (eB E + 241)), some (.ref (eB E + 4)), some (.int (nI g)), some (.int (nI p)), some (.int (nI ((fitK (fun v => tld (setK A g v) (bitN (A 6) p) (pn A p) (σ 251) n) 1 k) ||| (2 ^ (1 + k))))), some (.int (nI (1 + k)))]) e_X4_kindsThatFit_50 rfl ?_
        refine V_iinc (v := nI (1 + k + 1)) (L' := [some (.ref (eB E + 241)), some (.ref (eB E + 4)), some (.int (nI g)), some (.int (nI p)), some (.int (nI ((fitK (fun v => tld (setK A g v) (bitN (A 6) p) (pn A p) (σ 251) n) 1 k) ||| (2 ^ (1 + k))))), some (.int (nI (1 + k + 1)))]) e_X4_kindsThatFit_52 rfl (nI_add _ 1) rfl ?_
        refine V_goto (tgt := 6) e_X4_kindsThatFit_55 (by decide) ?_
        rw [show (fitK (fun v => tld (setK A g v) (bitN (A 6) p) (pn A p) (σ 251) n) 1 k) ||| (2 ^ (1 + k)) = fitK (fun v => tld (setK A g v) (bitN (A 6) p) (pn A p) (σ 251) n) 1 (k + 1) from (by rw [fitK]; (try dsimp only); (first | rw [if_pos d2] | rw [if_neg d2] | skip))]; rw [show 1 + k + 1 = 1 + (k + 1) from by omega]; exact ih (5 - (k + 1)) (by omega) (k + 1) τ1 rfl (by omega) (hI.tr hf1)
set_option maxRecDepth 100000 in
set_option maxHeartbeats 4000000 in
theorem c_X4_kindsThatFit (E : En) (p g n : Nat) (A : Vec) (σ : Sg) (hR : RepC σ 4 A) (hF : WF A) (hn : σ 241 2 = nI n) (hn12 : n ≤ 12) (hp : p < A 1) (hg : g < A 0) : Cn E m_X4_kindsThatFit 7 [.ref (eB E + 241), .ref (eB E + 4), .int (nI g), .int (nI p)] σ (pI (fun σ' r => Fb 242 251 σ σ' ∧ r = nI (fitK (fun v => tld (setK A g v) (bitN (A 6) p) (pn A p) (σ 251) n) 1 5))) := by
  have h5 := hF.2.2.1
  obtain ⟨hG2, hG6, hA5, hA5p, h2a, h2b, h3a, h3b, hgs⟩ := id hF.1
  refine Cn.of [some (.ref (eB E + 241)), some (.ref (eB E + 4)), some (.int (nI g)), some (.int (nI p)), none, none] (by decide) (Nat.le_of_ble_eq_true rfl) rfl ?_
  refine V_iconst (v := nI 0) e_X4_kindsThatFit_0 (by decide) ?_
  refine V_istore (L' := [some (.ref (eB E + 241)), some (.ref (eB E + 4)), some (.int (nI g)), some (.int (nI p)), some (.int (nI 0)), none]) e_X4_kindsThatFit_1 rfl ?_
  refine V_iconst (v := nI 1) e_X4_kindsThatFit_3 (by decide) ?_
  refine V_istore (L' := [some (.ref (eB E + 241)), some (.ref (eB E + 4)), some (.int (nI g)), some (.int (nI p)), some (.int (nI 0)), some (.int (nI 1))]) e_X4_kindsThatFit_4 rfl ?_
  exact lp_X4_kindsThatFit E p g n A σ hR hF hn hn12 hp hg h5 hG2 hG6 5 0 σ rfl (by omega) Fb.rf
set_option maxRecDepth 100000 in
set_option maxHeartbeats 4000000 in
theorem lp_X4_facingsThatFit (E : En) (p g n : Nat) (A : Vec) (σ : Sg) (hR : RepC σ 4 A) (hF : WF A) (hn : σ 241 2 = nI n) (hn12 : n ≤ 12) (hp : p < A 1) (hg : g < A 0) (h5 : A 1 ≤ 5) (hG2 : 2 ≤ A 0) (hG6 : A 0 ≤ 6) : ∀ (mm : Nat) (k : Nat) (τ : Sg), 2 - k = mm → (k ≤ 2) → (Fb 242 251 σ τ) → V E m_X4_facingsThatFit (kM E 7 (pI (fun σ' r => Fb 242 251 σ σ' ∧ r = nI (fitK (fun v => tld (setF A g v) (bitN (A 6) p) (pn A p) (σ 251) n) 0 2)))) 6 [some (.ref (eB E + 241)), some (.ref (eB E + 4)), some (.int (nI g)), some (.int (nI p)), some (.int (nI (fitK (fun v => tld (setF A g v) (bitN (A 6) p) (pn A p) (σ 251) n) 0 k))), some (.int (nI k))] [] τ := by
  intro mm
  induction mm using Nat.strongRecOn with
  | ind mm ih =>
    intro k τ hmm hk hI
    refine V_iload e_X4_facingsThatFit_6 rfl ?_
    refine V_iconst (v := nI 1) e_X4_facingsThatFit_8 (by decide) ?_
    refine V_icmp_gt (tgt := 69) e_X4_facingsThatFit_9 (by decide) (fun c1 => ?_) (fun c1 => ?_)
    · have d1 : 1 < k := nq_lt (by omega) (by omega) c1
      refine V_iload e_X4_facingsThatFit_69 rfl ?_
      exact V_iret e_X4_facingsThatFit_71 rfl (⟨hI, by rw [show k = 2 by omega]⟩)
    · have d1 : ¬ 1 < k := nq_nlt (by omega) (by omega) c1
      refine V_aload_n e_X4_facingsThatFit_12 rfl rfl ?_
      refine V_getr (r := 242) e_X4_facingsThatFit_13 F_X4_trial f_X4_12 rfl rfl ?_
      refine V_aload_n e_X4_facingsThatFit_16 rfl rfl ?_
      have hRt := hR.fb h5 hI (by omega)
      have hz := TS.zero hG6 h5 hp hRt
      obtain ⟨F, hF2, e5, hFb⟩ := hRt.1.2.2.2.2.2.2.1
      refine V_cvVe (av := [.ref (eB E + 4)]) (st := []) e_X4_facingsThatFit_17 (c_X5_become E 242 4 τ rfl rfl (by decide)) l_X4_22 S_X5_become rfl (rm_ok (by decide) (by decide)) rfl rfl (Nat.le_of_ble_eq_true rfl) ?_
      refine V_aload_n e_X4_facingsThatFit_20 rfl rfl ?_
      refine V_getr (r := 242) e_X4_facingsThatFit_21 F_X4_trial f_X4_12 rfl rfl ?_
      refine V_aload_n e_X4_facingsThatFit_24 rfl rfl ?_
      refine V_getiv (v := nI F) e_X4_facingsThatFit_25 F_X5_facing f_X4_89 rfl (((bec_fb (n := 242) (m := 4) (σ := τ)) 4 5 (by omega)).trans e5) ?_
      refine V_iconst (v := nI 1) e_X4_facingsThatFit_28 (by decide) ?_
      refine V_iload_n e_X4_facingsThatFit_29 rfl rfl ?_
      refine V_ishlN (z := nI (2 ^ g)) e_X4_facingsThatFit_30 (shl1 (by first | omega | exact shz (by omega) (by omega))) ?_
      refine V_iconst (v := (-1)) e_X4_facingsThatFit_31 (by decide) ?_
      refine V_ixor e_X4_facingsThatFit_32 ?_
      refine V_iand e_X4_facingsThatFit_33 ?_
      refine V_topi (y := nI (bclr F g)) (clrI F hF2 g (by omega)) ?_
      refine V_iload e_X4_facingsThatFit_34 rfl ?_
      refine V_iload_n e_X4_facingsThatFit_36 rfl rfl ?_
      refine V_ishlN (z := nI (k * 2 ^ g)) e_X4_facingsThatFit_37 (shlN (by first | omega | exact shz (by omega) (by omega))) ?_
      refine V_iorN (z := nI ((bclr F g) ||| (k * 2 ^ g))) e_X4_facingsThatFit_38 (lorI _ _) ?_
      refine V_puti e_X4_facingsThatFit_39 F_X5_facing f_X4_89 rfl ?_
      refine V_iload e_X4_facingsThatFit_42 rfl ?_
      refine V_aload_n e_X4_facingsThatFit_44 rfl rfl ?_
      refine V_iload_n e_X4_facingsThatFit_45 rfl rfl ?_
      have hfb := faceB F hF2 g (by omega) k (by omega)
      have hz2 := hz.env (B := setF A g k) (a := 242) (k := 5) (by omega) (by omega) (hz.2.1.face hfb.1 (fun j hj => by rw [hfb.2 j (by omega), hFb j hj]))
      have hfz := hz2.1
      have hnz : up2 (bec 242 4 τ) 242 5 (nI ((bclr F g) ||| (k * 2 ^ g))) 241 2 = nI n := (hfz 241 2 (by omega)).trans ((hI 241 2 (by omega)).trans hn)
      have hdz : up2 (bec 242 4 τ) 242 5 (nI ((bclr F g) ||| (k * 2 ^ g))) 251 = σ 251 := by funext j; exact (hfz 251 j (by omega)).trans (hI 251 j (by omega))
      refine V_cvI (av := [.int (nI p)]) (st := [.int (nI (fitK (fun v => tld (setF A g v) (bitN (A 6) p) (pn A p) (σ 251) n) 0 k))]) e_X4_facingsThatFit_46 (c_X4_isAsTold E p n (bitN (A 6) p) (setF A g k) (pn A p) (up2 (bec 242 4 τ) 242 5 (nI ((bclr F g) ||| (k * 2 ^ g)))) hz2.2.1 hz2.2.2.1 hz2.2.2.2 (setF_WE hF.1 (by omega)) ((hF.2.2.2.2.2 p hp).env (if_neg (by omega))) (bitN_le _ _) (by omega) (hnz) hn12) l_X4_85 S_X4_isAsTold rfl (rm_ok (by decide) (by decide)) rfl rfl (Nat.le_of_ble_eq_true rfl) ?_
      rw [hdz]
      intro τ1 r hh
      obtain ⟨hf0, rfl⟩ := hh
      have hf1 : Fb 242 251 τ τ1 := hfz.tr hf0
      have htl := tld_le (setF A g k) (bitN (A 6) p) (pn A p) (σ 251) n
      refine V_if_eq (tgt := 59) e_X4_facingsThatFit_49 (by decide) (fun c2 => ?_) (fun c2 => ?_)
      · have d2 : tld (setF A g k) (bitN (A 6) p) (pn A p) (σ 251) n = 0 := nq_eq (by omega) (by omega) c2
        refine V_iconst (v := nI 0) e_X4_facingsThatFit_59 (by decide) ?_
        refine V_iorN (z := nI ((fitK (fun v => tld (setF A g v) (bitN (A 6) p) (pn A p) (σ 251) n) 0 k) ||| 0)) e_X4_facingsThatFit_60 (lorI _ _) ?_
        refine V_istore (L' := [some (.ref (eB E + 241)), some (.ref (eB E + 4)), some (.int (nI g)), some (.int (nI p)), some (.int (nI ((fitK (fun v => tld (setF A g v) (bitN (A 6) p) (pn A p) (σ 251) n) 0 k) ||| 0))), some (.int (nI k))]) e_X4_facingsThatFit_61 rfl ?_
        refine V_iinc (v := nI (k + 1)) (L' := [some (.ref (eB E + 241)), some (.ref (eB E + 4)), some (.int (nI g)), some (.int (nI p)), some (.int (nI ((fitK (fun v => tld (setF A g v) (bitN (A 6) p) (pn A p) (σ 251) n) 0 k) ||| 0))), some (.int (nI (k + 1)))]) e_X4_facingsThatFit_63 rfl (nI_add _ 1) rfl ?_
        refine V_goto (tgt := 6) e_X4_facingsThatFit_66 (by decide) ?_
        rw [show (fitK (fun v => tld (setF A g v) (bitN (A 6) p) (pn A p) (σ 251) n) 0 k) ||| 0 = fitK (fun v => tld (setF A g v) (bitN (A 6) p) (pn A p) (σ 251) n) 0 (k + 1) from (by rw [fitK]; (try dsimp only); rw [Nat.zero_add]; (first | rw [if_pos d2] | rw [if_neg d2] | skip))]; exact ih (2 - (k + 1)) (by omega) (k + 1) τ1 rfl (by omega) (hI.tr hf1)
      · have d2 : ¬ tld (setF A g k) (bitN (A 6) p) (pn A p) (σ 251) n = 0 := nq_ne (by omega) (by omega) c2
        refine V_iconst (v := nI 1) e_X4_facingsThatFit_52 (by decide) ?_
        refine V_iload e_X4_facingsThatFit_53 rfl ?_
        refine V_ishlN (z := nI (2 ^ k)) e_X4_facingsThatFit_55 (shl1 (by first | omega | exact shz (by omega) (by omega))) ?_
        refine V_goto (tgt := 60) e_X4_facingsThatFit_56 (by decide) ?_
        refine V_iorN (z := nI ((fitK (fun v => tld (setF A g v) (bitN (A 6) p) (pn A p) (σ 251) n) 0 k) ||| (2 ^ k))) e_X4_facingsThatFit_60 (lorI _ _) ?_
        refine V_istore (L' := [some (.ref (eB E + 241)), some (.ref (eB E + 4)), some (.int (nI g)), some (.int (nI p)), some (.int (nI ((fitK (fun v => tld (setF A g v) (bitN (A 6) p) (pn A p) (σ 251) n) 0 k) ||| (2 ^ k)))), some (.int (nI k))]) e_X4_facingsThatFit_61 rfl ?_
        refine V_iinc (v := nI (k + 1)) (L' := [some (.ref (eB E + 241)), some (.ref (eB E + 4)), some (.int (nI g)), some (.int (nI p)), some (.int (nI ((fitK (fun v => tld (setF A g v) (bitN (A 6) p) (pn A p) (σ 251) n) 0 k) ||| (2 ^ k)))), some (.int (nI (k + 1)))]) e_X4_facingsThatFit_63 rfl (nI_add _ 1) rfl ?_
        refine V_goto (tgt := 6) e_X4_facingsThatFit_66 (by decide) ?_
        rw [show (fitK (fun v => tld (setF A g v) (bitN (A 6) p) (pn A p) (σ 251) n) 0 k) ||| (2 ^ k) = fitK (fun v => tld (setF A g v) (bitN (A 6) p) (pn A p) (σ 251) n) 0 (k + 1) from (by rw [fitK]; (try dsimp only); rw [Nat.zero_add]; (first | rw [if_pos d2] | rw [if_neg d2] | skip))]; exact ih (2 - (k + 1)) (by omega) (k + 1) τ1 rfl (by omega) (hI.tr hf1)
set_option maxRecDepth 100000 in
set_option maxHeartbeats 4000000 in
theorem c_X4_facingsThatFit (E : En) (p g n : Nat) (A : Vec) (σ : Sg) (hR : RepC σ 4 A) (hF : WF A) (hn : σ 241 2 = nI n) (hn12 : n ≤ 12) (hp : p < A 1) (hg : g < A 0) : Cn E m_X4_facingsThatFit 7 [.ref (eB E + 241), .ref (eB E + 4), .int (nI g), .int (nI p)] σ (pI (fun σ' r => Fb 242 251 σ σ' ∧ r = nI (fitK (fun v => tld (setF A g v) (bitN (A 6) p) (pn A p) (σ 251) n) 0 2))) := by
  have h5 := hF.2.2.1
  obtain ⟨hG2, hG6, hA5, hA5p, h2a, h2b, h3a, h3b, hgs⟩ := id hF.1
  refine Cn.of [some (.ref (eB E + 241)), some (.ref (eB E + 4)), some (.int (nI g)), some (.int (nI p)), none, none] (by decide) (Nat.le_of_ble_eq_true rfl) rfl ?_
  refine V_iconst (v := nI 0) e_X4_facingsThatFit_0 (by decide) ?_
  refine V_istore (L' := [some (.ref (eB E + 241)), some (.ref (eB E + 4)), some (.int (nI g)), some (.int (nI p)), some (.int (nI 0)), none]) e_X4_facingsThatFit_1 rfl ?_
  refine V_iconst (v := nI 0) e_X4_facingsThatFit_3 (by decide) ?_
  refine V_istore (L' := [some (.ref (eB E + 241)), some (.ref (eB E + 4)), some (.int (nI g)), some (.int (nI p)), some (.int (nI 0)), some (.int (nI 0))]) e_X4_facingsThatFit_4 rfl ?_
  exact lp_X4_facingsThatFit E p g n A σ hR hF hn hn12 hp hg h5 hG2 hG6 2 0 σ rfl (by omega) Fb.rf
set_option maxRecDepth 100000 in
set_option maxHeartbeats 4000000 in
theorem lp_X4_headingsThatFit (E : En) (p n : Nat) (A : Vec) (σ : Sg) (hR : RepC σ 4 A) (hF : WF A) (hn : σ 241 2 = nI n) (hn12 : n ≤ 12) (hp : p < A 1) (h5 : A 1 ≤ 5) (hG2 : 2 ≤ A 0) (hG6 : A 0 ≤ 6) : ∀ (mm : Nat) (k : Nat) (τ : Sg), 2 - k = mm → (k ≤ 2) → (Fb 242 251 σ τ) → V E m_X4_headingsThatFit (kM E 7 (pI (fun σ' r => Fb 242 251 σ σ' ∧ r = nI (fitK (fun v => tld A (bitN (A 6) p) (setHd (pn A p) v) (σ 251) n) 0 2)))) 5 [some (.ref (eB E + 241)), some (.ref (eB E + 4)), some (.int (nI p)), some (.int (nI (fitK (fun v => tld A (bitN (A 6) p) (setHd (pn A p) v) (σ 251) n) 0 k))), some (.int (nI k))] [] τ := by
  intro mm
  induction mm using Nat.strongRecOn with
  | ind mm ih =>
    intro k τ hmm hk hI
    refine V_iload e_X4_headingsThatFit_5 rfl ?_
    refine V_iconst (v := nI 1) e_X4_headingsThatFit_7 (by decide) ?_
    refine V_icmp_gt (tgt := 58) e_X4_headingsThatFit_8 (by decide) (fun c1 => ?_) (fun c1 => ?_)
    · have d1 : 1 < k := nq_lt (by omega) (by omega) c1
      refine V_iload_n e_X4_headingsThatFit_58 rfl rfl ?_
      exact V_iret e_X4_headingsThatFit_59 rfl (⟨hI, by rw [show k = 2 by omega]⟩)
    · have d1 : ¬ 1 < k := nq_nlt (by omega) (by omega) c1
      refine V_aload_n e_X4_headingsThatFit_11 rfl rfl ?_
      refine V_getr (r := 242) e_X4_headingsThatFit_12 F_X4_trial f_X4_12 rfl rfl ?_
      refine V_aload_n e_X4_headingsThatFit_15 rfl rfl ?_
      have hRt := hR.fb h5 hI (by omega)
      have hz := TS.zero hG6 h5 hp hRt
      refine V_cvVe (av := [.ref (eB E + 4)]) (st := []) e_X4_headingsThatFit_16 (c_X5_become E 242 4 τ rfl rfl (by decide)) l_X4_22 S_X5_become rfl (rm_ok (by decide) (by decide)) rfl rfl (Nat.le_of_ble_eq_true rfl) ?_
      refine V_aload_n e_X4_headingsThatFit_19 rfl rfl ?_
      refine V_getr (r := 242) e_X4_headingsThatFit_20 F_X4_trial f_X4_12 rfl rfl ?_
      refine V_getr (r := 245) e_X4_headingsThatFit_23 F_X5_walkers f_X4_26 rfl rfl ?_
      refine V_iload_n e_X4_headingsThatFit_26 rfl rfl ?_
      refine V_aald (j := p) (r := 246 + p) e_X4_headingsThatFit_27 (by decide) (by decide) rfl (by have q : ln 245 = 5 := rfl; omega) rfl ?_
      refine V_iload e_X4_headingsThatFit_28 rfl ?_
      refine V_puti e_X4_headingsThatFit_30 F_X7_heading f_X4_92 (kd_wk245 p (by have q : ln 245 = 5 := rfl; omega)) ?_
      refine V_iload_n e_X4_headingsThatFit_33 rfl rfl ?_
      refine V_aload_n e_X4_headingsThatFit_34 rfl rfl ?_
      refine V_iload_n e_X4_headingsThatFit_35 rfl rfl ?_
      have hwp := hF.2.2.2.2.2 p hp
      have hz2 : TS τ (up2 (bec 242 4 τ) (246 + p) 2 (nI k)) A p (bitN (A 6) p) (setHd (pn A p) k) := ⟨hz.1.up (by omega) (by omega), hz.2.1.wk (by omega) (by omega) (by omega) (by omega), hz.2.2.1.hd, by rw [up2_k (by decide)]; exact hz.2.2.2⟩
      have hfz := hz2.1
      have hnz : up2 (bec 242 4 τ) (246 + p) 2 (nI k) 241 2 = nI n := (hfz 241 2 (by omega)).trans ((hI 241 2 (by omega)).trans hn)
      have hdz : up2 (bec 242 4 τ) (246 + p) 2 (nI k) 251 = σ 251 := by funext j; exact (hfz 251 j (by omega)).trans (hI 251 j (by omega))
      refine V_cvI (av := [.int (nI p)]) (st := [.int (nI (fitK (fun v => tld A (bitN (A 6) p) (setHd (pn A p) v) (σ 251) n) 0 k))]) e_X4_headingsThatFit_36 (c_X4_isAsTold E p n (bitN (A 6) p) A (setHd (pn A p) k) (up2 (bec 242 4 τ) (246 + p) 2 (nI k)) hz2.2.1 hz2.2.2.1 hz2.2.2.2 hF.1 ⟨hwp.1, hwp.2.1, hwp.2.2.1, (by show k ≤ 1; omega), hwp.2.2.2.2⟩ (bitN_le _ _) (by omega) (hnz) hn12) l_X4_85 S_X4_isAsTold rfl (rm_ok (by decide) (by decide)) rfl rfl (Nat.le_of_ble_eq_true rfl) ?_
      rw [hdz]
      intro τ1 r hh
      obtain ⟨hf0, rfl⟩ := hh
      have hf1 : Fb 242 251 τ τ1 := hfz.tr hf0
      have htl := tld_le A (bitN (A 6) p) (setHd (pn A p) k) (σ 251) n
      refine V_if_eq (tgt := 49) e_X4_headingsThatFit_39 (by decide) (fun c2 => ?_) (fun c2 => ?_)
      · have d2 : tld A (bitN (A 6) p) (setHd (pn A p) k) (σ 251) n = 0 := nq_eq (by omega) (by omega) c2
        refine V_iconst (v := nI 0) e_X4_headingsThatFit_49 (by decide) ?_
        refine V_iorN (z := nI ((fitK (fun v => tld A (bitN (A 6) p) (setHd (pn A p) v) (σ 251) n) 0 k) ||| 0)) e_X4_headingsThatFit_50 (lorI _ _) ?_
        refine V_istore_n (L' := [some (.ref (eB E + 241)), some (.ref (eB E + 4)), some (.int (nI p)), some (.int (nI ((fitK (fun v => tld A (bitN (A 6) p) (setHd (pn A p) v) (σ 251) n) 0 k) ||| 0))), some (.int (nI k))]) e_X4_headingsThatFit_51 rfl rfl ?_
        refine V_iinc (v := nI (k + 1)) (L' := [some (.ref (eB E + 241)), some (.ref (eB E + 4)), some (.int (nI p)), some (.int (nI ((fitK (fun v => tld A (bitN (A 6) p) (setHd (pn A p) v) (σ 251) n) 0 k) ||| 0))), some (.int (nI (k + 1)))]) e_X4_headingsThatFit_52 rfl (nI_add _ 1) rfl ?_
        refine V_goto (tgt := 5) e_X4_headingsThatFit_55 (by decide) ?_
        rw [show (fitK (fun v => tld A (bitN (A 6) p) (setHd (pn A p) v) (σ 251) n) 0 k) ||| 0 = fitK (fun v => tld A (bitN (A 6) p) (setHd (pn A p) v) (σ 251) n) 0 (k + 1) from (by rw [fitK]; (try dsimp only); rw [Nat.zero_add]; (first | rw [if_pos d2] | rw [if_neg d2] | skip))]; exact ih (2 - (k + 1)) (by omega) (k + 1) τ1 rfl (by omega) (hI.tr hf1)
      · have d2 : ¬ tld A (bitN (A 6) p) (setHd (pn A p) k) (σ 251) n = 0 := nq_ne (by omega) (by omega) c2
        refine V_iconst (v := nI 1) e_X4_headingsThatFit_42 (by decide) ?_
        refine V_iload e_X4_headingsThatFit_43 rfl ?_
        refine V_ishlN (z := nI (2 ^ k)) e_X4_headingsThatFit_45 (shl1 (by omega)) ?_
        refine V_goto (tgt := 50) e_X4_headingsThatFit_46 (by decide) ?_
        refine V_iorN (z := nI ((fitK (fun v => tld A (bitN (A 6) p) (setHd (pn A p) v) (σ 251) n) 0 k) ||| (2 ^ k))) e_X4_headingsThatFit_50 (lorI _ _) ?_
        refine V_istore_n (L' := [some (.ref (eB E + 241)), some (.ref (eB E + 4)), some (.int (nI p)), some (.int (nI ((fitK (fun v => tld A (bitN (A 6) p) (setHd (pn A p) v) (σ 251) n) 0 k) ||| (2 ^ k)))), some (.int (nI k))]) e_X4_headingsThatFit_51 rfl rfl ?_
        refine V_iinc (v := nI (k + 1)) (L' := [some (.ref (eB E + 241)), some (.ref (eB E + 4)), some (.int (nI p)), some (.int (nI ((fitK (fun v => tld A (bitN (A 6) p) (setHd (pn A p) v) (σ 251) n) 0 k) ||| (2 ^ k)))), some (.int (nI (k + 1)))]) e_X4_headingsThatFit_52 rfl (nI_add _ 1) rfl ?_
        refine V_goto (tgt := 5) e_X4_headingsThatFit_55 (by decide) ?_
        rw [show (fitK (fun v => tld A (bitN (A 6) p) (setHd (pn A p) v) (σ 251) n) 0 k) ||| (2 ^ k) = fitK (fun v => tld A (bitN (A 6) p) (setHd (pn A p) v) (σ 251) n) 0 (k + 1) from (by rw [fitK]; (try dsimp only); rw [Nat.zero_add]; (first | rw [if_pos d2] | rw [if_neg d2] | skip))]; exact ih (2 - (k + 1)) (by omega) (k + 1) τ1 rfl (by omega) (hI.tr hf1)
set_option maxRecDepth 100000 in
set_option maxHeartbeats 4000000 in
theorem c_X4_headingsThatFit (E : En) (p n : Nat) (A : Vec) (σ : Sg) (hR : RepC σ 4 A) (hF : WF A) (hn : σ 241 2 = nI n) (hn12 : n ≤ 12) (hp : p < A 1) : Cn E m_X4_headingsThatFit 7 [.ref (eB E + 241), .ref (eB E + 4), .int (nI p)] σ (pI (fun σ' r => Fb 242 251 σ σ' ∧ r = nI (fitK (fun v => tld A (bitN (A 6) p) (setHd (pn A p) v) (σ 251) n) 0 2))) := by
  have h5 := hF.2.2.1
  obtain ⟨hG2, hG6, hA5, hA5p, h2a, h2b, h3a, h3b, hgs⟩ := id hF.1
  refine Cn.of [some (.ref (eB E + 241)), some (.ref (eB E + 4)), some (.int (nI p)), none, none] (by decide) (Nat.le_of_ble_eq_true rfl) rfl ?_
  refine V_iconst (v := nI 0) e_X4_headingsThatFit_0 (by decide) ?_
  refine V_istore_n (L' := [some (.ref (eB E + 241)), some (.ref (eB E + 4)), some (.int (nI p)), some (.int (nI 0)), none]) e_X4_headingsThatFit_1 rfl rfl ?_
  refine V_iconst (v := nI 0) e_X4_headingsThatFit_2 (by decide) ?_
  refine V_istore (L' := [some (.ref (eB E + 241)), some (.ref (eB E + 4)), some (.int (nI p)), some (.int (nI 0)), some (.int (nI 0))]) e_X4_headingsThatFit_3 rfl ?_
  exact lp_X4_headingsThatFit E p n A σ hR hF hn hn12 hp h5 hG2 hG6 2 0 σ rfl (by omega) Fb.rf
set_option maxRecDepth 100000 in
set_option maxHeartbeats 4000000 in
theorem lp_X4_fishesThatFit (E : En) (p n : Nat) (A : Vec) (σ : Sg) (hR : RepC σ 4 A) (hF : WF A) (hn : σ 241 2 = nI n) (hn12 : n ≤ 12) (hp : p < A 1) (h5 : A 1 ≤ 5) (hG2 : 2 ≤ A 0) (hG6 : A 0 ≤ 6) : ∀ (mm : Nat) (k : Nat) (τ : Sg), 31 - k = mm → (k ≤ 31) → (Fb 242 251 σ τ) → V E m_X4_fishesThatFit (kM E 7 (pI (fun σ' r => Fb 242 251 σ σ' ∧ r = nI (fitK (fun v => tld A (bitN (A 6) p) (setFi (pn A p) v) (σ 251) n) 0 31)))) 5 [some (.ref (eB E + 241)), some (.ref (eB E + 4)), some (.int (nI p)), some (.int (nI (fitK (fun v => tld A (bitN (A 6) p) (setFi (pn A p) v) (σ 251) n) 0 k))), some (.int (nI k))] [] τ := by
  intro mm
  induction mm using Nat.strongRecOn with
  | ind mm ih =>
    intro k τ hmm hk hI
    refine V_iload e_X4_fishesThatFit_5 rfl ?_
    refine V_bipush (v := nI 30) e_X4_fishesThatFit_7 (by decide) ?_
    refine V_icmp_gt (tgt := 59) e_X4_fishesThatFit_9 (by decide) (fun c1 => ?_) (fun c1 => ?_)
    · have d1 : 30 < k := nq_lt (by omega) (by omega) c1
      refine V_iload_n e_X4_fishesThatFit_59 rfl rfl ?_
      exact V_iret e_X4_fishesThatFit_60 rfl (⟨hI, by rw [show k = 31 by omega]⟩)
    · have d1 : ¬ 30 < k := nq_nlt (by omega) (by omega) c1
      refine V_aload_n e_X4_fishesThatFit_12 rfl rfl ?_
      refine V_getr (r := 242) e_X4_fishesThatFit_13 F_X4_trial f_X4_12 rfl rfl ?_
      refine V_aload_n e_X4_fishesThatFit_16 rfl rfl ?_
      have hRt := hR.fb h5 hI (by omega)
      have hz := TS.zero hG6 h5 hp hRt
      refine V_cvVe (av := [.ref (eB E + 4)]) (st := []) e_X4_fishesThatFit_17 (c_X5_become E 242 4 τ rfl rfl (by decide)) l_X4_22 S_X5_become rfl (rm_ok (by decide) (by decide)) rfl rfl (Nat.le_of_ble_eq_true rfl) ?_
      refine V_aload_n e_X4_fishesThatFit_20 rfl rfl ?_
      refine V_getr (r := 242) e_X4_fishesThatFit_21 F_X4_trial f_X4_12 rfl rfl ?_
      refine V_getr (r := 245) e_X4_fishesThatFit_24 F_X5_walkers f_X4_26 rfl rfl ?_
      refine V_iload_n e_X4_fishesThatFit_27 rfl rfl ?_
      refine V_aald (j := p) (r := 246 + p) e_X4_fishesThatFit_28 (by decide) (by decide) rfl (by have q : ln 245 = 5 := rfl; omega) rfl ?_
      refine V_iload e_X4_fishesThatFit_29 rfl ?_
      refine V_puti e_X4_fishesThatFit_31 F_X7_fish f_X4_95 (kd_wk245 p (by have q : ln 245 = 5 := rfl; omega)) ?_
      refine V_iload_n e_X4_fishesThatFit_34 rfl rfl ?_
      refine V_aload_n e_X4_fishesThatFit_35 rfl rfl ?_
      refine V_iload_n e_X4_fishesThatFit_36 rfl rfl ?_
      have hwp := hF.2.2.2.2.2 p hp
      have hz2 : TS τ (up2 (bec 242 4 τ) (246 + p) 3 (nI k)) A p (bitN (A 6) p) (setFi (pn A p) k) := ⟨hz.1.up (by omega) (by omega), hz.2.1.wk (by omega) (by omega) (by omega) (by omega), hz.2.2.1.fi, by rw [up2_k (by decide)]; exact hz.2.2.2⟩
      have hfz := hz2.1
      have hnz : up2 (bec 242 4 τ) (246 + p) 3 (nI k) 241 2 = nI n := (hfz 241 2 (by omega)).trans ((hI 241 2 (by omega)).trans hn)
      have hdz : up2 (bec 242 4 τ) (246 + p) 3 (nI k) 251 = σ 251 := by funext j; exact (hfz 251 j (by omega)).trans (hI 251 j (by omega))
      refine V_cvI (av := [.int (nI p)]) (st := [.int (nI (fitK (fun v => tld A (bitN (A 6) p) (setFi (pn A p) v) (σ 251) n) 0 k))]) e_X4_fishesThatFit_37 (c_X4_isAsTold E p n (bitN (A 6) p) A (setFi (pn A p) k) (up2 (bec 242 4 τ) (246 + p) 3 (nI k)) hz2.2.1 hz2.2.2.1 hz2.2.2.2 hF.1 ⟨hwp.1, hwp.2.1, hwp.2.2.1, hwp.2.2.2.1, (by show k ≤ 99; omega)⟩ (bitN_le _ _) (by omega) (hnz) hn12) l_X4_85 S_X4_isAsTold rfl (rm_ok (by decide) (by decide)) rfl rfl (Nat.le_of_ble_eq_true rfl) ?_
      rw [hdz]
      intro τ1 r hh
      obtain ⟨hf0, rfl⟩ := hh
      have hf1 : Fb 242 251 τ τ1 := hfz.tr hf0
      have htl := tld_le A (bitN (A 6) p) (setFi (pn A p) k) (σ 251) n
      refine V_if_eq (tgt := 50) e_X4_fishesThatFit_40 (by decide) (fun c2 => ?_) (fun c2 => ?_)
      · have d2 : tld A (bitN (A 6) p) (setFi (pn A p) k) (σ 251) n = 0 := nq_eq (by omega) (by omega) c2
        refine V_iconst (v := nI 0) e_X4_fishesThatFit_50 (by decide) ?_
        refine V_iorN (z := nI ((fitK (fun v => tld A (bitN (A 6) p) (setFi (pn A p) v) (σ 251) n) 0 k) ||| 0)) e_X4_fishesThatFit_51 (lorI _ _) ?_
        refine V_istore_n (L' := [some (.ref (eB E + 241)), some (.ref (eB E + 4)), some (.int (nI p)), some (.int (nI ((fitK (fun v => tld A (bitN (A 6) p) (setFi (pn A p) v) (σ 251) n) 0 k) ||| 0))), some (.int (nI k))]) e_X4_fishesThatFit_52 rfl rfl ?_
        refine V_iinc (v := nI (k + 1)) (L' := [some (.ref (eB E + 241)), some (.ref (eB E + 4)), some (.int (nI p)), some (.int (nI ((fitK (fun v => tld A (bitN (A 6) p) (setFi (pn A p) v) (σ 251) n) 0 k) ||| 0))), some (.int (nI (k + 1)))]) e_X4_fishesThatFit_53 rfl (nI_add _ 1) rfl ?_
        refine V_goto (tgt := 5) e_X4_fishesThatFit_56 (by decide) ?_
        rw [show (fitK (fun v => tld A (bitN (A 6) p) (setFi (pn A p) v) (σ 251) n) 0 k) ||| 0 = fitK (fun v => tld A (bitN (A 6) p) (setFi (pn A p) v) (σ 251) n) 0 (k + 1) from (by rw [fitK]; (try dsimp only); rw [Nat.zero_add]; (first | rw [if_pos d2] | rw [if_neg d2] | skip))]; exact ih (31 - (k + 1)) (by omega) (k + 1) τ1 rfl (by omega) (hI.tr hf1)
      · have d2 : ¬ tld A (bitN (A 6) p) (setFi (pn A p) k) (σ 251) n = 0 := nq_ne (by omega) (by omega) c2
        refine V_iconst (v := nI 1) e_X4_fishesThatFit_43 (by decide) ?_
        refine V_iload e_X4_fishesThatFit_44 rfl ?_
        refine V_ishlN (z := nI (2 ^ k)) e_X4_fishesThatFit_46 (shl1 (by omega)) ?_
        refine V_goto (tgt := 51) e_X4_fishesThatFit_47 (by decide) ?_
        refine V_iorN (z := nI ((fitK (fun v => tld A (bitN (A 6) p) (setFi (pn A p) v) (σ 251) n) 0 k) ||| (2 ^ k))) e_X4_fishesThatFit_51 (lorI _ _) ?_
        refine V_istore_n (L' := [some (.ref (eB E + 241)), some (.ref (eB E + 4)), some (.int (nI p)), some (.int (nI ((fitK (fun v => tld A (bitN (A 6) p) (setFi (pn A p) v) (σ 251) n) 0 k) ||| (2 ^ k)))), some (.int (nI k))]) e_X4_fishesThatFit_52 rfl rfl ?_
        refine V_iinc (v := nI (k + 1)) (L' := [some (.ref (eB E + 241)), some (.ref (eB E + 4)), some (.int (nI p)), some (.int (nI ((fitK (fun v => tld A (bitN (A 6) p) (setFi (pn A p) v) (σ 251) n) 0 k) ||| (2 ^ k)))), some (.int (nI (k + 1)))]) e_X4_fishesThatFit_53 rfl (nI_add _ 1) rfl ?_
        refine V_goto (tgt := 5) e_X4_fishesThatFit_56 (by decide) ?_
        rw [show (fitK (fun v => tld A (bitN (A 6) p) (setFi (pn A p) v) (σ 251) n) 0 k) ||| (2 ^ k) = fitK (fun v => tld A (bitN (A 6) p) (setFi (pn A p) v) (σ 251) n) 0 (k + 1) from (by rw [fitK]; (try dsimp only); rw [Nat.zero_add]; (first | rw [if_pos d2] | rw [if_neg d2] | skip))]; exact ih (31 - (k + 1)) (by omega) (k + 1) τ1 rfl (by omega) (hI.tr hf1)
set_option maxRecDepth 100000 in
set_option maxHeartbeats 4000000 in
theorem c_X4_fishesThatFit (E : En) (p n : Nat) (A : Vec) (σ : Sg) (hR : RepC σ 4 A) (hF : WF A) (hn : σ 241 2 = nI n) (hn12 : n ≤ 12) (hp : p < A 1) : Cn E m_X4_fishesThatFit 7 [.ref (eB E + 241), .ref (eB E + 4), .int (nI p)] σ (pI (fun σ' r => Fb 242 251 σ σ' ∧ r = nI (fitK (fun v => tld A (bitN (A 6) p) (setFi (pn A p) v) (σ 251) n) 0 31))) := by
  have h5 := hF.2.2.1
  obtain ⟨hG2, hG6, hA5, hA5p, h2a, h2b, h3a, h3b, hgs⟩ := id hF.1
  refine Cn.of [some (.ref (eB E + 241)), some (.ref (eB E + 4)), some (.int (nI p)), none, none] (by decide) (Nat.le_of_ble_eq_true rfl) rfl ?_
  refine V_iconst (v := nI 0) e_X4_fishesThatFit_0 (by decide) ?_
  refine V_istore_n (L' := [some (.ref (eB E + 241)), some (.ref (eB E + 4)), some (.int (nI p)), some (.int (nI 0)), none]) e_X4_fishesThatFit_1 rfl rfl ?_
  refine V_iconst (v := nI 0) e_X4_fishesThatFit_2 (by decide) ?_
  refine V_istore (L' := [some (.ref (eB E + 241)), some (.ref (eB E + 4)), some (.int (nI p)), some (.int (nI 0)), some (.int (nI 0))]) e_X4_fishesThatFit_3 rfl ?_
  exact lp_X4_fishesThatFit E p n A σ hR hF hn hn12 hp h5 hG2 hG6 31 0 σ rfl (by omega) Fb.rf

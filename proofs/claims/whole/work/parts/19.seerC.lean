theorem cdv_lt {B : Nat} : ∀ (k a b : Nat), a < B → b < B → cdv k a b < B
  | 0, a, b, ha, _ => ha
  | k + 1, a, b, ha, hb => by
    unfold cdv
    split
    · exact ha
    · exact cdv_lt k b (a % b) hb (Nat.lt_trans (Nat.mod_lt _ (by omega)) hb)
set_option maxRecDepth 100000 in
set_option maxHeartbeats 4000000 in
theorem lp_X4_fallsThatFit (E : En) (p n : Nat) (A : Vec) (σ : Sg) (hR : RepC σ 4 A) (hF : WF A) (hn : σ 241 2 = nI n) (hn12 : n ≤ 12) (hp : p < A 1) (h5 : A 1 ≤ 5) (hG2 : 2 ≤ A 0) (hG6 : A 0 ≤ 6) (hA5 : A 5 < 64) : ∀ (mm : Nat) (g : Nat) (τ : Sg), A 0 - g = mm → (g ≤ A 0) → (Fb 242 251 σ τ) → V E m_X4_fallsThatFit (kM E 7 (pI (fun σ' r => Fb 242 251 σ σ' ∧ r = nI (ffS A (tld A (bitN (A 6) p) (pn A p) (σ 251) n) (fun g => tld (fallV A (2 ^ g)) (bitN (A 6) p) (pn A p) (σ 251) n) (A 0))))) 26 [some (.ref (eB E + 241)), some (.ref (eB E + 4)), some (.int (nI p)), some (.int (nI (ffS A (tld A (bitN (A 6) p) (pn A p) (σ 251) n) (fun g => tld (fallV A (2 ^ g)) (bitN (A 6) p) (pn A p) (σ 251) n) g))), some (.int (nI g))] [] τ := by
  intro mm
  induction mm using Nat.strongRecOn with
  | ind mm ih =>
    intro g τ hmm hg hI
    have hRt := hR.fb h5 hI (by omega)
    have hz := TS.zero hG6 h5 hp hRt
    have hz2 := hz.env (B := fallV A (2 ^ g)) (a := 242) (k := 6) (by omega) (by omega) (hz.2.1.fall (s := 2 ^ g))
    refine V_iload e_X4_fallsThatFit_26 rfl ?_
    refine V_aload_n e_X4_fallsThatFit_28 rfl rfl ?_
    refine V_getiv (v := nI (A 0)) e_X4_fallsThatFit_29 F_X5_gates f_X4_51 rfl hRt.1.2.2.2.1 ?_
    refine V_icmp_ge (tgt := 96) e_X4_fallsThatFit_32 (by decide) (fun c1 => ?_) (fun c1 => ?_)
    · have d1 : A 0 ≤ g := nq_le (by omega) (by omega) c1
      refine V_iload_n e_X4_fallsThatFit_96 rfl rfl ?_
      exact V_iret e_X4_fallsThatFit_97 rfl (⟨hI, by rw [show A 0 = g by omega]⟩)
    · have d1 : ¬ A 0 ≤ g := nq_nle (by omega) (by omega) c1
      refine V_aload_n e_X4_fallsThatFit_35 rfl rfl ?_
      refine V_getr (r := 242) e_X4_fallsThatFit_36 F_X4_trial f_X4_12 rfl rfl ?_
      refine V_aload_n e_X4_fallsThatFit_39 rfl rfl ?_
      refine V_cvVe (av := [.ref (eB E + 4)]) (st := []) e_X4_fallsThatFit_40 (c_X5_become E 242 4 τ rfl rfl (by decide)) l_X4_22 S_X5_become rfl (rm_ok (by decide) (by decide)) rfl rfl (Nat.le_of_ble_eq_true rfl) ?_
      refine V_aload_n e_X4_fallsThatFit_43 rfl rfl ?_
      refine V_getr (r := 242) e_X4_fallsThatFit_44 F_X4_trial f_X4_12 rfl rfl ?_
      refine V_dup e_X4_fallsThatFit_47 rfl ?_
      refine V_getiv (v := nI (A 5)) e_X4_fallsThatFit_48 F_X5_fallen f_X4_62 rfl hz.2.1.2.2.2.2.2.1 ?_
      refine V_iconst (v := nI 1) e_X4_fallsThatFit_51 (by decide) ?_
      refine V_iload e_X4_fallsThatFit_52 rfl ?_
      refine V_ishlN (z := nI (2 ^ g)) e_X4_fallsThatFit_54 (shl1 (by omega)) ?_
      refine V_iorN (z := nI ((A 5) ||| (2 ^ g))) e_X4_fallsThatFit_55 (lorI _ _) ?_
      refine V_puti e_X4_fallsThatFit_56 F_X5_fallen f_X4_62 rfl ?_
      have hb5 := bitN_le (A 5) g
      have h2g : 2 ^ g < 2 ^ A 0 := Nat.pow_lt_pow_right (by omega) (by omega)
      refine V_iload_n e_X4_fallsThatFit_59 rfl rfl ?_
      refine V_aload_n e_X4_fallsThatFit_60 rfl rfl ?_
      refine V_getiv (v := nI (A 5)) e_X4_fallsThatFit_61 F_X5_fallen f_X4_62 rfl ((hz2.1 4 6 (by omega)).trans hRt.1.2.2.2.2.2.1) ?_
      refine V_iload e_X4_fallsThatFit_64 rfl ?_
      refine V_csNIe (av := [.int (nI (A 5)), .int (nI g)]) (st := [.int (nI (ffS A (tld A (bitN (A 6) p) (pn A p) (σ 251) n) (fun g => tld (fallV A (2 ^ g)) (bitN (A 6) p) (pn A p) (σ 251) n) g))]) e_X4_fallsThatFit_66 (c_X8_bitN E (A 5) g (up2 (bec 242 4 τ) 242 6 (nI ((A 5) ||| (2 ^ g)))) (by omega) (by omega)) l_X4_40 S_X8_bit (rm_ok (by decide) (by decide)) rfl rfl (Nat.le_of_ble_eq_true rfl) ?_
      refine V_if_ne (tgt := 87) e_X4_fallsThatFit_69 (by decide) (fun c2 => ?_) (fun c2 => ?_)
      · have d2 : ¬ bitN (A 5) g = 0 := nq_ne (by omega) (by omega) c2
        refine V_iconst (v := nI 0) e_X4_fallsThatFit_87 (by decide) ?_
        refine V_iorN (z := nI ((ffS A (tld A (bitN (A 6) p) (pn A p) (σ 251) n) (fun g => tld (fallV A (2 ^ g)) (bitN (A 6) p) (pn A p) (σ 251) n) g) ||| 0)) e_X4_fallsThatFit_88 (lorI _ _) ?_
        refine V_istore_n (L' := [some (.ref (eB E + 241)), some (.ref (eB E + 4)), some (.int (nI p)), some (.int (nI ((ffS A (tld A (bitN (A 6) p) (pn A p) (σ 251) n) (fun g => tld (fallV A (2 ^ g)) (bitN (A 6) p) (pn A p) (σ 251) n) g) ||| 0))), some (.int (nI g))]) e_X4_fallsThatFit_89 rfl rfl ?_
        refine V_iinc (v := nI (g + 1)) (L' := [some (.ref (eB E + 241)), some (.ref (eB E + 4)), some (.int (nI p)), some (.int (nI ((ffS A (tld A (bitN (A 6) p) (pn A p) (σ 251) n) (fun g => tld (fallV A (2 ^ g)) (bitN (A 6) p) (pn A p) (σ 251) n) g) ||| 0))), some (.int (nI (g + 1)))]) e_X4_fallsThatFit_90 rfl (nI_add _ 1) rfl ?_
        refine V_goto (tgt := 26) e_X4_fallsThatFit_93 (by decide) ?_
        rw [show (ffS A (tld A (bitN (A 6) p) (pn A p) (σ 251) n) (fun g => tld (fallV A (2 ^ g)) (bitN (A 6) p) (pn A p) (σ 251) n) g) ||| 0 = ffS A (tld A (bitN (A 6) p) (pn A p) (σ 251) n) (fun g => tld (fallV A (2 ^ g)) (bitN (A 6) p) (pn A p) (σ 251) n) (g + 1) from (by rw [ffS]; (try dsimp only); (first | rw [if_pos d2] | rw [if_neg d2] | skip))]; exact ih (A 0 - (g + 1)) (by omega) (g + 1) _ rfl (by omega) (hI.tr hz2.1)
      · have d2 : bitN (A 5) g = 0 := nq_eq (by omega) (by omega) c2
        refine V_aload_n e_X4_fallsThatFit_72 rfl rfl ?_
        refine V_iload_n e_X4_fallsThatFit_73 rfl rfl ?_
        have hnz : (up2 (bec 242 4 τ) 242 6 (nI ((A 5) ||| (2 ^ g)))) 241 2 = nI n := (hz2.1 241 2 (by omega)).trans ((hI 241 2 (by omega)).trans hn)
        have hdz : (up2 (bec 242 4 τ) 242 6 (nI ((A 5) ||| (2 ^ g)))) 251 = σ 251 := by funext j; exact (hz2.1 251 j (by omega)).trans (hI 251 j (by omega))
        refine V_cvI (av := [.int (nI p)]) (st := [.int (nI (ffS A (tld A (bitN (A 6) p) (pn A p) (σ 251) n) (fun g => tld (fallV A (2 ^ g)) (bitN (A 6) p) (pn A p) (σ 251) n) g))]) e_X4_fallsThatFit_74 (c_X4_isAsTold E p n (bitN (A 6) p) (fallV A (2 ^ g)) (pn A p) (up2 (bec 242 4 τ) 242 6 (nI ((A 5) ||| (2 ^ g)))) hz2.2.1 hz2.2.2.1 hz2.2.2.2 (fallV_WE hF.1 h2g) ((hF.2.2.2.2.2 p hp).env (fallV_lo (by omega))) (bitN_le _ _) (by omega) hnz hn12) l_X4_85 S_X4_isAsTold rfl (rm_ok (by decide) (by decide)) rfl rfl (Nat.le_of_ble_eq_true rfl) ?_
        rw [hdz]
        intro τ1 r hh
        obtain ⟨hf0, rfl⟩ := hh
        have hf1 : Fb 242 251 τ τ1 := hz2.1.tr hf0
        have htl := tld_le (fallV A (2 ^ g)) (bitN (A 6) p) (pn A p) (σ 251) n
        refine V_if_eq (tgt := 87) e_X4_fallsThatFit_77 (by decide) (fun c3 => ?_) (fun c3 => ?_)
        · have d3 : tld (fallV A (2 ^ g)) (bitN (A 6) p) (pn A p) (σ 251) n = 0 := nq_eq (by omega) (by omega) c3
          refine V_iconst (v := nI 0) e_X4_fallsThatFit_87 (by decide) ?_
          refine V_iorN (z := nI ((ffS A (tld A (bitN (A 6) p) (pn A p) (σ 251) n) (fun g => tld (fallV A (2 ^ g)) (bitN (A 6) p) (pn A p) (σ 251) n) g) ||| 0)) e_X4_fallsThatFit_88 (lorI _ _) ?_
          refine V_istore_n (L' := [some (.ref (eB E + 241)), some (.ref (eB E + 4)), some (.int (nI p)), some (.int (nI ((ffS A (tld A (bitN (A 6) p) (pn A p) (σ 251) n) (fun g => tld (fallV A (2 ^ g)) (bitN (A 6) p) (pn A p) (σ 251) n) g) ||| 0))), some (.int (nI g))]) e_X4_fallsThatFit_89 rfl rfl ?_
          refine V_iinc (v := nI (g + 1)) (L' := [some (.ref (eB E + 241)), some (.ref (eB E + 4)), some (.int (nI p)), some (.int (nI ((ffS A (tld A (bitN (A 6) p) (pn A p) (σ 251) n) (fun g => tld (fallV A (2 ^ g)) (bitN (A 6) p) (pn A p) (σ 251) n) g) ||| 0))), some (.int (nI (g + 1)))]) e_X4_fallsThatFit_90 rfl (nI_add _ 1) rfl ?_
          refine V_goto (tgt := 26) e_X4_fallsThatFit_93 (by decide) ?_
          rw [show (ffS A (tld A (bitN (A 6) p) (pn A p) (σ 251) n) (fun g => tld (fallV A (2 ^ g)) (bitN (A 6) p) (pn A p) (σ 251) n) g) ||| 0 = ffS A (tld A (bitN (A 6) p) (pn A p) (σ 251) n) (fun g => tld (fallV A (2 ^ g)) (bitN (A 6) p) (pn A p) (σ 251) n) (g + 1) from (by rw [ffS]; (try dsimp only); (first | rw [if_pos d2] | rw [if_neg d2] | skip); (first | rw [if_pos d3] | rw [if_neg d3] | skip))]; exact ih (A 0 - (g + 1)) (by omega) (g + 1) τ1 rfl (by omega) (hI.tr hf1)
        · have d3 : ¬ tld (fallV A (2 ^ g)) (bitN (A 6) p) (pn A p) (σ 251) n = 0 := nq_ne (by omega) (by omega) c3
          refine V_iconst (v := nI 1) e_X4_fallsThatFit_80 (by decide) ?_
          refine V_iload e_X4_fallsThatFit_81 rfl ?_
          refine V_ishlN (z := nI (2 ^ g)) e_X4_fallsThatFit_83 (shl1 (by omega)) ?_
          refine V_goto (tgt := 88) e_X4_fallsThatFit_84 (by decide) ?_
          refine V_iorN (z := nI ((ffS A (tld A (bitN (A 6) p) (pn A p) (σ 251) n) (fun g => tld (fallV A (2 ^ g)) (bitN (A 6) p) (pn A p) (σ 251) n) g) ||| (2 ^ g))) e_X4_fallsThatFit_88 (lorI _ _) ?_
          refine V_istore_n (L' := [some (.ref (eB E + 241)), some (.ref (eB E + 4)), some (.int (nI p)), some (.int (nI ((ffS A (tld A (bitN (A 6) p) (pn A p) (σ 251) n) (fun g => tld (fallV A (2 ^ g)) (bitN (A 6) p) (pn A p) (σ 251) n) g) ||| (2 ^ g)))), some (.int (nI g))]) e_X4_fallsThatFit_89 rfl rfl ?_
          refine V_iinc (v := nI (g + 1)) (L' := [some (.ref (eB E + 241)), some (.ref (eB E + 4)), some (.int (nI p)), some (.int (nI ((ffS A (tld A (bitN (A 6) p) (pn A p) (σ 251) n) (fun g => tld (fallV A (2 ^ g)) (bitN (A 6) p) (pn A p) (σ 251) n) g) ||| (2 ^ g)))), some (.int (nI (g + 1)))]) e_X4_fallsThatFit_90 rfl (nI_add _ 1) rfl ?_
          refine V_goto (tgt := 26) e_X4_fallsThatFit_93 (by decide) ?_
          rw [show (ffS A (tld A (bitN (A 6) p) (pn A p) (σ 251) n) (fun g => tld (fallV A (2 ^ g)) (bitN (A 6) p) (pn A p) (σ 251) n) g) ||| (2 ^ g) = ffS A (tld A (bitN (A 6) p) (pn A p) (σ 251) n) (fun g => tld (fallV A (2 ^ g)) (bitN (A 6) p) (pn A p) (σ 251) n) (g + 1) from (by rw [ffS]; (try dsimp only); (first | rw [if_pos d2] | rw [if_neg d2] | skip); (first | rw [if_pos d3] | rw [if_neg d3] | skip))]; exact ih (A 0 - (g + 1)) (by omega) (g + 1) τ1 rfl (by omega) (hI.tr hf1)
set_option maxRecDepth 100000 in
set_option maxHeartbeats 4000000 in
theorem c_X4_fallsThatFit (E : En) (p n : Nat) (A : Vec) (σ : Sg) (hR : RepC σ 4 A) (hF : WF A) (hn : σ 241 2 = nI n) (hn12 : n ≤ 12) (hp : p < A 1) : Cn E m_X4_fallsThatFit 7 [.ref (eB E + 241), .ref (eB E + 4), .int (nI p)] σ (pI (fun σ' r => Fb 242 251 σ σ' ∧ r = nI (ffS A (tld A (bitN (A 6) p) (pn A p) (σ 251) n) (fun g => tld (fallV A (2 ^ g)) (bitN (A 6) p) (pn A p) (σ 251) n) (A 0)))) := by
  have h5 := hF.2.2.1
  obtain ⟨hG2, hG6, hA5, hA5p, h2a, h2b, h3a, h3b, hgs⟩ := id hF.1
  have hz := TS.zero hG6 h5 hp hR
  have hnz : bec 242 4 σ 241 2 = nI n := (hz.1 241 2 (by omega)).trans hn
  have hdz : bec 242 4 σ 251 = σ 251 := by funext j; exact hz.1 251 j (by omega)
  refine Cn.of [some (.ref (eB E + 241)), some (.ref (eB E + 4)), some (.int (nI p)), none, none] (by decide) (Nat.le_of_ble_eq_true rfl) rfl ?_
  refine V_aload_n e_X4_fallsThatFit_0 rfl rfl ?_
  refine V_getr (r := 242) e_X4_fallsThatFit_1 F_X4_trial f_X4_12 rfl rfl ?_
  refine V_aload_n e_X4_fallsThatFit_4 rfl rfl ?_
  refine V_cvVe (av := [.ref (eB E + 4)]) (st := []) e_X4_fallsThatFit_5 (c_X5_become E 242 4 σ rfl rfl (by decide)) l_X4_22 S_X5_become rfl (rm_ok (by decide) (by decide)) rfl rfl (Nat.le_of_ble_eq_true rfl) ?_
  refine V_aload_n e_X4_fallsThatFit_8 rfl rfl ?_
  refine V_iload_n e_X4_fallsThatFit_9 rfl rfl ?_
  refine V_cvI (av := [.int (nI p)]) (st := []) e_X4_fallsThatFit_10 (c_X4_isAsTold E p n (bitN (A 6) p) A (pn A p) (bec 242 4 σ) hz.2.1 hz.2.2.1 hz.2.2.2 hF.1 (hF.2.2.2.2.2 p hp) (bitN_le _ _) (by omega) hnz hn12) l_X4_85 S_X4_isAsTold rfl (rm_ok (by decide) (by decide)) rfl rfl (Nat.le_of_ble_eq_true rfl) ?_
  rw [hdz]
  intro τ1 r hh
  obtain ⟨hf0, rfl⟩ := hh
  have hf1 : Fb 242 251 σ τ1 := hz.1.tr hf0
  have htl := tld_le A (bitN (A 6) p) (pn A p) (σ 251) n
  refine V_if_eq (tgt := 21) e_X4_fallsThatFit_13 (by decide) (fun c1 => ?_) (fun c1 => ?_)
  · have d1 : tld A (bitN (A 6) p) (pn A p) (σ 251) n = 0 := nq_eq (by omega) (by omega) c1
    refine V_iconst (v := nI 0) e_X4_fallsThatFit_21 (by decide) ?_
    refine V_istore_n (L' := [some (.ref (eB E + 241)), some (.ref (eB E + 4)), some (.int (nI p)), some (.int (nI 0)), none]) e_X4_fallsThatFit_22 rfl rfl ?_
    refine V_iconst (v := nI 0) e_X4_fallsThatFit_23 (by decide) ?_
    refine V_istore (L' := [some (.ref (eB E + 241)), some (.ref (eB E + 4)), some (.int (nI p)), some (.int (nI 0)), some (.int (nI 0))]) e_X4_fallsThatFit_24 rfl ?_
    have hX := lp_X4_fallsThatFit E p n A σ hR hF hn hn12 hp h5 hG2 hG6 hA5 (A 0) 0 τ1 rfl (by omega) hf1; rw [show ffS A (tld A (bitN (A 6) p) (pn A p) (σ 251) n) (fun g => tld (fallV A (2 ^ g)) (bitN (A 6) p) (pn A p) (σ 251) n) 0 = 0 from (by rw [ffS]; (first | rw [if_pos d1] | rw [if_neg d1]))] at hX; exact hX
  · have d1 : ¬ tld A (bitN (A 6) p) (pn A p) (σ 251) n = 0 := nq_ne (by omega) (by omega) c1
    refine V_bipush (v := nI 64) e_X4_fallsThatFit_16 (by decide) ?_
    refine V_goto (tgt := 22) e_X4_fallsThatFit_18 (by decide) ?_
    refine V_istore_n (L' := [some (.ref (eB E + 241)), some (.ref (eB E + 4)), some (.int (nI p)), some (.int (nI 64)), none]) e_X4_fallsThatFit_22 rfl rfl ?_
    refine V_iconst (v := nI 0) e_X4_fallsThatFit_23 (by decide) ?_
    refine V_istore (L' := [some (.ref (eB E + 241)), some (.ref (eB E + 4)), some (.int (nI p)), some (.int (nI 64)), some (.int (nI 0))]) e_X4_fallsThatFit_24 rfl ?_
    have hX := lp_X4_fallsThatFit E p n A σ hR hF hn hn12 hp h5 hG2 hG6 hA5 (A 0) 0 τ1 rfl (by omega) hf1; rw [show ffS A (tld A (bitN (A 6) p) (pn A p) (σ 251) n) (fun g => tld (fallV A (2 ^ g)) (bitN (A 6) p) (pn A p) (σ 251) n) 0 = 64 from (by rw [ffS]; (first | rw [if_pos d1] | rw [if_neg d1]))] at hX; exact hX
set_option maxRecDepth 100000 in
set_option maxHeartbeats 4000000 in
theorem lp_X4_hungryFirst_p (E : En) (w d : Nat) (A : Vec) (σ : Sg) (hR : RepC σ 4 A) (hF : WF A) (hw : w ≤ 1) (hub : ∀ m, m < A 1 → ∀ i, i ≤ 60 → (pds A A m i).2.2.2.2.2 < 2 ^ 31) (h5 : A 1 ≤ 5) (h1d : 1 ≤ d) (hd60 : d ≤ 60) (hd : hfn A 60 1 = hfn A (61 - d) d) (hout : ∀ τ, AP σ τ A (fun _ => d) → hfp A d (A 1) 0 = none → V E m_X4_hungryFirst (kM E 6 (pI (fun σ' r => Fb 242 251 σ σ' ∧ r = hfR A w))) 92 [some (.ref (eB E + 241)), some (.ref (eB E + 4)), some (.int (nI w)), some (.int (nI d)), some (.int (nI (A 1)))] [] τ) : ∀ (mm : Nat) (p : Nat) (τ : Sg), A 1 - p = mm → (p ≤ A 1) → (AP σ τ A (fun m => if m < p then d else d - 1)) → (hfp A d (A 1) 0 = hfp A d (A 1 - p) p) → V E m_X4_hungryFirst (kM E 6 (pI (fun σ' r => Fb 242 251 σ σ' ∧ r = hfR A w))) 19 [some (.ref (eB E + 241)), some (.ref (eB E + 4)), some (.int (nI w)), some (.int (nI d)), some (.int (nI p))] [] τ := by
  intro mm
  induction mm using Nat.strongRecOn with
  | ind mm ih =>
    intro p τ hmm hp hI hp9
    refine V_iload e_X4_hungryFirst_19 rfl ?_
    refine V_aload_n e_X4_hungryFirst_21 rfl rfl ?_
    refine V_getr (r := 242) e_X4_hungryFirst_22 F_X4_trial f_X4_12 rfl rfl ?_
    refine V_getiv (v := nI (A 1)) e_X4_hungryFirst_25 F_X5_people f_X4_45 rfl hI.2.1.2.2.2.2.1 ?_
    refine V_icmp_ge (tgt := 92) e_X4_hungryFirst_28 (by decide) (fun c1 => ?_) (fun c1 => ?_)
    · have d1 : A 1 ≤ p := nq_le (by omega) (by omega) c1
      have hz9 : hfp A d (A 1) 0 = none := hp9.trans (by rw [show A 1 - p = 0 by omega]; rfl); have hI9 : AP σ τ A (fun _ => d) := hI.cg (fun m hm => by rw [if_pos (by omega)]); obtain rfl : p = A 1 := (by omega); exact hout τ hI9 hz9
    · have d1 : ¬ A 1 ≤ p := nq_nle (by omega) (by omega) c1
      have hwp : Wk τ (246 + p) (pds A A p (d - 1)) := by have h9 : Wk τ (246 + p) (pds A A p (if p < p then d else d - 1)) := (hI.2.2 p (by omega)).1; rw [if_neg (Nat.lt_irrefl p)] at h9; exact h9
      refine V_aload_n e_X4_hungryFirst_31 rfl rfl ?_
      refine V_getr (r := 242) e_X4_hungryFirst_32 F_X4_trial f_X4_12 rfl rfl ?_
      refine V_aload_n e_X4_hungryFirst_35 rfl rfl ?_
      refine V_getr (r := 242) e_X4_hungryFirst_36 F_X4_trial f_X4_12 rfl rfl ?_
      refine V_getr (r := 245) e_X4_hungryFirst_39 F_X5_walkers f_X4_26 rfl rfl ?_
      refine V_iload e_X4_hungryFirst_42 rfl ?_
      refine V_aald (j := p) (r := 246 + p) e_X4_hungryFirst_44 (by decide) (by decide) rfl (by have q : ln 245 = 5 := rfl; omega) rfl ?_
      refine V_cvI (av := [.ref (eB E + (246 + p))]) (st := []) e_X4_hungryFirst_45 (c_X5_liveDay E 242 (246 + p) (bitN (A 6) p) A (pds A A p (d - 1)) τ rfl hF.1 hI.2.1 (kd_wk245 p (by have q : ln 245 = 5 := rfl; omega)) hwp (pds_WP hF (by omega) rfl) (hI.2.2 p (by omega)).2 (bitN_le _ _) (by omega) (by omega) (by omega)) l_X4_30 S_X5_liveDay rfl (rm_ok (by decide) (by decide)) rfl rfl (Nat.le_of_ble_eq_true rfl) ?_
      intro τ' r hh
      obtain ⟨⟨hq', hf'⟩, rfl⟩ := hh
      replace hq' : Wk τ' (246 + p) (pds A A p d) := by rw [show d = (d - 1) + 1 by omega]; exact hq'
      refine V_pop e_X4_hungryFirst_48 rfl ?_
      have hu1 := hub p (by omega) d (by omega)
      have hu2 : A (30 + 6 * p) < 2 ^ 31 := hub p (by omega) 0 (by omega)
      refine V_aload_n e_X4_hungryFirst_49 rfl rfl ?_
      refine V_getr (r := 242) e_X4_hungryFirst_50 F_X4_trial f_X4_12 rfl rfl ?_
      refine V_getr (r := 245) e_X4_hungryFirst_53 F_X5_walkers f_X4_26 rfl rfl ?_
      refine V_iload e_X4_hungryFirst_56 rfl ?_
      refine V_aald (j := p) (r := 246 + p) e_X4_hungryFirst_58 (by decide) (by decide) rfl (by have q : ln 245 = 5 := rfl; omega) rfl ?_
      refine V_getiv (v := nI ((pds A A p d).2.2.2.2.2)) e_X4_hungryFirst_59 F_X7_hunger f_X4_48 (kd_wk245 p (by have q : ln 245 = 5 := rfl; omega)) hq'.2.2.2.2.2 ?_
      refine V_aload_n e_X4_hungryFirst_62 rfl rfl ?_
      refine V_getr (r := 7) e_X4_hungryFirst_63 F_X5_walkers f_X4_26 rfl rfl ?_
      refine V_iload e_X4_hungryFirst_66 rfl ?_
      refine V_aald (j := p) (r := 8 + p) e_X4_hungryFirst_68 (by decide) (by decide) rfl (by have q : ln 7 = 5 := rfl; omega) rfl ?_
      refine V_getiv (v := nI (A (30 + 6 * p))) e_X4_hungryFirst_69 F_X7_hunger f_X4_48 (kd_wk7 p (by have q : ln 7 = 5 := rfl; omega)) (((hI.1.tr (hf'.b (by omega) (by omega))) (8 + p) 4 (by omega)).trans (by have := (hR.2 p (by omega)).1.2.2.2.2.2; rwa [show 4 + 4 + p = 8 + p by omega] at this)) ?_
      refine V_icmp_le (tgt := 86) e_X4_hungryFirst_72 (by decide) (fun c2 => ?_) (fun c2 => ?_)
      · have d2 : (pds A A p d).2.2.2.2.2 ≤ A (30 + 6 * p) := nq_le (by omega) (by omega) c2
        refine V_iinc (v := nI (p + 1)) (L' := [some (.ref (eB E + 241)), some (.ref (eB E + 4)), some (.int (nI w)), some (.int (nI d)), some (.int (nI (p + 1)))]) e_X4_hungryFirst_86 rfl (nI_add _ 1) rfl ?_
        refine V_goto (tgt := 19) e_X4_hungryFirst_89 (by decide) ?_
        exact ih (A 1 - (p + 1)) (by omega) (p + 1) τ' rfl (by omega) (hI.step h5 (by omega) (by rw [if_pos (by omega)]; exact hq') hf' (fun m hm hne => by by_cases h1 : m < p; rw [if_pos h1, if_pos (by omega)]; rw [if_neg h1, if_neg (by omega)])) (by rw [hp9]; exact hfp_no (by omega) d2)
      · have d2 : ¬ (pds A A p d).2.2.2.2.2 ≤ A (30 + 6 * p) := nq_nle (by omega) (by omega) c2
        have hno := d2
        refine V_iload_n e_X4_hungryFirst_75 rfl rfl ?_
        refine V_if_ne (tgt := 84) e_X4_hungryFirst_76 (by decide) (fun c3 => ?_) (fun c3 => ?_)
        · have d3 : ¬ w = 0 := nq_ne (by omega) (by omega) c3
          refine V_iload_n e_X4_hungryFirst_84 rfl rfl ?_
          exact V_iret e_X4_hungryFirst_85 rfl (⟨hI.1.tr (hf'.b (by omega) (by omega)), by rw [hfR_of (hd.trans (hfn_yes (by omega) (hp9.trans (hfp_yes (by omega) hno)))), if_neg d3]⟩)
        · have d3 : w = 0 := nq_eq (by omega) (by omega) c3
          refine V_iload e_X4_hungryFirst_79 rfl ?_
          refine V_goto (tgt := 85) e_X4_hungryFirst_81 (by decide) ?_
          exact V_iret e_X4_hungryFirst_85 rfl (⟨hI.1.tr (hf'.b (by omega) (by omega)), by rw [hfR_of (hd.trans (hfn_yes (by omega) (hp9.trans (hfp_yes (by omega) hno)))), if_pos d3]⟩)
set_option maxRecDepth 100000 in
set_option maxHeartbeats 4000000 in
theorem lp_X4_hungryFirst_d (E : En) (w : Nat) (A : Vec) (σ : Sg) (hR : RepC σ 4 A) (hF : WF A) (hw : w ≤ 1) (hub : ∀ m, m < A 1 → ∀ i, i ≤ 60 → (pds A A m i).2.2.2.2.2 < 2 ^ 31) (h5 : A 1 ≤ 5) : ∀ (mm : Nat) (d : Nat) (τ : Sg), 61 - d = mm → (1 ≤ d) → (d ≤ 61) → (AP σ τ A (fun _ => d - 1)) → (hfn A 60 1 = hfn A (61 - d) d) → V E m_X4_hungryFirst (kM E 6 (pI (fun σ' r => Fb 242 251 σ σ' ∧ r = hfR A w))) 10 [some (.ref (eB E + 241)), some (.ref (eB E + 4)), some (.int (nI w)), some (.int (nI d)), none] [] τ := by
  intro mm
  induction mm using Nat.strongRecOn with
  | ind mm ih =>
    intro d τ hmm h1d hd61 hI hd
    refine V_iload_n e_X4_hungryFirst_10 rfl rfl ?_
    refine V_bipush (v := nI 60) e_X4_hungryFirst_11 (by decide) ?_
    refine V_icmp_gt (tgt := 98) e_X4_hungryFirst_13 (by decide) (fun c1 => ?_) (fun c1 => ?_)
    · have d1 : 60 < d := nq_lt (by omega) (by omega) c1
      refine V_ldc (v := (-1000000)) e_X4_hungryFirst_98 k_X4_44 ?_
      exact V_iret e_X4_hungryFirst_100 rfl (⟨hI.1, (hfR_no (by rw [hd, show 61 - d = 0 by omega]; rfl)).symm⟩)
    · have d1 : ¬ 60 < d := nq_nlt (by omega) (by omega) c1
      refine V_iconst (v := nI 0) e_X4_hungryFirst_16 (by decide) ?_
      refine V_istore (L' := [some (.ref (eB E + 241)), some (.ref (eB E + 4)), some (.int (nI w)), some (.int (nI d)), some (.int (nI 0))]) e_X4_hungryFirst_17 rfl ?_
      exact lp_X4_hungryFirst_p E w d A σ hR hF hw hub h5 h1d (by omega) hd (fun τ2 hI2 hn2 => V_iinc (v := nI (d + 1)) (L' := [some (.ref (eB E + 241)), some (.ref (eB E + 4)), some (.int (nI w)), some (.int (nI (d + 1))), some (.int (nI (A 1)))]) e_X4_hungryFirst_92 rfl (nI_add _ 1) rfl (V_goto (tgt := 10) e_X4_hungryFirst_95 (by decide) (V_forget 4 (ih (61 - (d + 1)) (by omega) (d + 1) τ2 rfl (by omega) (by omega) hI2 (by rw [hd]; exact hfn_no (by omega) hn2))))) (A 1) 0 τ rfl (by omega) (hI.cg (fun m hm => by rw [if_neg (by omega)])) rfl
set_option maxRecDepth 100000 in
set_option maxHeartbeats 4000000 in
theorem c_X4_hungryFirst (E : En) (w : Nat) (A : Vec) (σ : Sg) (hR : RepC σ 4 A) (hF : WF A) (hw : w ≤ 1) (hub : ∀ m, m < A 1 → ∀ i, i ≤ 60 → (pds A A m i).2.2.2.2.2 < 2 ^ 31) : Cn E m_X4_hungryFirst 6 [.ref (eB E + 241), .ref (eB E + 4), .int (nI w)] σ (pI (fun σ' r => Fb 242 251 σ σ' ∧ r = hfR A w)) := by
  have h5 := hF.2.2.1
  obtain ⟨hG2, hG6, hA5, hA5p, h2a, h2b, h3a, h3b, hgs⟩ := id hF.1
  refine Cn.of [some (.ref (eB E + 241)), some (.ref (eB E + 4)), some (.int (nI w)), none, none] (by decide) (Nat.le_of_ble_eq_true rfl) rfl ?_
  refine V_aload_n e_X4_hungryFirst_0 rfl rfl ?_
  refine V_getr (r := 242) e_X4_hungryFirst_1 F_X4_trial f_X4_12 rfl rfl ?_
  refine V_aload_n e_X4_hungryFirst_4 rfl rfl ?_
  refine V_cvVe (av := [.ref (eB E + 4)]) (st := []) e_X4_hungryFirst_5 (c_X5_become E 242 4 σ rfl rfl (by decide)) l_X4_22 S_X5_become rfl (rm_ok (by decide) (by decide)) rfl rfl (Nat.le_of_ble_eq_true rfl) ?_
  refine V_iconst (v := nI 1) e_X4_hungryFirst_8 (by decide) ?_
  refine V_istore_n (L' := [some (.ref (eB E + 241)), some (.ref (eB E + 4)), some (.int (nI w)), some (.int (nI 1)), none]) e_X4_hungryFirst_9 rfl rfl ?_
  exact lp_X4_hungryFirst_d E w A σ hR hF hw hub h5 60 1 _ rfl (by omega) (by omega) (AP.zero hG6 h5 hR) rfl
set_option maxRecDepth 100000 in
set_option maxHeartbeats 4000000 in
theorem lp_X4_power (E : En) (b e : Nat) (σ : Sg) (hb : b ≤ 10) (he : e ≤ 6) : ∀ (mm : Nat) (i : Nat), e - i = mm → (i ≤ e) → V E m_X4_power (kM E 1 (pJ (fun σ' r => σ' = σ ∧ r = lN (b ^ e)))) 5 [some (.int (nI b)), some (.int (nI e)), some (.long (lN (b ^ i))), none, some (.int (nI i))] [] σ := by
  intro mm
  induction mm using Nat.strongRecOn with
  | ind mm ih =>
    intro i hmm hi
    refine V_iload e_X4_power_5 rfl ?_
    refine V_iload_n e_X4_power_7 rfl rfl ?_
    refine V_icmp_ge (tgt := 22) e_X4_power_8 (by decide) (fun c1 => ?_) (fun c1 => ?_)
    · have d1 : e ≤ i := nq_le (by omega) (by omega) c1
      refine V_lload_n e_X4_power_22 rfl rfl ?_
      exact V_lret e_X4_power_23 rfl (⟨rfl, by rw [show e = i by omega]⟩)
    · have d1 : ¬ e ≤ i := nq_nle (by omega) (by omega) c1
      refine V_lload_n e_X4_power_11 rfl rfl ?_
      refine V_iload_n e_X4_power_12 rfl rfl ?_
      refine V_i2lN (z := lN b) e_X4_power_13 (nI_l (by omega)) ?_
      refine V_lmulN (z := lN ((b ^ i) * b)) e_X4_power_14 (lN_mul _ _) ?_
      refine V_lstore_n (L' := [some (.int (nI b)), some (.int (nI e)), some (.long (lN ((b ^ i) * b))), none, some (.int (nI i))]) e_X4_power_15 rfl rfl ?_
      refine V_iinc (v := nI (i + 1)) (L' := [some (.int (nI b)), some (.int (nI e)), some (.long (lN ((b ^ i) * b))), none, some (.int (nI (i + 1)))]) e_X4_power_16 rfl (nI_add _ 1) rfl ?_
      refine V_goto (tgt := 5) e_X4_power_19 (by decide) ?_
      exact ih (e - (i + 1)) (by omega) (i + 1) rfl (by omega)
set_option maxRecDepth 100000 in
set_option maxHeartbeats 4000000 in
theorem c_X4_power (E : En) (b e : Nat) (σ : Sg) (hb : b ≤ 10) (he : e ≤ 6) : Cn E m_X4_power 1 [.int (nI b), .int (nI e)] σ (pJ (fun σ' r => σ' = σ ∧ r = lN (b ^ e))) := by
  refine Cn.of [some (.int (nI b)), some (.int (nI e)), none, none, none] (by decide) (Nat.le_of_ble_eq_true rfl) rfl ?_
  refine V_lconst (v := lN 1) e_X4_power_0 (by decide) ?_
  refine V_lstore_n (L' := [some (.int (nI b)), some (.int (nI e)), some (.long (lN 1)), none, none]) e_X4_power_1 rfl rfl ?_
  refine V_iconst (v := nI 0) e_X4_power_2 (by decide) ?_
  refine V_istore (L' := [some (.int (nI b)), some (.int (nI e)), some (.long (lN 1)), none, some (.int (nI 0))]) e_X4_power_3 rfl ?_
  exact lp_X4_power E b e σ hb he e 0 rfl (by omega)
set_option maxRecDepth 100000 in
set_option maxHeartbeats 4000000 in
theorem lp_X4_commonDivisor (E : En) (a0 b0 : Nat) (σ : Sg)  : ∀ (mm : Nat) (i : Nat) (a : Nat) (b : Nat), 100 - i = mm → (i ≤ 100) → (a < 2 ^ 62) → (b < 2 ^ 62) → (cdv 100 a0 b0 = cdv (100 - i) a b) → V E m_X4_commonDivisor (kM E 1 (pJ (fun σ' r => σ' = σ ∧ r = lN (cdv 100 a0 b0)))) 3 [some (.long (lN a)), none, some (.long (lN b)), none, some (.int (nI i)), none, none] [] σ := by
  intro mm
  induction mm using Nat.strongRecOn with
  | ind mm ih =>
    intro i a b hmm hi ha hb hc
    refine V_iload e_X4_commonDivisor_3 rfl ?_
    refine V_bipush (v := nI 100) e_X4_commonDivisor_5 (by decide) ?_
    refine V_icmp_ge (tgt := 32) e_X4_commonDivisor_7 (by decide) (fun c1 => ?_) (fun c1 => ?_)
    · have d1 : 100 ≤ i := nq_le (by omega) (by omega) c1
      refine V_lload_n e_X4_commonDivisor_32 rfl rfl ?_
      exact V_lret e_X4_commonDivisor_33 rfl (⟨rfl, by rw [hc]; first | (rw [show 100 - i = 0 by omega]; rfl) | rw [d1, cdv_z]⟩)
    · have d1 : ¬ 100 ≤ i := nq_nle (by omega) (by omega) c1
      refine V_lload_n e_X4_commonDivisor_10 rfl rfl ?_
      refine V_lconst (v := lN 0) e_X4_commonDivisor_11 (by decide) ?_
      refine V_lcmp e_X4_commonDivisor_12 ?_
      refine V_if_eq (tgt := 32) e_X4_commonDivisor_13 (by decide) (fun c2 => ?_) (fun c2 => ?_)
      · have d2 : b = 0 := lc_eq (by omega) (by omega) c2
        refine V_lload_n e_X4_commonDivisor_32 rfl rfl ?_
        exact V_lret e_X4_commonDivisor_33 rfl (⟨rfl, by rw [hc]; first | (rw [show 100 - i = 0 by omega]; rfl) | rw [d2, cdv_z]⟩)
      · have d2 : ¬ b = 0 := lc_ne (by omega) (by omega) c2
        refine V_lload_n e_X4_commonDivisor_16 rfl rfl ?_
        refine V_lload_n e_X4_commonDivisor_17 rfl rfl ?_
        refine V_lremN (z := lN (a % b)) e_X4_commonDivisor_18 (lN0 (by omega) (by omega)) (lrN (by omega) (by omega) (by omega)) ?_
        refine V_lstore (L' := [some (.long (lN a)), none, some (.long (lN b)), none, some (.int (nI i)), some (.long (lN (a % b))), none]) e_X4_commonDivisor_19 rfl ?_
        refine V_lload_n e_X4_commonDivisor_21 rfl rfl ?_
        refine V_lstore_n (L' := [some (.long (lN b)), none, some (.long (lN b)), none, some (.int (nI i)), some (.long (lN (a % b))), none]) e_X4_commonDivisor_22 rfl rfl ?_
        refine V_lload e_X4_commonDivisor_23 rfl ?_
        refine V_lstore_n (L' := [some (.long (lN b)), none, some (.long (lN (a % b))), none, some (.int (nI i)), some (.long (lN (a % b))), none]) e_X4_commonDivisor_25 rfl rfl ?_
        refine V_iinc (v := nI (i + 1)) (L' := [some (.long (lN b)), none, some (.long (lN (a % b))), none, some (.int (nI (i + 1))), some (.long (lN (a % b))), none]) e_X4_commonDivisor_26 rfl (nI_add _ 1) rfl ?_
        refine V_goto (tgt := 3) e_X4_commonDivisor_29 (by decide) ?_
        refine V_forget 5 ?_; exact ih (100 - (i + 1)) (by omega) (i + 1) b (a % b) rfl (by omega) hb (Nat.lt_trans (Nat.mod_lt _ (by omega)) hb) (by rw [hc]; exact cdv_step (by omega) d2)
set_option maxRecDepth 100000 in
set_option maxHeartbeats 4000000 in
theorem c_X4_commonDivisor (E : En) (a b : Nat) (σ : Sg) (ha : a < 2 ^ 62) (hb : b < 2 ^ 62) : Cn E m_X4_commonDivisor 1 [.long (lN a), .long (lN b)] σ (pJ (fun σ' r => σ' = σ ∧ r = lN (cdv 100 a b))) := by
  refine Cn.of [some (.long (lN a)), none, some (.long (lN b)), none, none, none, none] (by decide) (Nat.le_of_ble_eq_true rfl) rfl ?_
  refine V_iconst (v := nI 0) e_X4_commonDivisor_0 (by decide) ?_
  refine V_istore (L' := [some (.long (lN a)), none, some (.long (lN b)), none, some (.int (nI 0)), none, none]) e_X4_commonDivisor_1 rfl ?_
  exact lp_X4_commonDivisor E a b σ 100 0 a b rfl (by omega) ha hb rfl

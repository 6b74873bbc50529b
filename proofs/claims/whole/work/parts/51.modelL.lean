def toldP (f : Nat → Nat) (d : Nat → Int32) : Nat → Nat
  | 0 => 1
  | k + 1 => if toldP f d k = 0 then 0 else if nI (f k) = d k then 1 else 0
theorem toldP_le {f : Nat → Nat} {d : Nat → Int32} : ∀ k, toldP f d k ≤ 1
  | 0 => Nat.le_refl _
  | k + 1 => by unfold toldP; (repeat' split) <;> omega
theorem toldP_R {f : Nat → Nat} {d : Nat → Int32} : ∀ m i, toldP f d (i + m) = if toldP f d i = 0 then 0 else toldR f d m i
  | 0, i => by
    have h := toldP_le (f := f) (d := d) i
    show toldP f d i = if toldP f d i = 0 then 0 else 1
    split <;> omega
  | m + 1, i => by
    rw [show i + (m + 1) = (i + 1) + m by omega, toldP_R m (i + 1)]
    rw [show toldP f d (i + 1) = if toldP f d i = 0 then 0 else if nI (f i) = d i then 1 else 0 from rfl, show toldR f d (m + 1) i = if nI (f i) = d i then toldR f d m (i + 1) else 0 from rfl]
    by_cases h1 : toldP f d i = 0
    · rw [if_pos h1, if_pos rfl, if_pos h1]
    · rw [if_neg h1, if_neg h1]
      by_cases h2 : nI (f i) = d i
      · rw [if_pos h2, if_pos h2, if_neg (by decide)]
      · rw [if_neg h2, if_neg h2, if_pos rfl]
theorem toldP_e {f : Nat → Nat} {d : Nat → Int32} (n : Nat) : toldR f d n 0 = toldP f d n := by
  have h := toldP_R (f := f) (d := d) n 0
  rw [Nat.zero_add, show toldP f d 0 = 1 from rfl, if_neg (by decide)] at h
  exact h.symm
theorem goP_hu (B : Vec) (st : Nat) (q : Pn) : (goP B st q).2.2.2.2.2 = q.2.2.2.2.2 := by
  have hc : ∀ r : Pn, (crossP B r).2.2.2.2.2 = r.2.2.2.2.2 := fun r => rfl
  have hw : ∀ r : Pn, (walkP B r).2.2.2.2.2 = r.2.2.2.2.2 := fun r => by unfold walkP; (repeat' split) <;> rfl
  unfold goP
  split
  · rw [hc, hw]
    split
    · rfl
    · rw [hc]
  · rfl
theorem ate_eq {A : Vec} {st : Nat} {q : Pn} (h1 : (goP A st q).2.1 ≤ 1) : eatsP A st q = if (dayPn A st q).2.1 = 1 then (if (dayPn A st q).2.2.2.2.2 = q.2.2.2.2.2 then 1 else 0) else 0 := by
  have hg := goP_hu A st q
  unfold eatsP dayPn
  generalize goP A st q = g at h1 hg ⊢
  by_cases h0 : g.2.1 = 0
  · simp only [if_pos h0]
    rw [if_neg (by omega)]
  · have h2 : g.2.1 = 1 := by omega
    simp only [if_neg h0]
    unfold fedP eatP
    by_cases a : fre A g.1 g.2.2.1 = 1
    · rw [if_pos a, if_pos a]
      dsimp only
      rw [if_pos h2, if_pos hg]
    · rw [if_neg a, if_neg a]
      by_cases b : A 3 ≤ g.2.2.2.2.1
      · rw [if_pos b, if_pos b]
        dsimp only
        rw [if_pos h2, if_pos hg]
      · rw [if_neg b, if_neg b]
        dsimp only
        rw [if_pos h2, if_neg (by omega)]
theorem ate_pds {B : Vec} {p k : Nat} (hF : WF B) (hp : p < B 1) : eatsP B (bitN (B 6) p) (pds B B p k) = if (pds B B p (k + 1)).2.1 = 1 then (if (pds B B p (k + 1)).2.2.2.2.2 = (pds B B p k).2.2.2.2.2 then 1 else 0) else 0 := ate_eq ((pds_WP (i := k) hF hp rfl).go hF.1.1).2.1
theorem pdays_cg {A B : Vec} {st : Nat} {q : Pn} (h : ∀ k, k < 25 → k ≠ 4 → B k = A k) (hA : WE A) (hq : WP A q) : ∀ i, pdays B st q i = pdays A st q i
  | 0 => rfl
  | i + 1 => by
    show dayPn B st (pdays B st q i) = dayPn A st (pdays A st q i)
    rw [pdays_cg h hA hq i]
    exact dayPn_cg h hA (WP.days hA.1 hq i)
theorem toldR_cf {f g : Nat → Nat} {d : Nat → Int32} (h : ∀ i, f i = g i) : ∀ n i, toldR f d n i = toldR g d n i
  | 0, _ => rfl
  | n + 1, i => by unfold toldR; rw [h i, toldR_cf h n (i + 1)]
theorem tld_env {A B : Vec} {st : Nat} {q : Pn} {d : Nat → Int32} {n : Nat} (h : ∀ k, k < 25 → k ≠ 4 → B k = A k) (hA : WE A) (hq : WP A q) : tld B st q d n = tld A st q d n := toldR_cf (fun i => by rw [pdays_cg h hA hq i]; exact eatsP_cg h hA (WP.days hA.1 hq i)) n 0
theorem setK_ne {A : Vec} {g s k : Nat} (h : k ≠ 7 + 3 * g) : setK A g s k = A k := if_neg h
theorem setF_ne {A : Vec} {g s k : Nat} (h : k ≠ 9 + 3 * g) : setF A g s k = A k := if_neg h
theorem pn_sK {A : Vec} {g s m : Nat} (hg : g < 6) : pn (setK A g s) m = pn A m := by
  unfold pn
  rw [setK_ne (by omega), setK_ne (by omega), setK_ne (by omega), setK_ne (by omega), setK_ne (by omega), setK_ne (by omega)]
theorem pn_sF {A : Vec} {g s m : Nat} (hg : g < 6) : pn (setF A g s) m = pn A m := by
  unfold pn
  rw [setF_ne (by omega), setF_ne (by omega), setF_ne (by omega), setF_ne (by omega), setF_ne (by omega), setF_ne (by omega)]
theorem WF.sK {A : Vec} {g s : Nat} (h : WF A) (hg : g < 6) (h1 : 1 ≤ s) (h2 : s ≤ 5) : WF (setK A g s) := h.chg (setK_WE h.1 h1 h2) (setK_ne (by omega)) (setK_ne (by omega)) (setK_ne (by omega)) (fun _ _ => pn_sK hg)
theorem WF.sF {A : Vec} {g s : Nat} (h : WF A) (hg : g < 6) (h2 : s ≤ 1) : WF (setF A g s) := h.chg (setF_WE h.1 h2) (setF_ne (by omega)) (setF_ne (by omega)) (setF_ne (by omega)) (fun _ _ => pn_sF hg)
theorem tld_K {A : Vec} {g s p n : Nat} {d : Nat → Int32} (hg : g < 6) : tld (setK A g s) (bitN (setK A g s 6) p) (pn (setK A g s) p) d n = tld (setK A g s) (bitN (A 6) p) (pn A p) d n := by rw [pn_sK hg, setK_ne (k := 6) (by omega)]
theorem tld_F {A : Vec} {g s p n : Nat} {d : Nat → Int32} (hg : g < 6) : tld (setF A g s) (bitN (setF A g s 6) p) (pn (setF A g s) p) d n = tld (setF A g s) (bitN (A 6) p) (pn A p) d n := by rw [pn_sF hg, setF_ne (k := 6) (by omega)]
theorem tld_L {A : Vec} {s p n : Nat} {d : Nat → Int32} : tld (fallV A s) (bitN (fallV A s 6) p) (pn (fallV A s) p) d n = tld (fallV A s) (bitN (A 6) p) (pn A p) d n := by rw [fallV_pn, fallV_lo (k := 6) (by omega)]
theorem tld_P {A : Vec} {p n : Nat} {q : Pn} {d : Nat → Int32} (hF : WF A) (hq : WP A q) : tld (setP A p q) (bitN (setP A p q 6) p) (pn (setP A p q) p) d n = tld A (bitN (A 6) p) q d n := by
  rw [pn_setP, if_pos rfl, setP_lo (k := 6) (by omega)]
  exact tld_env (fun k hk _ => setP_lo hk) hF.1 hq
theorem upd_hd {A : Vec} {p v : Nat} : updN A (25 + 6 * p + 3) v = setP A p (setHd (pn A p) v) := by
  have h := setP_u3 (A := A) (m := p) (v := v) (q := pn A p)
  rw [setP_pn] at h
  rw [show 25 + 6 * p + 3 = 28 + 6 * p by omega]
  exact h
theorem upd_fi {A : Vec} {p v : Nat} : updN A (25 + 6 * p + 4) v = setP A p (setFi (pn A p) v) := by
  have h := setP_u4 (A := A) (m := p) (v := v) (q := pn A p)
  rw [setP_pn] at h
  rw [show 25 + 6 * p + 4 = 29 + 6 * p by omega]
  exact h
theorem c_X9_beT3 (E : En) (p v : Nat) (A : Vec) (σ : Sg) (h5 : p < 5) : Cn E m_X9_be 1 [.ref (eB E + 298), .int (nI p), .int (nI 3), .int (nI v)] (stM σ 298 A) (pV (fun σ' => σ' = stM σ 298 (setP A p (setHd (pn A p) v)))) := by
  have h := c_X9_be_w E 298 p 3 v A σ rfl rfl h5 (by decide)
  rw [upd_hd] at h
  exact h
theorem c_X9_beT4 (E : En) (p v : Nat) (A : Vec) (σ : Sg) (h5 : p < 5) : Cn E m_X9_be 1 [.ref (eB E + 298), .int (nI p), .int (nI 4), .int (nI v)] (stM σ 298 A) (pV (fun σ' => σ' = stM σ 298 (setP A p (setFi (pn A p) v)))) := by
  have h := c_X9_be_w E 298 p 4 v A σ rfl rfl h5 (by decide)
  rw [upd_fi] at h
  exact h
theorem ffS_0 {A : Vec} {a : Nat} {f : Nat → Nat} : ∀ k, ffS A a f k = ffS A 0 f k ||| (if a = 0 then 0 else 64)
  | 0 => by show (if a = 0 then 0 else 64) = (0 : Nat) ||| _; rw [Nat.zero_or]
  | k + 1 => by
    show ffS A a f k ||| _ = ffS A 0 f k ||| _ ||| _
    rw [ffS_0 k, Nat.or_assoc, Nat.or_assoc, Nat.or_comm (if a = 0 then 0 else 64)]
theorem fnd_nz : ∀ f, f ≤ 2 → ¬ ((-1000010 : Int32) - nI f = 0) := by decide
set_option maxRecDepth 100000 in
set_option maxHeartbeats 4000000 in
theorem lp_X9_eatsSo (E : En) (p f n : Nat) (B : Vec) (d : Nat → Int32) (σ : Sg) (hF : WF B) (hp : p < B 1) (h5 : B 1 ≤ 5) (hn : n ≤ 12) (hh : (pn B p).2.2.2.2.2 ≤ 1000000) (hfn : f + n ≤ 320) (hd : ∀ j, j < n → σ 295 (f + j) = d j) : ∀ (mm : Nat) (k : Nat), n - k = mm → (k ≤ n) → V E m_X9_eatsSo (kM E 6 (pI (fun σ' r => σ' = stM σ 298 (daysV B n) ∧ r = nI (tld B (bitN (B 6) p) (pn B p) d n)))) 6 [some (.ref (eB E + 292)), some (.int (nI p)), some (.int (nI f)), some (.int (nI n)), some (.int (nI (toldP (fun i => eatsP B (bitN (B 6) p) (pdays B (bitN (B 6) p) (pn B p) i)) d k))), some (.int (nI k)), none, none] [] (stM σ 298 (daysV B k)) := by
  intro mm
  induction mm using Nat.strongRecOn with
  | ind mm ih =>
    intro k hmm hk
    have htp := toldP_le (f := (fun i => eatsP B (bitN (B 6) p) (pdays B (bitN (B 6) p) (pn B p) i))) (d := d) k
    refine V_iload e_X9_eatsSo_6 rfl ?_
    refine V_iload_n e_X9_eatsSo_8 rfl rfl ?_
    refine V_icmp_ge (tgt := 96) e_X9_eatsSo_9 (by decide) (fun c1 => ?_) (fun c1 => ?_)
    · have d1 : n ≤ k := nq_le (by omega) (by omega) c1
      refine V_iload e_X9_eatsSo_96 rfl ?_
      exact V_zret e_X9_eatsSo_98 rfl (by rcases (show toldP (fun i => eatsP B (bitN (B 6) p) (pdays B (bitN (B 6) p) (pn B p) i)) d k = 0 ∨ toldP (fun i => eatsP B (bitN (B 6) p) (pdays B (bitN (B 6) p) (pn B p) i)) d k = 1 by omega) with h | h <;> rw [h] <;> (first | exact Or.inl nI_0 | exact Or.inr rfl)) (⟨by rw [show n = k by omega], by rw [show n = k by omega]; congr 1; unfold tld; exact (toldP_e k).symm⟩)
    · have d1 : ¬ n ≤ k := nq_nle (by omega) (by omega) c1
      have hu0 : (pds B B p k).2.2.2.2.2 ≤ (pn B p).2.2.2.2.2 + k := pdays_hu1 k
      have hu1 : (pds B B p (k + 1)).2.2.2.2.2 ≤ (pn B p).2.2.2.2.2 + (k + 1) := pdays_hu1 (k + 1)
      have hin := (pds_WP (B := B) (i := k + 1) hF hp rfl).2.1
      refine V_aload_n e_X9_eatsSo_12 rfl rfl ?_
      refine V_getr (r := 298) e_X9_eatsSo_13 F_X9_then f_X9_25 rfl rfl ?_
      refine V_iload_n e_X9_eatsSo_16 rfl rfl ?_
      refine V_iconst (v := nI 5) e_X9_eatsSo_17 (by decide) ?_
      refine V_csIe (av := [.ref (eB E + 298), .int (nI p), .int (nI 5)]) (st := []) e_X9_eatsSo_18 (c_X9_hisT_w E p 5 (daysV B k) σ (by omega) (by omega)) l_X9_166 S_X9_his (rm_ok (by decide) (by decide)) rfl rfl (Nat.le_of_ble_eq_true rfl) ?_
      refine V_topi (y := nI ((pds B B p k).2.2.2.2.2)) (congrArg nI (by rw [show 25 + 6 * p + 5 = 30 + 6 * p by omega]; exact (daysV_at (n := k) hF hp).2.2.2.2.2)) ?_
      refine V_istore (L' := [some (.ref (eB E + 292)), some (.int (nI p)), some (.int (nI f)), some (.int (nI n)), some (.int (nI (toldP (fun i => eatsP B (bitN (B 6) p) (pdays B (bitN (B 6) p) (pn B p) i)) d k))), some (.int (nI k)), some (.int (nI ((pds B B p k).2.2.2.2.2))), none]) e_X9_eatsSo_21 rfl ?_
      refine V_aload_n e_X9_eatsSo_23 rfl rfl ?_
      refine V_getr (r := 298) e_X9_eatsSo_24 F_X9_then f_X9_25 rfl rfl ?_
      refine V_csVe (av := [.ref (eB E + 298)]) (st := []) e_X9_eatsSo_27 (c_X9_day E 298 (daysV B k) σ rfl rfl (hF.days k)) l_X9_187 S_X9_day (rm_ok (by decide) (by decide)) rfl rfl (Nat.le_of_ble_eq_true rfl) ?_
      refine V_aload_n e_X9_eatsSo_30 rfl rfl ?_
      refine V_getr (r := 298) e_X9_eatsSo_31 F_X9_then f_X9_25 rfl rfl ?_
      refine V_iload_n e_X9_eatsSo_34 rfl rfl ?_
      refine V_iconst (v := nI 1) e_X9_eatsSo_35 (by decide) ?_
      refine V_csIe (av := [.ref (eB E + 298), .int (nI p), .int (nI 1)]) (st := []) e_X9_eatsSo_36 (c_X9_hisT_w E p 1 (daysV B (k + 1)) σ (by omega) (by omega)) l_X9_166 S_X9_his (rm_ok (by decide) (by decide)) rfl rfl (Nat.le_of_ble_eq_true rfl) ?_
      refine V_topi (y := nI ((pds B B p (k + 1)).2.1)) (congrArg nI (by rw [show 25 + 6 * p + 1 = 26 + 6 * p by omega]; exact (daysV_at (n := k + 1) hF hp).2.1)) ?_
      refine V_iconst (v := nI 1) e_X9_eatsSo_39 (by decide) ?_
      refine V_icmp_ne (tgt := 61) e_X9_eatsSo_40 (by decide) (fun c2 => ?_) (fun c2 => ?_)
      · have d2 : ¬ (pds B B p (k + 1)).2.1 = 1 := nq_ne (by omega) (by omega) c2
        have hat : eatsP B (bitN (B 6) p) (pds B B p k) = 0 := by rw [ate_pds hF hp, if_neg d2]
        refine V_iconst (v := nI 0) e_X9_eatsSo_61 (by decide) ?_
        refine V_istore (L' := [some (.ref (eB E + 292)), some (.int (nI p)), some (.int (nI f)), some (.int (nI n)), some (.int (nI (toldP (fun i => eatsP B (bitN (B 6) p) (pdays B (bitN (B 6) p) (pn B p) i)) d k))), some (.int (nI k)), some (.int (nI ((pds B B p k).2.2.2.2.2))), some (.int (nI 0))]) e_X9_eatsSo_62 rfl ?_
        refine V_iload e_X9_eatsSo_64 rfl ?_
        refine V_if_eq (tgt := 87) e_X9_eatsSo_66 (by decide) (fun c3 => ?_) (fun c3 => ?_)
        · have d3 : toldP (fun i => eatsP B (bitN (B 6) p) (pdays B (bitN (B 6) p) (pn B p) i)) d k = 0 := nq_eq (by omega) (by omega) c3
          refine V_iconst (v := nI 0) e_X9_eatsSo_87 (by decide) ?_
          refine V_istore (L' := [some (.ref (eB E + 292)), some (.int (nI p)), some (.int (nI f)), some (.int (nI n)), some (.int (nI 0)), some (.int (nI k)), some (.int (nI ((pds B B p k).2.2.2.2.2))), some (.int (nI 0))]) e_X9_eatsSo_88 rfl ?_
          refine V_iinc (v := nI (k + 1)) (L' := [some (.ref (eB E + 292)), some (.int (nI p)), some (.int (nI f)), some (.int (nI n)), some (.int (nI 0)), some (.int (nI (k + 1))), some (.int (nI ((pds B B p k).2.2.2.2.2))), some (.int (nI 0))]) e_X9_eatsSo_90 rfl (nI_add _ 1) rfl ?_
          refine V_goto (tgt := 6) e_X9_eatsSo_93 (by decide) ?_
          rw [show nI 0 = nI (toldP (fun i => eatsP B (bitN (B 6) p) (pdays B (bitN (B 6) p) (pn B p) i)) d (k + 1)) from congrArg nI (Eq.symm (if_pos d3))]; refine V_forget 6 (V_forget 7 ?_); exact ih (n - (k + 1)) (by omega) (k + 1) rfl (by omega)
        · have d3 : ¬ toldP (fun i => eatsP B (bitN (B 6) p) (pdays B (bitN (B 6) p) (pn B p) i)) d k = 0 := nq_ne (by omega) (by omega) c3
          refine V_iload e_X9_eatsSo_69 rfl ?_
          refine V_aload_n e_X9_eatsSo_71 rfl rfl ?_
          refine V_getr (r := 295) e_X9_eatsSo_72 F_X9_item f_X9_16 rfl rfl ?_
          refine V_iload_n e_X9_eatsSo_75 rfl rfl ?_
          refine V_iload e_X9_eatsSo_76 rfl ?_
          refine V_iaddN (z := nI (f + k)) e_X9_eatsSo_78 (nI_add _ _) ?_
          refine V_ialdv (v := d k) (j := (f + k)) e_X9_eatsSo_79 rfl rfl (by have q : ln 295 = 320 := rfl; omega) ((stM_ne (by decide)).trans (hd k (by omega))) ?_
          refine V_icmp_ne (tgt := 87) e_X9_eatsSo_80 (by decide) (fun c4 => ?_) (fun c4 => ?_)
          · refine V_iconst (v := nI 0) e_X9_eatsSo_87 (by decide) ?_
            refine V_istore (L' := [some (.ref (eB E + 292)), some (.int (nI p)), some (.int (nI f)), some (.int (nI n)), some (.int (nI 0)), some (.int (nI k)), some (.int (nI ((pds B B p k).2.2.2.2.2))), some (.int (nI 0))]) e_X9_eatsSo_88 rfl ?_
            refine V_iinc (v := nI (k + 1)) (L' := [some (.ref (eB E + 292)), some (.int (nI p)), some (.int (nI f)), some (.int (nI n)), some (.int (nI 0)), some (.int (nI (k + 1))), some (.int (nI ((pds B B p k).2.2.2.2.2))), some (.int (nI 0))]) e_X9_eatsSo_90 rfl (nI_add _ 1) rfl ?_
            refine V_goto (tgt := 6) e_X9_eatsSo_93 (by decide) ?_
            rw [show nI 0 = nI (toldP (fun i => eatsP B (bitN (B 6) p) (pdays B (bitN (B 6) p) (pn B p) i)) d (k + 1)) from congrArg nI (Eq.symm ((if_neg d3).trans (if_neg (fun z => c4 ((congrArg nI hat).symm.trans z)))))]; refine V_forget 6 (V_forget 7 ?_); exact ih (n - (k + 1)) (by omega) (k + 1) rfl (by omega)
          · refine V_iconst (v := nI 1) e_X9_eatsSo_83 (by decide) ?_
            refine V_goto (tgt := 88) e_X9_eatsSo_84 (by decide) ?_
            refine V_istore (L' := [some (.ref (eB E + 292)), some (.int (nI p)), some (.int (nI f)), some (.int (nI n)), some (.int (nI 1)), some (.int (nI k)), some (.int (nI ((pds B B p k).2.2.2.2.2))), some (.int (nI 0))]) e_X9_eatsSo_88 rfl ?_
            refine V_iinc (v := nI (k + 1)) (L' := [some (.ref (eB E + 292)), some (.int (nI p)), some (.int (nI f)), some (.int (nI n)), some (.int (nI 1)), some (.int (nI (k + 1))), some (.int (nI ((pds B B p k).2.2.2.2.2))), some (.int (nI 0))]) e_X9_eatsSo_90 rfl (nI_add _ 1) rfl ?_
            refine V_goto (tgt := 6) e_X9_eatsSo_93 (by decide) ?_
            rw [show nI 1 = nI (toldP (fun i => eatsP B (bitN (B 6) p) (pdays B (bitN (B 6) p) (pn B p) i)) d (k + 1)) from congrArg nI (Eq.symm ((if_neg d3).trans (if_pos ((congrArg nI hat).trans c4))))]; refine V_forget 6 (V_forget 7 ?_); exact ih (n - (k + 1)) (by omega) (k + 1) rfl (by omega)
      · have d2 : (pds B B p (k + 1)).2.1 = 1 := nq_eq (by omega) (by omega) c2
        have h40 := d2
        refine V_aload_n e_X9_eatsSo_43 rfl rfl ?_
        refine V_getr (r := 298) e_X9_eatsSo_44 F_X9_then f_X9_25 rfl rfl ?_
        refine V_iload_n e_X9_eatsSo_47 rfl rfl ?_
        refine V_iconst (v := nI 5) e_X9_eatsSo_48 (by decide) ?_
        refine V_csIe (av := [.ref (eB E + 298), .int (nI p), .int (nI 5)]) (st := []) e_X9_eatsSo_49 (c_X9_hisT_w E p 5 (daysV B (k + 1)) σ (by omega) (by omega)) l_X9_166 S_X9_his (rm_ok (by decide) (by decide)) rfl rfl (Nat.le_of_ble_eq_true rfl) ?_
        refine V_topi (y := nI ((pds B B p (k + 1)).2.2.2.2.2)) (congrArg nI (by rw [show 25 + 6 * p + 5 = 30 + 6 * p by omega]; exact (daysV_at (n := k + 1) hF hp).2.2.2.2.2)) ?_
        refine V_iload e_X9_eatsSo_52 rfl ?_
        refine V_icmp_ne (tgt := 61) e_X9_eatsSo_54 (by decide) (fun c5 => ?_) (fun c5 => ?_)
        · have d5 : ¬ (pds B B p (k + 1)).2.2.2.2.2 = (pds B B p k).2.2.2.2.2 := nq_ne (by omega) (by omega) c5
          have hat : eatsP B (bitN (B 6) p) (pds B B p k) = 0 := by rw [ate_pds hF hp, if_pos h40, if_neg d5]
          refine V_iconst (v := nI 0) e_X9_eatsSo_61 (by decide) ?_
          refine V_istore (L' := [some (.ref (eB E + 292)), some (.int (nI p)), some (.int (nI f)), some (.int (nI n)), some (.int (nI (toldP (fun i => eatsP B (bitN (B 6) p) (pdays B (bitN (B 6) p) (pn B p) i)) d k))), some (.int (nI k)), some (.int (nI ((pds B B p k).2.2.2.2.2))), some (.int (nI 0))]) e_X9_eatsSo_62 rfl ?_
          refine V_iload e_X9_eatsSo_64 rfl ?_
          refine V_if_eq (tgt := 87) e_X9_eatsSo_66 (by decide) (fun c6 => ?_) (fun c6 => ?_)
          · have d6 : toldP (fun i => eatsP B (bitN (B 6) p) (pdays B (bitN (B 6) p) (pn B p) i)) d k = 0 := nq_eq (by omega) (by omega) c6
            refine V_iconst (v := nI 0) e_X9_eatsSo_87 (by decide) ?_
            refine V_istore (L' := [some (.ref (eB E + 292)), some (.int (nI p)), some (.int (nI f)), some (.int (nI n)), some (.int (nI 0)), some (.int (nI k)), some (.int (nI ((pds B B p k).2.2.2.2.2))), some (.int (nI 0))]) e_X9_eatsSo_88 rfl ?_
            refine V_iinc (v := nI (k + 1)) (L' := [some (.ref (eB E + 292)), some (.int (nI p)), some (.int (nI f)), some (.int (nI n)), some (.int (nI 0)), some (.int (nI (k + 1))), some (.int (nI ((pds B B p k).2.2.2.2.2))), some (.int (nI 0))]) e_X9_eatsSo_90 rfl (nI_add _ 1) rfl ?_
            refine V_goto (tgt := 6) e_X9_eatsSo_93 (by decide) ?_
            rw [show nI 0 = nI (toldP (fun i => eatsP B (bitN (B 6) p) (pdays B (bitN (B 6) p) (pn B p) i)) d (k + 1)) from congrArg nI (Eq.symm (if_pos d6))]; refine V_forget 6 (V_forget 7 ?_); exact ih (n - (k + 1)) (by omega) (k + 1) rfl (by omega)
          · have d6 : ¬ toldP (fun i => eatsP B (bitN (B 6) p) (pdays B (bitN (B 6) p) (pn B p) i)) d k = 0 := nq_ne (by omega) (by omega) c6
            refine V_iload e_X9_eatsSo_69 rfl ?_
            refine V_aload_n e_X9_eatsSo_71 rfl rfl ?_
            refine V_getr (r := 295) e_X9_eatsSo_72 F_X9_item f_X9_16 rfl rfl ?_
            refine V_iload_n e_X9_eatsSo_75 rfl rfl ?_
            refine V_iload e_X9_eatsSo_76 rfl ?_
            refine V_iaddN (z := nI (f + k)) e_X9_eatsSo_78 (nI_add _ _) ?_
            refine V_ialdv (v := d k) (j := (f + k)) e_X9_eatsSo_79 rfl rfl (by have q : ln 295 = 320 := rfl; omega) ((stM_ne (by decide)).trans (hd k (by omega))) ?_
            refine V_icmp_ne (tgt := 87) e_X9_eatsSo_80 (by decide) (fun c7 => ?_) (fun c7 => ?_)
            · refine V_iconst (v := nI 0) e_X9_eatsSo_87 (by decide) ?_
              refine V_istore (L' := [some (.ref (eB E + 292)), some (.int (nI p)), some (.int (nI f)), some (.int (nI n)), some (.int (nI 0)), some (.int (nI k)), some (.int (nI ((pds B B p k).2.2.2.2.2))), some (.int (nI 0))]) e_X9_eatsSo_88 rfl ?_
              refine V_iinc (v := nI (k + 1)) (L' := [some (.ref (eB E + 292)), some (.int (nI p)), some (.int (nI f)), some (.int (nI n)), some (.int (nI 0)), some (.int (nI (k + 1))), some (.int (nI ((pds B B p k).2.2.2.2.2))), some (.int (nI 0))]) e_X9_eatsSo_90 rfl (nI_add _ 1) rfl ?_
              refine V_goto (tgt := 6) e_X9_eatsSo_93 (by decide) ?_
              rw [show nI 0 = nI (toldP (fun i => eatsP B (bitN (B 6) p) (pdays B (bitN (B 6) p) (pn B p) i)) d (k + 1)) from congrArg nI (Eq.symm ((if_neg d6).trans (if_neg (fun z => c7 ((congrArg nI hat).symm.trans z)))))]; refine V_forget 6 (V_forget 7 ?_); exact ih (n - (k + 1)) (by omega) (k + 1) rfl (by omega)
            · refine V_iconst (v := nI 1) e_X9_eatsSo_83 (by decide) ?_
              refine V_goto (tgt := 88) e_X9_eatsSo_84 (by decide) ?_
              refine V_istore (L' := [some (.ref (eB E + 292)), some (.int (nI p)), some (.int (nI f)), some (.int (nI n)), some (.int (nI 1)), some (.int (nI k)), some (.int (nI ((pds B B p k).2.2.2.2.2))), some (.int (nI 0))]) e_X9_eatsSo_88 rfl ?_
              refine V_iinc (v := nI (k + 1)) (L' := [some (.ref (eB E + 292)), some (.int (nI p)), some (.int (nI f)), some (.int (nI n)), some (.int (nI 1)), some (.int (nI (k + 1))), some (.int (nI ((pds B B p k).2.2.2.2.2))), some (.int (nI 0))]) e_X9_eatsSo_90 rfl (nI_add _ 1) rfl ?_
              refine V_goto (tgt := 6) e_X9_eatsSo_93 (by decide) ?_
              rw [show nI 1 = nI (toldP (fun i => eatsP B (bitN (B 6) p) (pdays B (bitN (B 6) p) (pn B p) i)) d (k + 1)) from congrArg nI (Eq.symm ((if_neg d6).trans (if_pos ((congrArg nI hat).trans c7))))]; refine V_forget 6 (V_forget 7 ?_); exact ih (n - (k + 1)) (by omega) (k + 1) rfl (by omega)
        · have d5 : (pds B B p (k + 1)).2.2.2.2.2 = (pds B B p k).2.2.2.2.2 := nq_eq (by omega) (by omega) c5
          have hat : eatsP B (bitN (B 6) p) (pds B B p k) = 1 := by rw [ate_pds hF hp, if_pos h40, if_pos d5]
          refine V_iconst (v := nI 1) e_X9_eatsSo_57 (by decide) ?_
          refine V_goto (tgt := 62) e_X9_eatsSo_58 (by decide) ?_
          refine V_istore (L' := [some (.ref (eB E + 292)), some (.int (nI p)), some (.int (nI f)), some (.int (nI n)), some (.int (nI (toldP (fun i => eatsP B (bitN (B 6) p) (pdays B (bitN (B 6) p) (pn B p) i)) d k))), some (.int (nI k)), some (.int (nI ((pds B B p k).2.2.2.2.2))), some (.int (nI 1))]) e_X9_eatsSo_62 rfl ?_
          refine V_iload e_X9_eatsSo_64 rfl ?_
          refine V_if_eq (tgt := 87) e_X9_eatsSo_66 (by decide) (fun c8 => ?_) (fun c8 => ?_)
          · have d8 : toldP (fun i => eatsP B (bitN (B 6) p) (pdays B (bitN (B 6) p) (pn B p) i)) d k = 0 := nq_eq (by omega) (by omega) c8
            refine V_iconst (v := nI 0) e_X9_eatsSo_87 (by decide) ?_
            refine V_istore (L' := [some (.ref (eB E + 292)), some (.int (nI p)), some (.int (nI f)), some (.int (nI n)), some (.int (nI 0)), some (.int (nI k)), some (.int (nI ((pds B B p k).2.2.2.2.2))), some (.int (nI 1))]) e_X9_eatsSo_88 rfl ?_
            refine V_iinc (v := nI (k + 1)) (L' := [some (.ref (eB E + 292)), some (.int (nI p)), some (.int (nI f)), some (.int (nI n)), some (.int (nI 0)), some (.int (nI (k + 1))), some (.int (nI ((pds B B p k).2.2.2.2.2))), some (.int (nI 1))]) e_X9_eatsSo_90 rfl (nI_add _ 1) rfl ?_
            refine V_goto (tgt := 6) e_X9_eatsSo_93 (by decide) ?_
            rw [show nI 0 = nI (toldP (fun i => eatsP B (bitN (B 6) p) (pdays B (bitN (B 6) p) (pn B p) i)) d (k + 1)) from congrArg nI (Eq.symm (if_pos d8))]; refine V_forget 6 (V_forget 7 ?_); exact ih (n - (k + 1)) (by omega) (k + 1) rfl (by omega)
          · have d8 : ¬ toldP (fun i => eatsP B (bitN (B 6) p) (pdays B (bitN (B 6) p) (pn B p) i)) d k = 0 := nq_ne (by omega) (by omega) c8
            refine V_iload e_X9_eatsSo_69 rfl ?_
            refine V_aload_n e_X9_eatsSo_71 rfl rfl ?_
            refine V_getr (r := 295) e_X9_eatsSo_72 F_X9_item f_X9_16 rfl rfl ?_
            refine V_iload_n e_X9_eatsSo_75 rfl rfl ?_
            refine V_iload e_X9_eatsSo_76 rfl ?_
            refine V_iaddN (z := nI (f + k)) e_X9_eatsSo_78 (nI_add _ _) ?_
            refine V_ialdv (v := d k) (j := (f + k)) e_X9_eatsSo_79 rfl rfl (by have q : ln 295 = 320 := rfl; omega) ((stM_ne (by decide)).trans (hd k (by omega))) ?_
            refine V_icmp_ne (tgt := 87) e_X9_eatsSo_80 (by decide) (fun c9 => ?_) (fun c9 => ?_)
            · refine V_iconst (v := nI 0) e_X9_eatsSo_87 (by decide) ?_
              refine V_istore (L' := [some (.ref (eB E + 292)), some (.int (nI p)), some (.int (nI f)), some (.int (nI n)), some (.int (nI 0)), some (.int (nI k)), some (.int (nI ((pds B B p k).2.2.2.2.2))), some (.int (nI 1))]) e_X9_eatsSo_88 rfl ?_
              refine V_iinc (v := nI (k + 1)) (L' := [some (.ref (eB E + 292)), some (.int (nI p)), some (.int (nI f)), some (.int (nI n)), some (.int (nI 0)), some (.int (nI (k + 1))), some (.int (nI ((pds B B p k).2.2.2.2.2))), some (.int (nI 1))]) e_X9_eatsSo_90 rfl (nI_add _ 1) rfl ?_
              refine V_goto (tgt := 6) e_X9_eatsSo_93 (by decide) ?_
              rw [show nI 0 = nI (toldP (fun i => eatsP B (bitN (B 6) p) (pdays B (bitN (B 6) p) (pn B p) i)) d (k + 1)) from congrArg nI (Eq.symm ((if_neg d8).trans (if_neg (fun z => c9 ((congrArg nI hat).symm.trans z)))))]; refine V_forget 6 (V_forget 7 ?_); exact ih (n - (k + 1)) (by omega) (k + 1) rfl (by omega)
            · refine V_iconst (v := nI 1) e_X9_eatsSo_83 (by decide) ?_
              refine V_goto (tgt := 88) e_X9_eatsSo_84 (by decide) ?_
              refine V_istore (L' := [some (.ref (eB E + 292)), some (.int (nI p)), some (.int (nI f)), some (.int (nI n)), some (.int (nI 1)), some (.int (nI k)), some (.int (nI ((pds B B p k).2.2.2.2.2))), some (.int (nI 1))]) e_X9_eatsSo_88 rfl ?_
              refine V_iinc (v := nI (k + 1)) (L' := [some (.ref (eB E + 292)), some (.int (nI p)), some (.int (nI f)), some (.int (nI n)), some (.int (nI 1)), some (.int (nI (k + 1))), some (.int (nI ((pds B B p k).2.2.2.2.2))), some (.int (nI 1))]) e_X9_eatsSo_90 rfl (nI_add _ 1) rfl ?_
              refine V_goto (tgt := 6) e_X9_eatsSo_93 (by decide) ?_
              rw [show nI 1 = nI (toldP (fun i => eatsP B (bitN (B 6) p) (pdays B (bitN (B 6) p) (pn B p) i)) d (k + 1)) from congrArg nI (Eq.symm ((if_neg d8).trans (if_pos ((congrArg nI hat).trans c9))))]; refine V_forget 6 (V_forget 7 ?_); exact ih (n - (k + 1)) (by omega) (k + 1) rfl (by omega)
set_option maxRecDepth 100000 in
set_option maxHeartbeats 4000000 in
theorem c_X9_eatsSo (E : En) (p f n : Nat) (B : Vec) (d : Nat → Int32) (σ : Sg) (hF : WF B) (hp : p < B 1) (h5 : B 1 ≤ 5) (hn : n ≤ 12) (hh : (pn B p).2.2.2.2.2 ≤ 1000000) (hfn : f + n ≤ 320) (hd : ∀ j, j < n → σ 295 (f + j) = d j) : Cn E m_X9_eatsSo 6 [.ref (eB E + 292), .int (nI p), .int (nI f), .int (nI n)] (stM σ 298 B) (pI (fun σ' r => σ' = stM σ 298 (daysV B n) ∧ r = nI (tld B (bitN (B 6) p) (pn B p) d n))) := by
  refine Cn.of [some (.ref (eB E + 292)), some (.int (nI p)), some (.int (nI f)), some (.int (nI n)), none, none, none, none] (by decide) (Nat.le_of_ble_eq_true rfl) rfl ?_
  refine V_iconst (v := nI 1) e_X9_eatsSo_0 (by decide) ?_
  refine V_istore (L' := [some (.ref (eB E + 292)), some (.int (nI p)), some (.int (nI f)), some (.int (nI n)), some (.int (nI 1)), none, none, none]) e_X9_eatsSo_1 rfl ?_
  refine V_iconst (v := nI 0) e_X9_eatsSo_3 (by decide) ?_
  refine V_istore (L' := [some (.ref (eB E + 292)), some (.int (nI p)), some (.int (nI f)), some (.int (nI n)), some (.int (nI 1)), some (.int (nI 0)), none, none]) e_X9_eatsSo_4 rfl ?_
  have hX := lp_X9_eatsSo E p f n B d σ hF hp h5 hn hh hfn hd n 0 rfl (by omega); exact hX
set_option maxRecDepth 100000 in
set_option maxHeartbeats 4000000 in
theorem c_X9_rowFound (E : En) (r n : Nat) (v : Int32) (A : Vec) (T : AbT) (σ : Sg) (hJ : IM σ (A, T)) (hr : r < 8) (hn : n ≤ 12) : Cn E m_X9_rowFound 2 [.ref (eB E + 292), .int (nI r), .int v, .int (nI n)] σ (pI (fun σ' q => σ' = up2 σ 292 1 (nI (fndS ((aR (A, T)).1 r) ((aR (A, T)).2.1 r) v (nI n))) ∧ q = if fndS ((aR (A, T)).1 r) ((aR (A, T)).2.1 r) v (nI n) = 0 then nI 0 else (-1000010) - nI (fndS ((aR (A, T)).1 r) ((aR (A, T)).2.1 r) v (nI n)))) := by
  have hMR : MR σ (aR (A, T)) := hJ.2.2.2.2.1
  obtain ⟨er1, er2, er3⟩ := hMR r hr
  have hGr := hJ.1.rows r hr
  refine Cn.of [some (.ref (eB E + 292)), some (.int (nI r)), some (.int v), some (.int (nI n))] (by decide) (Nat.le_of_ble_eq_true rfl) rfl ?_
  refine V_aload_n e_X9_rowFound_0 rfl rfl ?_
  refine V_getr (r := 293) e_X9_rowFound_1 F_X9_lane f_X9_7 rfl rfl ?_
  refine V_iload_n e_X9_rowFound_4 rfl rfl ?_
  refine V_ialdv (v := nI ((aR (A, T)).1 r) - nI 1) (j := r) e_X9_rowFound_5 rfl rfl (by have q : ln 293 = 8 := rfl; omega) er1 ?_
  refine V_if_ge (tgt := 15) e_X9_rowFound_6 (by decide) (fun c1 => ?_) (fun c1 => ?_)
  · have hlr : ¬ (aR (A, T)).1 r = 0 := ln_ge hGr.1 c1
    refine V_iload_n e_X9_rowFound_15 rfl rfl ?_
    refine V_if_lt (tgt := 35) e_X9_rowFound_16 (by decide) (fun c2 => ?_) (fun c2 => ?_)
    · refine V_aload_n e_X9_rowFound_35 rfl rfl ?_
      refine V_iconst (v := nI 2) e_X9_rowFound_36 (by decide) ?_
      refine V_cvIe (av := [.int (nI 2)]) (st := []) e_X9_rowFound_37 (c_X9_finding E 2 σ) l_X9_74 S_X9_finding rfl (rm_ok (by decide) (by decide)) rfl rfl (Nat.le_of_ble_eq_true rfl) ?_
      exact V_iret e_X9_rowFound_40 rfl (by rw [show fndS ((aR (A, T)).1 r) ((aR (A, T)).2.1 r) v (nI n) = 2 from fndS_no hlr (pl_i c2)]; exact ⟨rfl, rfl⟩)
    · obtain ⟨i, hi31, rfl⟩ := i_nat c2
      refine V_iload_n e_X9_rowFound_19 rfl rfl ?_
      refine V_i2lN (z := lN i) e_X9_rowFound_20 (nI_l (by omega)) ?_
      refine V_iload_n e_X9_rowFound_21 rfl rfl ?_
      refine V_i2lN (z := lN n) e_X9_rowFound_22 (nI_l (by omega)) ?_
      refine V_laddN (z := lN (i + n)) e_X9_rowFound_23 (lN_add _ _) ?_
      refine V_aload_n e_X9_rowFound_24 rfl rfl ?_
      refine V_getr (r := 294) e_X9_rowFound_25 F_X9_many f_X9_13 rfl rfl ?_
      refine V_iload_n e_X9_rowFound_28 rfl rfl ?_
      refine V_ialdv (v := nI ((aR (A, T)).2.1 r)) (j := r) e_X9_rowFound_29 rfl rfl (by have q : ln 294 = 8 := rfl; omega) er2 ?_
      refine V_i2lN (z := lN ((aR (A, T)).2.1 r)) e_X9_rowFound_30 (nI_l (by omega)) ?_
      refine V_lcmp e_X9_rowFound_31 ?_
      refine V_if_le (tgt := 41) e_X9_rowFound_32 (by decide) (fun c3 => ?_) (fun c3 => ?_)
      · have d3 : i + n ≤ (aR (A, T)).2.1 r := lc_le (by omega) (by omega) c3
        refine V_aload_n e_X9_rowFound_41 rfl rfl ?_
        refine V_iconst (v := nI 0) e_X9_rowFound_42 (by decide) ?_
        refine V_puti e_X9_rowFound_43 F_X9_status f_X9_57 rfl ?_
        refine V_iconst (v := nI 0) e_X9_rowFound_46 (by decide) ?_
        exact V_iret e_X9_rowFound_47 rfl (by rw [show fndS ((aR (A, T)).1 r) ((aR (A, T)).2.1 r) (nI i) (nI n) = 0 from fndS_ok hlr (by omega) (by omega) d3]; exact ⟨rfl, rfl⟩)
      · have d3 : (aR (A, T)).2.1 r < i + n := lc_nle (by omega) (by omega) c3
        refine V_aload_n e_X9_rowFound_35 rfl rfl ?_
        refine V_iconst (v := nI 2) e_X9_rowFound_36 (by decide) ?_
        refine V_cvIe (av := [.int (nI 2)]) (st := []) e_X9_rowFound_37 (c_X9_finding E 2 σ) l_X9_74 S_X9_finding rfl (rm_ok (by decide) (by decide)) rfl rfl (Nat.le_of_ble_eq_true rfl) ?_
        exact V_iret e_X9_rowFound_40 rfl (by rw [show fndS ((aR (A, T)).1 r) ((aR (A, T)).2.1 r) (nI i) (nI n) = 2 from fndS_no hlr (pl_s (by omega) (by omega) d3)]; exact ⟨rfl, rfl⟩)
  · have hlr : (aR (A, T)).1 r = 0 := ln_nge hGr.1 c1
    refine V_aload_n e_X9_rowFound_9 rfl rfl ?_
    refine V_iconst (v := nI 1) e_X9_rowFound_10 (by decide) ?_
    refine V_cvIe (av := [.int (nI 1)]) (st := []) e_X9_rowFound_11 (c_X9_finding E 1 σ) l_X9_74 S_X9_finding rfl (rm_ok (by decide) (by decide)) rfl rfl (Nat.le_of_ble_eq_true rfl) ?_
    exact V_iret e_X9_rowFound_14 rfl (by rw [show fndS ((aR (A, T)).1 r) ((aR (A, T)).2.1 r) v (nI n) = 1 from (by rw [hlr]; exact fndS_l0)]; exact ⟨rfl, rfl⟩)
set_option maxRecDepth 100000 in
set_option maxHeartbeats 4000000 in
theorem lp_X9_what_0 (E : En) (g p r i n : Nat) (A : Vec) (d : Nat → Int32) (Q : Sg → Int32 → Prop) (σ : Sg) (hM : RepM σ 296 A) (hF : WF A) (hB : HBd A) (h5 : A 1 ≤ 5) (hG6 : A 0 ≤ 6) (hp : p < A 1) (hg : g < A 0) (hn : n ≤ 12) (hr : r < 8) (hri : i + n ≤ 40) (hd : ∀ j, j < n → σ 295 (40 * r + i + j) = d j) (hQ : ∀ τ, F8 σ τ → Q τ (nI (fitK (fun v => tld (setK A g v) (bitN (A 6) p) (pn A p) d n) 1 5))) : ∀ (mm : Nat) (k : Nat) (τ : Sg), 5 - k = mm → (k ≤ 5) → (F8 σ τ) → V E m_X9_what (kM E 12 (pI Q)) 89 [some (.ref (eB E + 292)), some (.int (nI g)), some (.int (nI 0)), some (.int (nI p)), some (.int (nI r)), some (.int (nI i)), some (.int (nI n)), some (.int (nI 0)), some (.int (nI (fitK (fun v => tld (setK A g v) (bitN (A 6) p) (pn A p) d n) 1 k))), some (.int (nI (1 + k)))] [] τ := by
  intro mm
  induction mm using Nat.strongRecOn with
  | ind mm ih =>
    intro k τ hmm hk hI
    refine V_iload e_X9_what_89 rfl ?_
    refine V_iload_n e_X9_what_91 rfl rfl ?_
    refine V_if_ne (tgt := 99) e_X9_what_92 (by decide) (fun c1 => absurd c1 (by decide)) (fun c1 => ?_)
    refine V_iconst (v := nI 5) e_X9_what_95 (by decide) ?_
    refine V_goto (tgt := 100) e_X9_what_96 (by decide) ?_
    refine V_icmp_gt (tgt := 167) e_X9_what_100 (by decide) (fun c2 => ?_) (fun c2 => ?_)
    · have d2 : 5 < 1 + k := nq_lt (by omega) (by omega) c2
      refine V_iload e_X9_what_167 rfl ?_
      exact V_iret e_X9_what_169 rfl (by have hq := hQ τ hI; rw [show k = 5 by omega]; exact hq)
    · have d2 : ¬ 5 < 1 + k := nq_nlt (by omega) (by omega) c2
      refine V_aload_n e_X9_what_103 rfl rfl ?_
      refine V_cvVe (av := []) (st := []) e_X9_what_104 (c_X9_layThen E A τ (hI.rep hM)) l_X9_223 S_X9_layThen rfl (rm_ok (by decide) (by decide)) rfl rfl (Nat.le_of_ble_eq_true rfl) ?_
      refine V_aload_n e_X9_what_107 rfl rfl ?_
      refine V_getr (r := 298) e_X9_what_108 F_X9_then f_X9_25 rfl rfl ?_
      refine V_bipush (v := nI 7) e_X9_what_111 (by decide) ?_
      refine V_iconst (v := nI 3) e_X9_what_113 (by decide) ?_
      refine V_iload_n e_X9_what_114 rfl rfl ?_
      refine V_imulN (z := nI (3 * g)) e_X9_what_115 (pk_mul _ _) ?_
      refine V_iaddN (z := nI (7 + (3 * g))) e_X9_what_116 (nI_add _ _) ?_
      refine V_iload_n e_X9_what_117 rfl rfl ?_
      refine V_if_ne (tgt := 125) e_X9_what_118 (by decide) (fun c3 => absurd c3 (by decide)) (fun c3 => ?_)
      refine V_iconst (v := nI 0) e_X9_what_121 (by decide) ?_
      refine V_goto (tgt := 126) e_X9_what_122 (by decide) ?_
      refine V_iaddN (z := nI (7 + (3 * g) + 0)) e_X9_what_126 (nI_add _ _) ?_
      refine V_iload e_X9_what_127 rfl ?_
      refine V_iast (j := (7 + (3 * g) + 0)) e_X9_what_129 rfl rfl (by have q : ln 298 = 55 := rfl; omega) ?_
      rw [show up2 (stM τ 298 A) 298 (7 + (3 * g) + 0) (nI (1 + k)) = stM τ 298 (setK A g (1 + k)) from (by rw [show 7 + 3 * g + 0 = 7 + 3 * g by omega, stM_up (by omega)]; rfl)]
      refine V_iload e_X9_what_130 rfl ?_
      refine V_aload_n e_X9_what_132 rfl rfl ?_
      refine V_iload_n e_X9_what_133 rfl rfl ?_
      refine V_bipush (v := nI 40) e_X9_what_134 (by decide) ?_
      refine V_iload e_X9_what_136 rfl ?_
      refine V_imulN (z := nI (40 * r)) e_X9_what_138 (pk_mul _ _) ?_
      refine V_iload e_X9_what_139 rfl ?_
      refine V_iaddN (z := nI (40 * r + i)) e_X9_what_141 (nI_add _ _) ?_
      refine V_iload e_X9_what_142 rfl ?_
      refine V_cvIe (av := [.int (nI p), .int (nI (40 * r + i)), .int (nI n)]) (st := [.int (nI (fitK (fun v => tld (setK A g v) (bitN (A 6) p) (pn A p) d n) 1 k))]) e_X9_what_144 (c_X9_eatsSo E p (40 * r + i) n (setK A g (1 + k)) d τ (hF.sK (by omega) (by omega) (by omega)) (by rw [setK_ne (k := 1) (by omega)]; exact hp) (by rw [setK_ne (k := 1) (by omega)]; exact h5) hn (by rw [pn_sK (by omega)]; exact (by show A (30 + 6 * p) ≤ 1000000; exact hB p hp)) (by omega) (fun j hj => (hI 295 _ (by decide)).trans (hd j hj))) l_X9_262 S_X9_eatsSo rfl (rm_ok (by decide) (by decide)) rfl rfl (Nat.le_of_ble_eq_true rfl) ?_
      refine V_topi (y := nI (tld (setK A g (1 + k)) (bitN (A 6) p) (pn A p) d n)) (congrArg nI (tld_K (by omega))) ?_
      have htl := tld_le (setK A g (1 + k)) (bitN (A 6) p) (pn A p) d n
      refine V_if_eq (tgt := 157) e_X9_what_147 (by decide) (fun c4 => ?_) (fun c4 => ?_)
      · have d4 : tld (setK A g (1 + k)) (bitN (A 6) p) (pn A p) d n = 0 := nq_eq (by omega) (by omega) c4
        refine V_iconst (v := nI 0) e_X9_what_157 (by decide) ?_
        refine V_iorN (z := nI ((fitK (fun v => tld (setK A g v) (bitN (A 6) p) (pn A p) d n) 1 k) ||| 0)) e_X9_what_158 (lorI _ _) ?_
        refine V_istore (L' := [some (.ref (eB E + 292)), some (.int (nI g)), some (.int (nI 0)), some (.int (nI p)), some (.int (nI r)), some (.int (nI i)), some (.int (nI n)), some (.int (nI 0)), some (.int (nI ((fitK (fun v => tld (setK A g v) (bitN (A 6) p) (pn A p) d n) 1 k) ||| 0))), some (.int (nI (1 + k)))]) e_X9_what_159 rfl ?_
        refine V_iinc (v := nI (1 + k + 1)) (L' := [some (.ref (eB E + 292)), some (.int (nI g)), some (.int (nI 0)), some (.int (nI p)), some (.int (nI r)), some (.int (nI i)), some (.int (nI n)), some (.int (nI 0)), some (.int (nI ((fitK (fun v => tld (setK A g v) (bitN (A 6) p) (pn A p) d n) 1 k) ||| 0))), some (.int (nI (1 + k + 1)))]) e_X9_what_161 rfl (nI_add _ 1) rfl ?_
        refine V_goto (tgt := 89) e_X9_what_164 (by decide) ?_
        rw [show (fitK (fun v => tld (setK A g v) (bitN (A 6) p) (pn A p) d n) 1 k) ||| 0 = fitK (fun v => tld (setK A g v) (bitN (A 6) p) (pn A p) d n) 1 (k + 1) from (show (fitK (fun v => tld (setK A g v) (bitN (A 6) p) (pn A p) d n) 1 k) ||| 0 = fitK (fun v => tld (setK A g v) (bitN (A 6) p) (pn A p) d n) 1 k ||| (if tld (setK A g (1 + k)) (bitN (A 6) p) (pn A p) d n = 0 then 0 else 2 ^ (1 + k)) from (by (first | rw [if_pos d4] | rw [if_neg d4])))]; exact ih (5 - (k + 1)) (by omega) (k + 1) _ rfl (by omega) hI.st
      · have d4 : ¬ tld (setK A g (1 + k)) (bitN (A 6) p) (pn A p) d n = 0 := nq_ne (by omega) (by omega) c4
        refine V_iconst (v := nI 1) e_X9_what_150 (by decide) ?_
        refine V_iload e_X9_what_151 rfl ?_
        refine V_ishlN (z := nI (2 ^ (1 + k))) e_X9_what_153 (shl1 (by omega)) ?_
        refine V_goto (tgt := 158) e_X9_what_154 (by decide) ?_
        refine V_iorN (z := nI ((fitK (fun v => tld (setK A g v) (bitN (A 6) p) (pn A p) d n) 1 k) ||| (2 ^ (1 + k)))) e_X9_what_158 (lorI _ _) ?_
        refine V_istore (L' := [some (.ref (eB E + 292)), some (.int (nI g)), some (.int (nI 0)), some (.int (nI p)), some (.int (nI r)), some (.int (nI i)), some (.int (nI n)), some (.int (nI 0)), some (.int (nI ((fitK (fun v => tld (setK A g v) (bitN (A 6) p) (pn A p) d n) 1 k) ||| (2 ^ (1 + k))))), some (.int (nI (1 + k)))]) e_X9_what_159 rfl ?_
        refine V_iinc (v := nI (1 + k + 1)) (L' := [some (.ref (eB E + 292)), some (.int (nI g)), some (.int (nI 0)), some (.int (nI p)), some (.int (nI r)), some (.int (nI i)), some (.int (nI n)), some (.int (nI 0)), some (.int (nI ((fitK (fun v => tld (setK A g v) (bitN (A 6) p) (pn A p) d n) 1 k) ||| (2 ^ (1 + k))))), some (.int (nI (1 + k + 1)))]) e_X9_what_161 rfl (nI_add _ 1) rfl ?_
        refine V_goto (tgt := 89) e_X9_what_164 (by decide) ?_
        rw [show (fitK (fun v => tld (setK A g v) (bitN (A 6) p) (pn A p) d n) 1 k) ||| (2 ^ (1 + k)) = fitK (fun v => tld (setK A g v) (bitN (A 6) p) (pn A p) d n) 1 (k + 1) from (show (fitK (fun v => tld (setK A g v) (bitN (A 6) p) (pn A p) d n) 1 k) ||| (2 ^ (1 + k)) = fitK (fun v => tld (setK A g v) (bitN (A 6) p) (pn A p) d n) 1 k ||| (if tld (setK A g (1 + k)) (bitN (A 6) p) (pn A p) d n = 0 then 0 else 2 ^ (1 + k)) from (by (first | rw [if_pos d4] | rw [if_neg d4])))]; exact ih (5 - (k + 1)) (by omega) (k + 1) _ rfl (by omega) hI.st
set_option maxRecDepth 100000 in
set_option maxHeartbeats 4000000 in
theorem lp_X9_what_1 (E : En) (g p r i n : Nat) (A : Vec) (d : Nat → Int32) (Q : Sg → Int32 → Prop) (σ : Sg) (hM : RepM σ 296 A) (hF : WF A) (hB : HBd A) (h5 : A 1 ≤ 5) (hG6 : A 0 ≤ 6) (hp : p < A 1) (hg : g < A 0) (hn : n ≤ 12) (hr : r < 8) (hri : i + n ≤ 40) (hd : ∀ j, j < n → σ 295 (40 * r + i + j) = d j) (hQ : ∀ τ, F8 σ τ → Q τ (nI (fitK (fun v => tld (setF A g v) (bitN (A 6) p) (pn A p) d n) 0 2))) : ∀ (mm : Nat) (k : Nat) (τ : Sg), 2 - k = mm → (k ≤ 2) → (F8 σ τ) → V E m_X9_what (kM E 12 (pI Q)) 89 [some (.ref (eB E + 292)), some (.int (nI g)), some (.int (nI 1)), some (.int (nI p)), some (.int (nI r)), some (.int (nI i)), some (.int (nI n)), some (.int (nI 0)), some (.int (nI (fitK (fun v => tld (setF A g v) (bitN (A 6) p) (pn A p) d n) 0 k))), some (.int (nI (0 + k)))] [] τ := by
  intro mm
  induction mm using Nat.strongRecOn with
  | ind mm ih =>
    intro k τ hmm hk hI
    refine V_iload e_X9_what_89 rfl ?_
    refine V_iload_n e_X9_what_91 rfl rfl ?_
    refine V_if_ne (tgt := 99) e_X9_what_92 (by decide) (fun c1 => ?_) (fun c1 => absurd c1 (by decide))
    refine V_iconst (v := nI 1) e_X9_what_99 (by decide) ?_
    refine V_icmp_gt (tgt := 167) e_X9_what_100 (by decide) (fun c2 => ?_) (fun c2 => ?_)
    · have d2 : 1 < 0 + k := nq_lt (by omega) (by omega) c2
      refine V_iload e_X9_what_167 rfl ?_
      exact V_iret e_X9_what_169 rfl (by have hq := hQ τ hI; rw [show k = 2 by omega]; exact hq)
    · have d2 : ¬ 1 < 0 + k := nq_nlt (by omega) (by omega) c2
      refine V_aload_n e_X9_what_103 rfl rfl ?_
      refine V_cvVe (av := []) (st := []) e_X9_what_104 (c_X9_layThen E A τ (hI.rep hM)) l_X9_223 S_X9_layThen rfl (rm_ok (by decide) (by decide)) rfl rfl (Nat.le_of_ble_eq_true rfl) ?_
      refine V_aload_n e_X9_what_107 rfl rfl ?_
      refine V_getr (r := 298) e_X9_what_108 F_X9_then f_X9_25 rfl rfl ?_
      refine V_bipush (v := nI 7) e_X9_what_111 (by decide) ?_
      refine V_iconst (v := nI 3) e_X9_what_113 (by decide) ?_
      refine V_iload_n e_X9_what_114 rfl rfl ?_
      refine V_imulN (z := nI (3 * g)) e_X9_what_115 (pk_mul _ _) ?_
      refine V_iaddN (z := nI (7 + (3 * g))) e_X9_what_116 (nI_add _ _) ?_
      refine V_iload_n e_X9_what_117 rfl rfl ?_
      refine V_if_ne (tgt := 125) e_X9_what_118 (by decide) (fun c3 => ?_) (fun c3 => absurd c3 (by decide))
      refine V_iconst (v := nI 2) e_X9_what_125 (by decide) ?_
      refine V_iaddN (z := nI (7 + (3 * g) + 2)) e_X9_what_126 (nI_add _ _) ?_
      refine V_iload e_X9_what_127 rfl ?_
      refine V_iast (j := (7 + (3 * g) + 2)) e_X9_what_129 rfl rfl (by have q : ln 298 = 55 := rfl; omega) ?_
      rw [show up2 (stM τ 298 A) 298 (7 + (3 * g) + 2) (nI (0 + k)) = stM τ 298 (setF A g (0 + k)) from (by rw [show 7 + 3 * g + 2 = 9 + 3 * g by omega, stM_up (by omega)]; rfl)]
      refine V_iload e_X9_what_130 rfl ?_
      refine V_aload_n e_X9_what_132 rfl rfl ?_
      refine V_iload_n e_X9_what_133 rfl rfl ?_
      refine V_bipush (v := nI 40) e_X9_what_134 (by decide) ?_
      refine V_iload e_X9_what_136 rfl ?_
      refine V_imulN (z := nI (40 * r)) e_X9_what_138 (pk_mul _ _) ?_
      refine V_iload e_X9_what_139 rfl ?_
      refine V_iaddN (z := nI (40 * r + i)) e_X9_what_141 (nI_add _ _) ?_
      refine V_iload e_X9_what_142 rfl ?_
      refine V_cvIe (av := [.int (nI p), .int (nI (40 * r + i)), .int (nI n)]) (st := [.int (nI (fitK (fun v => tld (setF A g v) (bitN (A 6) p) (pn A p) d n) 0 k))]) e_X9_what_144 (c_X9_eatsSo E p (40 * r + i) n (setF A g (0 + k)) d τ (hF.sF (by omega) (by omega)) (by rw [setF_ne (k := 1) (by omega)]; exact hp) (by rw [setF_ne (k := 1) (by omega)]; exact h5) hn (by rw [pn_sF (by omega)]; exact (by show A (30 + 6 * p) ≤ 1000000; exact hB p hp)) (by omega) (fun j hj => (hI 295 _ (by decide)).trans (hd j hj))) l_X9_262 S_X9_eatsSo rfl (rm_ok (by decide) (by decide)) rfl rfl (Nat.le_of_ble_eq_true rfl) ?_
      refine V_topi (y := nI (tld (setF A g (0 + k)) (bitN (A 6) p) (pn A p) d n)) (congrArg nI (tld_F (by omega))) ?_
      have htl := tld_le (setF A g (0 + k)) (bitN (A 6) p) (pn A p) d n
      refine V_if_eq (tgt := 157) e_X9_what_147 (by decide) (fun c4 => ?_) (fun c4 => ?_)
      · have d4 : tld (setF A g (0 + k)) (bitN (A 6) p) (pn A p) d n = 0 := nq_eq (by omega) (by omega) c4
        refine V_iconst (v := nI 0) e_X9_what_157 (by decide) ?_
        refine V_iorN (z := nI ((fitK (fun v => tld (setF A g v) (bitN (A 6) p) (pn A p) d n) 0 k) ||| 0)) e_X9_what_158 (lorI _ _) ?_
        refine V_istore (L' := [some (.ref (eB E + 292)), some (.int (nI g)), some (.int (nI 1)), some (.int (nI p)), some (.int (nI r)), some (.int (nI i)), some (.int (nI n)), some (.int (nI 0)), some (.int (nI ((fitK (fun v => tld (setF A g v) (bitN (A 6) p) (pn A p) d n) 0 k) ||| 0))), some (.int (nI (0 + k)))]) e_X9_what_159 rfl ?_
        refine V_iinc (v := nI (0 + k + 1)) (L' := [some (.ref (eB E + 292)), some (.int (nI g)), some (.int (nI 1)), some (.int (nI p)), some (.int (nI r)), some (.int (nI i)), some (.int (nI n)), some (.int (nI 0)), some (.int (nI ((fitK (fun v => tld (setF A g v) (bitN (A 6) p) (pn A p) d n) 0 k) ||| 0))), some (.int (nI (0 + k + 1)))]) e_X9_what_161 rfl (nI_add _ 1) rfl ?_
        refine V_goto (tgt := 89) e_X9_what_164 (by decide) ?_
        rw [show (fitK (fun v => tld (setF A g v) (bitN (A 6) p) (pn A p) d n) 0 k) ||| 0 = fitK (fun v => tld (setF A g v) (bitN (A 6) p) (pn A p) d n) 0 (k + 1) from (show (fitK (fun v => tld (setF A g v) (bitN (A 6) p) (pn A p) d n) 0 k) ||| 0 = fitK (fun v => tld (setF A g v) (bitN (A 6) p) (pn A p) d n) 0 k ||| (if tld (setF A g (0 + k)) (bitN (A 6) p) (pn A p) d n = 0 then 0 else 2 ^ (0 + k)) from (by (first | rw [if_pos d4] | rw [if_neg d4])))]; exact ih (2 - (k + 1)) (by omega) (k + 1) _ rfl (by omega) hI.st
      · have d4 : ¬ tld (setF A g (0 + k)) (bitN (A 6) p) (pn A p) d n = 0 := nq_ne (by omega) (by omega) c4
        refine V_iconst (v := nI 1) e_X9_what_150 (by decide) ?_
        refine V_iload e_X9_what_151 rfl ?_
        refine V_ishlN (z := nI (2 ^ (0 + k))) e_X9_what_153 (shl1 (by omega)) ?_
        refine V_goto (tgt := 158) e_X9_what_154 (by decide) ?_
        refine V_iorN (z := nI ((fitK (fun v => tld (setF A g v) (bitN (A 6) p) (pn A p) d n) 0 k) ||| (2 ^ (0 + k)))) e_X9_what_158 (lorI _ _) ?_
        refine V_istore (L' := [some (.ref (eB E + 292)), some (.int (nI g)), some (.int (nI 1)), some (.int (nI p)), some (.int (nI r)), some (.int (nI i)), some (.int (nI n)), some (.int (nI 0)), some (.int (nI ((fitK (fun v => tld (setF A g v) (bitN (A 6) p) (pn A p) d n) 0 k) ||| (2 ^ (0 + k))))), some (.int (nI (0 + k)))]) e_X9_what_159 rfl ?_
        refine V_iinc (v := nI (0 + k + 1)) (L' := [some (.ref (eB E + 292)), some (.int (nI g)), some (.int (nI 1)), some (.int (nI p)), some (.int (nI r)), some (.int (nI i)), some (.int (nI n)), some (.int (nI 0)), some (.int (nI ((fitK (fun v => tld (setF A g v) (bitN (A 6) p) (pn A p) d n) 0 k) ||| (2 ^ (0 + k))))), some (.int (nI (0 + k + 1)))]) e_X9_what_161 rfl (nI_add _ 1) rfl ?_
        refine V_goto (tgt := 89) e_X9_what_164 (by decide) ?_
        rw [show (fitK (fun v => tld (setF A g v) (bitN (A 6) p) (pn A p) d n) 0 k) ||| (2 ^ (0 + k)) = fitK (fun v => tld (setF A g v) (bitN (A 6) p) (pn A p) d n) 0 (k + 1) from (show (fitK (fun v => tld (setF A g v) (bitN (A 6) p) (pn A p) d n) 0 k) ||| (2 ^ (0 + k)) = fitK (fun v => tld (setF A g v) (bitN (A 6) p) (pn A p) d n) 0 k ||| (if tld (setF A g (0 + k)) (bitN (A 6) p) (pn A p) d n = 0 then 0 else 2 ^ (0 + k)) from (by (first | rw [if_pos d4] | rw [if_neg d4])))]; exact ih (2 - (k + 1)) (by omega) (k + 1) _ rfl (by omega) hI.st
theorem F8.b {σ τ : Sg} (h : F8 σ τ) : Fb 292 307 σ τ := fun a k hk => h a k (by omega)
theorem IM.f8 {σ τ : Sg} {S : Ab} (h : IM σ S) (e : F8 σ τ) : IM τ S := h.fm (fun a k h1 _ => e a k h1)
set_option maxRecDepth 100000 in
set_option maxHeartbeats 4000000 in
theorem c9_what (E : En) (x y z w v u : Int32) (A : Vec) (T : AbT) (σ : Sg) (hJ0 : IM σ (A, T)) : Cn E m_X9_what 12 [.ref (eB E + 292), .int x, .int y, .int z, .int w, .int v, .int u] σ (pM σ (oWhat (A, T) x y z w v u)) := by
  have hGD : GD A := hJ0.1.1
  have hN : WN A := hGD.1
  have hNl := hN.le
  have hA4 : A 4 ≤ 999 := hGD.2.2
  have hG := hJ0.1
  have hB := hGD.hb
  refine Cn.of [some (.ref (eB E + 292)), some (.int x), some (.int y), some (.int z), some (.int w), some (.int v), some (.int u), none, none, none] (by decide) (Nat.le_of_ble_eq_true rfl) rfl ?_
  refine V_aload_n e_X9_what_0 rfl rfl ?_
  refine V_iconst (v := nI 0) e_X9_what_1 (by decide) ?_
  refine V_puti e_X9_what_2 F_X9_thrown f_X9_53 rfl ?_
  generalize hτ : up2 σ 292 0 (nI 0) = τ
  have hfb : Fb 292 307 σ τ := hτ ▸ th_fb
  have hJ : IM τ (A, T) := hτ ▸ hJ0.fm Fm.th
  have hM : RepM τ 296 A := hJ.2.1
  refine V_aload_n e_X9_what_5 rfl rfl ?_
  refine V_iload_n e_X9_what_6 rfl rfl ?_
  refine V_cvIe (av := [.int x]) (st := []) e_X9_what_7 (c_X9_isGate E x A τ hM) l_X9_207 S_X9_isGate rfl (rm_ok (by decide) (by decide)) rfl rfl (Nat.le_of_ble_eq_true rfl) ?_
  refine V_if_eq (tgt := 52) e_X9_what_10 (by decide) (fun c1 => ?_) (fun c1 => ?_)
  · refine V_ldc (v := (-1000001)) e_X9_what_52 k_X9_73 ?_
    exact V_iret e_X9_what_54 rfl (by rw [show oWhat (A, T) x y z w v u = ((A, T), (-1000001)) from (by unfold oWhat; (try unfold gIn); (try dsimp only); (try (repeat rw [ixN (by omega)])); (first | rw [if_pos c1] | rw [if_neg c1] | skip); try rfl)]; exact ⟨hfb, hJ, rfl⟩)
  · obtain ⟨g, hg, rfl⟩ := (wi_nat (by omega)).mp c1
    have hF : WF A := hN.wf (by omega)
    refine V_iload_n e_X9_what_13 rfl rfl ?_
    refine V_i2l e_X9_what_14 ?_
    refine V_lconst (v := lN 0) e_X9_what_15 (by decide) ?_
    refine V_lconst (v := lN 1) e_X9_what_16 (by decide) ?_
    refine V_csIe (av := [.long y.toInt64, .long (lN 0), .long (lN 1)]) (st := []) e_X9_what_17 (c_X9_inN E y (nI 0) (nI 1) (lN 0) (lN 1) τ (nI_l (by omega)) (nI_l (by omega))) l_X9_63 S_X9_in (rm_ok (by decide) (by decide)) rfl rfl (Nat.le_of_ble_eq_true rfl) ?_
    refine V_if_eq (tgt := 52) e_X9_what_20 (by decide) (fun c2 => ?_) (fun c2 => ?_)
    · refine V_ldc (v := (-1000001)) e_X9_what_52 k_X9_73 ?_
      exact V_iret e_X9_what_54 rfl (by rw [show oWhat (A, T) (nI g) y z w v u = ((A, T), (-1000001)) from (by unfold oWhat; (try unfold gIn); (try dsimp only); (try (repeat rw [ixN (by omega)])); (first | rw [if_pos c1] | rw [if_neg c1] | skip); (first | rw [if_pos c2] | rw [if_neg c2] | skip); try rfl)]; exact ⟨hfb, hJ, rfl⟩)
    · obtain ⟨k, hka, hk, rfl⟩ := (wi_le (by omega) (by omega)).mp c2
      refine V_aload_n e_X9_what_23 rfl rfl ?_
      refine V_iload_n e_X9_what_24 rfl rfl ?_
      refine V_cvIe (av := [.int z]) (st := []) e_X9_what_25 (c_X9_isMan E z A τ hM) l_X9_204 S_X9_isMan rfl (rm_ok (by decide) (by decide)) rfl rfl (Nat.le_of_ble_eq_true rfl) ?_
      refine V_if_eq (tgt := 52) e_X9_what_28 (by decide) (fun c3 => ?_) (fun c3 => ?_)
      · refine V_ldc (v := (-1000001)) e_X9_what_52 k_X9_73 ?_
        exact V_iret e_X9_what_54 rfl (by rw [show oWhat (A, T) (nI g) (nI k) z w v u = ((A, T), (-1000001)) from (by unfold oWhat; (try unfold gIn); (try dsimp only); (try (repeat rw [ixN (by omega)])); (first | rw [if_pos c1] | rw [if_neg c1] | skip); (first | rw [if_pos c2] | rw [if_neg c2] | skip); (first | rw [if_pos c3] | rw [if_neg c3] | skip); try rfl)]; exact ⟨hfb, hJ, rfl⟩)
      · obtain ⟨p, hp, rfl⟩ := (wi_nat (by omega)).mp c3
        refine V_iload e_X9_what_31 rfl ?_
        refine V_csIe (av := [.int w]) (st := []) e_X9_what_33 (c_X9_isRow E w τ) l_X9_67 S_X9_isRow (rm_ok (by decide) (by decide)) rfl rfl (Nat.le_of_ble_eq_true rfl) ?_
        refine V_if_eq (tgt := 52) e_X9_what_36 (by decide) (fun c4 => ?_) (fun c4 => ?_)
        · refine V_ldc (v := (-1000001)) e_X9_what_52 k_X9_73 ?_
          exact V_iret e_X9_what_54 rfl (by rw [show oWhat (A, T) (nI g) (nI k) (nI p) w v u = ((A, T), (-1000001)) from (by unfold oWhat; (try unfold gIn); (try dsimp only); (try (repeat rw [ixN (by omega)])); (first | rw [if_pos c1] | rw [if_neg c1] | skip); (first | rw [if_pos c2] | rw [if_neg c2] | skip); (first | rw [if_pos c3] | rw [if_neg c3] | skip); (first | rw [if_pos c4] | rw [if_neg c4] | skip); try rfl)]; exact ⟨hfb, hJ, rfl⟩)
        · obtain ⟨r, hra, hr, rfl⟩ := (wi_le (by omega) (by omega)).mp c4
          refine V_iload e_X9_what_39 rfl ?_
          refine V_i2l e_X9_what_41 ?_
          refine V_lconst (v := lN 1) e_X9_what_42 (by decide) ?_
          refine V_ldc2_w (v := lN 12) e_X9_what_43 kl_X9_256 ?_
          refine V_csIe (av := [.long u.toInt64, .long (lN 1), .long (lN 12)]) (st := []) e_X9_what_46 (c_X9_inN E u (nI 1) (nI 12) (lN 1) (lN 12) τ (nI_l (by omega)) (nI_l (by omega))) l_X9_63 S_X9_in (rm_ok (by decide) (by decide)) rfl rfl (Nat.le_of_ble_eq_true rfl) ?_
          refine V_if_ne (tgt := 55) e_X9_what_49 (by decide) (fun c5 => ?_) (fun c5 => ?_)
          · obtain ⟨n, hna, hn, rfl⟩ := (wi_le (by omega) (by omega)).mp c5
            refine V_aload_n e_X9_what_55 rfl rfl ?_
            refine V_iload e_X9_what_56 rfl ?_
            refine V_iload e_X9_what_58 rfl ?_
            refine V_iload e_X9_what_60 rfl ?_
            refine V_cvI (av := [.int (nI r), .int v, .int (nI n)]) (st := []) e_X9_what_62 (c_X9_rowFound E r n v A T τ hJ (by omega) (by omega)) l_X9_258 S_X9_rowFound rfl (rm_ok (by decide) (by decide)) rfl rfl (Nat.le_of_ble_eq_true rfl) ?_
            intro ρ q9 hh
            obtain ⟨hρ, rfl⟩ := hh
            have hfl := fndS_le ((aR (A, T)).1 r) ((aR (A, T)).2.1 r) v (nI n)
            have hfb0 : Fb 292 307 σ ρ := by rw [hρ]; exact hfb.tr th_fb
            have hK : IM ρ (wS (A, T) (fndS ((aR (A, T)).1 r) ((aR (A, T)).2.1 r) v (nI n))) := by rw [hρ]; exact imst hJ (by omega)
            have hMk : RepM ρ 296 A := hK.2.1
            rcases Decidable.em (fndS ((aR (A, T)).1 r) ((aR (A, T)).2.1 r) v (nI n) = 0) with hfn | hfn
            · rw [if_pos hfn]
              rw [hfn] at hK
              obtain ⟨hlr, hpl⟩ := fndS_0 hfn
              obtain ⟨i, n1, rfl, hb1, hin, hi31, hn31⟩ := hpl.nat
              obtain rfl : n = n1 := nq_eq (by omega) hn31 hb1
              have hit : ∀ j, j < n → ρ 295 (40 * r + i + j) = dinR (aR (A, T)) r i j := fun j hj => by rw [Nat.add_assoc]; exact (hK.2.2.2.2.1 r (by omega)).2.2 (i + j) (by have := (hG.rows r (by omega)).2; omega)
              have hm40 := (hG.rows r (by omega)).2
              refine V_istore (L' := [some (.ref (eB E + 292)), some (.int (nI g)), some (.int (nI k)), some (.int (nI p)), some (.int (nI r)), some (.int (nI i)), some (.int (nI n)), some (.int (nI 0)), none, none]) e_X9_what_65 rfl ?_
              refine V_iload e_X9_what_67 rfl ?_
              refine V_if_eq (tgt := 75) e_X9_what_69 (by decide) (fun c6 => ?_) (fun c6 => absurd c6 (by decide))
              rcases (show k = 0 ∨ k = 1 by omega) with rfl | rfl
              · skip
                refine V_iconst (v := nI 0) e_X9_what_75 (by decide) ?_
                refine V_istore (L' := [some (.ref (eB E + 292)), some (.int (nI g)), some (.int (nI 0)), some (.int (nI p)), some (.int (nI r)), some (.int (nI i)), some (.int (nI n)), some (.int (nI 0)), some (.int (nI 0)), none]) e_X9_what_76 rfl ?_
                refine V_iload_n e_X9_what_78 rfl rfl ?_
                refine V_if_ne (tgt := 86) e_X9_what_79 (by decide) (fun c7 => absurd c7 (by decide)) (fun c7 => ?_)
                refine V_iconst (v := nI 1) e_X9_what_82 (by decide) ?_
                refine V_goto (tgt := 87) e_X9_what_83 (by decide) ?_
                refine V_istore (L' := [some (.ref (eB E + 292)), some (.int (nI g)), some (.int (nI 0)), some (.int (nI p)), some (.int (nI r)), some (.int (nI i)), some (.int (nI n)), some (.int (nI 0)), some (.int (nI 0)), some (.int (nI 1))]) e_X9_what_87 rfl ?_
                have hX := lp_X9_what_0 E g p r i n A (dinR (aR (A, T)) r i) (fun σ' q => Fb 292 307 σ σ' ∧ IM σ' (oWhat (A, T) (nI g) (nI 0) (nI p) (nI r) (nI i) (nI n)).1 ∧ q = (oWhat (A, T) (nI g) (nI 0) (nI p) (nI r) (nI i) (nI n)).2) ρ hMk hF hB hNl.2 hNl.1 hp hg (by omega) (by omega) (by omega) hit (fun τ9 h9 => by rw [show oWhat (A, T) (nI g) (nI 0) (nI p) (nI r) (nI i) (nI n) = (wS (A, T) 0, nI (whatV A g 0 p (dinR (aR (A, T)) r i) n)) from (by unfold oWhat; (try unfold gIn); (try dsimp only); (try (repeat rw [ixN (by omega)])); (first | rw [if_pos c1] | rw [if_neg c1] | skip); (first | rw [if_pos c2] | rw [if_neg c2] | skip); (first | rw [if_pos c3] | rw [if_neg c3] | skip); (first | rw [if_pos c4] | rw [if_neg c4] | skip); (first | rw [if_pos c5] | rw [if_neg c5] | skip); (first | rw [if_pos c6] | rw [if_neg c6] | skip); (first | rw [if_pos c7] | rw [if_neg c7] | skip); rw [if_pos hfn])]; exact ⟨hfb0.tr (h9.b), hK.f8 h9, rfl⟩) 5 0 ρ rfl (by omega) F8.rf; exact hX
              · skip
                refine V_iconst (v := nI 0) e_X9_what_75 (by decide) ?_
                refine V_istore (L' := [some (.ref (eB E + 292)), some (.int (nI g)), some (.int (nI 1)), some (.int (nI p)), some (.int (nI r)), some (.int (nI i)), some (.int (nI n)), some (.int (nI 0)), some (.int (nI 0)), none]) e_X9_what_76 rfl ?_
                refine V_iload_n e_X9_what_78 rfl rfl ?_
                refine V_if_ne (tgt := 86) e_X9_what_79 (by decide) (fun c8 => ?_) (fun c8 => absurd c8 (by decide))
                refine V_iconst (v := nI 0) e_X9_what_86 (by decide) ?_
                refine V_istore (L' := [some (.ref (eB E + 292)), some (.int (nI g)), some (.int (nI 1)), some (.int (nI p)), some (.int (nI r)), some (.int (nI i)), some (.int (nI n)), some (.int (nI 0)), some (.int (nI 0)), some (.int (nI 0))]) e_X9_what_87 rfl ?_
                have hX := lp_X9_what_1 E g p r i n A (dinR (aR (A, T)) r i) (fun σ' q => Fb 292 307 σ σ' ∧ IM σ' (oWhat (A, T) (nI g) (nI 1) (nI p) (nI r) (nI i) (nI n)).1 ∧ q = (oWhat (A, T) (nI g) (nI 1) (nI p) (nI r) (nI i) (nI n)).2) ρ hMk hF hB hNl.2 hNl.1 hp hg (by omega) (by omega) (by omega) hit (fun τ9 h9 => by rw [show oWhat (A, T) (nI g) (nI 1) (nI p) (nI r) (nI i) (nI n) = (wS (A, T) 0, nI (whatV A g 1 p (dinR (aR (A, T)) r i) n)) from (by unfold oWhat; (try unfold gIn); (try dsimp only); (try (repeat rw [ixN (by omega)])); (first | rw [if_pos c1] | rw [if_neg c1] | skip); (first | rw [if_pos c2] | rw [if_neg c2] | skip); (first | rw [if_pos c3] | rw [if_neg c3] | skip); (first | rw [if_pos c4] | rw [if_neg c4] | skip); (first | rw [if_pos c5] | rw [if_neg c5] | skip); (first | rw [if_pos c6] | rw [if_neg c6] | skip); (first | rw [if_pos c8] | rw [if_neg c8] | skip); rw [if_pos hfn])]; exact ⟨hfb0.tr (h9.b), hK.f8 h9, rfl⟩) 2 0 ρ rfl (by omega) F8.rf; exact hX
            · rw [if_neg hfn]
              refine V_istore (L' := [some (.ref (eB E + 292)), some (.int (nI g)), some (.int (nI k)), some (.int (nI p)), some (.int (nI r)), some (.int v), some (.int (nI n)), some (.int ((-1000010) - nI (fndS ((aR (A, T)).1 r) ((aR (A, T)).2.1 r) v (nI n)))), none, none]) e_X9_what_65 rfl ?_
              refine V_iload e_X9_what_67 rfl ?_
              refine V_if_eq (tgt := 75) e_X9_what_69 (by decide) (fun c9 => absurd c9 (fnd_nz _ hfl)) (fun c9 => ?_)
              refine V_iload e_X9_what_72 rfl ?_
              exact V_iret e_X9_what_74 rfl (by rw [show oWhat (A, T) (nI g) (nI k) (nI p) (nI r) v (nI n) = (wS (A, T) (fndS ((aR (A, T)).1 r) ((aR (A, T)).2.1 r) v (nI n)), (-1000010) - nI (fndS ((aR (A, T)).1 r) ((aR (A, T)).2.1 r) v (nI n))) from (by unfold oWhat; (try unfold gIn); (try dsimp only); (try (repeat rw [ixN (by omega)])); (first | rw [if_pos c1] | rw [if_neg c1] | skip); (first | rw [if_pos c2] | rw [if_neg c2] | skip); (first | rw [if_pos c3] | rw [if_neg c3] | skip); (first | rw [if_pos c4] | rw [if_neg c4] | skip); (first | rw [if_pos c5] | rw [if_neg c5] | skip); (first | rw [if_pos c9] | rw [if_neg c9] | skip); rw [if_neg hfn])]; exact ⟨hfb0, hK, rfl⟩)
          · refine V_ldc (v := (-1000001)) e_X9_what_52 k_X9_73 ?_
            exact V_iret e_X9_what_54 rfl (by rw [show oWhat (A, T) (nI g) (nI k) (nI p) (nI r) v u = ((A, T), (-1000001)) from (by unfold oWhat; (try unfold gIn); (try dsimp only); (try (repeat rw [ixN (by omega)])); (first | rw [if_pos c1] | rw [if_neg c1] | skip); (first | rw [if_pos c2] | rw [if_neg c2] | skip); (first | rw [if_pos c3] | rw [if_neg c3] | skip); (first | rw [if_pos c4] | rw [if_neg c4] | skip); (first | rw [if_pos c5] | rw [if_neg c5] | skip); try rfl)]; exact ⟨hfb, hJ, rfl⟩)

set_option maxRecDepth 100000 in
set_option maxHeartbeats 4000000 in
theorem lp_X9_fed_g (E : En) (p n pr v s X5 X7 : Nat) (A : Vec) (K : Kk) (τ : Sg) (hT : RepM τ 296 A) (hG6 : A 0 ≤ 6) (hA5 : A 5 < 64) (hs : s < 64) (hpr : pr ≤ 10) (hR : rmok K 2 1) (hout : V E m_X9_fed K 153 [some (.ref (eB E + 292)), some (.int (nI p)), some (.int (nI n)), some (.int (nI pr)), some (.int (nI v)), some (.long (lN X5)), none, some (.long (lN X7)), none, some (.int (nI s)), some (.long (lN (wayK (A 5) pr s (A 0)))), none, some (.int (nI (A 0))), none, none] [] τ) : ∀ (mm : Nat) (k : Nat), A 0 - k = mm → (k ≤ A 0) → V E m_X9_fed (K) 92 [some (.ref (eB E + 292)), some (.int (nI p)), some (.int (nI n)), some (.int (nI pr)), some (.int (nI v)), some (.long (lN X5)), none, some (.long (lN X7)), none, some (.int (nI s)), some (.long (lN (wayK (A 5) pr s k))), none, some (.int (nI k)), none, none] [] τ := by
  intro mm
  induction mm using Nat.strongRecOn with
  | ind mm ih =>
    intro k hmm hk
    refine V_iload e_X9_fed_92 rfl ?_
    refine V_aload_n e_X9_fed_94 rfl rfl ?_
    refine V_getr (r := 296) e_X9_fed_95 F_X9_shore f_X9_19 rfl rfl ?_
    refine V_iconst (v := nI 0) e_X9_fed_98 (by decide) ?_
    refine V_ialdv (v := nI (A 0)) (j := 0) e_X9_fed_99 rfl rfl (by decide) (hT 0 (by omega)) ?_
    refine V_icmp_ge (tgt := 153) e_X9_fed_100 (by decide) (fun c1 => ?_) (fun c1 => ?_)
    · have d1 : A 0 ≤ k := nq_le (by omega) (by omega) c1
      obtain rfl : k = A 0 := (by omega); exact hout
    · have d1 : ¬ A 0 ≤ k := nq_nle (by omega) (by omega) c1
      have hb1 := bitN_le (A 5) k
      have hb2 := bitN_le s k
      refine V_lload e_X9_fed_103 rfl ?_
      refine V_aload_n e_X9_fed_105 rfl rfl ?_
      refine V_getr (r := 296) e_X9_fed_106 F_X9_shore f_X9_19 rfl rfl ?_
      refine V_iconst (v := nI 5) e_X9_fed_109 (by decide) ?_
      refine V_ialdv (v := nI (A 5)) (j := 5) e_X9_fed_110 rfl rfl (by decide) (hT 5 (by omega)) ?_
      refine V_iload e_X9_fed_111 rfl ?_
      refine V_csIe (av := [.int (nI (A 5)), .int (nI k)]) (st := [.long (lN (wayK (A 5) pr s k))]) e_X9_fed_113 (c_X9_has E (A 5) k τ (by omega) (by omega)) l_X9_158 S_X9_has hR rfl rfl (Nat.le_of_ble_eq_true rfl) ?_
      refine V_if_eq (tgt := 123) e_X9_fed_116 (by decide) (fun c2 => ?_) (fun c2 => ?_)
      · have d2 : bitN (A 5) k = 0 := nq_eq (by omega) (by omega) c2
        refine V_iload e_X9_fed_123 rfl ?_
        refine V_iload e_X9_fed_125 rfl ?_
        refine V_csIe (av := [.int (nI s), .int (nI k)]) (st := [.long (lN (wayK (A 5) pr s k))]) e_X9_fed_127 (c_X9_has E s k τ (by omega) (by omega)) l_X9_158 S_X9_has hR rfl rfl (Nat.le_of_ble_eq_true rfl) ?_
        refine V_if_eq (tgt := 138) e_X9_fed_130 (by decide) (fun c3 => ?_) (fun c3 => ?_)
        · have d3 : bitN s k = 0 := nq_eq (by omega) (by omega) c3
          refine V_ldc2_w (v := lN 10) e_X9_fed_138 kl_X9_266 ?_
          refine V_iload_n e_X9_fed_141 rfl rfl ?_
          refine V_i2lN (z := lN pr) e_X9_fed_142 (nI_l (by omega)) ?_
          refine V_lsub e_X9_fed_143 ?_
          refine V_topl (y := lN (10 - pr)) (lN_sub hpr) ?_
          refine V_lmulN (z := lN ((wayK (A 5) pr s k) * (10 - pr))) e_X9_fed_144 (lN_mul _ _) ?_
          refine V_lstore (L' := [some (.ref (eB E + 292)), some (.int (nI p)), some (.int (nI n)), some (.int (nI pr)), some (.int (nI v)), some (.long (lN X5)), none, some (.long (lN X7)), none, some (.int (nI s)), some (.long (lN ((wayK (A 5) pr s k) * (10 - pr)))), none, some (.int (nI k)), none, none]) e_X9_fed_145 rfl ?_
          refine V_iinc (v := nI (k + 1)) (L' := [some (.ref (eB E + 292)), some (.int (nI p)), some (.int (nI n)), some (.int (nI pr)), some (.int (nI v)), some (.long (lN X5)), none, some (.long (lN X7)), none, some (.int (nI s)), some (.long (lN ((wayK (A 5) pr s k) * (10 - pr)))), none, some (.int (nI (k + 1))), none, none]) e_X9_fed_147 rfl (nI_add _ 1) rfl ?_
          refine V_goto (tgt := 92) e_X9_fed_150 (by decide) ?_
          rw [show (wayK (A 5) pr s k) * (10 - pr) = wayK (A 5) pr s (k + 1) from (show (wayK (A 5) pr s k) * (10 - pr) = wayK (A 5) pr s k * (if bitN (A 5) k = 1 then 1 else if bitN s k = 1 then pr else 10 - pr) from (by first | rw [if_pos (show bitN (A 5) k = 1 by omega)] | (rw [if_neg (show ¬ bitN (A 5) k = 1 by omega)]; first | rw [if_pos (show bitN s k = 1 by omega)] | rw [if_neg (show ¬ bitN s k = 1 by omega)])))]; exact ih (A 0 - (k + 1)) (by omega) (k + 1) rfl (by omega)
        · have d3 : ¬ bitN s k = 0 := nq_ne (by omega) (by omega) c3
          refine V_iload_n e_X9_fed_133 rfl rfl ?_
          refine V_i2lN (z := lN pr) e_X9_fed_134 (nI_l (by omega)) ?_
          refine V_goto (tgt := 144) e_X9_fed_135 (by decide) ?_
          refine V_lmulN (z := lN ((wayK (A 5) pr s k) * pr)) e_X9_fed_144 (lN_mul _ _) ?_
          refine V_lstore (L' := [some (.ref (eB E + 292)), some (.int (nI p)), some (.int (nI n)), some (.int (nI pr)), some (.int (nI v)), some (.long (lN X5)), none, some (.long (lN X7)), none, some (.int (nI s)), some (.long (lN ((wayK (A 5) pr s k) * pr))), none, some (.int (nI k)), none, none]) e_X9_fed_145 rfl ?_
          refine V_iinc (v := nI (k + 1)) (L' := [some (.ref (eB E + 292)), some (.int (nI p)), some (.int (nI n)), some (.int (nI pr)), some (.int (nI v)), some (.long (lN X5)), none, some (.long (lN X7)), none, some (.int (nI s)), some (.long (lN ((wayK (A 5) pr s k) * pr))), none, some (.int (nI (k + 1))), none, none]) e_X9_fed_147 rfl (nI_add _ 1) rfl ?_
          refine V_goto (tgt := 92) e_X9_fed_150 (by decide) ?_
          rw [show (wayK (A 5) pr s k) * pr = wayK (A 5) pr s (k + 1) from (show (wayK (A 5) pr s k) * pr = wayK (A 5) pr s k * (if bitN (A 5) k = 1 then 1 else if bitN s k = 1 then pr else 10 - pr) from (by first | rw [if_pos (show bitN (A 5) k = 1 by omega)] | (rw [if_neg (show ¬ bitN (A 5) k = 1 by omega)]; first | rw [if_pos (show bitN s k = 1 by omega)] | rw [if_neg (show ¬ bitN s k = 1 by omega)])))]; exact ih (A 0 - (k + 1)) (by omega) (k + 1) rfl (by omega)
      · have d2 : ¬ bitN (A 5) k = 0 := nq_ne (by omega) (by omega) c2
        refine V_lconst (v := lN 1) e_X9_fed_119 (by decide) ?_
        refine V_goto (tgt := 144) e_X9_fed_120 (by decide) ?_
        refine V_lmulN (z := lN ((wayK (A 5) pr s k) * 1)) e_X9_fed_144 (lN_mul _ _) ?_
        refine V_lstore (L' := [some (.ref (eB E + 292)), some (.int (nI p)), some (.int (nI n)), some (.int (nI pr)), some (.int (nI v)), some (.long (lN X5)), none, some (.long (lN X7)), none, some (.int (nI s)), some (.long (lN ((wayK (A 5) pr s k) * 1))), none, some (.int (nI k)), none, none]) e_X9_fed_145 rfl ?_
        refine V_iinc (v := nI (k + 1)) (L' := [some (.ref (eB E + 292)), some (.int (nI p)), some (.int (nI n)), some (.int (nI pr)), some (.int (nI v)), some (.long (lN X5)), none, some (.long (lN X7)), none, some (.int (nI s)), some (.long (lN ((wayK (A 5) pr s k) * 1))), none, some (.int (nI (k + 1))), none, none]) e_X9_fed_147 rfl (nI_add _ 1) rfl ?_
        refine V_goto (tgt := 92) e_X9_fed_150 (by decide) ?_
        rw [show (wayK (A 5) pr s k) * 1 = wayK (A 5) pr s (k + 1) from (show (wayK (A 5) pr s k) * 1 = wayK (A 5) pr s k * (if bitN (A 5) k = 1 then 1 else if bitN s k = 1 then pr else 10 - pr) from (by first | rw [if_pos (show bitN (A 5) k = 1 by omega)] | (rw [if_neg (show ¬ bitN (A 5) k = 1 by omega)]; first | rw [if_pos (show bitN s k = 1 by omega)] | rw [if_neg (show ¬ bitN s k = 1 by omega)])))]; exact ih (A 0 - (k + 1)) (by omega) (k + 1) rfl (by omega)
set_option maxRecDepth 100000 in
set_option maxHeartbeats 4000000 in
theorem lp_X9_fed_e (E : En) (p n pr v a b : Nat) (Q : Sg → Int64 → Prop) (σ : Sg) (hb : 0 < b) (ha2 : a < 2 ^ 62) (hb2 : b < 2 ^ 62) (hv : v ≤ 1) (hQ : Q σ (lN ((if v = 0 then a else b) / Nat.gcd a b))) : ∀ (mm : Nat) (x : Nat) (y : Nat), y = mm → (x < 2 ^ 62) → (y < 2 ^ 62) → (Nat.gcd x y = Nat.gcd a b) → V E m_X9_fed (kM E 12 (pJ Q)) 229 [some (.ref (eB E + 292)), some (.int (nI p)), some (.int (nI n)), some (.int (nI pr)), some (.int (nI v)), some (.long (lN a)), none, some (.long (lN b)), none, some (.long (lN x)), none, some (.long (lN y)), none, none, none] [] σ := by
  intro mm
  induction mm using Nat.strongRecOn with
  | ind mm ih =>
    intro x y hmm hx hy hg
    refine V_lload e_X9_fed_229 rfl ?_
    refine V_lconst (v := lN 0) e_X9_fed_231 (by decide) ?_
    refine V_lcmp e_X9_fed_232 ?_
    refine V_if_eq (tgt := 254) e_X9_fed_233 (by decide) (fun c1 => ?_) (fun c1 => ?_)
    · have d1 : y = 0 := lc_eq (by omega) (by omega) c1
      obtain rfl : y = 0 := by omega
      rw [Nat.gcd_zero_right] at hg
      have hx0 : 0 < x := by rw [hg]; exact Nat.gcd_pos_of_pos_right _ hb
      refine V_iload e_X9_fed_254 rfl ?_
      refine V_if_ne (tgt := 264) e_X9_fed_256 (by decide) (fun c2 => ?_) (fun c2 => ?_)
      · have d2 : ¬ v = 0 := nq_ne (by omega) (by omega) c2
        refine V_lload e_X9_fed_264 rfl ?_
        refine V_lload e_X9_fed_266 rfl ?_
        refine V_ldivN (z := lN (b / x)) e_X9_fed_268 (lN0 (hx0) (by omega)) (pk_lDiv (by omega) (hx0) (by omega)) ?_
        exact V_lret e_X9_fed_269 rfl (by have hq := hQ; (first | rw [if_pos d2] at hq | rw [if_neg d2] at hq); rw [hg]; exact hq)
      · have d2 : v = 0 := nq_eq (by omega) (by omega) c2
        refine V_lload e_X9_fed_259 rfl ?_
        refine V_goto (tgt := 266) e_X9_fed_261 (by decide) ?_
        refine V_lload e_X9_fed_266 rfl ?_
        refine V_ldivN (z := lN (a / x)) e_X9_fed_268 (lN0 (hx0) (by omega)) (pk_lDiv (by omega) (hx0) (by omega)) ?_
        exact V_lret e_X9_fed_269 rfl (by have hq := hQ; (first | rw [if_pos d2] at hq | rw [if_neg d2] at hq); rw [hg]; exact hq)
    · have d1 : ¬ y = 0 := lc_ne (by omega) (by omega) c1
      refine V_lload e_X9_fed_236 rfl ?_
      refine V_lload e_X9_fed_238 rfl ?_
      refine V_lremN (z := lN (x % y)) e_X9_fed_240 (lN0 (by omega) (by omega)) (lrN (by omega) (by omega) (by omega)) ?_
      refine V_lstore (L' := [some (.ref (eB E + 292)), some (.int (nI p)), some (.int (nI n)), some (.int (nI pr)), some (.int (nI v)), some (.long (lN a)), none, some (.long (lN b)), none, some (.long (lN x)), none, some (.long (lN y)), none, some (.long (lN (x % y))), none]) e_X9_fed_241 rfl ?_
      refine V_lload e_X9_fed_243 rfl ?_
      refine V_lstore (L' := [some (.ref (eB E + 292)), some (.int (nI p)), some (.int (nI n)), some (.int (nI pr)), some (.int (nI v)), some (.long (lN a)), none, some (.long (lN b)), none, some (.long (lN y)), none, some (.long (lN y)), none, some (.long (lN (x % y))), none]) e_X9_fed_245 rfl ?_
      refine V_lload e_X9_fed_247 rfl ?_
      refine V_lstore (L' := [some (.ref (eB E + 292)), some (.int (nI p)), some (.int (nI n)), some (.int (nI pr)), some (.int (nI v)), some (.long (lN a)), none, some (.long (lN b)), none, some (.long (lN y)), none, some (.long (lN (x % y))), none, some (.long (lN (x % y))), none]) e_X9_fed_249 rfl ?_
      refine V_goto (tgt := 229) e_X9_fed_251 (by decide) ?_
      refine V_forget 13 ?_; exact ih (x % y) (by have := Nat.mod_lt x (show 0 < y by omega); omega) y (x % y) rfl hy (Nat.lt_trans (Nat.mod_lt x (by omega)) hy) (by rw [gcd_st]; exact hg)
set_option maxRecDepth 100000 in
set_option maxHeartbeats 4000000 in
theorem lp_X9_fed_s (E : En) (p n pr v : Nat) (A : Vec) (Q : Sg → Int64 → Prop) (σ : Sg) (hM : RepM σ 296 A) (hF : WF A) (hB : HBd A) (hp : p < A 1) (hn : n ≤ 30) (hpr : pr ≤ 10) (hv : v ≤ 1) (h5 : A 1 ≤ 5) (hG6 : A 0 ≤ 6) (h2G : 2 ^ A 0 ≤ 64) (hA5 : A 5 < 64) (hQ : ∀ τ, F8 σ τ → Q τ (lN ((if v = 0 then lkS A p n pr (2 ^ A 0) else 10 ^ (A 0 - cntN (A 5))) / Nat.gcd (lkS A p n pr (2 ^ A 0)) (10 ^ (A 0 - cntN (A 5)))))) : ∀ (mm : Nat) (s : Nat) (τ : Sg), 2 ^ A 0 - s = mm → (s ≤ 2 ^ A 0) → (F8 σ τ) → V E m_X9_fed (kM E 12 (pJ Q)) 61 [some (.ref (eB E + 292)), some (.int (nI p)), some (.int (nI n)), some (.int (nI pr)), some (.int (nI v)), some (.long (lN (lkS A p n pr s))), none, some (.long (lN (blN (A 0) (A 5) pr s))), none, some (.int (nI s)), none, none, none, none, none] [] τ := by
  intro mm
  induction mm using Nat.strongRecOn with
  | ind mm ih =>
    intro s τ hmm hs hI
    refine V_iload e_X9_fed_61 rfl ?_
    refine V_iconst (v := nI 1) e_X9_fed_63 (by decide) ?_
    refine V_aload_n e_X9_fed_64 rfl rfl ?_
    refine V_getr (r := 296) e_X9_fed_65 F_X9_shore f_X9_19 rfl rfl ?_
    refine V_iconst (v := nI 0) e_X9_fed_68 (by decide) ?_
    refine V_ialdv (v := nI (A 0)) (j := 0) e_X9_fed_69 rfl rfl (by decide) ((hI.rep hM) 0 (by omega)) ?_
    refine V_ishlN (z := nI (2 ^ (A 0))) e_X9_fed_70 (shl1 (by omega)) ?_
    refine V_icmp_ge (tgt := 221) e_X9_fed_71 (by decide) (fun c1 => ?_) (fun c1 => ?_)
    · have d1 : 2 ^ (A 0) ≤ s := nq_le (by first | omega | exact Nat.lt_of_le_of_lt Nat.and_le_left (by omega)) (by first | omega | exact Nat.lt_of_le_of_lt Nat.and_le_left (by omega)) c1
      obtain rfl : s = 2 ^ A 0 := by omega
      rw [blN_all (A 0) (by omega) (A 5) hF.1.2.2.2.1 pr (by omega)]
      have hla := lkS_le (p := p) (n := n) (pr := pr) (fun s h1 h2 => csS_le hF.1 h1 hpr h2) (2 ^ A 0) (Nat.le_refl _)
      have hla2 : lkS A p n pr (2 ^ A 0) < 2 ^ 62 := Nat.lt_of_le_of_lt hla (Nat.lt_of_le_of_lt (Nat.mul_le_mul_left _ h2G) (by decide))
      have hlb : 10 ^ (A 0 - cntN (A 5)) ≤ 10 ^ 6 := Nat.pow_le_pow_right (by decide) (by omega)
      have hlb2 : 10 ^ (A 0 - cntN (A 5)) < 2 ^ 62 := Nat.lt_of_le_of_lt hlb (by decide)
      refine V_lload e_X9_fed_221 rfl ?_
      refine V_lstore (L' := [some (.ref (eB E + 292)), some (.int (nI p)), some (.int (nI n)), some (.int (nI pr)), some (.int (nI v)), some (.long (lN (lkS A p n pr (2 ^ A 0)))), none, some (.long (lN (10 ^ (A 0 - cntN (A 5))))), none, some (.long (lN (lkS A p n pr (2 ^ A 0)))), none, none, none, none, none]) e_X9_fed_223 rfl ?_
      refine V_lload e_X9_fed_225 rfl ?_
      refine V_lstore (L' := [some (.ref (eB E + 292)), some (.int (nI p)), some (.int (nI n)), some (.int (nI pr)), some (.int (nI v)), some (.long (lN (lkS A p n pr (2 ^ A 0)))), none, some (.long (lN (10 ^ (A 0 - cntN (A 5))))), none, some (.long (lN (lkS A p n pr (2 ^ A 0)))), none, some (.long (lN (10 ^ (A 0 - cntN (A 5))))), none, none, none]) e_X9_fed_227 rfl ?_
      exact lp_X9_fed_e E p n pr v (lkS A p n pr (2 ^ A 0)) (10 ^ (A 0 - cntN (A 5))) Q τ (Nat.pow_pos (by decide)) hla2 hlb2 hv (hQ τ hI) _ _ _ rfl hla2 hlb2 rfl
    · have d1 : ¬ 2 ^ (A 0) ≤ s := nq_nle (by first | omega | exact Nat.lt_of_le_of_lt Nat.and_le_left (by omega)) (by first | omega | exact Nat.lt_of_le_of_lt Nat.and_le_left (by omega)) c1
      refine V_iload e_X9_fed_74 rfl ?_
      refine V_aload_n e_X9_fed_76 rfl rfl ?_
      refine V_getr (r := 296) e_X9_fed_77 F_X9_shore f_X9_19 rfl rfl ?_
      refine V_iconst (v := nI 5) e_X9_fed_80 (by decide) ?_
      refine V_ialdv (v := nI (A 5)) (j := 5) e_X9_fed_81 rfl rfl (by decide) ((hI.rep hM) 5 (by omega)) ?_
      refine V_iandN (z := nI (s &&& (A 5))) e_X9_fed_82 (andI _ _) ?_
      refine V_if_ne (tgt := 215) e_X9_fed_83 (by decide) (fun c2 => ?_) (fun c2 => ?_)
      · have d2 : ¬ s &&& (A 5) = 0 := nq_ne (by first | omega | exact Nat.lt_of_le_of_lt Nat.and_le_left (by omega)) (by first | omega | exact Nat.lt_of_le_of_lt Nat.and_le_left (by omega)) c2
        refine V_iinc (v := nI (s + 1)) (L' := [some (.ref (eB E + 292)), some (.int (nI p)), some (.int (nI n)), some (.int (nI pr)), some (.int (nI v)), some (.long (lN (lkS A p n pr s))), none, some (.long (lN (blN (A 0) (A 5) pr s))), none, some (.int (nI (s + 1))), none, none, none, none, none]) e_X9_fed_215 rfl (nI_add _ 1) rfl ?_
        refine V_goto (tgt := 61) e_X9_fed_218 (by decide) ?_
        rw [show lkS A p n pr s = lkS A p n pr (s + 1) from lk_x d2, show blN (A 0) (A 5) pr s = blN (A 0) (A 5) pr (s + 1) from bl_x d2]; exact ih (2 ^ A 0 - (s + 1)) (by omega) (s + 1) τ rfl (by omega) hI
      · have d2 : s &&& (A 5) = 0 := nq_eq (by first | omega | exact Nat.lt_of_le_of_lt Nat.and_le_left (by omega)) (by first | omega | exact Nat.lt_of_le_of_lt Nat.and_le_left (by omega)) c2
        have hza : s &&& A 5 = 0 := d2
        refine V_lconst (v := lN 1) e_X9_fed_86 (by decide) ?_
        refine V_lstore (L' := [some (.ref (eB E + 292)), some (.int (nI p)), some (.int (nI n)), some (.int (nI pr)), some (.int (nI v)), some (.long (lN (lkS A p n pr s))), none, some (.long (lN (blN (A 0) (A 5) pr s))), none, some (.int (nI s)), some (.long (lN 1)), none, none, none, none]) e_X9_fed_87 rfl ?_
        refine V_iconst (v := nI 0) e_X9_fed_89 (by decide) ?_
        refine V_istore (L' := [some (.ref (eB E + 292)), some (.int (nI p)), some (.int (nI n)), some (.int (nI pr)), some (.int (nI v)), some (.long (lN (lkS A p n pr s))), none, some (.long (lN (blN (A 0) (A 5) pr s))), none, some (.int (nI s)), some (.long (lN 1)), none, some (.int (nI 0)), none, none]) e_X9_fed_90 rfl ?_
        refine lp_X9_fed_g E p n pr v s _ _ A _ τ (hI.rep hM) hG6 hA5 (by omega) hpr (rm_ok (by decide) (by decide)) ?_ (A 0) 0 rfl (by omega)
        rw [way_cs hF.1 (by omega) hza]
        refine V_aload_n e_X9_fed_153 rfl rfl ?_
        refine V_cvVe (av := []) (st := []) e_X9_fed_154 (c_X9_layThen E A τ (hI.rep hM)) l_X9_223 S_X9_layThen rfl (rm_ok (by decide) (by decide)) rfl rfl (Nat.le_of_ble_eq_true rfl) ?_
        refine V_aload_n e_X9_fed_157 rfl rfl ?_
        refine V_getr (r := 298) e_X9_fed_158 F_X9_then f_X9_25 rfl rfl ?_
        refine V_iconst (v := nI 5) e_X9_fed_161 (by decide) ?_
        refine V_dup2 e_X9_fed_162 rfl rfl ?_
        refine V_ialdv (v := nI (A 5)) (j := 5) e_X9_fed_163 rfl rfl (by decide) (stM_at (by omega)) ?_
        refine V_iload e_X9_fed_164 rfl ?_
        refine V_iorN (z := nI ((A 5) ||| s)) e_X9_fed_166 (lorI _ _) ?_
        refine V_iast (j := 5) e_X9_fed_167 rfl rfl (by decide) ?_
        rw [show up2 (stM τ 298 A) 298 5 (nI ((A 5) ||| s)) = stM τ 298 (fallV A s) from (by rw [stM_up (by omega)]; rfl)]
        refine V_aload_n e_X9_fed_168 rfl rfl ?_
        refine V_getr (r := 298) e_X9_fed_169 F_X9_then f_X9_25 rfl rfl ?_
        refine V_iload_n e_X9_fed_172 rfl rfl ?_
        refine V_csVe (av := [.ref (eB E + 298), .int (nI n)]) (st := []) e_X9_fed_173 (c_X9_daysOf E 298 n (fallV A s) τ rfl rfl (hF.fall (by omega)) (by omega)) l_X9_226 S_X9_daysOf (rm_ok (by decide) (by decide)) rfl rfl (Nat.le_of_ble_eq_true rfl) ?_
        refine V_lload e_X9_fed_176 rfl ?_
        refine V_lload e_X9_fed_178 rfl ?_
        refine V_laddN (z := lN (blN (A 0) (A 5) pr s + (csS A pr s))) e_X9_fed_180 (lN_add _ _) ?_
        refine V_lstore (L' := [some (.ref (eB E + 292)), some (.int (nI p)), some (.int (nI n)), some (.int (nI pr)), some (.int (nI v)), some (.long (lN (lkS A p n pr s))), none, some (.long (lN (blN (A 0) (A 5) pr s + (csS A pr s)))), none, some (.int (nI s)), some (.long (lN (csS A pr s))), none, some (.int (nI (A 0))), none, none]) e_X9_fed_181 rfl ?_
        have hu1 := hB.b (B := fallV A s) (p := p) (i := n) hp (by omega)
        have hu2 := hB p hp
        refine V_lload e_X9_fed_183 rfl ?_
        refine V_aload_n e_X9_fed_185 rfl rfl ?_
        refine V_getr (r := 298) e_X9_fed_186 F_X9_then f_X9_25 rfl rfl ?_
        refine V_iload_n e_X9_fed_189 rfl rfl ?_
        refine V_iconst (v := nI 5) e_X9_fed_190 (by decide) ?_
        refine V_csIe (av := [.ref (eB E + 298), .int (nI p), .int (nI 5)]) (st := [.long (lN (lkS A p n pr s))]) e_X9_fed_191 (c_X9_hisT_w E p 5 (daysV (fallV A s) n) τ (by omega) (by omega)) l_X9_166 S_X9_his (rm_ok (by decide) (by decide)) rfl rfl (Nat.le_of_ble_eq_true rfl) ?_
        refine V_topi (y := nI ((pds A (fallV A s) p n).2.2.2.2.2)) (congrArg nI (by rw [show 25 + 6 * p + 5 = 30 + 6 * p by omega]; exact ((daysV_at (n := n) (hF.fall (by omega)) (by rw [fallV_lo (by omega)]; exact hp)).2.2.2.2.2).trans (by rw [pds_chg (fallV_lo (by omega)) fallV_pn]))) ?_
        refine V_aload_n e_X9_fed_194 rfl rfl ?_
        refine V_getr (r := 296) e_X9_fed_195 F_X9_shore f_X9_19 rfl rfl ?_
        refine V_iload_n e_X9_fed_198 rfl rfl ?_
        refine V_iconst (v := nI 5) e_X9_fed_199 (by decide) ?_
        refine V_csIe (av := [.ref (eB E + 296), .int (nI p), .int (nI 5)]) (st := [.int (nI ((pds A (fallV A s) p n).2.2.2.2.2)), .long (lN (lkS A p n pr s))]) e_X9_fed_200 (c_X9_hisR_5 E 296 p A (stM τ 298 (daysV (fallV A s) n)) rfl rfl (hI.rep hM).t (by omega)) l_X9_166 S_X9_his (rm_ok (by decide) (by decide)) rfl rfl (Nat.le_of_ble_eq_true rfl) ?_
        refine V_icmp_ne (tgt := 211) e_X9_fed_203 (by decide) (fun c3 => ?_) (fun c3 => ?_)
        · have d3 : ¬ (pds A (fallV A s) p n).2.2.2.2.2 = A (30 + 6 * p) := nq_ne (by first | omega | exact Nat.lt_of_le_of_lt Nat.and_le_left (by omega)) (by first | omega | exact Nat.lt_of_le_of_lt Nat.and_le_left (by omega)) c3
          have hfd : fdS A p n s = 0 := by unfold fdS; rw [if_neg d3]
          refine V_lconst (v := lN 0) e_X9_fed_211 (by decide) ?_
          refine V_laddN (z := lN (lkS A p n pr s + 0)) e_X9_fed_212 (lN_add _ _) ?_
          refine V_lstore (L' := [some (.ref (eB E + 292)), some (.int (nI p)), some (.int (nI n)), some (.int (nI pr)), some (.int (nI v)), some (.long (lN (lkS A p n pr s + 0))), none, some (.long (lN (blN (A 0) (A 5) pr s + (csS A pr s)))), none, some (.int (nI s)), some (.long (lN (csS A pr s))), none, some (.int (nI (A 0))), none, none]) e_X9_fed_213 rfl ?_
          refine V_iinc (v := nI (s + 1)) (L' := [some (.ref (eB E + 292)), some (.int (nI p)), some (.int (nI n)), some (.int (nI pr)), some (.int (nI v)), some (.long (lN (lkS A p n pr s + 0))), none, some (.long (lN (blN (A 0) (A 5) pr s + (csS A pr s)))), none, some (.int (nI (s + 1))), some (.long (lN (csS A pr s))), none, some (.int (nI (A 0))), none, none]) e_X9_fed_215 rfl (nI_add _ 1) rfl ?_
          refine V_goto (tgt := 61) e_X9_fed_218 (by decide) ?_
          rw [show lkS A p n pr s + 0 = lkS A p n pr (s + 1) from lk_0 hza hfd, show blN (A 0) (A 5) pr s + (csS A pr s) = blN (A 0) (A 5) pr (s + 1) from bl_1 hza]; refine V_forget 10 (V_forget 12 ?_); exact ih (2 ^ A 0 - (s + 1)) (by omega) (s + 1) _ rfl (by omega) hI.st
        · have d3 : (pds A (fallV A s) p n).2.2.2.2.2 = A (30 + 6 * p) := nq_eq (by first | omega | exact Nat.lt_of_le_of_lt Nat.and_le_left (by omega)) (by first | omega | exact Nat.lt_of_le_of_lt Nat.and_le_left (by omega)) c3
          have hfd : ¬ fdS A p n s = 0 := by unfold fdS; rw [if_pos d3]; decide
          refine V_lload e_X9_fed_206 rfl ?_
          refine V_goto (tgt := 212) e_X9_fed_208 (by decide) ?_
          refine V_laddN (z := lN (lkS A p n pr s + (csS A pr s))) e_X9_fed_212 (lN_add _ _) ?_
          refine V_lstore (L' := [some (.ref (eB E + 292)), some (.int (nI p)), some (.int (nI n)), some (.int (nI pr)), some (.int (nI v)), some (.long (lN (lkS A p n pr s + (csS A pr s)))), none, some (.long (lN (blN (A 0) (A 5) pr s + (csS A pr s)))), none, some (.int (nI s)), some (.long (lN (csS A pr s))), none, some (.int (nI (A 0))), none, none]) e_X9_fed_213 rfl ?_
          refine V_iinc (v := nI (s + 1)) (L' := [some (.ref (eB E + 292)), some (.int (nI p)), some (.int (nI n)), some (.int (nI pr)), some (.int (nI v)), some (.long (lN (lkS A p n pr s + (csS A pr s)))), none, some (.long (lN (blN (A 0) (A 5) pr s + (csS A pr s)))), none, some (.int (nI (s + 1))), some (.long (lN (csS A pr s))), none, some (.int (nI (A 0))), none, none]) e_X9_fed_215 rfl (nI_add _ 1) rfl ?_
          refine V_goto (tgt := 61) e_X9_fed_218 (by decide) ?_
          rw [show lkS A p n pr s + (csS A pr s) = lkS A p n pr (s + 1) from lk_1 hza hfd, show blN (A 0) (A 5) pr s + (csS A pr s) = blN (A 0) (A 5) pr (s + 1) from bl_1 hza]; refine V_forget 10 (V_forget 12 ?_); exact ih (2 ^ A 0 - (s + 1)) (by omega) (s + 1) _ rfl (by omega) hI.st
set_option maxRecDepth 100000 in
set_option maxHeartbeats 4000000 in
theorem c_X9_fed (E : En) (x y z w : Int32) (A : Vec) (σ : Sg) (hM : RepM σ 296 A) (hN : WN A) (hB : HBd A) : Cn E m_X9_fed 12 [.ref (eB E + 292), .int x, .int y, .int z, .int w] σ (pJ (fun σ' r => Fm σ σ' ∧ r = sFed A x y z w)) := by
  have hNl := hN.le
  have hM1 : RepM (up2 σ 292 0 (nI 0)) 296 A := hM.fm Fm.th (by decide) (by decide)
  refine Cn.of [some (.ref (eB E + 292)), some (.int x), some (.int y), some (.int z), some (.int w), none, none, none, none, none, none, none, none, none, none] (by decide) (Nat.le_of_ble_eq_true rfl) rfl ?_
  refine V_aload_n e_X9_fed_0 rfl rfl ?_
  refine V_iconst (v := nI 0) e_X9_fed_1 (by decide) ?_
  refine V_puti e_X9_fed_2 F_X9_thrown f_X9_53 rfl ?_
  refine V_aload_n e_X9_fed_5 rfl rfl ?_
  refine V_iload_n e_X9_fed_6 rfl rfl ?_
  refine V_cvIe (av := [.int x]) (st := []) e_X9_fed_7 (c_X9_isMan E x A (up2 σ 292 0 (nI 0)) hM1) l_X9_204 S_X9_isMan rfl (rm_ok (by decide) (by decide)) rfl rfl (Nat.le_of_ble_eq_true rfl) ?_
  refine V_if_eq (tgt := 48) e_X9_fed_10 (by decide) (fun c1 => ?_) (fun c1 => ?_)
  · refine V_ldc2_w (v := (-1000001)) e_X9_fed_48 kl_X9_268 ?_
    exact V_lret e_X9_fed_51 rfl (⟨Fm.th, by unfold sFed; (try unfold gIn); (first | rw [if_pos c1] | rw [if_neg c1] | skip); (try dsimp only); (repeat rw [ixN (by omega)]); try rfl⟩)
  · obtain ⟨p, hp, rfl⟩ := (wi_nat (by omega)).mp c1
    have hF : WF A := hN.wf (by omega)
    refine V_iload_n e_X9_fed_13 rfl rfl ?_
    refine V_i2l e_X9_fed_14 ?_
    refine V_lconst (v := lN 0) e_X9_fed_15 (by decide) ?_
    refine V_ldc2_w (v := lN 30) e_X9_fed_16 kl_X9_246 ?_
    refine V_csIe (av := [.long y.toInt64, .long (lN 0), .long (lN 30)]) (st := []) e_X9_fed_19 (c_X9_inN E y (nI 0) (nI 30) (lN 0) (lN 30) (up2 σ 292 0 (nI 0)) (nI_l (by omega)) (nI_l (by omega))) l_X9_63 S_X9_in (rm_ok (by decide) (by decide)) rfl rfl (Nat.le_of_ble_eq_true rfl) ?_
    refine V_if_eq (tgt := 48) e_X9_fed_22 (by decide) (fun c2 => ?_) (fun c2 => ?_)
    · refine V_ldc2_w (v := (-1000001)) e_X9_fed_48 kl_X9_268 ?_
      exact V_lret e_X9_fed_51 rfl (⟨Fm.th, by unfold sFed; (try unfold gIn); (first | rw [if_pos c1] | rw [if_neg c1] | skip); (first | rw [if_pos c2] | rw [if_neg c2] | skip); (try dsimp only); (repeat rw [ixN (by omega)]); try rfl⟩)
    · obtain ⟨n, hna, hn, rfl⟩ := (wi_le (by omega) (by omega)).mp c2
      refine V_iload_n e_X9_fed_25 rfl rfl ?_
      refine V_i2l e_X9_fed_26 ?_
      refine V_lconst (v := lN 0) e_X9_fed_27 (by decide) ?_
      refine V_ldc2_w (v := lN 10) e_X9_fed_28 kl_X9_266 ?_
      refine V_csIe (av := [.long z.toInt64, .long (lN 0), .long (lN 10)]) (st := []) e_X9_fed_31 (c_X9_inN E z (nI 0) (nI 10) (lN 0) (lN 10) (up2 σ 292 0 (nI 0)) (nI_l (by omega)) (nI_l (by omega))) l_X9_63 S_X9_in (rm_ok (by decide) (by decide)) rfl rfl (Nat.le_of_ble_eq_true rfl) ?_
      refine V_if_eq (tgt := 48) e_X9_fed_34 (by decide) (fun c3 => ?_) (fun c3 => ?_)
      · refine V_ldc2_w (v := (-1000001)) e_X9_fed_48 kl_X9_268 ?_
        exact V_lret e_X9_fed_51 rfl (⟨Fm.th, by unfold sFed; (try unfold gIn); (first | rw [if_pos c1] | rw [if_neg c1] | skip); (first | rw [if_pos c2] | rw [if_neg c2] | skip); (first | rw [if_pos c3] | rw [if_neg c3] | skip); (try dsimp only); (repeat rw [ixN (by omega)]); try rfl⟩)
      · obtain ⟨pr, hpra, hpr, rfl⟩ := (wi_le (by omega) (by omega)).mp c3
        refine V_iload e_X9_fed_37 rfl ?_
        refine V_i2l e_X9_fed_39 ?_
        refine V_lconst (v := lN 0) e_X9_fed_40 (by decide) ?_
        refine V_lconst (v := lN 1) e_X9_fed_41 (by decide) ?_
        refine V_csIe (av := [.long w.toInt64, .long (lN 0), .long (lN 1)]) (st := []) e_X9_fed_42 (c_X9_inN E w (nI 0) (nI 1) (lN 0) (lN 1) (up2 σ 292 0 (nI 0)) (nI_l (by omega)) (nI_l (by omega))) l_X9_63 S_X9_in (rm_ok (by decide) (by decide)) rfl rfl (Nat.le_of_ble_eq_true rfl) ?_
        refine V_if_ne (tgt := 52) e_X9_fed_45 (by decide) (fun c4 => ?_) (fun c4 => ?_)
        · obtain ⟨v, hva, hv, rfl⟩ := (wi_le (by omega) (by omega)).mp c4
          refine V_lconst (v := lN 0) e_X9_fed_52 (by decide) ?_
          refine V_lstore (L' := [some (.ref (eB E + 292)), some (.int (nI p)), some (.int (nI n)), some (.int (nI pr)), some (.int (nI v)), some (.long (lN 0)), none, none, none, none, none, none, none, none, none]) e_X9_fed_53 rfl ?_
          refine V_lconst (v := lN 0) e_X9_fed_55 (by decide) ?_
          refine V_lstore (L' := [some (.ref (eB E + 292)), some (.int (nI p)), some (.int (nI n)), some (.int (nI pr)), some (.int (nI v)), some (.long (lN 0)), none, some (.long (lN 0)), none, none, none, none, none, none, none]) e_X9_fed_56 rfl ?_
          refine V_iconst (v := nI 0) e_X9_fed_58 (by decide) ?_
          refine V_istore (L' := [some (.ref (eB E + 292)), some (.int (nI p)), some (.int (nI n)), some (.int (nI pr)), some (.int (nI v)), some (.long (lN 0)), none, some (.long (lN 0)), none, some (.int (nI 0)), none, none, none, none, none]) e_X9_fed_59 rfl ?_
          have hX := lp_X9_fed_s E p n pr v A (fun σ' r => Fm σ σ' ∧ r = sFed A (nI p) (nI n) (nI pr) (nI v)) (up2 σ 292 0 (nI 0)) hM1 hF hB hp (by omega) (by omega) (by omega) hNl.2 hNl.1 (pow6 hNl.1) hF.1.2.2.1 (fun τ hτ => ⟨Fm.th.f8 hτ, by unfold sFed gIn; rw [if_neg c1, if_neg c2, if_neg c3, if_neg c4, ixN (by omega), ixN (by omega), ixN (by omega), ixN (by omega), lkR_gcd hNl.1]⟩) (2 ^ A 0) 0 _ rfl (Nat.zero_le _) F8.rf; exact hX
        · refine V_ldc2_w (v := (-1000001)) e_X9_fed_48 kl_X9_268 ?_
          exact V_lret e_X9_fed_51 rfl (⟨Fm.th, by unfold sFed; (try unfold gIn); (first | rw [if_pos c1] | rw [if_neg c1] | skip); (first | rw [if_pos c2] | rw [if_neg c2] | skip); (first | rw [if_pos c3] | rw [if_neg c3] | skip); (first | rw [if_pos c4] | rw [if_neg c4] | skip); (try dsimp only); (repeat rw [ixN (by omega)]); try rfl⟩)
theorem c9_fed (E : En) (x y z w : Int32) (S : Ab) (σ : Sg) (hI : IM σ S) : Cn E m_X9_fed 12 [.ref (eB E + 292), .int x, .int y, .int z, .int w] σ (pMJ σ (S, sFed S.1 x y z w)) := (c_X9_fed E x y z w S.1 σ hI.2.1 hI.1.1.1 hI.1.1.hb).mono (fun σ' v hv => by obtain ⟨r, hv1, hv2, hv3⟩ := hv; exact ⟨r, hv1, hv2.b, hI.fm hv2, hv3⟩)

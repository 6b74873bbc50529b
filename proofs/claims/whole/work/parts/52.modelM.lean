set_option maxRecDepth 100000 in
set_option maxHeartbeats 4000000 in
theorem lp_X9_who_0 (E : En) (p r i n : Nat) (A : Vec) (d : Nat → Int32) (Q : Sg → Int32 → Prop) (σ : Sg) (hM : RepM σ 296 A) (hF : WF A) (hB : HBd A) (h5 : A 1 ≤ 5) (hG6 : A 0 ≤ 6) (hp : p < A 1) (hn : n ≤ 12) (hr : r < 8) (hri : i + n ≤ 40) (hd : ∀ j, j < n → σ 295 (40 * r + i + j) = d j) (hQ : ∀ τ, F8 σ τ → Q τ (nI (fitK (fun v => tld A (bitN (A 6) p) (setHd (pn A p) v) d n) 0 2))) : ∀ (mm : Nat) (k : Nat) (τ : Sg), 2 - k = mm → (k ≤ 2) → (F8 σ τ) → V E m_X9_who (kM E 12 (pI Q)) 73 [some (.ref (eB E + 292)), some (.int (nI p)), some (.int (nI 0)), some (.int (nI r)), some (.int (nI i)), some (.int (nI n)), some (.int (nI 0)), some (.int (nI (fitK (fun v => tld A (bitN (A 6) p) (setHd (pn A p) v) d n) 0 k))), some (.int (nI (0 + k))), none] [] τ := by
  intro mm
  induction mm using Nat.strongRecOn with
  | ind mm ih =>
    intro k τ hmm hk hI
    refine V_iload e_X9_who_73 rfl ?_
    refine V_iload_n e_X9_who_75 rfl rfl ?_
    refine V_if_ne (tgt := 83) e_X9_who_76 (by decide) (fun c1 => absurd c1 (by decide)) (fun c1 => ?_)
    refine V_iconst (v := nI 1) e_X9_who_79 (by decide) ?_
    refine V_goto (tgt := 99) e_X9_who_80 (by decide) ?_
    refine V_icmp_gt (tgt := 237) e_X9_who_99 (by decide) (fun c2 => ?_) (fun c2 => ?_)
    · have d2 : 1 < 0 + k := nq_lt (by omega) (by omega) c2
      refine V_iload e_X9_who_237 rfl ?_
      exact V_iret e_X9_who_239 rfl (by have hq := hQ τ hI; rw [show k = 2 by omega]; exact hq)
    · have d2 : ¬ 1 < 0 + k := nq_nlt (by omega) (by omega) c2
      obtain ⟨w1, w2, w3, w4, w5, w6⟩ := hF.per hp
      have hwp := (⟨w1, w2, w6, by show 0 + k ≤ 1; omega, w5⟩ : WP A (setHd (pn A p) (0 + k)))
      refine V_iload_n e_X9_who_102 rfl rfl ?_
      refine V_iconst (v := nI 2) e_X9_who_103 (by decide) ?_
      refine V_icmp_lt (tgt := 121) e_X9_who_104 (by decide) (fun c3 => ?_) (fun c3 => absurd c3 (by decide))
      refine V_aload_n e_X9_who_121 rfl rfl ?_
      refine V_cvVe (av := []) (st := []) e_X9_who_122 (c_X9_layThen E A τ (hI.rep hM)) l_X9_223 S_X9_layThen rfl (rm_ok (by decide) (by decide)) rfl rfl (Nat.le_of_ble_eq_true rfl) ?_
      refine V_iload_n e_X9_who_125 rfl rfl ?_
      refine V_iconst (v := nI 2) e_X9_who_126 (by decide) ?_
      refine V_icmp_ge (tgt := 152) e_X9_who_127 (by decide) (fun c4 => absurd c4 (by decide)) (fun c4 => ?_)
      refine V_aload_n e_X9_who_130 rfl rfl ?_
      refine V_getr (r := 298) e_X9_who_131 F_X9_then f_X9_25 rfl rfl ?_
      refine V_iload_n e_X9_who_134 rfl rfl ?_
      refine V_iload_n e_X9_who_135 rfl rfl ?_
      refine V_if_ne (tgt := 143) e_X9_who_136 (by decide) (fun c5 => absurd c5 (by decide)) (fun c5 => ?_)
      refine V_iconst (v := nI 3) e_X9_who_139 (by decide) ?_
      refine V_goto (tgt := 144) e_X9_who_140 (by decide) ?_
      refine V_iload e_X9_who_144 rfl ?_
      refine V_csVe (av := [.ref (eB E + 298), .int (nI p), .int (nI 3), .int (nI (0 + k))]) (st := []) e_X9_who_146 (c_X9_beT3 E p (0 + k) A τ (by omega)) l_X9_173 S_X9_be (rm_ok (by decide) (by decide)) rfl rfl (Nat.le_of_ble_eq_true rfl) ?_
      refine V_goto (tgt := 176) e_X9_who_149 (by decide) ?_
      refine V_iload_n e_X9_who_176 rfl rfl ?_
      refine V_iconst (v := nI 2) e_X9_who_177 (by decide) ?_
      refine V_icmp_ne (tgt := 197) e_X9_who_178 (by decide) (fun c6 => ?_) (fun c6 => absurd c6 (by decide))
      refine V_iload e_X9_who_197 rfl ?_
      refine V_istore (L' := [some (.ref (eB E + 292)), some (.int (nI p)), some (.int (nI 0)), some (.int (nI r)), some (.int (nI i)), some (.int (nI n)), some (.int (nI 0)), some (.int (nI (fitK (fun v => tld A (bitN (A 6) p) (setHd (pn A p) v) d n) 0 k))), some (.int (nI (0 + k))), some (.int (nI (0 + k)))]) e_X9_who_199 rfl ?_
      refine V_iload e_X9_who_201 rfl ?_
      refine V_aload_n e_X9_who_203 rfl rfl ?_
      refine V_iload_n e_X9_who_204 rfl rfl ?_
      refine V_bipush (v := nI 40) e_X9_who_205 (by decide) ?_
      refine V_iload_n e_X9_who_207 rfl rfl ?_
      refine V_imulN (z := nI (40 * r)) e_X9_who_208 (pk_mul _ _) ?_
      refine V_iload e_X9_who_209 rfl ?_
      refine V_iaddN (z := nI (40 * r + i)) e_X9_who_211 (nI_add _ _) ?_
      refine V_iload e_X9_who_212 rfl ?_
      refine V_cvIe (av := [.int (nI p), .int (nI (40 * r + i)), .int (nI n)]) (st := [.int (nI (fitK (fun v => tld A (bitN (A 6) p) (setHd (pn A p) v) d n) 0 k))]) e_X9_who_214 (c_X9_eatsSo E p (40 * r + i) n (setP A p (setHd (pn A p) (0 + k))) d τ (hF.sP hwp) (by rw [setP_lo (k := 1) (by omega)]; exact hp) (by rw [setP_lo (k := 1) (by omega)]; exact h5) hn (by rw [pn_setP, if_pos rfl]; exact (by show A (30 + 6 * p) ≤ 1000000; exact hB p hp)) (by omega) (fun j hj => (hI 295 _ (by decide)).trans (hd j hj))) l_X9_262 S_X9_eatsSo rfl (rm_ok (by decide) (by decide)) rfl rfl (Nat.le_of_ble_eq_true rfl) ?_
      refine V_topi (y := nI (tld A (bitN (A 6) p) (setHd (pn A p) (0 + k)) d n)) (congrArg nI (tld_P hF hwp)) ?_
      have htl := tld_le A (bitN (A 6) p) (setHd (pn A p) (0 + k)) d n
      refine V_if_eq (tgt := 227) e_X9_who_217 (by decide) (fun c7 => ?_) (fun c7 => ?_)
      · have d7 : tld A (bitN (A 6) p) (setHd (pn A p) (0 + k)) d n = 0 := nq_eq (by omega) (by omega) c7
        refine V_iconst (v := nI 0) e_X9_who_227 (by decide) ?_
        refine V_iorN (z := nI ((fitK (fun v => tld A (bitN (A 6) p) (setHd (pn A p) v) d n) 0 k) ||| 0)) e_X9_who_228 (lorI _ _) ?_
        refine V_istore (L' := [some (.ref (eB E + 292)), some (.int (nI p)), some (.int (nI 0)), some (.int (nI r)), some (.int (nI i)), some (.int (nI n)), some (.int (nI 0)), some (.int (nI ((fitK (fun v => tld A (bitN (A 6) p) (setHd (pn A p) v) d n) 0 k) ||| 0))), some (.int (nI (0 + k))), some (.int (nI (0 + k)))]) e_X9_who_229 rfl ?_
        refine V_iinc (v := nI (0 + k + 1)) (L' := [some (.ref (eB E + 292)), some (.int (nI p)), some (.int (nI 0)), some (.int (nI r)), some (.int (nI i)), some (.int (nI n)), some (.int (nI 0)), some (.int (nI ((fitK (fun v => tld A (bitN (A 6) p) (setHd (pn A p) v) d n) 0 k) ||| 0))), some (.int (nI (0 + k + 1))), some (.int (nI (0 + k)))]) e_X9_who_231 rfl (nI_add _ 1) rfl ?_
        refine V_goto (tgt := 73) e_X9_who_234 (by decide) ?_
        rw [show (fitK (fun v => tld A (bitN (A 6) p) (setHd (pn A p) v) d n) 0 k) ||| 0 = fitK (fun v => tld A (bitN (A 6) p) (setHd (pn A p) v) d n) 0 (k + 1) from (show (fitK (fun v => tld A (bitN (A 6) p) (setHd (pn A p) v) d n) 0 k) ||| 0 = fitK (fun v => tld A (bitN (A 6) p) (setHd (pn A p) v) d n) 0 k ||| (if tld A (bitN (A 6) p) (setHd (pn A p) (0 + k)) d n = 0 then 0 else 2 ^ (0 + k)) from (by (first | rw [if_pos d7] | rw [if_neg d7])))]; refine V_forget 9 ?_; exact ih (2 - (k + 1)) (by omega) (k + 1) _ rfl (by omega) hI.st
      · have d7 : ¬ tld A (bitN (A 6) p) (setHd (pn A p) (0 + k)) d n = 0 := nq_ne (by omega) (by omega) c7
        refine V_iconst (v := nI 1) e_X9_who_220 (by decide) ?_
        refine V_iload e_X9_who_221 rfl ?_
        refine V_ishlN (z := nI (2 ^ (0 + k))) e_X9_who_223 (shl1 (by omega)) ?_
        refine V_goto (tgt := 228) e_X9_who_224 (by decide) ?_
        refine V_iorN (z := nI ((fitK (fun v => tld A (bitN (A 6) p) (setHd (pn A p) v) d n) 0 k) ||| (2 ^ (0 + k)))) e_X9_who_228 (lorI _ _) ?_
        refine V_istore (L' := [some (.ref (eB E + 292)), some (.int (nI p)), some (.int (nI 0)), some (.int (nI r)), some (.int (nI i)), some (.int (nI n)), some (.int (nI 0)), some (.int (nI ((fitK (fun v => tld A (bitN (A 6) p) (setHd (pn A p) v) d n) 0 k) ||| (2 ^ (0 + k))))), some (.int (nI (0 + k))), some (.int (nI (0 + k)))]) e_X9_who_229 rfl ?_
        refine V_iinc (v := nI (0 + k + 1)) (L' := [some (.ref (eB E + 292)), some (.int (nI p)), some (.int (nI 0)), some (.int (nI r)), some (.int (nI i)), some (.int (nI n)), some (.int (nI 0)), some (.int (nI ((fitK (fun v => tld A (bitN (A 6) p) (setHd (pn A p) v) d n) 0 k) ||| (2 ^ (0 + k))))), some (.int (nI (0 + k + 1))), some (.int (nI (0 + k)))]) e_X9_who_231 rfl (nI_add _ 1) rfl ?_
        refine V_goto (tgt := 73) e_X9_who_234 (by decide) ?_
        rw [show (fitK (fun v => tld A (bitN (A 6) p) (setHd (pn A p) v) d n) 0 k) ||| (2 ^ (0 + k)) = fitK (fun v => tld A (bitN (A 6) p) (setHd (pn A p) v) d n) 0 (k + 1) from (show (fitK (fun v => tld A (bitN (A 6) p) (setHd (pn A p) v) d n) 0 k) ||| (2 ^ (0 + k)) = fitK (fun v => tld A (bitN (A 6) p) (setHd (pn A p) v) d n) 0 k ||| (if tld A (bitN (A 6) p) (setHd (pn A p) (0 + k)) d n = 0 then 0 else 2 ^ (0 + k)) from (by (first | rw [if_pos d7] | rw [if_neg d7])))]; refine V_forget 9 ?_; exact ih (2 - (k + 1)) (by omega) (k + 1) _ rfl (by omega) hI.st
set_option maxRecDepth 100000 in
set_option maxHeartbeats 4000000 in
theorem lp_X9_who_1 (E : En) (p r i n : Nat) (A : Vec) (d : Nat → Int32) (Q : Sg → Int32 → Prop) (σ : Sg) (hM : RepM σ 296 A) (hF : WF A) (hB : HBd A) (h5 : A 1 ≤ 5) (hG6 : A 0 ≤ 6) (hp : p < A 1) (hn : n ≤ 12) (hr : r < 8) (hri : i + n ≤ 40) (hd : ∀ j, j < n → σ 295 (40 * r + i + j) = d j) (hQ : ∀ τ, F8 σ τ → Q τ (nI (fitK (fun v => tld A (bitN (A 6) p) (setFi (pn A p) v) d n) 0 31))) : ∀ (mm : Nat) (k : Nat) (τ : Sg), 31 - k = mm → (k ≤ 31) → (F8 σ τ) → V E m_X9_who (kM E 12 (pI Q)) 73 [some (.ref (eB E + 292)), some (.int (nI p)), some (.int (nI 1)), some (.int (nI r)), some (.int (nI i)), some (.int (nI n)), some (.int (nI 0)), some (.int (nI (fitK (fun v => tld A (bitN (A 6) p) (setFi (pn A p) v) d n) 0 k))), some (.int (nI (0 + k))), none] [] τ := by
  intro mm
  induction mm using Nat.strongRecOn with
  | ind mm ih =>
    intro k τ hmm hk hI
    refine V_iload e_X9_who_73 rfl ?_
    refine V_iload_n e_X9_who_75 rfl rfl ?_
    refine V_if_ne (tgt := 83) e_X9_who_76 (by decide) (fun c1 => ?_) (fun c1 => absurd c1 (by decide))
    refine V_iload_n e_X9_who_83 rfl rfl ?_
    refine V_iconst (v := nI 1) e_X9_who_84 (by decide) ?_
    refine V_icmp_ne (tgt := 93) e_X9_who_85 (by decide) (fun c2 => absurd c2 (by decide)) (fun c2 => ?_)
    refine V_bipush (v := nI 30) e_X9_who_88 (by decide) ?_
    refine V_goto (tgt := 99) e_X9_who_90 (by decide) ?_
    refine V_icmp_gt (tgt := 237) e_X9_who_99 (by decide) (fun c3 => ?_) (fun c3 => ?_)
    · have d3 : 30 < 0 + k := nq_lt (by omega) (by omega) c3
      refine V_iload e_X9_who_237 rfl ?_
      exact V_iret e_X9_who_239 rfl (by have hq := hQ τ hI; rw [show k = 31 by omega]; exact hq)
    · have d3 : ¬ 30 < 0 + k := nq_nlt (by omega) (by omega) c3
      obtain ⟨w1, w2, w3, w4, w5, w6⟩ := hF.per hp
      have hwp := (⟨w1, w2, w6, w4, by show 0 + k ≤ 99; omega⟩ : WP A (setFi (pn A p) (0 + k)))
      refine V_iload_n e_X9_who_102 rfl rfl ?_
      refine V_iconst (v := nI 2) e_X9_who_103 (by decide) ?_
      refine V_icmp_lt (tgt := 121) e_X9_who_104 (by decide) (fun c4 => ?_) (fun c4 => absurd c4 (by decide))
      refine V_aload_n e_X9_who_121 rfl rfl ?_
      refine V_cvVe (av := []) (st := []) e_X9_who_122 (c_X9_layThen E A τ (hI.rep hM)) l_X9_223 S_X9_layThen rfl (rm_ok (by decide) (by decide)) rfl rfl (Nat.le_of_ble_eq_true rfl) ?_
      refine V_iload_n e_X9_who_125 rfl rfl ?_
      refine V_iconst (v := nI 2) e_X9_who_126 (by decide) ?_
      refine V_icmp_ge (tgt := 152) e_X9_who_127 (by decide) (fun c5 => absurd c5 (by decide)) (fun c5 => ?_)
      refine V_aload_n e_X9_who_130 rfl rfl ?_
      refine V_getr (r := 298) e_X9_who_131 F_X9_then f_X9_25 rfl rfl ?_
      refine V_iload_n e_X9_who_134 rfl rfl ?_
      refine V_iload_n e_X9_who_135 rfl rfl ?_
      refine V_if_ne (tgt := 143) e_X9_who_136 (by decide) (fun c6 => ?_) (fun c6 => absurd c6 (by decide))
      refine V_iconst (v := nI 4) e_X9_who_143 (by decide) ?_
      refine V_iload e_X9_who_144 rfl ?_
      refine V_csVe (av := [.ref (eB E + 298), .int (nI p), .int (nI 4), .int (nI (0 + k))]) (st := []) e_X9_who_146 (c_X9_beT4 E p (0 + k) A τ (by omega)) l_X9_173 S_X9_be (rm_ok (by decide) (by decide)) rfl rfl (Nat.le_of_ble_eq_true rfl) ?_
      refine V_goto (tgt := 176) e_X9_who_149 (by decide) ?_
      refine V_iload_n e_X9_who_176 rfl rfl ?_
      refine V_iconst (v := nI 2) e_X9_who_177 (by decide) ?_
      refine V_icmp_ne (tgt := 197) e_X9_who_178 (by decide) (fun c7 => ?_) (fun c7 => absurd c7 (by decide))
      refine V_iload e_X9_who_197 rfl ?_
      refine V_istore (L' := [some (.ref (eB E + 292)), some (.int (nI p)), some (.int (nI 1)), some (.int (nI r)), some (.int (nI i)), some (.int (nI n)), some (.int (nI 0)), some (.int (nI (fitK (fun v => tld A (bitN (A 6) p) (setFi (pn A p) v) d n) 0 k))), some (.int (nI (0 + k))), some (.int (nI (0 + k)))]) e_X9_who_199 rfl ?_
      refine V_iload e_X9_who_201 rfl ?_
      refine V_aload_n e_X9_who_203 rfl rfl ?_
      refine V_iload_n e_X9_who_204 rfl rfl ?_
      refine V_bipush (v := nI 40) e_X9_who_205 (by decide) ?_
      refine V_iload_n e_X9_who_207 rfl rfl ?_
      refine V_imulN (z := nI (40 * r)) e_X9_who_208 (pk_mul _ _) ?_
      refine V_iload e_X9_who_209 rfl ?_
      refine V_iaddN (z := nI (40 * r + i)) e_X9_who_211 (nI_add _ _) ?_
      refine V_iload e_X9_who_212 rfl ?_
      refine V_cvIe (av := [.int (nI p), .int (nI (40 * r + i)), .int (nI n)]) (st := [.int (nI (fitK (fun v => tld A (bitN (A 6) p) (setFi (pn A p) v) d n) 0 k))]) e_X9_who_214 (c_X9_eatsSo E p (40 * r + i) n (setP A p (setFi (pn A p) (0 + k))) d τ (hF.sP hwp) (by rw [setP_lo (k := 1) (by omega)]; exact hp) (by rw [setP_lo (k := 1) (by omega)]; exact h5) hn (by rw [pn_setP, if_pos rfl]; exact (by show A (30 + 6 * p) ≤ 1000000; exact hB p hp)) (by omega) (fun j hj => (hI 295 _ (by decide)).trans (hd j hj))) l_X9_262 S_X9_eatsSo rfl (rm_ok (by decide) (by decide)) rfl rfl (Nat.le_of_ble_eq_true rfl) ?_
      refine V_topi (y := nI (tld A (bitN (A 6) p) (setFi (pn A p) (0 + k)) d n)) (congrArg nI (tld_P hF hwp)) ?_
      have htl := tld_le A (bitN (A 6) p) (setFi (pn A p) (0 + k)) d n
      refine V_if_eq (tgt := 227) e_X9_who_217 (by decide) (fun c8 => ?_) (fun c8 => ?_)
      · have d8 : tld A (bitN (A 6) p) (setFi (pn A p) (0 + k)) d n = 0 := nq_eq (by omega) (by omega) c8
        refine V_iconst (v := nI 0) e_X9_who_227 (by decide) ?_
        refine V_iorN (z := nI ((fitK (fun v => tld A (bitN (A 6) p) (setFi (pn A p) v) d n) 0 k) ||| 0)) e_X9_who_228 (lorI _ _) ?_
        refine V_istore (L' := [some (.ref (eB E + 292)), some (.int (nI p)), some (.int (nI 1)), some (.int (nI r)), some (.int (nI i)), some (.int (nI n)), some (.int (nI 0)), some (.int (nI ((fitK (fun v => tld A (bitN (A 6) p) (setFi (pn A p) v) d n) 0 k) ||| 0))), some (.int (nI (0 + k))), some (.int (nI (0 + k)))]) e_X9_who_229 rfl ?_
        refine V_iinc (v := nI (0 + k + 1)) (L' := [some (.ref (eB E + 292)), some (.int (nI p)), some (.int (nI 1)), some (.int (nI r)), some (.int (nI i)), some (.int (nI n)), some (.int (nI 0)), some (.int (nI ((fitK (fun v => tld A (bitN (A 6) p) (setFi (pn A p) v) d n) 0 k) ||| 0))), some (.int (nI (0 + k + 1))), some (.int (nI (0 + k)))]) e_X9_who_231 rfl (nI_add _ 1) rfl ?_
        refine V_goto (tgt := 73) e_X9_who_234 (by decide) ?_
        rw [show (fitK (fun v => tld A (bitN (A 6) p) (setFi (pn A p) v) d n) 0 k) ||| 0 = fitK (fun v => tld A (bitN (A 6) p) (setFi (pn A p) v) d n) 0 (k + 1) from (show (fitK (fun v => tld A (bitN (A 6) p) (setFi (pn A p) v) d n) 0 k) ||| 0 = fitK (fun v => tld A (bitN (A 6) p) (setFi (pn A p) v) d n) 0 k ||| (if tld A (bitN (A 6) p) (setFi (pn A p) (0 + k)) d n = 0 then 0 else 2 ^ (0 + k)) from (by (first | rw [if_pos d8] | rw [if_neg d8])))]; refine V_forget 9 ?_; exact ih (31 - (k + 1)) (by omega) (k + 1) _ rfl (by omega) hI.st
      · have d8 : ¬ tld A (bitN (A 6) p) (setFi (pn A p) (0 + k)) d n = 0 := nq_ne (by omega) (by omega) c8
        refine V_iconst (v := nI 1) e_X9_who_220 (by decide) ?_
        refine V_iload e_X9_who_221 rfl ?_
        refine V_ishlN (z := nI (2 ^ (0 + k))) e_X9_who_223 (shl1 (by omega)) ?_
        refine V_goto (tgt := 228) e_X9_who_224 (by decide) ?_
        refine V_iorN (z := nI ((fitK (fun v => tld A (bitN (A 6) p) (setFi (pn A p) v) d n) 0 k) ||| (2 ^ (0 + k)))) e_X9_who_228 (lorI _ _) ?_
        refine V_istore (L' := [some (.ref (eB E + 292)), some (.int (nI p)), some (.int (nI 1)), some (.int (nI r)), some (.int (nI i)), some (.int (nI n)), some (.int (nI 0)), some (.int (nI ((fitK (fun v => tld A (bitN (A 6) p) (setFi (pn A p) v) d n) 0 k) ||| (2 ^ (0 + k))))), some (.int (nI (0 + k))), some (.int (nI (0 + k)))]) e_X9_who_229 rfl ?_
        refine V_iinc (v := nI (0 + k + 1)) (L' := [some (.ref (eB E + 292)), some (.int (nI p)), some (.int (nI 1)), some (.int (nI r)), some (.int (nI i)), some (.int (nI n)), some (.int (nI 0)), some (.int (nI ((fitK (fun v => tld A (bitN (A 6) p) (setFi (pn A p) v) d n) 0 k) ||| (2 ^ (0 + k))))), some (.int (nI (0 + k + 1))), some (.int (nI (0 + k)))]) e_X9_who_231 rfl (nI_add _ 1) rfl ?_
        refine V_goto (tgt := 73) e_X9_who_234 (by decide) ?_
        rw [show (fitK (fun v => tld A (bitN (A 6) p) (setFi (pn A p) v) d n) 0 k) ||| (2 ^ (0 + k)) = fitK (fun v => tld A (bitN (A 6) p) (setFi (pn A p) v) d n) 0 (k + 1) from (show (fitK (fun v => tld A (bitN (A 6) p) (setFi (pn A p) v) d n) 0 k) ||| (2 ^ (0 + k)) = fitK (fun v => tld A (bitN (A 6) p) (setFi (pn A p) v) d n) 0 k ||| (if tld A (bitN (A 6) p) (setFi (pn A p) (0 + k)) d n = 0 then 0 else 2 ^ (0 + k)) from (by (first | rw [if_pos d8] | rw [if_neg d8])))]; refine V_forget 9 ?_; exact ih (31 - (k + 1)) (by omega) (k + 1) _ rfl (by omega) hI.st
set_option maxRecDepth 100000 in
set_option maxHeartbeats 4000000 in
theorem lp_X9_who_e (E : En) (p r i n S9 : Nat) (A : Vec) (Q : Sg → Int32 → Prop) (σ : Sg) (hM : RepM σ 296 A) (hG6 : A 0 ≤ 6) : ∀ (mm : Nat) (τ : Sg), 0 = mm → (F8 σ τ) → (Q τ (nI S9)) → V E m_X9_who (kM E 12 (pI Q)) 73 [some (.ref (eB E + 292)), some (.int (nI p)), some (.int (nI 2)), some (.int (nI r)), some (.int (nI i)), some (.int (nI n)), some (.int (nI 0)), some (.int (nI S9)), some (.int (nI (A 0 + 1))), none] [] τ := by
  intro mm
  induction mm using Nat.strongRecOn with
  | ind mm ih =>
    intro τ hmm hI hQ
    refine V_iload e_X9_who_73 rfl ?_
    refine V_iload_n e_X9_who_75 rfl rfl ?_
    refine V_if_ne (tgt := 83) e_X9_who_76 (by decide) (fun c1 => ?_) (fun c1 => absurd c1 (by decide))
    refine V_iload_n e_X9_who_83 rfl rfl ?_
    refine V_iconst (v := nI 1) e_X9_who_84 (by decide) ?_
    refine V_icmp_ne (tgt := 93) e_X9_who_85 (by decide) (fun c2 => ?_) (fun c2 => absurd c2 (by decide))
    refine V_aload_n e_X9_who_93 rfl rfl ?_
    refine V_getr (r := 296) e_X9_who_94 F_X9_shore f_X9_19 rfl rfl ?_
    refine V_iconst (v := nI 0) e_X9_who_97 (by decide) ?_
    refine V_ialdv (v := nI (A 0)) (j := 0) e_X9_who_98 rfl rfl (by decide) ((hI.rep hM) 0 (by omega)) ?_
    refine V_icmp_gt (tgt := 237) e_X9_who_99 (by decide) (fun c3 => ?_) (fun c3 => ((by have := nq_nlt (by omega) (by omega) c3; omega : False)).elim)
    refine V_iload e_X9_who_237 rfl ?_
    exact V_iret e_X9_who_239 rfl (hQ)
set_option maxRecDepth 100000 in
set_option maxHeartbeats 4000000 in
theorem lp_X9_who_2 (E : En) (p r i n : Nat) (A : Vec) (d : Nat → Int32) (Q : Sg → Int32 → Prop) (σ : Sg) (hM : RepM σ 296 A) (hF : WF A) (hB : HBd A) (h5 : A 1 ≤ 5) (hG6 : A 0 ≤ 6) (hp : p < A 1) (hn : n ≤ 12) (hr : r < 8) (hri : i + n ≤ 40) (hd : ∀ j, j < n → σ 295 (40 * r + i + j) = d j) (hQ : ∀ τ, F8 σ τ → Q τ (nI (ffS A (tld A (bitN (A 6) p) (pn A p) d n) (fun g => tld (fallV A (2 ^ g)) (bitN (A 6) p) (pn A p) d n) (A 0)))) : ∀ (mm : Nat) (k : Nat) (τ : Sg), A 0 - k = mm → (k ≤ A 0) → (F8 σ τ) → V E m_X9_who (kM E 12 (pI Q)) 73 [some (.ref (eB E + 292)), some (.int (nI p)), some (.int (nI 2)), some (.int (nI r)), some (.int (nI i)), some (.int (nI n)), some (.int (nI 0)), some (.int (nI (ffS A 0 (fun g => tld (fallV A (2 ^ g)) (bitN (A 6) p) (pn A p) d n) k))), some (.int (nI k)), none] [] τ := by
  intro mm
  induction mm using Nat.strongRecOn with
  | ind mm ih =>
    intro k τ hmm hk hI
    rcases Nat.lt_or_ge k (A 0) with hkG | hkG
    · have hbk := bitN_le (A 5) k
      have hA5 := hF.1.2.2.1
      refine V_iload e_X9_who_73 rfl ?_
      refine V_iload_n e_X9_who_75 rfl rfl ?_
      refine V_if_ne (tgt := 83) e_X9_who_76 (by decide) (fun c1 => ?_) (fun c1 => absurd c1 (by decide))
      refine V_iload_n e_X9_who_83 rfl rfl ?_
      refine V_iconst (v := nI 1) e_X9_who_84 (by decide) ?_
      refine V_icmp_ne (tgt := 93) e_X9_who_85 (by decide) (fun c2 => ?_) (fun c2 => absurd c2 (by decide))
      refine V_aload_n e_X9_who_93 rfl rfl ?_
      refine V_getr (r := 296) e_X9_who_94 F_X9_shore f_X9_19 rfl rfl ?_
      refine V_iconst (v := nI 0) e_X9_who_97 (by decide) ?_
      refine V_ialdv (v := nI (A 0)) (j := 0) e_X9_who_98 rfl rfl (by decide) ((hI.rep hM) 0 (by omega)) ?_
      refine V_icmp_gt (tgt := 237) e_X9_who_99 (by decide) (fun c3 => ((by have := nq_lt (by omega) (by omega) c3; omega : False)).elim) (fun c3 => ?_)
      refine V_iload_n e_X9_who_102 rfl rfl ?_
      refine V_iconst (v := nI 2) e_X9_who_103 (by decide) ?_
      refine V_icmp_lt (tgt := 121) e_X9_who_104 (by decide) (fun c4 => absurd c4 (by decide)) (fun c4 => ?_)
      refine V_aload_n e_X9_who_107 rfl rfl ?_
      refine V_getr (r := 296) e_X9_who_108 F_X9_shore f_X9_19 rfl rfl ?_
      refine V_iconst (v := nI 5) e_X9_who_111 (by decide) ?_
      refine V_ialdv (v := nI (A 5)) (j := 5) e_X9_who_112 rfl rfl (by decide) ((hI.rep hM) 5 (by omega)) ?_
      refine V_iload e_X9_who_113 rfl ?_
      refine V_csIe (av := [.int (nI (A 5)), .int (nI k)]) (st := []) e_X9_who_115 (c_X9_has E (A 5) k τ (by omega) (by omega)) l_X9_158 S_X9_has (rm_ok (by decide) (by decide)) rfl rfl (Nat.le_of_ble_eq_true rfl) ?_
      refine V_if_ne (tgt := 231) e_X9_who_118 (by decide) (fun c5 => ?_) (fun c5 => ?_)
      · have d5 : ¬ bitN (A 5) k = 0 := nq_ne (by omega) (by omega) c5
        refine V_iinc (v := nI (k + 1)) (L' := [some (.ref (eB E + 292)), some (.int (nI p)), some (.int (nI 2)), some (.int (nI r)), some (.int (nI i)), some (.int (nI n)), some (.int (nI 0)), some (.int (nI (ffS A 0 (fun g => tld (fallV A (2 ^ g)) (bitN (A 6) p) (pn A p) d n) k))), some (.int (nI (k + 1))), none]) e_X9_who_231 rfl (nI_add _ 1) rfl ?_
        refine V_goto (tgt := 73) e_X9_who_234 (by decide) ?_
        rw [show ffS A 0 (fun g => tld (fallV A (2 ^ g)) (bitN (A 6) p) (pn A p) d n) k = ffS A 0 (fun g => tld (fallV A (2 ^ g)) (bitN (A 6) p) (pn A p) d n) (k + 1) from (Eq.symm (show ffS A 0 (fun g => tld (fallV A (2 ^ g)) (bitN (A 6) p) (pn A p) d n) k ||| (if bitN (A 5) k = 0 then (if tld (fallV A (2 ^ k)) (bitN (A 6) p) (pn A p) d n = 0 then 0 else 2 ^ k) else 0) = ffS A 0 (fun g => tld (fallV A (2 ^ g)) (bitN (A 6) p) (pn A p) d n) k from (by rw [if_neg d5, Nat.or_zero])))]; exact ih (A 0 - (k + 1)) (by omega) (k + 1) _ rfl (by omega) hI
      · have d5 : bitN (A 5) k = 0 := nq_eq (by omega) (by omega) c5
        refine V_aload_n e_X9_who_121 rfl rfl ?_
        refine V_cvVe (av := []) (st := []) e_X9_who_122 (c_X9_layThen E A τ (hI.rep hM)) l_X9_223 S_X9_layThen rfl (rm_ok (by decide) (by decide)) rfl rfl (Nat.le_of_ble_eq_true rfl) ?_
        refine V_iload_n e_X9_who_125 rfl rfl ?_
        refine V_iconst (v := nI 2) e_X9_who_126 (by decide) ?_
        refine V_icmp_ge (tgt := 152) e_X9_who_127 (by decide) (fun c6 => ?_) (fun c6 => absurd c6 (by decide))
        refine V_iload e_X9_who_152 rfl ?_
        refine V_aload_n e_X9_who_154 rfl rfl ?_
        refine V_getr (r := 296) e_X9_who_155 F_X9_shore f_X9_19 rfl rfl ?_
        refine V_iconst (v := nI 0) e_X9_who_158 (by decide) ?_
        refine V_ialdv (v := nI (A 0)) (j := 0) e_X9_who_159 rfl rfl (by decide) ((hI.rep hM).t 0 (by omega)) ?_
        refine V_icmp_ge (tgt := 176) e_X9_who_160 (by decide) (fun c7 => ((by have := nq_le (by omega) (by omega) c7; omega : False)).elim) (fun c7 => ?_)
        refine V_aload_n e_X9_who_163 rfl rfl ?_
        refine V_getr (r := 298) e_X9_who_164 F_X9_then f_X9_25 rfl rfl ?_
        refine V_iconst (v := nI 5) e_X9_who_167 (by decide) ?_
        refine V_dup2 e_X9_who_168 rfl rfl ?_
        refine V_ialdv (v := nI (A 5)) (j := 5) e_X9_who_169 rfl rfl (by decide) (stM_at (by omega)) ?_
        refine V_iconst (v := nI 1) e_X9_who_170 (by decide) ?_
        refine V_iload e_X9_who_171 rfl ?_
        refine V_ishlN (z := nI (2 ^ k)) e_X9_who_173 (shl1 (by omega)) ?_
        refine V_iorN (z := nI ((A 5) ||| (2 ^ k))) e_X9_who_174 (lorI _ _) ?_
        refine V_iast (j := 5) e_X9_who_175 rfl rfl (by decide) ?_
        rw [show up2 (stM τ 298 A) 298 5 (nI ((A 5) ||| (2 ^ k))) = stM τ 298 (fallV A (2 ^ k)) from (by rw [stM_up (by omega)]; rfl)]
        refine V_iload_n e_X9_who_176 rfl rfl ?_
        refine V_iconst (v := nI 2) e_X9_who_177 (by decide) ?_
        refine V_icmp_ne (tgt := 197) e_X9_who_178 (by decide) (fun c8 => absurd c8 (by decide)) (fun c8 => ?_)
        refine V_iload e_X9_who_181 rfl ?_
        refine V_aload_n e_X9_who_183 rfl rfl ?_
        refine V_getr (r := 296) e_X9_who_184 F_X9_shore f_X9_19 rfl rfl ?_
        refine V_iconst (v := nI 0) e_X9_who_187 (by decide) ?_
        refine V_ialdv (v := nI (A 0)) (j := 0) e_X9_who_188 rfl rfl (by decide) ((hI.rep hM).t 0 (by omega)) ?_
        refine V_icmp_ne (tgt := 197) e_X9_who_189 (by decide) (fun c9 => ?_) (fun c9 => ((by have := nq_eq (by omega) (by omega) c9; omega : False)).elim)
        refine V_iload e_X9_who_197 rfl ?_
        refine V_istore (L' := [some (.ref (eB E + 292)), some (.int (nI p)), some (.int (nI 2)), some (.int (nI r)), some (.int (nI i)), some (.int (nI n)), some (.int (nI 0)), some (.int (nI (ffS A 0 (fun g => tld (fallV A (2 ^ g)) (bitN (A 6) p) (pn A p) d n) k))), some (.int (nI k)), some (.int (nI k))]) e_X9_who_199 rfl ?_
        refine V_iload e_X9_who_201 rfl ?_
        refine V_aload_n e_X9_who_203 rfl rfl ?_
        refine V_iload_n e_X9_who_204 rfl rfl ?_
        refine V_bipush (v := nI 40) e_X9_who_205 (by decide) ?_
        refine V_iload_n e_X9_who_207 rfl rfl ?_
        refine V_imulN (z := nI (40 * r)) e_X9_who_208 (pk_mul _ _) ?_
        refine V_iload e_X9_who_209 rfl ?_
        refine V_iaddN (z := nI (40 * r + i)) e_X9_who_211 (nI_add _ _) ?_
        refine V_iload e_X9_who_212 rfl ?_
        refine V_cvIe (av := [.int (nI p), .int (nI (40 * r + i)), .int (nI n)]) (st := [.int (nI (ffS A 0 (fun g => tld (fallV A (2 ^ g)) (bitN (A 6) p) (pn A p) d n) k))]) e_X9_who_214 (c_X9_eatsSo E p (40 * r + i) n (fallV A (2 ^ k)) d τ (hF.fall (by have := pow_le6 hkG; have := Nat.two_pow_pos k; omega)) (by rw [fallV_lo (k := 1) (by omega)]; exact hp) (by rw [fallV_lo (k := 1) (by omega)]; exact h5) hn (by rw [fallV_pn]; exact (by show A (30 + 6 * p) ≤ 1000000; exact hB p hp)) (by omega) (fun j hj => (hI 295 _ (by decide)).trans (hd j hj))) l_X9_262 S_X9_eatsSo rfl (rm_ok (by decide) (by decide)) rfl rfl (Nat.le_of_ble_eq_true rfl) ?_
        refine V_topi (y := nI (tld (fallV A (2 ^ k)) (bitN (A 6) p) (pn A p) d n)) (congrArg nI tld_L) ?_
        have htl := tld_le (fallV A (2 ^ k)) (bitN (A 6) p) (pn A p) d n
        refine V_if_eq (tgt := 227) e_X9_who_217 (by decide) (fun c10 => ?_) (fun c10 => ?_)
        · have d10 : tld (fallV A (2 ^ k)) (bitN (A 6) p) (pn A p) d n = 0 := nq_eq (by omega) (by omega) c10
          refine V_iconst (v := nI 0) e_X9_who_227 (by decide) ?_
          refine V_iorN (z := nI ((ffS A 0 (fun g => tld (fallV A (2 ^ g)) (bitN (A 6) p) (pn A p) d n) k) ||| 0)) e_X9_who_228 (lorI _ _) ?_
          refine V_istore (L' := [some (.ref (eB E + 292)), some (.int (nI p)), some (.int (nI 2)), some (.int (nI r)), some (.int (nI i)), some (.int (nI n)), some (.int (nI 0)), some (.int (nI ((ffS A 0 (fun g => tld (fallV A (2 ^ g)) (bitN (A 6) p) (pn A p) d n) k) ||| 0))), some (.int (nI k)), some (.int (nI k))]) e_X9_who_229 rfl ?_
          refine V_iinc (v := nI (k + 1)) (L' := [some (.ref (eB E + 292)), some (.int (nI p)), some (.int (nI 2)), some (.int (nI r)), some (.int (nI i)), some (.int (nI n)), some (.int (nI 0)), some (.int (nI ((ffS A 0 (fun g => tld (fallV A (2 ^ g)) (bitN (A 6) p) (pn A p) d n) k) ||| 0))), some (.int (nI (k + 1))), some (.int (nI k))]) e_X9_who_231 rfl (nI_add _ 1) rfl ?_
          refine V_goto (tgt := 73) e_X9_who_234 (by decide) ?_
          rw [show (ffS A 0 (fun g => tld (fallV A (2 ^ g)) (bitN (A 6) p) (pn A p) d n) k) ||| 0 = ffS A 0 (fun g => tld (fallV A (2 ^ g)) (bitN (A 6) p) (pn A p) d n) (k + 1) from (show (ffS A 0 (fun g => tld (fallV A (2 ^ g)) (bitN (A 6) p) (pn A p) d n) k) ||| 0 = ffS A 0 (fun g => tld (fallV A (2 ^ g)) (bitN (A 6) p) (pn A p) d n) k ||| (if bitN (A 5) k = 0 then (if tld (fallV A (2 ^ k)) (bitN (A 6) p) (pn A p) d n = 0 then 0 else 2 ^ k) else 0) from (by rw [if_pos d5]; (first | rw [if_pos d10] | rw [if_neg d10])))]; refine V_forget 9 ?_; exact ih (A 0 - (k + 1)) (by omega) (k + 1) _ rfl (by omega) hI.st
        · have d10 : ¬ tld (fallV A (2 ^ k)) (bitN (A 6) p) (pn A p) d n = 0 := nq_ne (by omega) (by omega) c10
          refine V_iconst (v := nI 1) e_X9_who_220 (by decide) ?_
          refine V_iload e_X9_who_221 rfl ?_
          refine V_ishlN (z := nI (2 ^ k)) e_X9_who_223 (shl1 (by omega)) ?_
          refine V_goto (tgt := 228) e_X9_who_224 (by decide) ?_
          refine V_iorN (z := nI ((ffS A 0 (fun g => tld (fallV A (2 ^ g)) (bitN (A 6) p) (pn A p) d n) k) ||| (2 ^ k))) e_X9_who_228 (lorI _ _) ?_
          refine V_istore (L' := [some (.ref (eB E + 292)), some (.int (nI p)), some (.int (nI 2)), some (.int (nI r)), some (.int (nI i)), some (.int (nI n)), some (.int (nI 0)), some (.int (nI ((ffS A 0 (fun g => tld (fallV A (2 ^ g)) (bitN (A 6) p) (pn A p) d n) k) ||| (2 ^ k)))), some (.int (nI k)), some (.int (nI k))]) e_X9_who_229 rfl ?_
          refine V_iinc (v := nI (k + 1)) (L' := [some (.ref (eB E + 292)), some (.int (nI p)), some (.int (nI 2)), some (.int (nI r)), some (.int (nI i)), some (.int (nI n)), some (.int (nI 0)), some (.int (nI ((ffS A 0 (fun g => tld (fallV A (2 ^ g)) (bitN (A 6) p) (pn A p) d n) k) ||| (2 ^ k)))), some (.int (nI (k + 1))), some (.int (nI k))]) e_X9_who_231 rfl (nI_add _ 1) rfl ?_
          refine V_goto (tgt := 73) e_X9_who_234 (by decide) ?_
          rw [show (ffS A 0 (fun g => tld (fallV A (2 ^ g)) (bitN (A 6) p) (pn A p) d n) k) ||| (2 ^ k) = ffS A 0 (fun g => tld (fallV A (2 ^ g)) (bitN (A 6) p) (pn A p) d n) (k + 1) from (show (ffS A 0 (fun g => tld (fallV A (2 ^ g)) (bitN (A 6) p) (pn A p) d n) k) ||| (2 ^ k) = ffS A 0 (fun g => tld (fallV A (2 ^ g)) (bitN (A 6) p) (pn A p) d n) k ||| (if bitN (A 5) k = 0 then (if tld (fallV A (2 ^ k)) (bitN (A 6) p) (pn A p) d n = 0 then 0 else 2 ^ k) else 0) from (by rw [if_pos d5]; (first | rw [if_pos d10] | rw [if_neg d10])))]; refine V_forget 9 ?_; exact ih (A 0 - (k + 1)) (by omega) (k + 1) _ rfl (by omega) hI.st
    · obtain rfl : k = A 0 := by omega
      have hbG : bitN (A 5) (A 0) = 0 := by unfold bitN; rw [Nat.div_eq_of_lt hF.1.2.2.2.1]
      have hA5 := hF.1.2.2.1
      refine V_iload e_X9_who_73 rfl ?_
      refine V_iload_n e_X9_who_75 rfl rfl ?_
      refine V_if_ne (tgt := 83) e_X9_who_76 (by decide) (fun c11 => ?_) (fun c11 => absurd c11 (by decide))
      refine V_iload_n e_X9_who_83 rfl rfl ?_
      refine V_iconst (v := nI 1) e_X9_who_84 (by decide) ?_
      refine V_icmp_ne (tgt := 93) e_X9_who_85 (by decide) (fun c12 => ?_) (fun c12 => absurd c12 (by decide))
      refine V_aload_n e_X9_who_93 rfl rfl ?_
      refine V_getr (r := 296) e_X9_who_94 F_X9_shore f_X9_19 rfl rfl ?_
      refine V_iconst (v := nI 0) e_X9_who_97 (by decide) ?_
      refine V_ialdv (v := nI (A 0)) (j := 0) e_X9_who_98 rfl rfl (by decide) ((hI.rep hM) 0 (by omega)) ?_
      refine V_icmp_gt (tgt := 237) e_X9_who_99 (by decide) (fun c13 => ((by have := nq_lt (by omega) (by omega) c13; omega : False)).elim) (fun c13 => ?_)
      refine V_iload_n e_X9_who_102 rfl rfl ?_
      refine V_iconst (v := nI 2) e_X9_who_103 (by decide) ?_
      refine V_icmp_lt (tgt := 121) e_X9_who_104 (by decide) (fun c14 => absurd c14 (by decide)) (fun c14 => ?_)
      refine V_aload_n e_X9_who_107 rfl rfl ?_
      refine V_getr (r := 296) e_X9_who_108 F_X9_shore f_X9_19 rfl rfl ?_
      refine V_iconst (v := nI 5) e_X9_who_111 (by decide) ?_
      refine V_ialdv (v := nI (A 5)) (j := 5) e_X9_who_112 rfl rfl (by decide) ((hI.rep hM) 5 (by omega)) ?_
      refine V_iload e_X9_who_113 rfl ?_
      refine V_csIe (av := [.int (nI (A 5)), .int (nI (A 0))]) (st := []) e_X9_who_115 (c_X9_has E (A 5) (A 0) τ (by omega) (by omega)) l_X9_158 S_X9_has (rm_ok (by decide) (by decide)) rfl rfl (Nat.le_of_ble_eq_true rfl) ?_
      refine V_if_ne (tgt := 231) e_X9_who_118 (by decide) (fun c15 => absurd c15 (fun q => q (congrArg nI hbG))) (fun c15 => ?_)
      refine V_aload_n e_X9_who_121 rfl rfl ?_
      refine V_cvVe (av := []) (st := []) e_X9_who_122 (c_X9_layThen E A τ (hI.rep hM)) l_X9_223 S_X9_layThen rfl (rm_ok (by decide) (by decide)) rfl rfl (Nat.le_of_ble_eq_true rfl) ?_
      refine V_iload_n e_X9_who_125 rfl rfl ?_
      refine V_iconst (v := nI 2) e_X9_who_126 (by decide) ?_
      refine V_icmp_ge (tgt := 152) e_X9_who_127 (by decide) (fun c16 => ?_) (fun c16 => absurd c16 (by decide))
      refine V_iload e_X9_who_152 rfl ?_
      refine V_aload_n e_X9_who_154 rfl rfl ?_
      refine V_getr (r := 296) e_X9_who_155 F_X9_shore f_X9_19 rfl rfl ?_
      refine V_iconst (v := nI 0) e_X9_who_158 (by decide) ?_
      refine V_ialdv (v := nI (A 0)) (j := 0) e_X9_who_159 rfl rfl (by decide) ((hI.rep hM).t 0 (by omega)) ?_
      refine V_icmp_ge (tgt := 176) e_X9_who_160 (by decide) (fun c17 => ?_) (fun c17 => ((by have := nq_nle (by omega) (by omega) c17; omega : False)).elim)
      refine V_iload_n e_X9_who_176 rfl rfl ?_
      refine V_iconst (v := nI 2) e_X9_who_177 (by decide) ?_
      refine V_icmp_ne (tgt := 197) e_X9_who_178 (by decide) (fun c18 => absurd c18 (by decide)) (fun c18 => ?_)
      refine V_iload e_X9_who_181 rfl ?_
      refine V_aload_n e_X9_who_183 rfl rfl ?_
      refine V_getr (r := 296) e_X9_who_184 F_X9_shore f_X9_19 rfl rfl ?_
      refine V_iconst (v := nI 0) e_X9_who_187 (by decide) ?_
      refine V_ialdv (v := nI (A 0)) (j := 0) e_X9_who_188 rfl rfl (by decide) ((hI.rep hM).t 0 (by omega)) ?_
      refine V_icmp_ne (tgt := 197) e_X9_who_189 (by decide) (fun c19 => absurd c19 (fun q => q rfl)) (fun c19 => ?_)
      refine V_bipush (v := nI 6) e_X9_who_192 (by decide) ?_
      refine V_goto (tgt := 199) e_X9_who_194 (by decide) ?_
      refine V_istore (L' := [some (.ref (eB E + 292)), some (.int (nI p)), some (.int (nI 2)), some (.int (nI r)), some (.int (nI i)), some (.int (nI n)), some (.int (nI 0)), some (.int (nI (ffS A 0 (fun g => tld (fallV A (2 ^ g)) (bitN (A 6) p) (pn A p) d n) (A 0)))), some (.int (nI (A 0))), some (.int (nI 6))]) e_X9_who_199 rfl ?_
      refine V_iload e_X9_who_201 rfl ?_
      refine V_aload_n e_X9_who_203 rfl rfl ?_
      refine V_iload_n e_X9_who_204 rfl rfl ?_
      refine V_bipush (v := nI 40) e_X9_who_205 (by decide) ?_
      refine V_iload_n e_X9_who_207 rfl rfl ?_
      refine V_imulN (z := nI (40 * r)) e_X9_who_208 (pk_mul _ _) ?_
      refine V_iload e_X9_who_209 rfl ?_
      refine V_iaddN (z := nI (40 * r + i)) e_X9_who_211 (nI_add _ _) ?_
      refine V_iload e_X9_who_212 rfl ?_
      refine V_cvIe (av := [.int (nI p), .int (nI (40 * r + i)), .int (nI n)]) (st := [.int (nI (ffS A 0 (fun g => tld (fallV A (2 ^ g)) (bitN (A 6) p) (pn A p) d n) (A 0)))]) e_X9_who_214 (c_X9_eatsSo E p (40 * r + i) n A d τ (hF) (by rw [show A 1 = A 1 from rfl]; exact hp) (by rw [show A 1 = A 1 from rfl]; exact h5) hn (by show A (30 + 6 * p) ≤ 1000000; exact hB p hp) (by omega) (fun j hj => (hI 295 _ (by decide)).trans (hd j hj))) l_X9_262 S_X9_eatsSo rfl (rm_ok (by decide) (by decide)) rfl rfl (Nat.le_of_ble_eq_true rfl) ?_
      refine V_topi (y := nI (tld A (bitN (A 6) p) (pn A p) d n)) (rfl) ?_
      have htl := tld_le A (bitN (A 6) p) (pn A p) d n
      refine V_if_eq (tgt := 227) e_X9_who_217 (by decide) (fun c20 => ?_) (fun c20 => ?_)
      · have d20 : tld A (bitN (A 6) p) (pn A p) d n = 0 := nq_eq (by omega) (by omega) c20
        refine V_iconst (v := nI 0) e_X9_who_227 (by decide) ?_
        refine V_iorN (z := nI ((ffS A 0 (fun g => tld (fallV A (2 ^ g)) (bitN (A 6) p) (pn A p) d n) (A 0)) ||| 0)) e_X9_who_228 (lorI _ _) ?_
        refine V_istore (L' := [some (.ref (eB E + 292)), some (.int (nI p)), some (.int (nI 2)), some (.int (nI r)), some (.int (nI i)), some (.int (nI n)), some (.int (nI 0)), some (.int (nI ((ffS A 0 (fun g => tld (fallV A (2 ^ g)) (bitN (A 6) p) (pn A p) d n) (A 0)) ||| 0))), some (.int (nI (A 0))), some (.int (nI 6))]) e_X9_who_229 rfl ?_
        refine V_iinc (v := nI (A 0 + 1)) (L' := [some (.ref (eB E + 292)), some (.int (nI p)), some (.int (nI 2)), some (.int (nI r)), some (.int (nI i)), some (.int (nI n)), some (.int (nI 0)), some (.int (nI ((ffS A 0 (fun g => tld (fallV A (2 ^ g)) (bitN (A 6) p) (pn A p) d n) (A 0)) ||| 0))), some (.int (nI (A 0 + 1))), some (.int (nI 6))]) e_X9_who_231 rfl (nI_add _ 1) rfl ?_
        refine V_goto (tgt := 73) e_X9_who_234 (by decide) ?_
        refine V_forget 9 ?_; exact lp_X9_who_e E p r i n ((ffS A 0 (fun g => tld (fallV A (2 ^ g)) (bitN (A 6) p) (pn A p) d n) (A 0)) ||| 0) A Q σ hM hG6 0 _ rfl hI.st (by have hq := hQ _ (F8.st (B := daysV A n) hI); rw [ffS_0] at hq; (first | rw [if_pos d20] at hq | rw [if_neg d20] at hq); exact hq)
      · have d20 : ¬ tld A (bitN (A 6) p) (pn A p) d n = 0 := nq_ne (by omega) (by omega) c20
        refine V_iconst (v := nI 1) e_X9_who_220 (by decide) ?_
        refine V_iload e_X9_who_221 rfl ?_
        refine V_ishlN (z := nI (2 ^ 6)) e_X9_who_223 (shl1 (by omega)) ?_
        refine V_goto (tgt := 228) e_X9_who_224 (by decide) ?_
        refine V_iorN (z := nI ((ffS A 0 (fun g => tld (fallV A (2 ^ g)) (bitN (A 6) p) (pn A p) d n) (A 0)) ||| (2 ^ 6))) e_X9_who_228 (lorI _ _) ?_
        refine V_istore (L' := [some (.ref (eB E + 292)), some (.int (nI p)), some (.int (nI 2)), some (.int (nI r)), some (.int (nI i)), some (.int (nI n)), some (.int (nI 0)), some (.int (nI ((ffS A 0 (fun g => tld (fallV A (2 ^ g)) (bitN (A 6) p) (pn A p) d n) (A 0)) ||| (2 ^ 6)))), some (.int (nI (A 0))), some (.int (nI 6))]) e_X9_who_229 rfl ?_
        refine V_iinc (v := nI (A 0 + 1)) (L' := [some (.ref (eB E + 292)), some (.int (nI p)), some (.int (nI 2)), some (.int (nI r)), some (.int (nI i)), some (.int (nI n)), some (.int (nI 0)), some (.int (nI ((ffS A 0 (fun g => tld (fallV A (2 ^ g)) (bitN (A 6) p) (pn A p) d n) (A 0)) ||| (2 ^ 6)))), some (.int (nI (A 0 + 1))), some (.int (nI 6))]) e_X9_who_231 rfl (nI_add _ 1) rfl ?_
        refine V_goto (tgt := 73) e_X9_who_234 (by decide) ?_
        refine V_forget 9 ?_; exact lp_X9_who_e E p r i n ((ffS A 0 (fun g => tld (fallV A (2 ^ g)) (bitN (A 6) p) (pn A p) d n) (A 0)) ||| (2 ^ 6)) A Q σ hM hG6 0 _ rfl hI.st (by have hq := hQ _ (F8.st (B := daysV A n) hI); rw [ffS_0] at hq; (first | rw [if_pos d20] at hq | rw [if_neg d20] at hq); exact hq)
set_option maxRecDepth 100000 in
set_option maxHeartbeats 4000000 in
theorem c9_who (E : En) (x y z w v : Int32) (A : Vec) (T : AbT) (σ : Sg) (hJ0 : IM σ (A, T)) : Cn E m_X9_who 12 [.ref (eB E + 292), .int x, .int y, .int z, .int w, .int v] σ (pM σ (oWho (A, T) x y z w v)) := by
  have hGD : GD A := hJ0.1.1
  have hN : WN A := hGD.1
  have hNl := hN.le
  have hA4 : A 4 ≤ 999 := hGD.2.2
  have hG := hJ0.1
  have hB := hGD.hb
  refine Cn.of [some (.ref (eB E + 292)), some (.int x), some (.int y), some (.int z), some (.int w), some (.int v), none, none, none, none] (by decide) (Nat.le_of_ble_eq_true rfl) rfl ?_
  refine V_aload_n e_X9_who_0 rfl rfl ?_
  refine V_iconst (v := nI 0) e_X9_who_1 (by decide) ?_
  refine V_puti e_X9_who_2 F_X9_thrown f_X9_53 rfl ?_
  generalize hτ : up2 σ 292 0 (nI 0) = τ
  have hfb : Fb 292 307 σ τ := hτ ▸ th_fb
  have hJ : IM τ (A, T) := hτ ▸ hJ0.fm Fm.th
  have hM : RepM τ 296 A := hJ.2.1
  refine V_aload_n e_X9_who_5 rfl rfl ?_
  refine V_iload_n e_X9_who_6 rfl rfl ?_
  refine V_cvIe (av := [.int x]) (st := []) e_X9_who_7 (c_X9_isMan E x A τ hM) l_X9_204 S_X9_isMan rfl (rm_ok (by decide) (by decide)) rfl rfl (Nat.le_of_ble_eq_true rfl) ?_
  refine V_if_eq (tgt := 45) e_X9_who_10 (by decide) (fun c1 => ?_) (fun c1 => ?_)
  · refine V_ldc (v := (-1000001)) e_X9_who_45 k_X9_73 ?_
    exact V_iret e_X9_who_47 rfl (by rw [show oWho (A, T) x y z w v = ((A, T), (-1000001)) from (by unfold oWho; (try unfold gIn); (try dsimp only); (try (repeat rw [ixN (by omega)])); (first | rw [if_pos c1] | rw [if_neg c1] | skip); try rfl)]; exact ⟨hfb, hJ, rfl⟩)
  · obtain ⟨p, hp, rfl⟩ := (wi_nat (by omega)).mp c1
    have hF : WF A := hN.wf (by omega)
    refine V_iload_n e_X9_who_13 rfl rfl ?_
    refine V_i2l e_X9_who_14 ?_
    refine V_lconst (v := lN 0) e_X9_who_15 (by decide) ?_
    refine V_ldc2_w (v := lN 2) e_X9_who_16 kl_X9_71 ?_
    refine V_csIe (av := [.long y.toInt64, .long (lN 0), .long (lN 2)]) (st := []) e_X9_who_19 (c_X9_inN E y (nI 0) (nI 2) (lN 0) (lN 2) τ (nI_l (by omega)) (nI_l (by omega))) l_X9_63 S_X9_in (rm_ok (by decide) (by decide)) rfl rfl (Nat.le_of_ble_eq_true rfl) ?_
    refine V_if_eq (tgt := 45) e_X9_who_22 (by decide) (fun c2 => ?_) (fun c2 => ?_)
    · refine V_ldc (v := (-1000001)) e_X9_who_45 k_X9_73 ?_
      exact V_iret e_X9_who_47 rfl (by rw [show oWho (A, T) (nI p) y z w v = ((A, T), (-1000001)) from (by unfold oWho; (try unfold gIn); (try dsimp only); (try (repeat rw [ixN (by omega)])); (first | rw [if_pos c1] | rw [if_neg c1] | skip); (first | rw [if_pos c2] | rw [if_neg c2] | skip); try rfl)]; exact ⟨hfb, hJ, rfl⟩)
    · obtain ⟨k, hka, hk, rfl⟩ := (wi_le (by omega) (by omega)).mp c2
      refine V_iload_n e_X9_who_25 rfl rfl ?_
      refine V_csIe (av := [.int z]) (st := []) e_X9_who_26 (c_X9_isRow E z τ) l_X9_67 S_X9_isRow (rm_ok (by decide) (by decide)) rfl rfl (Nat.le_of_ble_eq_true rfl) ?_
      refine V_if_eq (tgt := 45) e_X9_who_29 (by decide) (fun c3 => ?_) (fun c3 => ?_)
      · refine V_ldc (v := (-1000001)) e_X9_who_45 k_X9_73 ?_
        exact V_iret e_X9_who_47 rfl (by rw [show oWho (A, T) (nI p) (nI k) z w v = ((A, T), (-1000001)) from (by unfold oWho; (try unfold gIn); (try dsimp only); (try (repeat rw [ixN (by omega)])); (first | rw [if_pos c1] | rw [if_neg c1] | skip); (first | rw [if_pos c2] | rw [if_neg c2] | skip); (first | rw [if_pos c3] | rw [if_neg c3] | skip); try rfl)]; exact ⟨hfb, hJ, rfl⟩)
      · obtain ⟨r, hra, hr, rfl⟩ := (wi_le (by omega) (by omega)).mp c3
        refine V_iload e_X9_who_32 rfl ?_
        refine V_i2l e_X9_who_34 ?_
        refine V_lconst (v := lN 1) e_X9_who_35 (by decide) ?_
        refine V_ldc2_w (v := lN 12) e_X9_who_36 kl_X9_256 ?_
        refine V_csIe (av := [.long v.toInt64, .long (lN 1), .long (lN 12)]) (st := []) e_X9_who_39 (c_X9_inN E v (nI 1) (nI 12) (lN 1) (lN 12) τ (nI_l (by omega)) (nI_l (by omega))) l_X9_63 S_X9_in (rm_ok (by decide) (by decide)) rfl rfl (Nat.le_of_ble_eq_true rfl) ?_
        refine V_if_ne (tgt := 48) e_X9_who_42 (by decide) (fun c4 => ?_) (fun c4 => ?_)
        · obtain ⟨n, hna, hn, rfl⟩ := (wi_le (by omega) (by omega)).mp c4
          refine V_aload_n e_X9_who_48 rfl rfl ?_
          refine V_iload_n e_X9_who_49 rfl rfl ?_
          refine V_iload e_X9_who_50 rfl ?_
          refine V_iload e_X9_who_52 rfl ?_
          refine V_cvI (av := [.int (nI r), .int w, .int (nI n)]) (st := []) e_X9_who_54 (c_X9_rowFound E r n w A T τ hJ (by omega) (by omega)) l_X9_258 S_X9_rowFound rfl (rm_ok (by decide) (by decide)) rfl rfl (Nat.le_of_ble_eq_true rfl) ?_
          intro ρ q9 hh
          obtain ⟨hρ, rfl⟩ := hh
          have hfl := fndS_le ((aR (A, T)).1 r) ((aR (A, T)).2.1 r) w (nI n)
          have hfb0 : Fb 292 307 σ ρ := by rw [hρ]; exact hfb.tr th_fb
          have hK : IM ρ (wS (A, T) (fndS ((aR (A, T)).1 r) ((aR (A, T)).2.1 r) w (nI n))) := by rw [hρ]; exact imst hJ (by omega)
          have hMk : RepM ρ 296 A := hK.2.1
          rcases Decidable.em (fndS ((aR (A, T)).1 r) ((aR (A, T)).2.1 r) w (nI n) = 0) with hfn | hfn
          · rw [if_pos hfn]
            rw [hfn] at hK
            obtain ⟨hlr, hpl⟩ := fndS_0 hfn
            obtain ⟨i, n1, rfl, hb1, hin, hi31, hn31⟩ := hpl.nat
            obtain rfl : n = n1 := nq_eq (by omega) hn31 hb1
            have hit : ∀ j, j < n → ρ 295 (40 * r + i + j) = dinR (aR (A, T)) r i j := fun j hj => by rw [Nat.add_assoc]; exact (hK.2.2.2.2.1 r (by omega)).2.2 (i + j) (by have := (hG.rows r (by omega)).2; omega)
            have hm40 := (hG.rows r (by omega)).2
            refine V_istore (L' := [some (.ref (eB E + 292)), some (.int (nI p)), some (.int (nI k)), some (.int (nI r)), some (.int (nI i)), some (.int (nI n)), some (.int (nI 0)), none, none, none]) e_X9_who_57 rfl ?_
            refine V_iload e_X9_who_59 rfl ?_
            refine V_if_eq (tgt := 67) e_X9_who_61 (by decide) (fun c5 => ?_) (fun c5 => absurd c5 (by decide))
            rcases (show k = 0 ∨ k = 1 ∨ k = 2 by omega) with rfl | rfl | rfl
            · skip
              refine V_iconst (v := nI 0) e_X9_who_67 (by decide) ?_
              refine V_istore (L' := [some (.ref (eB E + 292)), some (.int (nI p)), some (.int (nI 0)), some (.int (nI r)), some (.int (nI i)), some (.int (nI n)), some (.int (nI 0)), some (.int (nI 0)), none, none]) e_X9_who_68 rfl ?_
              refine V_iconst (v := nI 0) e_X9_who_70 (by decide) ?_
              refine V_istore (L' := [some (.ref (eB E + 292)), some (.int (nI p)), some (.int (nI 0)), some (.int (nI r)), some (.int (nI i)), some (.int (nI n)), some (.int (nI 0)), some (.int (nI 0)), some (.int (nI 0)), none]) e_X9_who_71 rfl ?_
              have hX := lp_X9_who_0 E p r i n A (dinR (aR (A, T)) r i) (fun σ' q => Fb 292 307 σ σ' ∧ IM σ' (oWho (A, T) (nI p) (nI 0) (nI r) (nI i) (nI n)).1 ∧ q = (oWho (A, T) (nI p) (nI 0) (nI r) (nI i) (nI n)).2) ρ hMk hF hB hNl.2 hNl.1 hp (by omega) (by omega) (by omega) hit (fun τ9 h9 => by rw [show oWho (A, T) (nI p) (nI 0) (nI r) (nI i) (nI n) = (wS (A, T) 0, nI (whoV A p 0 (dinR (aR (A, T)) r i) n)) from (by unfold oWho; (try unfold gIn); (try dsimp only); (try (repeat rw [ixN (by omega)])); (first | rw [if_pos c1] | rw [if_neg c1] | skip); (first | rw [if_pos c2] | rw [if_neg c2] | skip); (first | rw [if_pos c3] | rw [if_neg c3] | skip); (first | rw [if_pos c4] | rw [if_neg c4] | skip); (first | rw [if_pos c5] | rw [if_neg c5] | skip); rw [if_pos hfn])]; exact ⟨hfb0.tr (h9.b), hK.f8 h9, rfl⟩) 2 0 ρ rfl (by omega) F8.rf; exact hX
            · skip
              refine V_iconst (v := nI 0) e_X9_who_67 (by decide) ?_
              refine V_istore (L' := [some (.ref (eB E + 292)), some (.int (nI p)), some (.int (nI 1)), some (.int (nI r)), some (.int (nI i)), some (.int (nI n)), some (.int (nI 0)), some (.int (nI 0)), none, none]) e_X9_who_68 rfl ?_
              refine V_iconst (v := nI 0) e_X9_who_70 (by decide) ?_
              refine V_istore (L' := [some (.ref (eB E + 292)), some (.int (nI p)), some (.int (nI 1)), some (.int (nI r)), some (.int (nI i)), some (.int (nI n)), some (.int (nI 0)), some (.int (nI 0)), some (.int (nI 0)), none]) e_X9_who_71 rfl ?_
              have hX := lp_X9_who_1 E p r i n A (dinR (aR (A, T)) r i) (fun σ' q => Fb 292 307 σ σ' ∧ IM σ' (oWho (A, T) (nI p) (nI 1) (nI r) (nI i) (nI n)).1 ∧ q = (oWho (A, T) (nI p) (nI 1) (nI r) (nI i) (nI n)).2) ρ hMk hF hB hNl.2 hNl.1 hp (by omega) (by omega) (by omega) hit (fun τ9 h9 => by rw [show oWho (A, T) (nI p) (nI 1) (nI r) (nI i) (nI n) = (wS (A, T) 0, nI (whoV A p 1 (dinR (aR (A, T)) r i) n)) from (by unfold oWho; (try unfold gIn); (try dsimp only); (try (repeat rw [ixN (by omega)])); (first | rw [if_pos c1] | rw [if_neg c1] | skip); (first | rw [if_pos c2] | rw [if_neg c2] | skip); (first | rw [if_pos c3] | rw [if_neg c3] | skip); (first | rw [if_pos c4] | rw [if_neg c4] | skip); (first | rw [if_pos c5] | rw [if_neg c5] | skip); rw [if_pos hfn])]; exact ⟨hfb0.tr (h9.b), hK.f8 h9, rfl⟩) 31 0 ρ rfl (by omega) F8.rf; exact hX
            · skip
              refine V_iconst (v := nI 0) e_X9_who_67 (by decide) ?_
              refine V_istore (L' := [some (.ref (eB E + 292)), some (.int (nI p)), some (.int (nI 2)), some (.int (nI r)), some (.int (nI i)), some (.int (nI n)), some (.int (nI 0)), some (.int (nI 0)), none, none]) e_X9_who_68 rfl ?_
              refine V_iconst (v := nI 0) e_X9_who_70 (by decide) ?_
              refine V_istore (L' := [some (.ref (eB E + 292)), some (.int (nI p)), some (.int (nI 2)), some (.int (nI r)), some (.int (nI i)), some (.int (nI n)), some (.int (nI 0)), some (.int (nI 0)), some (.int (nI 0)), none]) e_X9_who_71 rfl ?_
              have hX := lp_X9_who_2 E p r i n A (dinR (aR (A, T)) r i) (fun σ' q => Fb 292 307 σ σ' ∧ IM σ' (oWho (A, T) (nI p) (nI 2) (nI r) (nI i) (nI n)).1 ∧ q = (oWho (A, T) (nI p) (nI 2) (nI r) (nI i) (nI n)).2) ρ hMk hF hB hNl.2 hNl.1 hp (by omega) (by omega) (by omega) hit (fun τ9 h9 => by rw [show oWho (A, T) (nI p) (nI 2) (nI r) (nI i) (nI n) = (wS (A, T) 0, nI (whoV A p 2 (dinR (aR (A, T)) r i) n)) from (by unfold oWho; (try unfold gIn); (try dsimp only); (try (repeat rw [ixN (by omega)])); (first | rw [if_pos c1] | rw [if_neg c1] | skip); (first | rw [if_pos c2] | rw [if_neg c2] | skip); (first | rw [if_pos c3] | rw [if_neg c3] | skip); (first | rw [if_pos c4] | rw [if_neg c4] | skip); (first | rw [if_pos c5] | rw [if_neg c5] | skip); rw [if_pos hfn])]; exact ⟨hfb0.tr (h9.b), hK.f8 h9, rfl⟩) (A 0) 0 ρ rfl (by omega) F8.rf; exact hX
          · rw [if_neg hfn]
            refine V_istore (L' := [some (.ref (eB E + 292)), some (.int (nI p)), some (.int (nI k)), some (.int (nI r)), some (.int w), some (.int (nI n)), some (.int ((-1000010) - nI (fndS ((aR (A, T)).1 r) ((aR (A, T)).2.1 r) w (nI n)))), none, none, none]) e_X9_who_57 rfl ?_
            refine V_iload e_X9_who_59 rfl ?_
            refine V_if_eq (tgt := 67) e_X9_who_61 (by decide) (fun c6 => absurd c6 (fnd_nz _ hfl)) (fun c6 => ?_)
            refine V_iload e_X9_who_64 rfl ?_
            exact V_iret e_X9_who_66 rfl (by rw [show oWho (A, T) (nI p) (nI k) (nI r) w (nI n) = (wS (A, T) (fndS ((aR (A, T)).1 r) ((aR (A, T)).2.1 r) w (nI n)), (-1000010) - nI (fndS ((aR (A, T)).1 r) ((aR (A, T)).2.1 r) w (nI n))) from (by unfold oWho; (try unfold gIn); (try dsimp only); (try (repeat rw [ixN (by omega)])); (first | rw [if_pos c1] | rw [if_neg c1] | skip); (first | rw [if_pos c2] | rw [if_neg c2] | skip); (first | rw [if_pos c3] | rw [if_neg c3] | skip); (first | rw [if_pos c4] | rw [if_neg c4] | skip); (first | rw [if_pos c6] | rw [if_neg c6] | skip); rw [if_neg hfn])]; exact ⟨hfb0, hK, rfl⟩)
        · refine V_ldc (v := (-1000001)) e_X9_who_45 k_X9_73 ?_
          exact V_iret e_X9_who_47 rfl (by rw [show oWho (A, T) (nI p) (nI k) (nI r) w v = ((A, T), (-1000001)) from (by unfold oWho; (try unfold gIn); (try dsimp only); (try (repeat rw [ixN (by omega)])); (first | rw [if_pos c1] | rw [if_neg c1] | skip); (first | rw [if_pos c2] | rw [if_neg c2] | skip); (first | rw [if_pos c3] | rw [if_neg c3] | skip); (first | rw [if_pos c4] | rw [if_neg c4] | skip); try rfl)]; exact ⟨hfb, hJ, rfl⟩)

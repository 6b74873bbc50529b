def mtk (t : Nat) : Nat := if t = 257 then 1 else if 97 ≤ t ∧ t ≤ 122 then 2 else if t = 256 then 3 else if t = 44 ∨ t = 59 then 4 else 0
theorem mtk_le (t : Nat) : mtk t ≤ 4 := by unfold mtk; (repeat' split) <;> omega
theorem mtk_2 {t : Nat} : mtk t = 2 ↔ (97 ≤ t ∧ t ≤ 122) := by unfold mtk; (repeat' split) <;> omega
theorem mtk_4 {t : Nat} : mtk t = 4 ↔ (t = 44 ∨ t = 59) := by unfold mtk; (repeat' split) <;> omega
theorem mtk_3 {t : Nat} : mtk t = 3 ↔ t = 256 := by unfold mtk; (repeat' split) <;> omega
theorem mtk_1 {t : Nat} : mtk t = 1 ↔ t = 257 := by unfold mtk; (repeat' split) <;> omega
def mw (T : Tp) (b e : Nat) : Nat := if e - b = 1 then T.2 b - 48 else 10 * (T.2 b - 48) + (T.2 (b + 1) - 48)
def FN (σ τ : Sg) : Prop := ∀ a k, ¬ (a = 292 ∧ 12 ≤ k ∧ k ≤ 15) → τ a k = σ a k
theorem FN.rf {σ : Sg} : FN σ σ := fun _ _ _ => rfl
theorem FN.tr {σ τ ρ : Sg} (h1 : FN σ τ) (h2 : FN τ ρ) : FN σ ρ := fun a k h => (h2 a k h).trans (h1 a k h)
theorem FN.up {σ τ : Sg} {k : Nat} {v : Int32} (h : FN σ τ) (h1 : 12 ≤ k) (h2 : k ≤ 15) : FN σ (up2 τ 292 k v) := fun a j hj => by
  unfold up2
  rw [if_neg (fun q => hj ⟨q.1, by rw [q.2]; exact h1, by rw [q.2]; exact h2⟩)]
  exact h a j hj
theorem MT.fn {σ τ : Sg} {T : Tp} (h : MT σ T) (e : FN σ τ) : MT τ T := h.fr (e 292 11 (by omega)) (fun k => e 300 k (by omega))
def MPos (τ : Sg) (T : Tp) (p : Nat) : Prop := τ 292 12 = nI (nx T p) ∧ τ 292 13 = nI p ∧ τ 292 14 = nI (mtk (tok T p)) ∧ ((mtk (tok T p) = 2 ∨ mtk (tok T p) = 4) → τ 292 15 = nI (tok T p)) ∧ (mtk (tok T p) = 3 → τ 292 15 = nI (vl T p))
theorem in_t {x lo hi : Nat} (hx : x < 2 ^ 31) (hl : lo < 2 ^ 31) (hh : hi < 2 ^ 31) (h : ¬ wi (nI x) (nI lo) (nI hi) = 0) : lo ≤ x ∧ x ≤ hi := by
  obtain ⟨j, j1, j2, j3⟩ := (wi_le hl hh).mp h
  have := nq_eq hx (by omega) j3
  omega
theorem in_f {x lo hi : Nat} (hl : lo < 2 ^ 31) (hh : hi < 2 ^ 31) (h : wi (nI x) (nI lo) (nI hi) = 0) : ¬ (lo ≤ x ∧ x ≤ hi) := fun z => (wi_le hl hh).mpr ⟨x, z.1, z.2, rfl⟩ h
theorem dg_1 {x : Nat} (h : 48 ≤ x ∧ x ≤ 57) : ¬ dgN x = 0 := fun z => by unfold dgN at z; rw [if_pos h] at z; omega
theorem dg_0 {x : Nat} (h : ¬ (48 ≤ x ∧ x ≤ 57)) : dgN x = 0 := if_neg h
set_option maxRecDepth 100000 in
set_option maxHeartbeats 4000000 in
theorem lp_X9_nextToken (E : En) (b : Nat) (T : Tp) (σ : Sg) (hMT : MT σ T) (hTb : T.1 ≤ 100) (hT6 : ∀ j, j < T.1 → T.2 j < 256) (hbn : b < T.1) (hdb : 48 ≤ T.2 b ∧ T.2 b ≤ 57) : ∀ (mm : Nat) (e : Nat) (τ : Sg), T.1 - e = mm → (b < e) → (e ≤ T.1) → (FN σ τ) → (τ 292 12 = nI e) → (τ 292 13 = nI b) → (τ 292 15 = nI (mw T b e)) → (en T b = rE T (101 - (e - b)) e) → V E m_X9_nextToken (kM E 2 (pV (fun σ' => FN σ σ' ∧ MPos σ' T b))) 165 [some (.ref (eB E + 292))] [] τ := by
  intro mm
  induction mm using Nat.strongRecOn with
  | ind mm ih =>
    intro e τ hmm hbe hen9 hF k12 k13 k15 hE
    refine V_aload_n e_X9_nextToken_165 rfl rfl ?_
    refine V_getiv (v := nI e) e_X9_nextToken_166 F_X9_cursor f_X9_93 rfl k12 ?_
    refine V_aload_n e_X9_nextToken_169 rfl rfl ?_
    refine V_getiv (v := nI T.1) e_X9_nextToken_170 F_X9_taped f_X9_80 rfl ((hF 292 11 (by omega)).trans hMT.1) ?_
    refine V_icmp_ge (tgt := 255) e_X9_nextToken_173 (by decide) (fun c1 => ?_) (fun c1 => ?_)
    · have d1 : T.1 ≤ e := nq_le (by omega) (by omega) c1
      refine V_aload_n e_X9_nextToken_255 rfl rfl ?_
      refine V_aload_n e_X9_nextToken_256 rfl rfl ?_
      refine V_getiv (v := nI e) e_X9_nextToken_257 F_X9_cursor f_X9_93 rfl k12 ?_
      refine V_aload_n e_X9_nextToken_260 rfl rfl ?_
      refine V_getiv (v := nI b) e_X9_nextToken_261 F_X9_start f_X9_87 rfl k13 ?_
      refine V_isubN (z := nI (e - b)) e_X9_nextToken_264 (pk_sub (by omega)) ?_
      refine V_iconst (v := nI 2) e_X9_nextToken_265 (by decide) ?_
      refine V_icmp_le (tgt := 273) e_X9_nextToken_266 (by decide) (fun c2 => ?_) (fun c2 => ?_)
      · have d2 : e - b ≤ 2 := nq_le (by omega) (by omega) c2
        refine V_iconst (v := nI 3) e_X9_nextToken_273 (by decide) ?_
        refine V_puti e_X9_nextToken_274 F_X9_token f_X9_108 rfl ?_
        exact V_vret e_X9_nextToken_277 rfl (by have hen : en T b = e := (by rw [hE]; exact rE_z (by first | exact Or.inl (by omega) | exact Or.inr (dg_0 h195))); have hd0 : ¬ dgN (T.2 b) = 0 := dg_1 hdb; have ht : tok T b = 256 := (by unfold tok; rw [if_pos (by omega), if_neg hd0, hen, if_pos (by omega)]); have hn : nx T b = e := (by unfold nx; rw [if_pos (by omega), if_neg hd0, hen]); have hm : mtk (tok T b) = 3 := (by rw [ht]; rfl); exact ⟨hF.up (by omega) (by omega), by rw [hn]; exact (up2_k (by decide)).trans k12, (up2_k (by decide)).trans k13, by rw [hm]; exact up2_at, fun z => by rw [hm] at z; omega, fun z => (up2_k (by decide)).trans (k15.trans (congrArg nI (by unfold mw vl; rw [hen])))⟩)
      · have d2 : ¬ e - b ≤ 2 := nq_nle (by omega) (by omega) c2
        refine V_iconst (v := nI 0) e_X9_nextToken_269 (by decide) ?_
        refine V_goto (tgt := 274) e_X9_nextToken_270 (by decide) ?_
        refine V_puti e_X9_nextToken_274 F_X9_token f_X9_108 rfl ?_
        exact V_vret e_X9_nextToken_277 rfl (by have hen : en T b = e := (by rw [hE]; exact rE_z (by first | exact Or.inl (by omega) | exact Or.inr (dg_0 h195))); have hd0 : ¬ dgN (T.2 b) = 0 := dg_1 hdb; have ht : tok T b = 258 := (by unfold tok; rw [if_pos (by omega), if_neg hd0, hen, if_neg (by omega)]); have hn : nx T b = e := (by unfold nx; rw [if_pos (by omega), if_neg hd0, hen]); have hm : mtk (tok T b) = 0 := (by rw [ht]; rfl); exact ⟨hF.up (by omega) (by omega), by rw [hn]; exact (up2_k (by decide)).trans k12, (up2_k (by decide)).trans k13, by rw [hm]; exact up2_at, fun z => by rw [hm] at z; omega, fun z => by rw [hm] at z; omega⟩)
    · have d1 : ¬ T.1 ≤ e := nq_nle (by omega) (by omega) c1
      have h256 := hT6 e (by omega)
      refine V_aload_n e_X9_nextToken_176 rfl rfl ?_
      refine V_getr (r := 300) e_X9_nextToken_177 F_X9_tape f_X9_31 rfl rfl ?_
      refine V_aload_n e_X9_nextToken_180 rfl rfl ?_
      refine V_getiv (v := nI e) e_X9_nextToken_181 F_X9_cursor f_X9_93 rfl k12 ?_
      refine V_ialdv (v := nI (T.2 e)) (j := e) e_X9_nextToken_184 rfl rfl (by have q : ln 300 = 100 := rfl; omega) ((hF 300 e (by omega)).trans (hMT.2 e (by omega))) ?_
      refine V_i2lN (z := lN (T.2 e)) e_X9_nextToken_185 (nI_l (by omega)) ?_
      refine V_ldc2_w (v := lN 48) e_X9_nextToken_186 kl_X9_104 ?_
      refine V_ldc2_w (v := lN 57) e_X9_nextToken_189 kl_X9_106 ?_
      refine V_csIe (av := [.long (lN (T.2 e)), .long (lN 48), .long (lN 57)]) (st := []) e_X9_nextToken_192 (c_X9_inL E (T.2 e) (nI 48) (nI 57) (lN 48) (lN 57) τ (by omega) (nI_l (by omega)) (nI_l (by omega))) l_X9_63 S_X9_in (rm_ok (by decide) (by decide)) rfl rfl (Nat.le_of_ble_eq_true rfl) ?_
      refine V_if_eq (tgt := 255) e_X9_nextToken_195 (by decide) (fun c3 => ?_) (fun c3 => ?_)
      · have h195 := in_f (by omega) (by omega) c3
        refine V_aload_n e_X9_nextToken_255 rfl rfl ?_
        refine V_aload_n e_X9_nextToken_256 rfl rfl ?_
        refine V_getiv (v := nI e) e_X9_nextToken_257 F_X9_cursor f_X9_93 rfl k12 ?_
        refine V_aload_n e_X9_nextToken_260 rfl rfl ?_
        refine V_getiv (v := nI b) e_X9_nextToken_261 F_X9_start f_X9_87 rfl k13 ?_
        refine V_isubN (z := nI (e - b)) e_X9_nextToken_264 (pk_sub (by omega)) ?_
        refine V_iconst (v := nI 2) e_X9_nextToken_265 (by decide) ?_
        refine V_icmp_le (tgt := 273) e_X9_nextToken_266 (by decide) (fun c4 => ?_) (fun c4 => ?_)
        · have d4 : e - b ≤ 2 := nq_le (by omega) (by omega) c4
          refine V_iconst (v := nI 3) e_X9_nextToken_273 (by decide) ?_
          refine V_puti e_X9_nextToken_274 F_X9_token f_X9_108 rfl ?_
          exact V_vret e_X9_nextToken_277 rfl (by have hen : en T b = e := (by rw [hE]; exact rE_z (by first | exact Or.inl (by omega) | exact Or.inr (dg_0 h195))); have hd0 : ¬ dgN (T.2 b) = 0 := dg_1 hdb; have ht : tok T b = 256 := (by unfold tok; rw [if_pos (by omega), if_neg hd0, hen, if_pos (by omega)]); have hn : nx T b = e := (by unfold nx; rw [if_pos (by omega), if_neg hd0, hen]); have hm : mtk (tok T b) = 3 := (by rw [ht]; rfl); exact ⟨hF.up (by omega) (by omega), by rw [hn]; exact (up2_k (by decide)).trans k12, (up2_k (by decide)).trans k13, by rw [hm]; exact up2_at, fun z => by rw [hm] at z; omega, fun z => (up2_k (by decide)).trans (k15.trans (congrArg nI (by unfold mw vl; rw [hen])))⟩)
        · have d4 : ¬ e - b ≤ 2 := nq_nle (by omega) (by omega) c4
          refine V_iconst (v := nI 0) e_X9_nextToken_269 (by decide) ?_
          refine V_goto (tgt := 274) e_X9_nextToken_270 (by decide) ?_
          refine V_puti e_X9_nextToken_274 F_X9_token f_X9_108 rfl ?_
          exact V_vret e_X9_nextToken_277 rfl (by have hen : en T b = e := (by rw [hE]; exact rE_z (by first | exact Or.inl (by omega) | exact Or.inr (dg_0 h195))); have hd0 : ¬ dgN (T.2 b) = 0 := dg_1 hdb; have ht : tok T b = 258 := (by unfold tok; rw [if_pos (by omega), if_neg hd0, hen, if_neg (by omega)]); have hn : nx T b = e := (by unfold nx; rw [if_pos (by omega), if_neg hd0, hen]); have hm : mtk (tok T b) = 0 := (by rw [ht]; rfl); exact ⟨hF.up (by omega) (by omega), by rw [hn]; exact (up2_k (by decide)).trans k12, (up2_k (by decide)).trans k13, by rw [hm]; exact up2_at, fun z => by rw [hm] at z; omega, fun z => by rw [hm] at z; omega⟩)
      · have h195 := in_t (by omega) (by omega) (by omega) c3
        have hmw : e - b = 1 → mw T b e = T.2 b - 48 := fun z => if_pos z
        refine V_aload_n e_X9_nextToken_198 rfl rfl ?_
        refine V_aload_n e_X9_nextToken_199 rfl rfl ?_
        refine V_getiv (v := nI e) e_X9_nextToken_200 F_X9_cursor f_X9_93 rfl k12 ?_
        refine V_aload_n e_X9_nextToken_203 rfl rfl ?_
        refine V_getiv (v := nI b) e_X9_nextToken_204 F_X9_start f_X9_87 rfl k13 ?_
        refine V_isubN (z := nI (e - b)) e_X9_nextToken_207 (pk_sub (by omega)) ?_
        refine V_iconst (v := nI 2) e_X9_nextToken_208 (by decide) ?_
        refine V_icmp_ge (tgt := 235) e_X9_nextToken_209 (by decide) (fun c5 => ?_) (fun c5 => ?_)
        · have d5 : 2 ≤ e - b := nq_le (by omega) (by omega) c5
          refine V_aload_n e_X9_nextToken_235 rfl rfl ?_
          refine V_getiv (v := nI (mw T b e)) e_X9_nextToken_236 F_X9_value f_X9_97 rfl k15 ?_
          refine V_puti e_X9_nextToken_239 F_X9_value f_X9_97 rfl ?_
          refine V_aload_n e_X9_nextToken_242 rfl rfl ?_
          refine V_dup e_X9_nextToken_243 rfl ?_
          refine V_getiv (v := nI e) e_X9_nextToken_244 F_X9_cursor f_X9_93 rfl ((up2_k (by decide)).trans (k12)) ?_
          refine V_iconst (v := nI 1) e_X9_nextToken_247 (by decide) ?_
          refine V_iaddN (z := nI (e + 1)) e_X9_nextToken_248 (nI_add _ _) ?_
          refine V_puti e_X9_nextToken_249 F_X9_cursor f_X9_93 rfl ?_
          refine V_goto (tgt := 165) e_X9_nextToken_252 (by decide) ?_
          exact ih (T.1 - (e + 1)) (by omega) (e + 1) _ rfl (by omega) (by omega) ((hF.up (by omega) (by omega)).up (by omega) (by omega)) up2_at ((up2_k (by decide)).trans ((up2_k (by decide)).trans k13)) ((up2_k (by decide)).trans (up2_at.trans (congrArg nI (by unfold mw; rw [if_neg (by omega), if_neg (by omega)])))) (by rw [hE]; exact rE_st hTb (by omega) (by omega) (dg_1 h195))
        · have d5 : ¬ 2 ≤ e - b := nq_nle (by omega) (by omega) c5
          refine V_bipush (v := nI 10) e_X9_nextToken_212 (by decide) ?_
          refine V_aload_n e_X9_nextToken_214 rfl rfl ?_
          refine V_getiv (v := nI (mw T b e)) e_X9_nextToken_215 F_X9_value f_X9_97 rfl k15 ?_
          refine V_imulN (z := nI (10 * (mw T b e))) e_X9_nextToken_218 (pk_mul _ _) ?_
          refine V_aload_n e_X9_nextToken_219 rfl rfl ?_
          refine V_getr (r := 300) e_X9_nextToken_220 F_X9_tape f_X9_31 rfl rfl ?_
          refine V_aload_n e_X9_nextToken_223 rfl rfl ?_
          refine V_getiv (v := nI e) e_X9_nextToken_224 F_X9_cursor f_X9_93 rfl k12 ?_
          refine V_ialdv (v := nI (T.2 e)) (j := e) e_X9_nextToken_227 rfl rfl (by have q : ln 300 = 100 := rfl; omega) ((hF 300 e (by omega)).trans (hMT.2 e (by omega))) ?_
          refine V_iaddN (z := nI (10 * (mw T b e) + (T.2 e))) e_X9_nextToken_228 (nI_add _ _) ?_
          refine V_bipush (v := nI 48) e_X9_nextToken_229 (by decide) ?_
          refine V_isubN (z := nI (10 * (mw T b e) + (T.2 e) - 48)) e_X9_nextToken_231 (pk_sub (by omega)) ?_
          refine V_goto (tgt := 239) e_X9_nextToken_232 (by decide) ?_
          refine V_puti e_X9_nextToken_239 F_X9_value f_X9_97 rfl ?_
          refine V_aload_n e_X9_nextToken_242 rfl rfl ?_
          refine V_dup e_X9_nextToken_243 rfl ?_
          refine V_getiv (v := nI e) e_X9_nextToken_244 F_X9_cursor f_X9_93 rfl ((up2_k (by decide)).trans (k12)) ?_
          refine V_iconst (v := nI 1) e_X9_nextToken_247 (by decide) ?_
          refine V_iaddN (z := nI (e + 1)) e_X9_nextToken_248 (nI_add _ _) ?_
          refine V_puti e_X9_nextToken_249 F_X9_cursor f_X9_93 rfl ?_
          refine V_goto (tgt := 165) e_X9_nextToken_252 (by decide) ?_
          exact ih (T.1 - (e + 1)) (by omega) (e + 1) _ rfl (by omega) (by omega) ((hF.up (by omega) (by omega)).up (by omega) (by omega)) up2_at ((up2_k (by decide)).trans ((up2_k (by decide)).trans k13)) ((up2_k (by decide)).trans (up2_at.trans (congrArg nI (by have he : e = b + 1 := (by omega); rw [hmw (by omega)]; subst he; unfold mw; rw [if_neg (by omega)]; omega)))) (by rw [hE]; exact rE_st hTb (by omega) (by omega) (dg_1 h195))
set_option maxRecDepth 100000 in
set_option maxHeartbeats 4000000 in
theorem c_X9_nextToken (E : En) (b : Nat) (T : Tp) (σ : Sg) (hMT : MT σ T) (hTb : T.1 ≤ 100) (hT6 : ∀ j, j < T.1 → T.2 j < 256) (hb : b ≤ T.1) (h12 : σ 292 12 = nI b) : Cn E m_X9_nextToken 2 [.ref (eB E + 292)] σ (pV (fun σ' => FN σ σ' ∧ MPos σ' T b)) := by
  refine Cn.of [some (.ref (eB E + 292))] (by decide) (Nat.le_of_ble_eq_true rfl) rfl ?_
  refine V_aload_n e_X9_nextToken_0 rfl rfl ?_
  refine V_aload_n e_X9_nextToken_1 rfl rfl ?_
  refine V_getiv (v := nI b) e_X9_nextToken_2 F_X9_cursor f_X9_93 rfl h12 ?_
  refine V_puti e_X9_nextToken_5 F_X9_start f_X9_87 rfl ?_
  refine V_aload_n e_X9_nextToken_8 rfl rfl ?_
  refine V_aload_n e_X9_nextToken_9 rfl rfl ?_
  refine V_getiv (v := nI b) e_X9_nextToken_10 F_X9_cursor f_X9_93 rfl ((up2_k (by decide)).trans (h12)) ?_
  refine V_aload_n e_X9_nextToken_13 rfl rfl ?_
  refine V_getiv (v := nI T.1) e_X9_nextToken_14 F_X9_taped f_X9_80 rfl ((up2_k (by decide)).trans (hMT.1)) ?_
  refine V_icmp_ge (tgt := 32) e_X9_nextToken_17 (by decide) (fun c1 => ?_) (fun c1 => ?_)
  · have d1 : T.1 ≤ b := nq_le (by omega) (by omega) c1
    have hbn : b = T.1 := by omega
    refine V_ldc (v := (-1000000)) e_X9_nextToken_32 k_X9_96 ?_
    refine V_puti e_X9_nextToken_34 F_X9_value f_X9_97 rfl ?_
    refine V_aload_n e_X9_nextToken_37 rfl rfl ?_
    refine V_aload_n e_X9_nextToken_38 rfl rfl ?_
    refine V_getiv (v := nI b) e_X9_nextToken_39 F_X9_cursor f_X9_93 rfl ((up2_k (by decide)).trans ((up2_k (by decide)).trans (h12))) ?_
    refine V_aload_n e_X9_nextToken_42 rfl rfl ?_
    refine V_getiv (v := nI T.1) e_X9_nextToken_43 F_X9_taped f_X9_80 rfl ((up2_k (by decide)).trans ((up2_k (by decide)).trans (hMT.1))) ?_
    refine V_icmp_ne (tgt := 53) e_X9_nextToken_46 (by decide) (fun c2 => absurd c2 (fun q => q (congrArg nI hbn))) (fun c2 => ?_)
    refine V_iconst (v := nI 1) e_X9_nextToken_49 (by decide) ?_
    refine V_goto (tgt := 118) e_X9_nextToken_50 (by decide) ?_
    refine V_puti e_X9_nextToken_118 F_X9_token f_X9_108 rfl ?_
    refine V_aload_n e_X9_nextToken_121 rfl rfl ?_
    refine V_dup e_X9_nextToken_122 rfl ?_
    refine V_getiv (v := nI b) e_X9_nextToken_123 F_X9_cursor f_X9_93 rfl ((up2_k (by decide)).trans ((up2_k (by decide)).trans ((up2_k (by decide)).trans (h12)))) ?_
    refine V_aload_n e_X9_nextToken_126 rfl rfl ?_
    refine V_getiv (v := nI b) e_X9_nextToken_127 F_X9_cursor f_X9_93 rfl ((up2_k (by decide)).trans ((up2_k (by decide)).trans ((up2_k (by decide)).trans (h12)))) ?_
    refine V_aload_n e_X9_nextToken_130 rfl rfl ?_
    refine V_getiv (v := nI T.1) e_X9_nextToken_131 F_X9_taped f_X9_80 rfl ((up2_k (by decide)).trans ((up2_k (by decide)).trans ((up2_k (by decide)).trans (hMT.1)))) ?_
    refine V_icmp_ge (tgt := 141) e_X9_nextToken_134 (by decide) (fun c3 => ?_) (fun c3 => ((by have := nq_nle (by omega) (by omega) c3; omega : False)).elim)
    refine V_iconst (v := nI 0) e_X9_nextToken_141 (by decide) ?_
    refine V_iaddN (z := nI (b + 0)) e_X9_nextToken_142 (nI_add _ _) ?_
    refine V_puti e_X9_nextToken_143 F_X9_cursor f_X9_93 rfl ?_
    refine V_aload_n e_X9_nextToken_146 rfl rfl ?_
    refine V_getiv (v := nI 1) e_X9_nextToken_147 F_X9_token f_X9_108 rfl ((up2_k (by decide)).trans (up2_at)) ?_
    refine V_iconst (v := nI 3) e_X9_nextToken_150 (by decide) ?_
    refine V_icmp_ne (tgt := 277) e_X9_nextToken_151 (by decide) (fun c4 => ?_) (fun c4 => absurd c4 (by decide))
    exact V_vret e_X9_nextToken_277 rfl (by have ht : tok T b = 257 := if_neg (by omega); have hn : nx T b = b := if_neg (by omega); have hm : mtk (tok T b) = 1 := (by rw [ht]; unfold mtk; (repeat' split) <;> omega); exact ⟨(((FN.rf.up (by omega) (by omega)).up (by omega) (by omega)).up (by omega) (by omega)).up (by omega) (by omega), by rw [hn]; exact up2_at, (up2_k (by decide)).trans ((up2_k (by decide)).trans ((up2_k (by decide)).trans up2_at)), by rw [hm]; exact (up2_k (by decide)).trans up2_at, fun z => by rw [hm] at z; omega, fun z => by rw [hm] at z; omega⟩)
  · have d1 : ¬ T.1 ≤ b := nq_nle (by omega) (by omega) c1
    have hbn : b < T.1 := by omega
    have h256 := hT6 b hbn
    refine V_aload_n e_X9_nextToken_20 rfl rfl ?_
    refine V_getr (r := 300) e_X9_nextToken_21 F_X9_tape f_X9_31 rfl rfl ?_
    refine V_aload_n e_X9_nextToken_24 rfl rfl ?_
    refine V_getiv (v := nI b) e_X9_nextToken_25 F_X9_cursor f_X9_93 rfl ((up2_k (by decide)).trans (h12)) ?_
    refine V_ialdv (v := nI (T.2 b)) (j := b) e_X9_nextToken_28 rfl rfl (by have q : ln 300 = 100 := rfl; omega) ((congrFun (up2_ne (by decide)) _).trans (hMT.2 b (by omega))) ?_
    refine V_goto (tgt := 34) e_X9_nextToken_29 (by decide) ?_
    refine V_puti e_X9_nextToken_34 F_X9_value f_X9_97 rfl ?_
    refine V_aload_n e_X9_nextToken_37 rfl rfl ?_
    refine V_aload_n e_X9_nextToken_38 rfl rfl ?_
    refine V_getiv (v := nI b) e_X9_nextToken_39 F_X9_cursor f_X9_93 rfl ((up2_k (by decide)).trans ((up2_k (by decide)).trans (h12))) ?_
    refine V_aload_n e_X9_nextToken_42 rfl rfl ?_
    refine V_getiv (v := nI T.1) e_X9_nextToken_43 F_X9_taped f_X9_80 rfl ((up2_k (by decide)).trans ((up2_k (by decide)).trans (hMT.1))) ?_
    refine V_icmp_ne (tgt := 53) e_X9_nextToken_46 (by decide) (fun c5 => ?_) (fun c5 => ((by have := nq_eq (by omega) (by omega) c5; omega : False)).elim)
    refine V_aload_n e_X9_nextToken_53 rfl rfl ?_
    refine V_getiv (v := nI (T.2 b)) e_X9_nextToken_54 F_X9_value f_X9_97 rfl up2_at ?_
    refine V_i2lN (z := lN (T.2 b)) e_X9_nextToken_57 (nI_l (by omega)) ?_
    refine V_ldc2_w (v := lN 97) e_X9_nextToken_58 kl_X9_100 ?_
    refine V_ldc2_w (v := lN 122) e_X9_nextToken_61 kl_X9_102 ?_
    refine V_csIe (av := [.long (lN (T.2 b)), .long (lN 97), .long (lN 122)]) (st := [.ref (eB E + 292)]) e_X9_nextToken_64 (c_X9_inL E (T.2 b) (nI 97) (nI 122) (lN 97) (lN 122) (up2 (up2 σ 292 13 (nI b)) 292 15 (nI (T.2 b))) (by omega) (nI_l (by omega)) (nI_l (by omega))) l_X9_63 S_X9_in (rm_ok (by decide) (by decide)) rfl rfl (Nat.le_of_ble_eq_true rfl) ?_
    refine V_if_eq (tgt := 74) e_X9_nextToken_67 (by decide) (fun c6 => ?_) (fun c6 => ?_)
    · have h67 := in_f (by omega) (by omega) c6
      refine V_aload_n e_X9_nextToken_74 rfl rfl ?_
      refine V_getiv (v := nI (T.2 b)) e_X9_nextToken_75 F_X9_value f_X9_97 rfl up2_at ?_
      refine V_i2lN (z := lN (T.2 b)) e_X9_nextToken_78 (nI_l (by omega)) ?_
      refine V_ldc2_w (v := lN 48) e_X9_nextToken_79 kl_X9_104 ?_
      refine V_ldc2_w (v := lN 57) e_X9_nextToken_82 kl_X9_106 ?_
      refine V_csIe (av := [.long (lN (T.2 b)), .long (lN 48), .long (lN 57)]) (st := [.ref (eB E + 292)]) e_X9_nextToken_85 (c_X9_inL E (T.2 b) (nI 48) (nI 57) (lN 48) (lN 57) (up2 (up2 σ 292 13 (nI b)) 292 15 (nI (T.2 b))) (by omega) (nI_l (by omega)) (nI_l (by omega))) l_X9_63 S_X9_in (rm_ok (by decide) (by decide)) rfl rfl (Nat.le_of_ble_eq_true rfl) ?_
      refine V_if_eq (tgt := 95) e_X9_nextToken_88 (by decide) (fun c7 => ?_) (fun c7 => ?_)
      · have h88 := in_f (by omega) (by omega) c7
        refine V_aload_n e_X9_nextToken_95 rfl rfl ?_
        refine V_getiv (v := nI (T.2 b)) e_X9_nextToken_96 F_X9_value f_X9_97 rfl up2_at ?_
        refine V_bipush (v := nI 44) e_X9_nextToken_99 (by decide) ?_
        refine V_icmp_eq (tgt := 113) e_X9_nextToken_101 (by decide) (fun c8 => ?_) (fun c8 => ?_)
        · have d8 : T.2 b = 44 := nq_eq (by omega) (by omega) c8
          refine V_iconst (v := nI 4) e_X9_nextToken_113 (by decide) ?_
          refine V_goto (tgt := 118) e_X9_nextToken_114 (by decide) ?_
          refine V_puti e_X9_nextToken_118 F_X9_token f_X9_108 rfl ?_
          refine V_aload_n e_X9_nextToken_121 rfl rfl ?_
          refine V_dup e_X9_nextToken_122 rfl ?_
          refine V_getiv (v := nI b) e_X9_nextToken_123 F_X9_cursor f_X9_93 rfl ((up2_k (by decide)).trans ((up2_k (by decide)).trans ((up2_k (by decide)).trans (h12)))) ?_
          refine V_aload_n e_X9_nextToken_126 rfl rfl ?_
          refine V_getiv (v := nI b) e_X9_nextToken_127 F_X9_cursor f_X9_93 rfl ((up2_k (by decide)).trans ((up2_k (by decide)).trans ((up2_k (by decide)).trans (h12)))) ?_
          refine V_aload_n e_X9_nextToken_130 rfl rfl ?_
          refine V_getiv (v := nI T.1) e_X9_nextToken_131 F_X9_taped f_X9_80 rfl ((up2_k (by decide)).trans ((up2_k (by decide)).trans ((up2_k (by decide)).trans (hMT.1)))) ?_
          refine V_icmp_ge (tgt := 141) e_X9_nextToken_134 (by decide) (fun c9 => ((by have := nq_le (by omega) (by omega) c9; omega : False)).elim) (fun c9 => ?_)
          refine V_iconst (v := nI 1) e_X9_nextToken_137 (by decide) ?_
          refine V_goto (tgt := 142) e_X9_nextToken_138 (by decide) ?_
          refine V_iaddN (z := nI (b + 1)) e_X9_nextToken_142 (nI_add _ _) ?_
          refine V_puti e_X9_nextToken_143 F_X9_cursor f_X9_93 rfl ?_
          refine V_aload_n e_X9_nextToken_146 rfl rfl ?_
          refine V_getiv (v := nI 4) e_X9_nextToken_147 F_X9_token f_X9_108 rfl ((up2_k (by decide)).trans (up2_at)) ?_
          refine V_iconst (v := nI 3) e_X9_nextToken_150 (by decide) ?_
          refine V_icmp_ne (tgt := 277) e_X9_nextToken_151 (by decide) (fun c10 => ?_) (fun c10 => absurd c10 (by decide))
          exact V_vret e_X9_nextToken_277 rfl (by have ht : tok T b = T.2 b := (by unfold tok; rw [if_pos hbn, if_pos (dg_0 (by omega)), if_neg (show ¬ isTk (T.2 b) = 0 from fun z => by unfold isTk at z; rw [if_pos (by omega)] at z; omega)]); have hn : nx T b = b + 1 := (by unfold nx; rw [if_pos hbn, if_pos (dg_0 (by omega))]); have hm : mtk (tok T b) = 4 := (by rw [ht]; unfold mtk; (repeat' split) <;> omega); exact ⟨(((FN.rf.up (by omega) (by omega)).up (by omega) (by omega)).up (by omega) (by omega)).up (by omega) (by omega), by rw [hn]; exact up2_at, (up2_k (by decide)).trans ((up2_k (by decide)).trans ((up2_k (by decide)).trans up2_at)), by rw [hm]; exact (up2_k (by decide)).trans up2_at, fun _ => by rw [ht]; exact (up2_k (by decide)).trans ((up2_k (by decide)).trans up2_at), fun z => by rw [hm] at z; omega⟩)
        · have d8 : ¬ T.2 b = 44 := nq_ne (by omega) (by omega) c8
          refine V_aload_n e_X9_nextToken_104 rfl rfl ?_
          refine V_getiv (v := nI (T.2 b)) e_X9_nextToken_105 F_X9_value f_X9_97 rfl up2_at ?_
          refine V_bipush (v := nI 59) e_X9_nextToken_108 (by decide) ?_
          refine V_icmp_ne (tgt := 117) e_X9_nextToken_110 (by decide) (fun c11 => ?_) (fun c11 => ?_)
          · have d11 : ¬ T.2 b = 59 := nq_ne (by omega) (by omega) c11
            refine V_iconst (v := nI 0) e_X9_nextToken_117 (by decide) ?_
            refine V_puti e_X9_nextToken_118 F_X9_token f_X9_108 rfl ?_
            refine V_aload_n e_X9_nextToken_121 rfl rfl ?_
            refine V_dup e_X9_nextToken_122 rfl ?_
            refine V_getiv (v := nI b) e_X9_nextToken_123 F_X9_cursor f_X9_93 rfl ((up2_k (by decide)).trans ((up2_k (by decide)).trans ((up2_k (by decide)).trans (h12)))) ?_
            refine V_aload_n e_X9_nextToken_126 rfl rfl ?_
            refine V_getiv (v := nI b) e_X9_nextToken_127 F_X9_cursor f_X9_93 rfl ((up2_k (by decide)).trans ((up2_k (by decide)).trans ((up2_k (by decide)).trans (h12)))) ?_
            refine V_aload_n e_X9_nextToken_130 rfl rfl ?_
            refine V_getiv (v := nI T.1) e_X9_nextToken_131 F_X9_taped f_X9_80 rfl ((up2_k (by decide)).trans ((up2_k (by decide)).trans ((up2_k (by decide)).trans (hMT.1)))) ?_
            refine V_icmp_ge (tgt := 141) e_X9_nextToken_134 (by decide) (fun c12 => ((by have := nq_le (by omega) (by omega) c12; omega : False)).elim) (fun c12 => ?_)
            refine V_iconst (v := nI 1) e_X9_nextToken_137 (by decide) ?_
            refine V_goto (tgt := 142) e_X9_nextToken_138 (by decide) ?_
            refine V_iaddN (z := nI (b + 1)) e_X9_nextToken_142 (nI_add _ _) ?_
            refine V_puti e_X9_nextToken_143 F_X9_cursor f_X9_93 rfl ?_
            refine V_aload_n e_X9_nextToken_146 rfl rfl ?_
            refine V_getiv (v := nI 0) e_X9_nextToken_147 F_X9_token f_X9_108 rfl ((up2_k (by decide)).trans (up2_at)) ?_
            refine V_iconst (v := nI 3) e_X9_nextToken_150 (by decide) ?_
            refine V_icmp_ne (tgt := 277) e_X9_nextToken_151 (by decide) (fun c13 => ?_) (fun c13 => absurd c13 (by decide))
            exact V_vret e_X9_nextToken_277 rfl (by have ht : tok T b = 258 := (by unfold tok; rw [if_pos hbn, if_pos (dg_0 (by omega)), if_pos (show isTk (T.2 b) = 0 from if_neg (by omega))]); have hn : nx T b = b + 1 := (by unfold nx; rw [if_pos hbn, if_pos (dg_0 (by omega))]); have hm : mtk (tok T b) = 0 := (by rw [ht]; unfold mtk; (repeat' split) <;> omega); exact ⟨(((FN.rf.up (by omega) (by omega)).up (by omega) (by omega)).up (by omega) (by omega)).up (by omega) (by omega), by rw [hn]; exact up2_at, (up2_k (by decide)).trans ((up2_k (by decide)).trans ((up2_k (by decide)).trans up2_at)), by rw [hm]; exact (up2_k (by decide)).trans up2_at, fun z => by rw [hm] at z; omega, fun z => by rw [hm] at z; omega⟩)
          · have d11 : T.2 b = 59 := nq_eq (by omega) (by omega) c11
            refine V_iconst (v := nI 4) e_X9_nextToken_113 (by decide) ?_
            refine V_goto (tgt := 118) e_X9_nextToken_114 (by decide) ?_
            refine V_puti e_X9_nextToken_118 F_X9_token f_X9_108 rfl ?_
            refine V_aload_n e_X9_nextToken_121 rfl rfl ?_
            refine V_dup e_X9_nextToken_122 rfl ?_
            refine V_getiv (v := nI b) e_X9_nextToken_123 F_X9_cursor f_X9_93 rfl ((up2_k (by decide)).trans ((up2_k (by decide)).trans ((up2_k (by decide)).trans (h12)))) ?_
            refine V_aload_n e_X9_nextToken_126 rfl rfl ?_
            refine V_getiv (v := nI b) e_X9_nextToken_127 F_X9_cursor f_X9_93 rfl ((up2_k (by decide)).trans ((up2_k (by decide)).trans ((up2_k (by decide)).trans (h12)))) ?_
            refine V_aload_n e_X9_nextToken_130 rfl rfl ?_
            refine V_getiv (v := nI T.1) e_X9_nextToken_131 F_X9_taped f_X9_80 rfl ((up2_k (by decide)).trans ((up2_k (by decide)).trans ((up2_k (by decide)).trans (hMT.1)))) ?_
            refine V_icmp_ge (tgt := 141) e_X9_nextToken_134 (by decide) (fun c14 => ((by have := nq_le (by omega) (by omega) c14; omega : False)).elim) (fun c14 => ?_)
            refine V_iconst (v := nI 1) e_X9_nextToken_137 (by decide) ?_
            refine V_goto (tgt := 142) e_X9_nextToken_138 (by decide) ?_
            refine V_iaddN (z := nI (b + 1)) e_X9_nextToken_142 (nI_add _ _) ?_
            refine V_puti e_X9_nextToken_143 F_X9_cursor f_X9_93 rfl ?_
            refine V_aload_n e_X9_nextToken_146 rfl rfl ?_
            refine V_getiv (v := nI 4) e_X9_nextToken_147 F_X9_token f_X9_108 rfl ((up2_k (by decide)).trans (up2_at)) ?_
            refine V_iconst (v := nI 3) e_X9_nextToken_150 (by decide) ?_
            refine V_icmp_ne (tgt := 277) e_X9_nextToken_151 (by decide) (fun c15 => ?_) (fun c15 => absurd c15 (by decide))
            exact V_vret e_X9_nextToken_277 rfl (by have ht : tok T b = T.2 b := (by unfold tok; rw [if_pos hbn, if_pos (dg_0 (by omega)), if_neg (show ¬ isTk (T.2 b) = 0 from fun z => by unfold isTk at z; rw [if_pos (by omega)] at z; omega)]); have hn : nx T b = b + 1 := (by unfold nx; rw [if_pos hbn, if_pos (dg_0 (by omega))]); have hm : mtk (tok T b) = 4 := (by rw [ht]; unfold mtk; (repeat' split) <;> omega); exact ⟨(((FN.rf.up (by omega) (by omega)).up (by omega) (by omega)).up (by omega) (by omega)).up (by omega) (by omega), by rw [hn]; exact up2_at, (up2_k (by decide)).trans ((up2_k (by decide)).trans ((up2_k (by decide)).trans up2_at)), by rw [hm]; exact (up2_k (by decide)).trans up2_at, fun _ => by rw [ht]; exact (up2_k (by decide)).trans ((up2_k (by decide)).trans up2_at), fun z => by rw [hm] at z; omega⟩)
      · have h88 := in_t (by omega) (by omega) (by omega) c7
        refine V_iconst (v := nI 3) e_X9_nextToken_91 (by decide) ?_
        refine V_goto (tgt := 118) e_X9_nextToken_92 (by decide) ?_
        refine V_puti e_X9_nextToken_118 F_X9_token f_X9_108 rfl ?_
        refine V_aload_n e_X9_nextToken_121 rfl rfl ?_
        refine V_dup e_X9_nextToken_122 rfl ?_
        refine V_getiv (v := nI b) e_X9_nextToken_123 F_X9_cursor f_X9_93 rfl ((up2_k (by decide)).trans ((up2_k (by decide)).trans ((up2_k (by decide)).trans (h12)))) ?_
        refine V_aload_n e_X9_nextToken_126 rfl rfl ?_
        refine V_getiv (v := nI b) e_X9_nextToken_127 F_X9_cursor f_X9_93 rfl ((up2_k (by decide)).trans ((up2_k (by decide)).trans ((up2_k (by decide)).trans (h12)))) ?_
        refine V_aload_n e_X9_nextToken_130 rfl rfl ?_
        refine V_getiv (v := nI T.1) e_X9_nextToken_131 F_X9_taped f_X9_80 rfl ((up2_k (by decide)).trans ((up2_k (by decide)).trans ((up2_k (by decide)).trans (hMT.1)))) ?_
        refine V_icmp_ge (tgt := 141) e_X9_nextToken_134 (by decide) (fun c16 => ((by have := nq_le (by omega) (by omega) c16; omega : False)).elim) (fun c16 => ?_)
        refine V_iconst (v := nI 1) e_X9_nextToken_137 (by decide) ?_
        refine V_goto (tgt := 142) e_X9_nextToken_138 (by decide) ?_
        refine V_iaddN (z := nI (b + 1)) e_X9_nextToken_142 (nI_add _ _) ?_
        refine V_puti e_X9_nextToken_143 F_X9_cursor f_X9_93 rfl ?_
        refine V_aload_n e_X9_nextToken_146 rfl rfl ?_
        refine V_getiv (v := nI 3) e_X9_nextToken_147 F_X9_token f_X9_108 rfl ((up2_k (by decide)).trans (up2_at)) ?_
        refine V_iconst (v := nI 3) e_X9_nextToken_150 (by decide) ?_
        refine V_icmp_ne (tgt := 277) e_X9_nextToken_151 (by decide) (fun c17 => absurd c17 (by decide)) (fun c17 => ?_)
        refine V_aload_n e_X9_nextToken_154 rfl rfl ?_
        refine V_dup e_X9_nextToken_155 rfl ?_
        refine V_getiv (v := nI (T.2 b)) e_X9_nextToken_156 F_X9_value f_X9_97 rfl ((up2_k (by decide)).trans ((up2_k (by decide)).trans (up2_at))) ?_
        refine V_bipush (v := nI 48) e_X9_nextToken_159 (by decide) ?_
        refine V_isubN (z := nI (T.2 b - 48)) e_X9_nextToken_161 (pk_sub (by omega)) ?_
        refine V_puti e_X9_nextToken_162 F_X9_value f_X9_97 rfl ?_
        exact lp_X9_nextToken E b T σ hMT hTb hT6 hbn h88 (T.1 - (b + 1)) (b + 1) _ rfl (by omega) (by omega) (((((FN.rf.up (by omega) (by omega)).up (by omega) (by omega)).up (by omega) (by omega)).up (by omega) (by omega)).up (by omega) (by omega)) ((up2_k (by decide)).trans up2_at) ((up2_k (by decide)).trans ((up2_k (by decide)).trans ((up2_k (by decide)).trans ((up2_k (by decide)).trans up2_at)))) (up2_at.trans (congrArg nI (by unfold mw; rw [if_pos (by omega)]))) (by rw [en_c, rE_st hTb (Nat.le_refl _) hbn (dg_1 h88)])
    · have h67 := in_t (by omega) (by omega) (by omega) c6
      refine V_iconst (v := nI 2) e_X9_nextToken_70 (by decide) ?_
      refine V_goto (tgt := 118) e_X9_nextToken_71 (by decide) ?_
      refine V_puti e_X9_nextToken_118 F_X9_token f_X9_108 rfl ?_
      refine V_aload_n e_X9_nextToken_121 rfl rfl ?_
      refine V_dup e_X9_nextToken_122 rfl ?_
      refine V_getiv (v := nI b) e_X9_nextToken_123 F_X9_cursor f_X9_93 rfl ((up2_k (by decide)).trans ((up2_k (by decide)).trans ((up2_k (by decide)).trans (h12)))) ?_
      refine V_aload_n e_X9_nextToken_126 rfl rfl ?_
      refine V_getiv (v := nI b) e_X9_nextToken_127 F_X9_cursor f_X9_93 rfl ((up2_k (by decide)).trans ((up2_k (by decide)).trans ((up2_k (by decide)).trans (h12)))) ?_
      refine V_aload_n e_X9_nextToken_130 rfl rfl ?_
      refine V_getiv (v := nI T.1) e_X9_nextToken_131 F_X9_taped f_X9_80 rfl ((up2_k (by decide)).trans ((up2_k (by decide)).trans ((up2_k (by decide)).trans (hMT.1)))) ?_
      refine V_icmp_ge (tgt := 141) e_X9_nextToken_134 (by decide) (fun c18 => ((by have := nq_le (by omega) (by omega) c18; omega : False)).elim) (fun c18 => ?_)
      refine V_iconst (v := nI 1) e_X9_nextToken_137 (by decide) ?_
      refine V_goto (tgt := 142) e_X9_nextToken_138 (by decide) ?_
      refine V_iaddN (z := nI (b + 1)) e_X9_nextToken_142 (nI_add _ _) ?_
      refine V_puti e_X9_nextToken_143 F_X9_cursor f_X9_93 rfl ?_
      refine V_aload_n e_X9_nextToken_146 rfl rfl ?_
      refine V_getiv (v := nI 2) e_X9_nextToken_147 F_X9_token f_X9_108 rfl ((up2_k (by decide)).trans (up2_at)) ?_
      refine V_iconst (v := nI 3) e_X9_nextToken_150 (by decide) ?_
      refine V_icmp_ne (tgt := 277) e_X9_nextToken_151 (by decide) (fun c19 => ?_) (fun c19 => absurd c19 (by decide))
      exact V_vret e_X9_nextToken_277 rfl (by have ht : tok T b = T.2 b := (by unfold tok; rw [if_pos hbn, if_pos (dg_0 (by omega)), if_neg (show ¬ isTk (T.2 b) = 0 from fun z => by unfold isTk at z; rw [if_pos (by omega)] at z; omega)]); have hn : nx T b = b + 1 := (by unfold nx; rw [if_pos hbn, if_pos (dg_0 (by omega))]); have hm : mtk (tok T b) = 2 := (by rw [ht]; unfold mtk; (repeat' split) <;> omega); exact ⟨(((FN.rf.up (by omega) (by omega)).up (by omega) (by omega)).up (by omega) (by omega)).up (by omega) (by omega), by rw [hn]; exact up2_at, (up2_k (by decide)).trans ((up2_k (by decide)).trans ((up2_k (by decide)).trans up2_at)), by rw [hm]; exact (up2_k (by decide)).trans up2_at, fun _ => by rw [ht]; exact (up2_k (by decide)).trans ((up2_k (by decide)).trans up2_at), fun z => by rw [hm] at z; omega⟩)

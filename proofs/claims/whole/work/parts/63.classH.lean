def F2 (σ τ : Sg) : Prop := ∀ a j, ¬ (a = 2 ∧ 2 ≤ j) → τ a j = σ a j
theorem F2.rf {σ : Sg} : F2 σ σ := fun _ _ _ => rfl
theorem F2.tr {σ τ ρ : Sg} (h1 : F2 σ τ) (h2 : F2 τ ρ) : F2 σ ρ := fun a j h => (h2 a j h).trans (h1 a j h)
theorem F2.up {σ τ : Sg} {j : Nat} {v : Int32} (h : F2 σ τ) (hj : 2 ≤ j) : F2 σ (up2 τ 2 j v) := fun a k hk => by
  unfold up2
  rw [if_neg (fun q => hk ⟨q.1, by rw [q.2]; exact hj⟩)]
  exact h a k hk
def Fdr (σ τ : Sg) : Prop := ∀ a j, ¬ (a = 2 ∧ 2 ≤ j) → ¬ (13 ≤ a ∧ a < 22) → τ a j = σ a j
theorem Fdr.rf {σ : Sg} : Fdr σ σ := fun _ _ _ _ => rfl
theorem Fdr.tr {σ τ ρ : Sg} (h1 : Fdr σ τ) (h2 : Fdr τ ρ) : Fdr σ ρ := fun a j h g => (h2 a j h g).trans (h1 a j h g)
theorem F2.d {σ τ : Sg} (h : F2 σ τ) : Fdr σ τ := fun a j h1 _ => h a j h1
theorem Fdr.up {σ τ : Sg} {b j : Nat} {v : Int32} (h : Fdr σ τ) (h1 : 13 ≤ b) (h2 : b < 22) : Fdr σ (up2 τ b j v) := fun a k hk hk2 => by
  unfold up2
  rw [if_neg (fun q => hk2 (by omega))]
  exact h a k hk hk2
def CPos (τ : Sg) (T : Tp) (p : Nat) : Prop := τ 2 4 = nI p ∧ τ 2 5 = nI (nx T p) ∧ τ 2 6 = nI (tok T p) ∧ (tok T p = 256 → τ 2 7 = nI (vl T p))
theorem CPos.u {τ : Sg} {T : Tp} {p a j : Nat} {v : Int32} (h : CPos τ T p) (ha : ¬ 2 = a) : CPos (up2 τ a j v) T p := by
  unfold CPos
  rw [up2_ne ha]
  exact h
theorem CT.f2 {σ τ : Sg} {T : Tp} (h : CT σ T) (e : F2 σ τ) : CT τ T := h.fr (e 2 1 (by omega)) (fun k => e 3 k (by omega))
theorem CT.u {σ : Sg} {T : Tp} {a j : Nat} {v : Int32} (h : CT σ T) (h2 : ¬ 2 = a) (h3 : ¬ 3 = a) : CT (up2 σ a j v) T := h.fr (by rw [up2_ne h2]) (fun k => by rw [up2_ne h3])
theorem CT.d {σ τ : Sg} {T : Tp} (h : CT σ T) (e : Fdr σ τ) : CT τ T := h.fr (e 2 1 (by omega) (by omega)) (fun k => e 3 k (by omega) (by omega))
def DrC (τ : Sg) (A : Vec) : Prop := RepC τ 13 A ∧ ∃ F, F < 2 ^ A 0 ∧ τ 13 5 = nI F
theorem DrC.f2 {σ τ : Sg} {A : Vec} (h : DrC σ A) (h5 : A 1 ≤ 5) (e : F2 σ τ) : DrC τ A := by
  obtain ⟨h1, F, h2, h3⟩ := h
  exact ⟨h1.eq h5 (fun a a1 a2 k => e a k (by omega)), F, h2, (e 13 5 (by omega)).trans h3⟩
def cv (T : Tp) (c : Nat) : Nat → Nat
  | 0 => 0
  | r + 1 => min (cv T c r) 99 * 10 + T.2 (c + r) - 48
theorem cv_lt {T : Tp} {c : Nat} (hT : ∀ j, j < T.1 → T.2 j < 256) : ∀ r, c + r ≤ T.1 → cv T c r < 2000
  | 0, _ => by show 0 < 2000; omega
  | r + 1, h => by
    have := hT (c + r) (by omega)
    show min (cv T c r) 99 * 10 + T.2 (c + r) - 48 < 2000
    omega
theorem en_2 {T : Tp} {c : Nat} (hc : c < T.1) (h0 : ¬ dgN (T.2 c) = 0) (h : en T c - c = 2) : ¬ dgN (T.2 (c + 1)) = 0 := fun z => by
  have e : en T c = c + 1 := by
    unfold en
    rw [show (101 : Nat) = 100 + 1 from rfl, rE, if_pos hc, if_neg h0]
    exact rE_z (Or.inr z)
  omega
theorem cv_vl {T : Tp} {c : Nat} (hc : c < T.1) (h0 : ¬ dgN (T.2 c) = 0) (h1 : en T c - c = 1 ∨ en T c - c = 2) : cv T c (en T c - c) = vl T c := by
  have hd : 48 ≤ T.2 c ∧ T.2 c ≤ 57 := Decidable.byContradiction (fun z => h0 (if_neg z))
  unfold vl
  rcases h1 with h | h
  · rw [h, if_pos rfl]
    show min 0 99 * 10 + T.2 (c + 0) - 48 = T.2 c - 48
    rw [Nat.add_zero]
    omega
  · have hd2 : 48 ≤ T.2 (c + 1) ∧ T.2 (c + 1) ≤ 57 := Decidable.byContradiction (fun z => en_2 hc h0 h (if_neg z))
    rw [h, if_neg (by decide)]
    show min (min 0 99 * 10 + T.2 (c + 0) - 48) 99 * 10 + T.2 (c + 1) - 48 = _
    rw [Nat.add_zero, Nat.zero_min, Nat.zero_mul, Nat.zero_add]
    omega
set_option maxRecDepth 100000 in
set_option maxHeartbeats 4000000 in
theorem c_X6_isFigure (E : En) (x : Nat) (σ : Sg) (hx : x < 2 ^ 31) : Cn E m_X6_isFigure 1 [.int (nI x)] σ (pI (fun σ' r => σ' = σ ∧ r = nI (dgN x))) := by
  refine Cn.of [some (.int (nI x))] (by decide) (Nat.le_of_ble_eq_true rfl) rfl ?_
  refine V_iload_n e_X6_isFigure_0 rfl rfl ?_
  refine V_bipush (v := nI 48) e_X6_isFigure_1 (by decide) ?_
  refine V_icmp_lt (tgt := 16) e_X6_isFigure_3 (by decide) (fun c1 => ?_) (fun c1 => ?_)
  · have d1 : x < 48 := nq_lt (by omega) (by omega) c1
    refine V_iconst (v := nI 0) e_X6_isFigure_16 (by decide) ?_
    exact V_zret e_X6_isFigure_17 rfl (by first | exact Or.inl nI_0 | exact Or.inr rfl | assumption) (⟨rfl, congrArg nI (by unfold dgN; split <;> omega)⟩)
  · have d1 : ¬ x < 48 := nq_nlt (by omega) (by omega) c1
    refine V_iload_n e_X6_isFigure_6 rfl rfl ?_
    refine V_bipush (v := nI 57) e_X6_isFigure_7 (by decide) ?_
    refine V_icmp_gt (tgt := 16) e_X6_isFigure_9 (by decide) (fun c2 => ?_) (fun c2 => ?_)
    · have d2 : 57 < x := nq_lt (by omega) (by omega) c2
      refine V_iconst (v := nI 0) e_X6_isFigure_16 (by decide) ?_
      exact V_zret e_X6_isFigure_17 rfl (by first | exact Or.inl nI_0 | exact Or.inr rfl | assumption) (⟨rfl, congrArg nI (by unfold dgN; split <;> omega)⟩)
    · have d2 : ¬ 57 < x := nq_nlt (by omega) (by omega) c2
      refine V_iconst (v := nI 1) e_X6_isFigure_12 (by decide) ?_
      refine V_goto (tgt := 17) e_X6_isFigure_13 (by decide) ?_
      exact V_zret e_X6_isFigure_17 rfl (by first | exact Or.inl nI_0 | exact Or.inr rfl | assumption) (⟨rfl, congrArg nI (by unfold dgN; split <;> omega)⟩)
set_option maxRecDepth 100000 in
set_option maxHeartbeats 4000000 in
theorem lp_X6_aof (E : En) (c : Nat) (T : Tp) (σ : Sg) (hCT : CT σ T) (hTb : T.1 ≤ 100) (hT6 : ∀ j, j < T.1 → T.2 j < 256) (hc : c < T.1) (hd0 : ¬ dgN (T.2 c) = 0) : ∀ (mm : Nat) (e : Nat) (τ : Sg), T.1 - e = mm → (c ≤ e) → (e ≤ T.1) → (F2 σ τ) → (τ 2 4 = nI c) → (τ 2 7 = nI (cv T c (e - c))) → (en T c = rE T (101 - (e - c)) e) → (e = c ∨ c < e) → (τ 2 8 = σ 2 8) → V E m_X6_advanceOverFigures (kM E 2 (pV (fun σ' => F2 σ σ' ∧ σ' 2 4 = nI c ∧ σ' 2 5 = nI (en T c) ∧ σ' 2 6 = nI (if en T c - c ≤ 2 then 256 else 258) ∧ (en T c - c ≤ 2 → σ' 2 7 = nI (vl T c)) ∧ σ' 2 8 = σ 2 8))) 10 [some (.ref (eB E + 2)), some (.int (nI e))] [] τ := by
  intro mm
  induction mm using Nat.strongRecOn with
  | ind mm ih =>
    intro e τ hmm hce hen hF h4 h7 hE hc1 h8
    have hcv := cv_lt (c := c) hT6 (e - c) (by omega)
    refine V_iload_n e_X6_advanceOverFigures_10 rfl rfl ?_
    refine V_aload_n e_X6_advanceOverFigures_11 rfl rfl ?_
    refine V_getiv (v := nI T.1) e_X6_advanceOverFigures_12 F_X6_size f_X6_15 rfl ((hF 2 1 (by omega)).trans hCT.1) ?_
    refine V_icmp_ge (tgt := 62) e_X6_advanceOverFigures_15 (by decide) (fun c1 => ?_) (fun c1 => ?_)
    · have d1 : T.1 ≤ e := nq_le (by first | omega | (unfold dgN; split <;> omega)) (by first | omega | (unfold dgN; split <;> omega)) c1
      refine V_aload_n e_X6_advanceOverFigures_62 rfl rfl ?_
      refine V_iload_n e_X6_advanceOverFigures_63 rfl rfl ?_
      refine V_aload_n e_X6_advanceOverFigures_64 rfl rfl ?_
      refine V_getiv (v := nI c) e_X6_advanceOverFigures_65 F_X6_place f_X6_96 rfl h4 ?_
      refine V_isubN (z := nI (e - c)) e_X6_advanceOverFigures_68 (pk_sub (by omega)) ?_
      refine V_iconst (v := nI 2) e_X6_advanceOverFigures_69 (by decide) ?_
      refine V_icmp_gt (tgt := 79) e_X6_advanceOverFigures_70 (by decide) (fun c2 => ?_) (fun c2 => ?_)
      · have d2 : 2 < e - c := nq_lt (by first | omega | (unfold dgN; split <;> omega)) (by first | omega | (unfold dgN; split <;> omega)) c2
        refine V_sipush (v := nI 258) e_X6_advanceOverFigures_79 (by decide) ?_
        refine V_puti e_X6_advanceOverFigures_82 F_X6_token f_X6_74 rfl ?_
        refine V_aload_n e_X6_advanceOverFigures_85 rfl rfl ?_
        refine V_iload_n e_X6_advanceOverFigures_86 rfl rfl ?_
        refine V_puti e_X6_advanceOverFigures_87 F_X6_behind f_X6_24 rfl ?_
        exact V_vret e_X6_advanceOverFigures_90 rfl (by have hen : en T c = e := (by rw [hE]; exact rE_z (by omega)); exact ⟨((hF.up (by omega)).up (by omega)), (up2_k (by decide)).trans ((up2_k (by decide)).trans h4), by rw [hen]; exact up2_at, by rw [hen]; rw [if_neg (show ¬ e - c ≤ 2 by omega)]; exact (up2_k (by decide)).trans up2_at, fun z => (up2_k (by decide)).trans ((up2_k (by decide)).trans (h7.trans (congrArg nI (by rw [← hen]; exact cv_vl hc hd0 (by omega))))), (up2_k (by decide)).trans ((up2_k (by decide)).trans h8)⟩)
      · have d2 : ¬ 2 < e - c := nq_nlt (by first | omega | (unfold dgN; split <;> omega)) (by first | omega | (unfold dgN; split <;> omega)) c2
        refine V_sipush (v := nI 256) e_X6_advanceOverFigures_73 (by decide) ?_
        refine V_goto (tgt := 82) e_X6_advanceOverFigures_76 (by decide) ?_
        refine V_puti e_X6_advanceOverFigures_82 F_X6_token f_X6_74 rfl ?_
        refine V_aload_n e_X6_advanceOverFigures_85 rfl rfl ?_
        refine V_iload_n e_X6_advanceOverFigures_86 rfl rfl ?_
        refine V_puti e_X6_advanceOverFigures_87 F_X6_behind f_X6_24 rfl ?_
        exact V_vret e_X6_advanceOverFigures_90 rfl (by have hen : en T c = e := (by rw [hE]; exact rE_z (by omega)); exact ⟨((hF.up (by omega)).up (by omega)), (up2_k (by decide)).trans ((up2_k (by decide)).trans h4), by rw [hen]; exact up2_at, by rw [hen]; rw [if_pos (show e - c ≤ 2 by omega)]; exact (up2_k (by decide)).trans up2_at, fun z => (up2_k (by decide)).trans ((up2_k (by decide)).trans (h7.trans (congrArg nI (by rw [← hen]; exact cv_vl hc hd0 (by omega))))), (up2_k (by decide)).trans ((up2_k (by decide)).trans h8)⟩)
    · have d1 : ¬ T.1 ≤ e := nq_nle (by first | omega | (unfold dgN; split <;> omega)) (by first | omega | (unfold dgN; split <;> omega)) c1
      have h256 := hT6 e (by omega)
      refine V_aload_n e_X6_advanceOverFigures_18 rfl rfl ?_
      refine V_getr (r := 3) e_X6_advanceOverFigures_19 F_X6_bytes f_X6_9 rfl rfl ?_
      refine V_iload_n e_X6_advanceOverFigures_22 rfl rfl ?_
      refine V_ialdv (v := nI (T.2 e)) (j := e) e_X6_advanceOverFigures_23 rfl rfl (by have q : ln 3 = 100 := rfl; omega) ((hF 3 e (by omega)).trans (hCT.2 e (by omega))) ?_
      refine V_csIe (av := [.int (nI (T.2 e))]) (st := []) e_X6_advanceOverFigures_24 (c_X6_isFigure E (T.2 e) τ (by omega)) l_X6_102 S_X6_isFigure (rm_ok (by decide) (by decide)) rfl rfl (Nat.le_of_ble_eq_true rfl) ?_
      refine V_if_eq (tgt := 62) e_X6_advanceOverFigures_27 (by decide) (fun c3 => ?_) (fun c3 => ?_)
      · have d3 : dgN (T.2 e) = 0 := nq_eq (by first | omega | (unfold dgN; split <;> omega)) (by first | omega | (unfold dgN; split <;> omega)) c3
        have hne : ¬ e = c := fun z => hd0 (by rw [← z]; exact d3)
        refine V_aload_n e_X6_advanceOverFigures_62 rfl rfl ?_
        refine V_iload_n e_X6_advanceOverFigures_63 rfl rfl ?_
        refine V_aload_n e_X6_advanceOverFigures_64 rfl rfl ?_
        refine V_getiv (v := nI c) e_X6_advanceOverFigures_65 F_X6_place f_X6_96 rfl h4 ?_
        refine V_isubN (z := nI (e - c)) e_X6_advanceOverFigures_68 (pk_sub (by omega)) ?_
        refine V_iconst (v := nI 2) e_X6_advanceOverFigures_69 (by decide) ?_
        refine V_icmp_gt (tgt := 79) e_X6_advanceOverFigures_70 (by decide) (fun c4 => ?_) (fun c4 => ?_)
        · have d4 : 2 < e - c := nq_lt (by first | omega | (unfold dgN; split <;> omega)) (by first | omega | (unfold dgN; split <;> omega)) c4
          refine V_sipush (v := nI 258) e_X6_advanceOverFigures_79 (by decide) ?_
          refine V_puti e_X6_advanceOverFigures_82 F_X6_token f_X6_74 rfl ?_
          refine V_aload_n e_X6_advanceOverFigures_85 rfl rfl ?_
          refine V_iload_n e_X6_advanceOverFigures_86 rfl rfl ?_
          refine V_puti e_X6_advanceOverFigures_87 F_X6_behind f_X6_24 rfl ?_
          exact V_vret e_X6_advanceOverFigures_90 rfl (by have hen : en T c = e := (by rw [hE]; exact rE_z (by omega)); exact ⟨((hF.up (by omega)).up (by omega)), (up2_k (by decide)).trans ((up2_k (by decide)).trans h4), by rw [hen]; exact up2_at, by rw [hen]; rw [if_neg (show ¬ e - c ≤ 2 by omega)]; exact (up2_k (by decide)).trans up2_at, fun z => (up2_k (by decide)).trans ((up2_k (by decide)).trans (h7.trans (congrArg nI (by rw [← hen]; exact cv_vl hc hd0 (by omega))))), (up2_k (by decide)).trans ((up2_k (by decide)).trans h8)⟩)
        · have d4 : ¬ 2 < e - c := nq_nlt (by first | omega | (unfold dgN; split <;> omega)) (by first | omega | (unfold dgN; split <;> omega)) c4
          refine V_sipush (v := nI 256) e_X6_advanceOverFigures_73 (by decide) ?_
          refine V_goto (tgt := 82) e_X6_advanceOverFigures_76 (by decide) ?_
          refine V_puti e_X6_advanceOverFigures_82 F_X6_token f_X6_74 rfl ?_
          refine V_aload_n e_X6_advanceOverFigures_85 rfl rfl ?_
          refine V_iload_n e_X6_advanceOverFigures_86 rfl rfl ?_
          refine V_puti e_X6_advanceOverFigures_87 F_X6_behind f_X6_24 rfl ?_
          exact V_vret e_X6_advanceOverFigures_90 rfl (by have hen : en T c = e := (by rw [hE]; exact rE_z (by omega)); exact ⟨((hF.up (by omega)).up (by omega)), (up2_k (by decide)).trans ((up2_k (by decide)).trans h4), by rw [hen]; exact up2_at, by rw [hen]; rw [if_pos (show e - c ≤ 2 by omega)]; exact (up2_k (by decide)).trans up2_at, fun z => (up2_k (by decide)).trans ((up2_k (by decide)).trans (h7.trans (congrArg nI (by rw [← hen]; exact cv_vl hc hd0 (by omega))))), (up2_k (by decide)).trans ((up2_k (by decide)).trans h8)⟩)
      · have d3 : ¬ dgN (T.2 e) = 0 := nq_ne (by first | omega | (unfold dgN; split <;> omega)) (by first | omega | (unfold dgN; split <;> omega)) c3
        have hdd : 48 ≤ T.2 e ∧ T.2 e ≤ 57 := Decidable.byContradiction (fun z => d3 (if_neg z))
        have hdn := d3
        refine V_aload_n e_X6_advanceOverFigures_30 rfl rfl ?_
        refine V_aload_n e_X6_advanceOverFigures_31 rfl rfl ?_
        refine V_getiv (v := nI (cv T c (e - c))) e_X6_advanceOverFigures_32 F_X6_value f_X6_86 rfl h7 ?_
        refine V_bipush (v := nI 99) e_X6_advanceOverFigures_35 (by decide) ?_
        refine V_mmin e_X6_advanceOverFigures_37 l_X6_108 (rm_ok (by decide) (by decide)) (Nat.le_of_ble_eq_true rfl) ?_
        rw [show (if nI 99 < nI (cv T c (e - c)) then nI 99 else nI (cv T c (e - c))) = mn (nI (cv T c (e - c))) (nI 99) from rfl]
        refine V_topi (y := nI (min (cv T c (e - c)) 99)) (mnN (by first | omega | (unfold dgN; split <;> omega)) (by first | omega | (unfold dgN; split <;> omega))) ?_
        refine V_bipush (v := nI 10) e_X6_advanceOverFigures_40 (by decide) ?_
        refine V_imulN (z := nI ((min (cv T c (e - c)) 99) * 10)) e_X6_advanceOverFigures_42 (pk_mul _ _) ?_
        refine V_aload_n e_X6_advanceOverFigures_43 rfl rfl ?_
        refine V_getr (r := 3) e_X6_advanceOverFigures_44 F_X6_bytes f_X6_9 rfl rfl ?_
        refine V_iload_n e_X6_advanceOverFigures_47 rfl rfl ?_
        refine V_ialdv (v := nI (T.2 e)) (j := e) e_X6_advanceOverFigures_48 rfl rfl (by have q : ln 3 = 100 := rfl; omega) ((hF 3 e (by omega)).trans (hCT.2 e (by omega))) ?_
        refine V_iaddN (z := nI ((min (cv T c (e - c)) 99) * 10 + (T.2 e))) e_X6_advanceOverFigures_49 (nI_add _ _) ?_
        refine V_bipush (v := nI 48) e_X6_advanceOverFigures_50 (by decide) ?_
        refine V_isubN (z := nI ((min (cv T c (e - c)) 99) * 10 + (T.2 e) - 48)) e_X6_advanceOverFigures_52 (pk_sub (by omega)) ?_
        refine V_puti e_X6_advanceOverFigures_53 F_X6_value f_X6_86 rfl ?_
        refine V_iinc (v := nI (e + 1)) (L' := [some (.ref (eB E + 2)), some (.int (nI (e + 1)))]) e_X6_advanceOverFigures_56 rfl (nI_add _ 1) rfl ?_
        refine V_goto (tgt := 10) e_X6_advanceOverFigures_59 (by decide) ?_
        exact ih (T.1 - (e + 1)) (by omega) (e + 1) _ rfl (by omega) (by omega) (hF.up (by omega)) ((up2_k (by decide)).trans h4) (up2_at.trans (congrArg nI (by rw [show e + 1 - c = (e - c) + 1 by omega]; show _ = min (cv T c (e - c)) 99 * 10 + T.2 (c + (e - c)) - 48; rw [show c + (e - c) = e by omega]))) (by rw [hE]; exact rE_st hTb hce (by omega) hdn) (by omega) ((up2_k (by decide)).trans h8)
set_option maxRecDepth 100000 in
set_option maxHeartbeats 4000000 in
theorem c_X6_advanceOverFigures (E : En) (c : Nat) (T : Tp) (σ : Sg) (hCT : CT σ T) (hTb : T.1 ≤ 100) (hT6 : ∀ j, j < T.1 → T.2 j < 256) (hc : c < T.1) (hd0 : ¬ dgN (T.2 c) = 0) (h40 : σ 2 4 = nI c) : Cn E m_X6_advanceOverFigures 2 [.ref (eB E + 2)] σ (pV (fun σ' => F2 σ σ' ∧ σ' 2 4 = nI c ∧ σ' 2 5 = nI (en T c) ∧ σ' 2 6 = nI (if en T c - c ≤ 2 then 256 else 258) ∧ (en T c - c ≤ 2 → σ' 2 7 = nI (vl T c)) ∧ σ' 2 8 = σ 2 8)) := by
  refine Cn.of [some (.ref (eB E + 2)), none] (by decide) (Nat.le_of_ble_eq_true rfl) rfl ?_
  refine V_aload_n e_X6_advanceOverFigures_0 rfl rfl ?_
  refine V_iconst (v := nI 0) e_X6_advanceOverFigures_1 (by decide) ?_
  refine V_puti e_X6_advanceOverFigures_2 F_X6_value f_X6_86 rfl ?_
  refine V_aload_n e_X6_advanceOverFigures_5 rfl rfl ?_
  refine V_getiv (v := nI c) e_X6_advanceOverFigures_6 F_X6_place f_X6_96 rfl ((up2_k (by decide)).trans h40) ?_
  refine V_istore_n (L' := [some (.ref (eB E + 2)), some (.int (nI c))]) e_X6_advanceOverFigures_9 rfl rfl ?_
  exact lp_X6_aof E c T σ hCT hTb hT6 hc hd0 (T.1 - c) c _ rfl (Nat.le_refl _) (by omega) (F2.rf.up (by omega)) ((up2_k (by decide)).trans h40) (up2_at.trans (congrArg nI (by rw [Nat.sub_self]; rfl))) en_c (Or.inl rfl) (up2_k (by decide))
set_option maxRecDepth 100000 in
set_option maxHeartbeats 4000000 in
theorem c_X6_advance (E : En) (b : Nat) (T : Tp) (σ : Sg) (hCT : CT σ T) (hTb : T.1 ≤ 100) (hT6 : ∀ j, j < T.1 → T.2 j < 256) (hb : b ≤ T.1) (h5 : σ 2 5 = nI b) : Cn E m_X6_advance 3 [.ref (eB E + 2)] σ (pV (fun σ' => F2 σ σ' ∧ CPos σ' T b ∧ σ' 2 8 = σ 2 8)) := by
  refine Cn.of [some (.ref (eB E + 2)), none, none] (by decide) (Nat.le_of_ble_eq_true rfl) rfl ?_
  refine V_aload_n e_X6_advance_0 rfl rfl ?_
  refine V_aload_n e_X6_advance_1 rfl rfl ?_
  refine V_getiv (v := nI b) e_X6_advance_2 F_X6_behind f_X6_24 rfl h5 ?_
  refine V_puti e_X6_advance_5 F_X6_place f_X6_96 rfl ?_
  refine V_aload_n e_X6_advance_8 rfl rfl ?_
  refine V_getiv (v := nI b) e_X6_advance_9 F_X6_place f_X6_96 rfl up2_at ?_
  refine V_aload_n e_X6_advance_12 rfl rfl ?_
  refine V_getiv (v := nI T.1) e_X6_advance_13 F_X6_size f_X6_15 rfl ((up2_k (by decide)).trans (hCT.1)) ?_
  refine V_icmp_lt (tgt := 29) e_X6_advance_16 (by decide) (fun c1 => ?_) (fun c1 => ?_)
  · have d1 : b < T.1 := nq_lt (by first | omega | (unfold dgN; split <;> omega)) (by first | omega | (unfold dgN; split <;> omega)) c1
    have h256 := hT6 b (by omega)
    refine V_aload_n e_X6_advance_29 rfl rfl ?_
    refine V_getr (r := 3) e_X6_advance_30 F_X6_bytes f_X6_9 rfl rfl ?_
    refine V_aload_n e_X6_advance_33 rfl rfl ?_
    refine V_getiv (v := nI b) e_X6_advance_34 F_X6_place f_X6_96 rfl up2_at ?_
    refine V_ialdv (v := nI (T.2 b)) (j := b) e_X6_advance_37 rfl rfl (by have q : ln 3 = 100 := rfl; omega) ((congrFun (up2_ne (by decide)) _).trans (hCT.2 b (by omega))) ?_
    refine V_csIe (av := [.int (nI (T.2 b))]) (st := []) e_X6_advance_38 (c_X6_isFigure E (T.2 b) (up2 σ 2 4 (nI b)) (by omega)) l_X6_102 S_X6_isFigure (rm_ok (by decide) (by decide)) rfl rfl (Nat.le_of_ble_eq_true rfl) ?_
    refine V_if_eq (tgt := 51) e_X6_advance_41 (by decide) (fun c2 => ?_) (fun c2 => ?_)
    · have d2 : dgN (T.2 b) = 0 := nq_eq (by first | omega | (unfold dgN; split <;> omega)) (by first | omega | (unfold dgN; split <;> omega)) c2
      have hdz := d2
      refine V_aload_n e_X6_advance_51 rfl rfl ?_
      refine V_getr (r := 3) e_X6_advance_52 F_X6_bytes f_X6_9 rfl rfl ?_
      refine V_aload_n e_X6_advance_55 rfl rfl ?_
      refine V_getiv (v := nI b) e_X6_advance_56 F_X6_place f_X6_96 rfl up2_at ?_
      refine V_ialdv (v := nI (T.2 b)) (j := b) e_X6_advance_59 rfl rfl (by have q : ln 3 = 100 := rfl; omega) ((congrFun (up2_ne (by decide)) _).trans (hCT.2 b (by omega))) ?_
      refine V_istore_n (L' := [some (.ref (eB E + 2)), some (.int (nI (T.2 b))), none]) e_X6_advance_60 rfl rfl ?_
      refine V_iload_n e_X6_advance_61 rfl rfl ?_
      refine V_bipush (v := nI 97) e_X6_advance_62 (by decide) ?_
      refine V_bipush (v := nI 122) e_X6_advance_64 (by decide) ?_
      refine V_csNIe (av := [.int (nI (T.2 b)), .int (nI 97), .int (nI 122)]) (st := []) e_X6_advance_66 (c_X8_within E (nI (T.2 b)) (nI 97) (nI 122) (up2 σ 2 4 (nI b))) l_X6_89 S_X8_within (rm_ok (by decide) (by decide)) rfl rfl (Nat.le_of_ble_eq_true rfl) ?_
      refine V_if_ne (tgt := 84) e_X6_advance_69 (by decide) (fun c3 => ?_) (fun c3 => ?_)
      · have h69 : 97 ≤ T.2 b ∧ T.2 b ≤ 122 := by obtain ⟨j, j1, j2, j3⟩ := (wi_le (by omega) (by omega)).mp c3; have := nq_eq (by omega) (by omega) j3; omega
        refine V_iconst (v := nI 1) e_X6_advance_84 (by decide) ?_
        refine V_goto (tgt := 89) e_X6_advance_85 (by decide) ?_
        refine V_istore_n (L' := [some (.ref (eB E + 2)), some (.int (nI (T.2 b))), some (.int (nI 1))]) e_X6_advance_89 rfl rfl ?_
        refine V_aload_n e_X6_advance_90 rfl rfl ?_
        refine V_iload_n e_X6_advance_91 rfl rfl ?_
        refine V_if_eq (tgt := 99) e_X6_advance_92 (by decide) (fun c4 => absurd c4 (by decide)) (fun c4 => ?_)
        refine V_iload_n e_X6_advance_95 rfl rfl ?_
        refine V_goto (tgt := 102) e_X6_advance_96 (by decide) ?_
        refine V_puti e_X6_advance_102 F_X6_token f_X6_74 rfl ?_
        refine V_aload_n e_X6_advance_105 rfl rfl ?_
        refine V_aload_n e_X6_advance_106 rfl rfl ?_
        refine V_getiv (v := nI b) e_X6_advance_107 F_X6_place f_X6_96 rfl ((up2_k (by decide)).trans (up2_at)) ?_
        refine V_iconst (v := nI 1) e_X6_advance_110 (by decide) ?_
        refine V_iaddN (z := nI (b + 1)) e_X6_advance_111 (nI_add _ _) ?_
        refine V_puti e_X6_advance_112 F_X6_behind f_X6_24 rfl ?_
        exact V_vret e_X6_advance_115 rfl (by have ht : tok T b = T.2 b := (by unfold tok; rw [if_pos (by omega), if_pos hdz]; unfold isTk; rw [if_neg (show ¬ _ from fun z => by rw [if_pos (by omega)] at z; omega)]); have hn : nx T b = b + 1 := (by unfold nx; rw [if_pos (by omega), if_pos hdz]); exact ⟨((F2.rf.up (by omega)).up (by omega)).up (by omega), ⟨(up2_k (by decide)).trans ((up2_k (by decide)).trans up2_at), by rw [hn]; exact up2_at, by rw [ht]; exact (up2_k (by decide)).trans up2_at, fun z => by rw [ht] at z; omega⟩, (up2_k (by decide)).trans ((up2_k (by decide)).trans (up2_k (by decide)))⟩)
      · have h69 : ¬ (97 ≤ T.2 b ∧ T.2 b ≤ 122) := fun z => (wi_le (a := 97) (b := 122) (by omega) (by omega)).mpr ⟨T.2 b, z.1, z.2, rfl⟩ c3
        refine V_iload_n e_X6_advance_72 rfl rfl ?_
        refine V_bipush (v := nI 44) e_X6_advance_73 (by decide) ?_
        refine V_icmp_eq (tgt := 84) e_X6_advance_75 (by decide) (fun c5 => ?_) (fun c5 => ?_)
        · have d5 : T.2 b = 44 := nq_eq (by first | omega | (unfold dgN; split <;> omega)) (by first | omega | (unfold dgN; split <;> omega)) c5
          refine V_iconst (v := nI 1) e_X6_advance_84 (by decide) ?_
          refine V_goto (tgt := 89) e_X6_advance_85 (by decide) ?_
          refine V_istore_n (L' := [some (.ref (eB E + 2)), some (.int (nI (T.2 b))), some (.int (nI 1))]) e_X6_advance_89 rfl rfl ?_
          refine V_aload_n e_X6_advance_90 rfl rfl ?_
          refine V_iload_n e_X6_advance_91 rfl rfl ?_
          refine V_if_eq (tgt := 99) e_X6_advance_92 (by decide) (fun c6 => absurd c6 (by decide)) (fun c6 => ?_)
          refine V_iload_n e_X6_advance_95 rfl rfl ?_
          refine V_goto (tgt := 102) e_X6_advance_96 (by decide) ?_
          refine V_puti e_X6_advance_102 F_X6_token f_X6_74 rfl ?_
          refine V_aload_n e_X6_advance_105 rfl rfl ?_
          refine V_aload_n e_X6_advance_106 rfl rfl ?_
          refine V_getiv (v := nI b) e_X6_advance_107 F_X6_place f_X6_96 rfl ((up2_k (by decide)).trans (up2_at)) ?_
          refine V_iconst (v := nI 1) e_X6_advance_110 (by decide) ?_
          refine V_iaddN (z := nI (b + 1)) e_X6_advance_111 (nI_add _ _) ?_
          refine V_puti e_X6_advance_112 F_X6_behind f_X6_24 rfl ?_
          exact V_vret e_X6_advance_115 rfl (by have ht : tok T b = T.2 b := (by unfold tok; rw [if_pos (by omega), if_pos hdz]; unfold isTk; rw [if_neg (show ¬ _ from fun z => by rw [if_pos (by omega)] at z; omega)]); have hn : nx T b = b + 1 := (by unfold nx; rw [if_pos (by omega), if_pos hdz]); exact ⟨((F2.rf.up (by omega)).up (by omega)).up (by omega), ⟨(up2_k (by decide)).trans ((up2_k (by decide)).trans up2_at), by rw [hn]; exact up2_at, by rw [ht]; exact (up2_k (by decide)).trans up2_at, fun z => by rw [ht] at z; omega⟩, (up2_k (by decide)).trans ((up2_k (by decide)).trans (up2_k (by decide)))⟩)
        · have d5 : ¬ T.2 b = 44 := nq_ne (by first | omega | (unfold dgN; split <;> omega)) (by first | omega | (unfold dgN; split <;> omega)) c5
          refine V_iload_n e_X6_advance_78 rfl rfl ?_
          refine V_bipush (v := nI 59) e_X6_advance_79 (by decide) ?_
          refine V_icmp_ne (tgt := 88) e_X6_advance_81 (by decide) (fun c7 => ?_) (fun c7 => ?_)
          · have d7 : ¬ T.2 b = 59 := nq_ne (by first | omega | (unfold dgN; split <;> omega)) (by first | omega | (unfold dgN; split <;> omega)) c7
            refine V_iconst (v := nI 0) e_X6_advance_88 (by decide) ?_
            refine V_istore_n (L' := [some (.ref (eB E + 2)), some (.int (nI (T.2 b))), some (.int (nI 0))]) e_X6_advance_89 rfl rfl ?_
            refine V_aload_n e_X6_advance_90 rfl rfl ?_
            refine V_iload_n e_X6_advance_91 rfl rfl ?_
            refine V_if_eq (tgt := 99) e_X6_advance_92 (by decide) (fun c8 => ?_) (fun c8 => absurd c8 (by decide))
            refine V_sipush (v := nI 258) e_X6_advance_99 (by decide) ?_
            refine V_puti e_X6_advance_102 F_X6_token f_X6_74 rfl ?_
            refine V_aload_n e_X6_advance_105 rfl rfl ?_
            refine V_aload_n e_X6_advance_106 rfl rfl ?_
            refine V_getiv (v := nI b) e_X6_advance_107 F_X6_place f_X6_96 rfl ((up2_k (by decide)).trans (up2_at)) ?_
            refine V_iconst (v := nI 1) e_X6_advance_110 (by decide) ?_
            refine V_iaddN (z := nI (b + 1)) e_X6_advance_111 (nI_add _ _) ?_
            refine V_puti e_X6_advance_112 F_X6_behind f_X6_24 rfl ?_
            exact V_vret e_X6_advance_115 rfl (by have ht : tok T b = 258 := (by unfold tok; rw [if_pos (by omega), if_pos hdz]; unfold isTk; rw [if_pos (show _ from if_neg (by omega))]); have hn : nx T b = b + 1 := (by unfold nx; rw [if_pos (by omega), if_pos hdz]); exact ⟨((F2.rf.up (by omega)).up (by omega)).up (by omega), ⟨(up2_k (by decide)).trans ((up2_k (by decide)).trans up2_at), by rw [hn]; exact up2_at, by rw [ht]; exact (up2_k (by decide)).trans up2_at, fun z => by rw [ht] at z; omega⟩, (up2_k (by decide)).trans ((up2_k (by decide)).trans (up2_k (by decide)))⟩)
          · have d7 : T.2 b = 59 := nq_eq (by first | omega | (unfold dgN; split <;> omega)) (by first | omega | (unfold dgN; split <;> omega)) c7
            refine V_iconst (v := nI 1) e_X6_advance_84 (by decide) ?_
            refine V_goto (tgt := 89) e_X6_advance_85 (by decide) ?_
            refine V_istore_n (L' := [some (.ref (eB E + 2)), some (.int (nI (T.2 b))), some (.int (nI 1))]) e_X6_advance_89 rfl rfl ?_
            refine V_aload_n e_X6_advance_90 rfl rfl ?_
            refine V_iload_n e_X6_advance_91 rfl rfl ?_
            refine V_if_eq (tgt := 99) e_X6_advance_92 (by decide) (fun c9 => absurd c9 (by decide)) (fun c9 => ?_)
            refine V_iload_n e_X6_advance_95 rfl rfl ?_
            refine V_goto (tgt := 102) e_X6_advance_96 (by decide) ?_
            refine V_puti e_X6_advance_102 F_X6_token f_X6_74 rfl ?_
            refine V_aload_n e_X6_advance_105 rfl rfl ?_
            refine V_aload_n e_X6_advance_106 rfl rfl ?_
            refine V_getiv (v := nI b) e_X6_advance_107 F_X6_place f_X6_96 rfl ((up2_k (by decide)).trans (up2_at)) ?_
            refine V_iconst (v := nI 1) e_X6_advance_110 (by decide) ?_
            refine V_iaddN (z := nI (b + 1)) e_X6_advance_111 (nI_add _ _) ?_
            refine V_puti e_X6_advance_112 F_X6_behind f_X6_24 rfl ?_
            exact V_vret e_X6_advance_115 rfl (by have ht : tok T b = T.2 b := (by unfold tok; rw [if_pos (by omega), if_pos hdz]; unfold isTk; rw [if_neg (show ¬ _ from fun z => by rw [if_pos (by omega)] at z; omega)]); have hn : nx T b = b + 1 := (by unfold nx; rw [if_pos (by omega), if_pos hdz]); exact ⟨((F2.rf.up (by omega)).up (by omega)).up (by omega), ⟨(up2_k (by decide)).trans ((up2_k (by decide)).trans up2_at), by rw [hn]; exact up2_at, by rw [ht]; exact (up2_k (by decide)).trans up2_at, fun z => by rw [ht] at z; omega⟩, (up2_k (by decide)).trans ((up2_k (by decide)).trans (up2_k (by decide)))⟩)
    · have d2 : ¬ dgN (T.2 b) = 0 := nq_ne (by first | omega | (unfold dgN; split <;> omega)) (by first | omega | (unfold dgN; split <;> omega)) c2
      have hdd := d2
      refine V_aload_n e_X6_advance_44 rfl rfl ?_
      refine V_cvV (av := []) (st := []) e_X6_advance_45 (c_X6_advanceOverFigures E b T (up2 σ 2 4 (nI b)) (hCT.f2 (F2.rf.up (by omega))) hTb hT6 (by omega) hdd up2_at) l_X6_105 S_X6_advanceOverFigures rfl (rm_ok (by decide) (by decide)) rfl rfl (Nat.le_of_ble_eq_true rfl) ?_
      intro τ1 hh
      obtain ⟨hh1, e4, e5, e6, e7, e8⟩ := hh
      refine V_goto (tgt := 115) e_X6_advance_48 (by decide) ?_
      exact V_vret e_X6_advance_115 rfl (⟨(F2.rf.up (by omega)).tr hh1, ⟨e4, by unfold nx; rw [if_pos (by omega), if_neg hdd]; exact e5, by unfold tok; rw [if_pos (by omega), if_neg hdd]; exact e6, fun z => e7 (Decidable.byContradiction (fun y => by unfold tok at z; rw [if_pos (by omega), if_neg hdd, if_neg y] at z; omega))⟩, e8.trans (up2_k (by decide))⟩)
  · have d1 : ¬ b < T.1 := nq_nlt (by first | omega | (unfold dgN; split <;> omega)) (by first | omega | (unfold dgN; split <;> omega)) c1
    refine V_aload_n e_X6_advance_19 rfl rfl ?_
    refine V_sipush (v := nI 257) e_X6_advance_20 (by decide) ?_
    refine V_puti e_X6_advance_23 F_X6_token f_X6_74 rfl ?_
    refine V_goto (tgt := 115) e_X6_advance_26 (by decide) ?_
    exact V_vret e_X6_advance_115 rfl (by have ht : tok T b = 257 := if_neg (by omega); have hn : nx T b = b := if_neg (by omega); exact ⟨(F2.rf.up (by omega)).up (by omega), ⟨(up2_k (by decide)).trans up2_at, by rw [hn]; exact (up2_k (by decide)).trans ((up2_k (by decide)).trans h5), by rw [ht]; exact up2_at, fun z => by rw [ht] at z; omega⟩, (up2_k (by decide)).trans (up2_k (by decide))⟩)
set_option maxRecDepth 100000 in
set_option maxHeartbeats 4000000 in
theorem c_X6_refuse (E : En) (n p : Nat) (σ : Sg) (h4 : σ 2 4 = nI p) : Cn E m_X6_refuse 1 [.ref (eB E + 2), .int (nI n)] σ (pI (fun σ' r => σ' = up2 (up2 σ 2 2 (nI n)) 2 3 (nI p) ∧ r = nI 0)) := by
  refine Cn.of [some (.ref (eB E + 2)), some (.int (nI n))] (by decide) (Nat.le_of_ble_eq_true rfl) rfl ?_
  refine V_aload_n e_X6_refuse_0 rfl rfl ?_
  refine V_iload_n e_X6_refuse_1 rfl rfl ?_
  refine V_puti e_X6_refuse_2 F_X6_faultNumber f_X6_93 rfl ?_
  refine V_aload_n e_X6_refuse_5 rfl rfl ?_
  refine V_aload_n e_X6_refuse_6 rfl rfl ?_
  refine V_getiv (v := nI p) e_X6_refuse_7 F_X6_place f_X6_96 rfl ((up2_k (by decide)).trans (h4)) ?_
  refine V_puti e_X6_refuse_10 F_X6_faultPlace f_X6_99 rfl ?_
  refine V_iconst (v := nI 0) e_X6_refuse_13 (by decide) ?_
  exact V_zret e_X6_refuse_14 rfl (by first | exact Or.inl nI_0 | exact Or.inr rfl | assumption) (⟨rfl, rfl⟩)
set_option maxRecDepth 100000 in
set_option maxHeartbeats 4000000 in
theorem c_X6_take (E : En) (T : Tp) (p w : Nat) (σ : Sg) (hCT : CT σ T) (hTb : T.1 ≤ 100) (hT6 : ∀ j, j < T.1 → T.2 j < 256) (hp : p ≤ T.1) (hP : CPos σ T p) (hw : w < 2 ^ 31) : Cn E m_X6_take 4 [.ref (eB E + 2), .int (nI w)] σ (pI (fun σ' r => F2 σ σ' ∧ ((tok T p = w ∧ r = nI 1 ∧ CPos σ' T (nx T p)) ∨ (¬ tok T p = w ∧ r = nI 0 ∧ σ' 2 2 = nI 1 ∧ σ' 2 3 = nI p)))) := by
  have ht9 := tok_lt (c := p) hT6
  refine Cn.of [some (.ref (eB E + 2)), some (.int (nI w))] (by decide) (Nat.le_of_ble_eq_true rfl) rfl ?_
  refine V_aload_n e_X6_take_0 rfl rfl ?_
  refine V_getiv (v := nI (tok T p)) e_X6_take_1 F_X6_token f_X6_74 rfl hP.2.2.1 ?_
  refine V_iload_n e_X6_take_4 rfl rfl ?_
  refine V_icmp_eq (tgt := 14) e_X6_take_5 (by decide) (fun c1 => ?_) (fun c1 => ?_)
  · have d1 : tok T p = w := nq_eq (by omega) (by omega) c1
    refine V_aload_n e_X6_take_14 rfl rfl ?_
    refine V_cvV (av := []) (st := []) e_X6_take_15 (c_X6_advance E (nx T p) T σ hCT hTb hT6 (nx_le hp) hP.2.1) l_X6_27 S_X6_advance rfl (rm_ok (by decide) (by decide)) rfl rfl (Nat.le_of_ble_eq_true rfl) ?_
    intro τ1 hh
    obtain ⟨hf1, hp1, h8⟩ := hh
    refine V_iconst (v := nI 1) e_X6_take_18 (by decide) ?_
    exact V_zret e_X6_take_19 rfl (by first | exact Or.inl nI_0 | exact Or.inr rfl | assumption) (⟨hf1, Or.inl ⟨d1, rfl, hp1⟩⟩)
  · have d1 : ¬ tok T p = w := nq_ne (by omega) (by omega) c1
    refine V_aload_n e_X6_take_8 rfl rfl ?_
    refine V_iconst (v := nI 1) e_X6_take_9 (by decide) ?_
    refine V_cvIe (av := [.int (nI 1)]) (st := []) e_X6_take_10 (c_X6_refuse E 1 p σ hP.1) l_X6_67 S_X6_refuse rfl (rm_ok (by decide) (by decide)) rfl rfl (Nat.le_of_ble_eq_true rfl) ?_
    exact V_zret e_X6_take_13 rfl (by first | exact Or.inl nI_0 | exact Or.inr rfl | assumption) (⟨(F2.rf.up (by omega)).up (by omega), Or.inr ⟨d1, rfl, (up2_k (by decide)).trans up2_at, up2_at⟩⟩)
theorem vl_lt {T : Tp} {c : Nat} (hT6 : ∀ j, j < T.1 → T.2 j < 256) (h : tok T c = 256) : vl T c < 3000 := by
  have hc : c < T.1 := Decidable.byContradiction (fun z => by unfold tok at h; rw [if_neg z] at h; omega)
  have h1 := hT6 c hc
  unfold vl
  split
  · omega
  · by_cases h2 : c + 1 < T.1
    · have := hT6 (c + 1) h2; omega
    · exfalso
      have hdd : ¬ dgN (T.2 c) = 0 := fun z => by
        unfold tok at h
        rw [if_pos hc, if_pos z] at h
        split at h <;> omega
      have e : en T c = c + 1 := by
        unfold en
        rw [show (101 : Nat) = 100 + 1 from rfl, rE, if_pos hc, if_neg hdd]
        exact rE_z (Or.inl h2)
      omega
set_option maxRecDepth 100000 in
set_option maxHeartbeats 4000000 in
theorem c_X6_takeNumber (E : En) (T : Tp) (p lo hi : Nat) (σ : Sg) (hCT : CT σ T) (hTb : T.1 ≤ 100) (hT6 : ∀ j, j < T.1 → T.2 j < 256) (hp : p ≤ T.1) (hP : CPos σ T p) (hlo : lo < 1000) (hhi : hi < 1000) : Cn E m_X6_takeNumber 4 [.ref (eB E + 2), .int (nI lo), .int (nI hi)] σ (pI (fun σ' r => F2 σ σ' ∧ ((tok T p = 256 ∧ (lo ≤ vl T p ∧ vl T p ≤ hi) ∧ r = nI 1 ∧ CPos σ' T (nx T p) ∧ σ' 2 8 = nI (vl T p)) ∨ ((¬ tok T p = 256 ∧ r = nI 0 ∧ σ' 2 2 = nI 1 ∧ σ' 2 3 = nI p) ∨ (tok T p = 256 ∧ ¬ (lo ≤ vl T p ∧ vl T p ≤ hi) ∧ r = nI 0 ∧ σ' 2 2 = nI 2 ∧ σ' 2 3 = nI p))))) := by
  have ht9 := tok_lt (c := p) hT6
  refine Cn.of [some (.ref (eB E + 2)), some (.int (nI lo)), some (.int (nI hi))] (by decide) (Nat.le_of_ble_eq_true rfl) rfl ?_
  refine V_aload_n e_X6_takeNumber_0 rfl rfl ?_
  refine V_getiv (v := nI (tok T p)) e_X6_takeNumber_1 F_X6_token f_X6_74 rfl hP.2.2.1 ?_
  refine V_sipush (v := nI 256) e_X6_takeNumber_4 (by decide) ?_
  refine V_icmp_eq (tgt := 16) e_X6_takeNumber_7 (by decide) (fun c1 => ?_) (fun c1 => ?_)
  · have d1 : tok T p = 256 := nq_eq (by omega) (by omega) c1
    have htk := d1
    have hvl := vl_lt hT6 htk
    refine V_aload_n e_X6_takeNumber_16 rfl rfl ?_
    refine V_getiv (v := nI (vl T p)) e_X6_takeNumber_17 F_X6_value f_X6_86 rfl (hP.2.2.2 htk) ?_
    refine V_iload_n e_X6_takeNumber_20 rfl rfl ?_
    refine V_iload_n e_X6_takeNumber_21 rfl rfl ?_
    refine V_csNIe (av := [.int (nI (vl T p)), .int (nI lo), .int (nI hi)]) (st := []) e_X6_takeNumber_22 (c_X8_within E (nI (vl T p)) (nI lo) (nI hi) σ) l_X6_89 S_X8_within (rm_ok (by decide) (by decide)) rfl rfl (Nat.le_of_ble_eq_true rfl) ?_
    refine V_if_ne (tgt := 34) e_X6_takeNumber_25 (by decide) (fun c2 => ?_) (fun c2 => ?_)
    · have h25 : lo ≤ vl T p ∧ vl T p ≤ hi := by obtain ⟨j, j1, j2, j3⟩ := (wi_le (by omega) (by omega)).mp c2; have := nq_eq (by omega) (by omega) j3; omega
      refine V_aload_n e_X6_takeNumber_34 rfl rfl ?_
      refine V_aload_n e_X6_takeNumber_35 rfl rfl ?_
      refine V_getiv (v := nI (vl T p)) e_X6_takeNumber_36 F_X6_value f_X6_86 rfl (hP.2.2.2 htk) ?_
      refine V_puti e_X6_takeNumber_39 F_X6_taken f_X6_48 rfl ?_
      refine V_aload_n e_X6_takeNumber_42 rfl rfl ?_
      refine V_cvV (av := []) (st := []) e_X6_takeNumber_43 (c_X6_advance E (nx T p) T (up2 σ 2 8 (nI (vl T p))) (hCT.f2 (F2.rf.up (by omega))) hTb hT6 (nx_le hp) ((up2_k (by decide)).trans hP.2.1)) l_X6_27 S_X6_advance rfl (rm_ok (by decide) (by decide)) rfl rfl (Nat.le_of_ble_eq_true rfl) ?_
      intro τ1 hh
      obtain ⟨hf1, hp1, h8⟩ := hh
      refine V_iconst (v := nI 1) e_X6_takeNumber_46 (by decide) ?_
      exact V_zret e_X6_takeNumber_47 rfl (by first | exact Or.inl nI_0 | exact Or.inr rfl | assumption) (⟨(F2.rf.up (by omega)).tr hf1, Or.inl ⟨htk, h25, rfl, hp1, h8.trans up2_at⟩⟩)
    · have h25 : ¬ (lo ≤ vl T p ∧ vl T p ≤ hi) := fun z => (wi_le (a := lo) (b := hi) (by omega) (by omega)).mpr ⟨vl T p, z.1, z.2, rfl⟩ c2
      refine V_aload_n e_X6_takeNumber_28 rfl rfl ?_
      refine V_iconst (v := nI 2) e_X6_takeNumber_29 (by decide) ?_
      refine V_cvIe (av := [.int (nI 2)]) (st := []) e_X6_takeNumber_30 (c_X6_refuse E 2 p σ hP.1) l_X6_67 S_X6_refuse rfl (rm_ok (by decide) (by decide)) rfl rfl (Nat.le_of_ble_eq_true rfl) ?_
      exact V_zret e_X6_takeNumber_33 rfl (by first | exact Or.inl nI_0 | exact Or.inr rfl | assumption) (⟨(F2.rf.up (by omega)).up (by omega), Or.inr (Or.inr ⟨htk, h25, rfl, (up2_k (by decide)).trans up2_at, up2_at⟩)⟩)
  · have d1 : ¬ tok T p = 256 := nq_ne (by omega) (by omega) c1
    refine V_aload_n e_X6_takeNumber_10 rfl rfl ?_
    refine V_iconst (v := nI 1) e_X6_takeNumber_11 (by decide) ?_
    refine V_cvIe (av := [.int (nI 1)]) (st := []) e_X6_takeNumber_12 (c_X6_refuse E 1 p σ hP.1) l_X6_67 S_X6_refuse rfl (rm_ok (by decide) (by decide)) rfl rfl (Nat.le_of_ble_eq_true rfl) ?_
    exact V_zret e_X6_takeNumber_15 rfl (by first | exact Or.inl nI_0 | exact Or.inr rfl | assumption) (⟨(F2.rf.up (by omega)).up (by omega), Or.inr (Or.inl ⟨d1, rfl, (up2_k (by decide)).trans up2_at, up2_at⟩)⟩)
set_option maxRecDepth 100000 in
set_option maxHeartbeats 4000000 in
theorem c_X6_sortInView (E : En) (t : Nat) (σ : Sg) (h6 : σ 2 6 = nI t) (ht : t ≤ 258) : Cn E m_X6_sortInView 1 [.ref (eB E + 2)] σ (pI (fun σ' r => σ' = σ ∧ r = nI (srt t))) := by
  refine Cn.of [some (.ref (eB E + 2))] (by decide) (Nat.le_of_ble_eq_true rfl) rfl ?_
  refine V_aload_n e_X6_sortInView_0 rfl rfl ?_
  refine V_getiv (v := nI t) e_X6_sortInView_1 F_X6_token f_X6_74 rfl h6 ?_
  rcases (show t = 106 ∨ t = 107 ∨ t = 108 ∨ t = 109 ∨ t = 110 ∨ t = 111 ∨ t = 112 ∨ t = 113 ∨ t = 114 ∨ t = 115 ∨ t = 116 ∨ t = 117 ∨ t = 118 ∨ t = 119 ∨ (t < 106 ∨ 119 < t) by omega) with d1 | d1 | d1 | d1 | d1 | d1 | d1 | d1 | d1 | d1 | d1 | d1 | d1 | d1 | d1
  · refine V_tab (j := 106) (tgt := 76) e_X6_sortInView_4 (congrArg nI d1) (by decide) (by decide +kernel) ?_
    refine V_iconst (v := nI 1) e_X6_sortInView_76 (by decide) ?_
    exact V_iret e_X6_sortInView_77 rfl (⟨rfl, congrArg nI (by unfold srt; (repeat' split) <;> omega)⟩)
  · refine V_tab (j := 107) (tgt := 86) e_X6_sortInView_4 (congrArg nI d1) (by decide) (by decide +kernel) ?_
    refine V_iconst (v := nI 0) e_X6_sortInView_86 (by decide) ?_
    exact V_iret e_X6_sortInView_87 rfl (⟨rfl, congrArg nI (by unfold srt; (repeat' split) <;> omega)⟩)
  · refine V_tab (j := 108) (tgt := 86) e_X6_sortInView_4 (congrArg nI d1) (by decide) (by decide +kernel) ?_
    refine V_iconst (v := nI 0) e_X6_sortInView_86 (by decide) ?_
    exact V_iret e_X6_sortInView_87 rfl (⟨rfl, congrArg nI (by unfold srt; (repeat' split) <;> omega)⟩)
  · refine V_tab (j := 109) (tgt := 84) e_X6_sortInView_4 (congrArg nI d1) (by decide) (by decide +kernel) ?_
    refine V_iconst (v := nI 5) e_X6_sortInView_84 (by decide) ?_
    exact V_iret e_X6_sortInView_85 rfl (⟨rfl, congrArg nI (by unfold srt; (repeat' split) <;> omega)⟩)
  · refine V_tab (j := 110) (tgt := 86) e_X6_sortInView_4 (congrArg nI d1) (by decide) (by decide +kernel) ?_
    refine V_iconst (v := nI 0) e_X6_sortInView_86 (by decide) ?_
    exact V_iret e_X6_sortInView_87 rfl (⟨rfl, congrArg nI (by unfold srt; (repeat' split) <;> omega)⟩)
  · refine V_tab (j := 111) (tgt := 82) e_X6_sortInView_4 (congrArg nI d1) (by decide) (by decide +kernel) ?_
    refine V_iconst (v := nI 4) e_X6_sortInView_82 (by decide) ?_
    exact V_iret e_X6_sortInView_83 rfl (⟨rfl, congrArg nI (by unfold srt; (repeat' split) <;> omega)⟩)
  · refine V_tab (j := 112) (tgt := 86) e_X6_sortInView_4 (congrArg nI d1) (by decide) (by decide +kernel) ?_
    refine V_iconst (v := nI 0) e_X6_sortInView_86 (by decide) ?_
    exact V_iret e_X6_sortInView_87 rfl (⟨rfl, congrArg nI (by unfold srt; (repeat' split) <;> omega)⟩)
  · refine V_tab (j := 113) (tgt := 86) e_X6_sortInView_4 (congrArg nI d1) (by decide) (by decide +kernel) ?_
    refine V_iconst (v := nI 0) e_X6_sortInView_86 (by decide) ?_
    exact V_iret e_X6_sortInView_87 rfl (⟨rfl, congrArg nI (by unfold srt; (repeat' split) <;> omega)⟩)
  · refine V_tab (j := 114) (tgt := 86) e_X6_sortInView_4 (congrArg nI d1) (by decide) (by decide +kernel) ?_
    refine V_iconst (v := nI 0) e_X6_sortInView_86 (by decide) ?_
    exact V_iret e_X6_sortInView_87 rfl (⟨rfl, congrArg nI (by unfold srt; (repeat' split) <;> omega)⟩)
  · refine V_tab (j := 115) (tgt := 86) e_X6_sortInView_4 (congrArg nI d1) (by decide) (by decide +kernel) ?_
    refine V_iconst (v := nI 0) e_X6_sortInView_86 (by decide) ?_
    exact V_iret e_X6_sortInView_87 rfl (⟨rfl, congrArg nI (by unfold srt; (repeat' split) <;> omega)⟩)
  · refine V_tab (j := 116) (tgt := 80) e_X6_sortInView_4 (congrArg nI d1) (by decide) (by decide +kernel) ?_
    refine V_iconst (v := nI 3) e_X6_sortInView_80 (by decide) ?_
    exact V_iret e_X6_sortInView_81 rfl (⟨rfl, congrArg nI (by unfold srt; (repeat' split) <;> omega)⟩)
  · refine V_tab (j := 117) (tgt := 86) e_X6_sortInView_4 (congrArg nI d1) (by decide) (by decide +kernel) ?_
    refine V_iconst (v := nI 0) e_X6_sortInView_86 (by decide) ?_
    exact V_iret e_X6_sortInView_87 rfl (⟨rfl, congrArg nI (by unfold srt; (repeat' split) <;> omega)⟩)
  · refine V_tab (j := 118) (tgt := 86) e_X6_sortInView_4 (congrArg nI d1) (by decide) (by decide +kernel) ?_
    refine V_iconst (v := nI 0) e_X6_sortInView_86 (by decide) ?_
    exact V_iret e_X6_sortInView_87 rfl (⟨rfl, congrArg nI (by unfold srt; (repeat' split) <;> omega)⟩)
  · refine V_tab (j := 119) (tgt := 78) e_X6_sortInView_4 (congrArg nI d1) (by decide) (by decide +kernel) ?_
    refine V_iconst (v := nI 2) e_X6_sortInView_78 (by decide) ?_
    exact V_iret e_X6_sortInView_79 rfl (⟨rfl, congrArg nI (by unfold srt; (repeat' split) <;> omega)⟩)
  · refine V_tabo (tgt := 86) e_X6_sortInView_4 (by rw [nI_toInt (by omega)]; omega) (by decide) ?_
    refine V_iconst (v := nI 0) e_X6_sortInView_86 (by decide) ?_
    exact V_iret e_X6_sortInView_87 rfl (⟨rfl, congrArg nI (by unfold srt; (repeat' split) <;> omega)⟩)

def HC (A : Vec) (Hs : Nat → Option Nat) (p m ch : Nat) (H : Nat → Option Nat) : Prop := (ch = 1 ∧ mM H < mM Hs) ∨ (ch = 0 ∧ H = Hs ∧ (∀ P, P < p → fxP A H P) ∧ ∀ m', m' < m → fx1 A H p m')
theorem HC.nx {A : Vec} {Hs H : Nat → Option Nat} {p m ch : Nat} (h : HC A Hs p m ch H) (hf : fx1 A H p m) : HC A Hs p (m + 1) ch H := by
  rcases h with h | ⟨h1, h2, h3, h4⟩
  · exact Or.inl h
  · refine Or.inr ⟨h1, h2, h3, fun m' hm' => ?_⟩
    by_cases e : m' = m
    · rw [e]; exact hf
    · exact h4 m' (by omega)
theorem HC.up {A : Vec} {Hs H H' : Nat → Option Nat} {p m m' ch : Nat} (h : HC A Hs p m ch H) (hl : mM H' < mM H) : HC A Hs p m' 1 H' := by
  rcases h with h | ⟨h1, h2, h3, h4⟩
  · exact Or.inl ⟨rfl, Nat.lt_trans hl h.2⟩
  · exact Or.inl ⟨rfl, by rw [← h2]; exact hl⟩
theorem HC.st {A : Vec} {Hs H : Nat → Option Nat} {p ch : Nat} (h : HC A Hs p 3 ch H) : HC A Hs (p + 1) 0 ch H := by
  rcases h with h | ⟨h1, h2, h3, h4⟩
  · exact Or.inl h
  · refine Or.inr ⟨h1, h2, fun P hP => ?_, fun m' hm' => absurd hm' (Nat.not_lt_zero m')⟩
    by_cases e : P = p
    · rw [e]; exact h4
    · exact h3 P (by omega)
theorem fx_n {A : Vec} {H : Nat → Option Nat} {p m : Nat} (h : nxt A p m = none) : fx1 A H p m := fun Q g a _ => by rw [h] at a; cases a
theorem fx_q {A : Vec} {H : Nat → Option Nat} {p m Q : Nat} (h : nxt A p m = some Q) (hq : H Q = none) : fx1 A H p m := fun Q2 g a b => by
  rw [h] at a
  rw [← Option.some.inj a, hq] at b
  cases b
theorem fx_s {A : Vec} {H : Nat → Option Nat} {p m Q x y : Nat} (h : nxt A p m = some Q) (hq : H Q = some y) (hp : H p = some x) (hl : x ≤ y + cst A p m) : fx1 A H p m := fun Q2 g a b => by
  rw [h] at a
  rw [← Option.some.inj a, hq] at b
  exact ⟨x, hp, by rw [← Option.some.inj b]; exact hl⟩
set_option maxRecDepth 100000 in
set_option maxHeartbeats 4000000 in
theorem lp_X9_measure_m (E : En) (s : Nat) (A : Vec) (p : Nat) (Hs : Nat → Option Nat) (Qv : Sg → Prop) (σ : Sg) (hM : RepM σ 296 A) (hA : WE A) (hA6 : A 0 ≤ 6) (hpp : p < 128 * A 0) (hout : ∀ (ch : Nat) (H : Nat → Option Nat), HB A s H → HC A Hs (p + 1) 0 ch H → V E m_X9_measure (kM E 4 (pV Qv)) 165 [some (.ref (eB E + 292)), some (.int (nI s)), some (.int (nI ch)), some (.int (nI p)), none, none, none] [] (stH σ H)) : ∀ (mm : Nat) (m : Nat) (ch : Nat) (H : Nat → Option Nat), 3 - m = mm → (m ≤ 3) → (HB A s H) → (HC A Hs p m ch H) → V E m_X9_measure (kM E 4 (pV Qv)) 76 [some (.ref (eB E + 292)), some (.int (nI s)), some (.int (nI ch)), some (.int (nI p)), some (.int (nI m)), none, none] [] (stH σ H) := by
  intro mm
  induction mm using Nat.strongRecOn with
  | ind mm ih =>
    intro m ch H hmm hm hb hc
    refine V_iload e_X9_measure_76 rfl ?_
    refine V_iconst (v := nI 3) e_X9_measure_78 (by decide) ?_
    refine V_icmp_ge (tgt := 165) e_X9_measure_79 (by decide) (fun c1 => ?_) (fun c1 => ?_)
    · have d1 : 3 ≤ m := nq_le (by omega) (by omega) c1
      obtain rfl : m = 3 := (by omega); exact V_forget 4 (hout ch H hb hc.st)
    · have d1 : ¬ 3 ≤ m := nq_nle (by omega) (by omega) c1
      refine V_aload_n e_X9_measure_82 rfl rfl ?_
      refine V_iload_n e_X9_measure_83 rfl rfl ?_
      refine V_iload e_X9_measure_84 rfl ?_
      refine V_cvIe (av := [.int (nI p), .int (nI m)]) (st := []) e_X9_measure_86 (c_X9_leads E p m A (stH σ H) (stH_M hM) hA hpp (by omega)) l_X9_229 S_X9_leads rfl (rm_ok (by decide) (by decide)) rfl rfl (Nat.le_of_ble_eq_true rfl) ?_
      rcases hnx : nxt A p m with _ | Q1
      · have hdum := hnx
        refine V_topi (y := (-1000000)) rfl ?_
        refine V_istore (L' := [some (.ref (eB E + 292)), some (.int (nI s)), some (.int (nI ch)), some (.int (nI p)), some (.int (nI m)), some (.int (-1000000)), none]) e_X9_measure_89 rfl ?_
        refine V_iload e_X9_measure_91 rfl ?_
        refine V_ldc (v := (-1000000)) e_X9_measure_93 k_X9_96 ?_
        refine V_icmp_eq (tgt := 159) e_X9_measure_95 (by decide) (fun c2 => ?_) (fun c2 => absurd c2 (fun q => q rfl))
        refine V_iinc (v := nI (m + 1)) (L' := [some (.ref (eB E + 292)), some (.int (nI s)), some (.int (nI ch)), some (.int (nI p)), some (.int (nI (m + 1))), some (.int (-1000000)), none]) e_X9_measure_159 rfl (nI_add _ 1) rfl ?_
        refine V_goto (tgt := 76) e_X9_measure_162 (by decide) ?_
        refine V_forget 5 ?_; exact ih (3 - (m + 1)) (by omega) (m + 1) ch H rfl (by omega) hb (hc.nx (fx_n hnx))
      · have hdum := hnx
        have hQ1 := nxt_lt hA6 hpp hnx
        have hcc := cst_1 hA hpp hnx
        have hcl := mC_le H
        refine V_topi (y := nI Q1) rfl ?_
        refine V_istore (L' := [some (.ref (eB E + 292)), some (.int (nI s)), some (.int (nI ch)), some (.int (nI p)), some (.int (nI m)), some (.int (nI Q1)), none]) e_X9_measure_89 rfl ?_
        refine V_iload e_X9_measure_91 rfl ?_
        refine V_ldc (v := (-1000000)) e_X9_measure_93 k_X9_96 ?_
        refine V_icmp_eq (tgt := 159) e_X9_measure_95 (by decide) (fun c3 => ((nI_nn (by omega) c3 : False)).elim) (fun c3 => ?_)
        rcases hHQ : H Q1 with _ | y
        · have hdum := hHQ
          refine V_aload_n e_X9_measure_98 rfl rfl ?_
          refine V_getr (r := 301) e_X9_measure_99 F_X9_hours f_X9_34 rfl rfl ?_
          refine V_iload e_X9_measure_102 rfl ?_
          refine V_ialdv (v := (-1000000)) (j := Q1) e_X9_measure_104 rfl rfl (by have q : ln 301 = 768 := rfl; omega) ((stH_at (by omega)).trans (by rw [hHQ]; rfl)) ?_
          refine V_ldc (v := (-1000000)) e_X9_measure_105 k_X9_96 ?_
          refine V_icmp_eq (tgt := 159) e_X9_measure_107 (by decide) (fun c4 => ?_) (fun c4 => absurd c4 (fun q => q rfl))
          refine V_iinc (v := nI (m + 1)) (L' := [some (.ref (eB E + 292)), some (.int (nI s)), some (.int (nI ch)), some (.int (nI p)), some (.int (nI (m + 1))), some (.int (nI Q1)), none]) e_X9_measure_159 rfl (nI_add _ 1) rfl ?_
          refine V_goto (tgt := 76) e_X9_measure_162 (by decide) ?_
          refine V_forget 5 ?_; exact ih (3 - (m + 1)) (by omega) (m + 1) ch H rfl (by omega) hb (hc.nx (fx_q hnx hHQ))
        · have hdum := hHQ
          have hy := hb.2.2 Q1 y (by omega) hHQ
          refine V_aload_n e_X9_measure_98 rfl rfl ?_
          refine V_getr (r := 301) e_X9_measure_99 F_X9_hours f_X9_34 rfl rfl ?_
          refine V_iload e_X9_measure_102 rfl ?_
          refine V_ialdv (v := nI y) (j := Q1) e_X9_measure_104 rfl rfl (by have q : ln 301 = 768 := rfl; omega) ((stH_at (by omega)).trans (by rw [hHQ]; rfl)) ?_
          refine V_ldc (v := (-1000000)) e_X9_measure_105 k_X9_96 ?_
          refine V_icmp_eq (tgt := 159) e_X9_measure_107 (by decide) (fun c5 => ((nI_nn (by omega) c5 : False)).elim) (fun c5 => ?_)
          refine V_aload_n e_X9_measure_110 rfl rfl ?_
          refine V_getr (r := 301) e_X9_measure_111 F_X9_hours f_X9_34 rfl rfl ?_
          refine V_iload e_X9_measure_114 rfl ?_
          refine V_ialdv (v := nI y) (j := Q1) e_X9_measure_116 rfl rfl (by have q : ln 301 = 768 := rfl; omega) ((stH_at (by omega)).trans (by rw [hHQ]; rfl)) ?_
          refine V_aload_n e_X9_measure_117 rfl rfl ?_
          refine V_iload_n e_X9_measure_118 rfl rfl ?_
          refine V_iload e_X9_measure_119 rfl ?_
          refine V_cvIe (av := [.int (nI p), .int (nI m)]) (st := [.int (nI y)]) e_X9_measure_121 (c_X9_costs E p m Q1 A (stH σ H) (stH_M hM) hA hpp (by omega) hnx) l_X9_232 S_X9_costs rfl (rm_ok (by decide) (by decide)) rfl rfl (Nat.le_of_ble_eq_true rfl) ?_
          refine V_iaddN (z := nI (y + (cst A p m))) e_X9_measure_124 (nI_add _ _) ?_
          refine V_istore (L' := [some (.ref (eB E + 292)), some (.int (nI s)), some (.int (nI ch)), some (.int (nI p)), some (.int (nI m)), some (.int (nI Q1)), some (.int (nI (y + (cst A p m))))]) e_X9_measure_125 rfl ?_
          rcases hHp : H p with _ | x
          · have hdum := hHp
            refine V_aload_n e_X9_measure_127 rfl rfl ?_
            refine V_getr (r := 301) e_X9_measure_128 F_X9_hours f_X9_34 rfl rfl ?_
            refine V_iload_n e_X9_measure_131 rfl rfl ?_
            refine V_ialdv (v := (-1000000)) (j := p) e_X9_measure_132 rfl rfl (by have q : ln 301 = 768 := rfl; omega) ((stH_at (by omega)).trans (by rw [hHp]; rfl)) ?_
            refine V_ldc (v := (-1000000)) e_X9_measure_133 k_X9_96 ?_
            refine V_icmp_eq (tgt := 149) e_X9_measure_135 (by decide) (fun c6 => ?_) (fun c6 => absurd c6 (fun q => q rfl))
            refine V_aload_n e_X9_measure_149 rfl rfl ?_
            refine V_getr (r := 301) e_X9_measure_150 F_X9_hours f_X9_34 rfl rfl ?_
            refine V_iload_n e_X9_measure_153 rfl rfl ?_
            refine V_iload e_X9_measure_154 rfl ?_
            refine V_iast (j := p) e_X9_measure_156 rfl rfl (by have q : ln 301 = 768 := rfl; omega) ?_
            rw [show up2 (stH σ H) 301 p (nI (y + (cst A p m))) = stH σ (updO H p (some (y + cst A p m))) from (stH_up (v := some (y + cst A p m)) (by omega))]
            refine V_iconst (v := nI 1) e_X9_measure_157 (by decide) ?_
            refine V_istore_n (L' := [some (.ref (eB E + 292)), some (.int (nI s)), some (.int (nI 1)), some (.int (nI p)), some (.int (nI m)), some (.int (nI Q1)), some (.int (nI (y + (cst A p m))))]) e_X9_measure_158 rfl rfl ?_
            refine V_iinc (v := nI (m + 1)) (L' := [some (.ref (eB E + 292)), some (.int (nI s)), some (.int (nI 1)), some (.int (nI p)), some (.int (nI (m + 1))), some (.int (nI Q1)), some (.int (nI (y + (cst A p m))))]) e_X9_measure_159 rfl (nI_add _ 1) rfl ?_
            refine V_goto (tgt := 76) e_X9_measure_162 (by decide) ?_
            refine V_forget 5 ?_; refine V_forget 6 ?_; have hup := hb.up hA hpp (by omega) hnx hHQ (fun x9 hx9 => (by rw [hHp] at hx9; cases hx9)); exact ih (3 - (m + 1)) (by omega) (m + 1) 1 _ rfl (by omega) hup.1 (hc.up hup.2)
          · have hdum := hHp
            have hx := hb.2.2 p x (by omega) hHp
            refine V_aload_n e_X9_measure_127 rfl rfl ?_
            refine V_getr (r := 301) e_X9_measure_128 F_X9_hours f_X9_34 rfl rfl ?_
            refine V_iload_n e_X9_measure_131 rfl rfl ?_
            refine V_ialdv (v := nI x) (j := p) e_X9_measure_132 rfl rfl (by have q : ln 301 = 768 := rfl; omega) ((stH_at (by omega)).trans (by rw [hHp]; rfl)) ?_
            refine V_ldc (v := (-1000000)) e_X9_measure_133 k_X9_96 ?_
            refine V_icmp_eq (tgt := 149) e_X9_measure_135 (by decide) (fun c7 => ((nI_nn (by omega) c7 : False)).elim) (fun c7 => ?_)
            refine V_iload e_X9_measure_138 rfl ?_
            refine V_aload_n e_X9_measure_140 rfl rfl ?_
            refine V_getr (r := 301) e_X9_measure_141 F_X9_hours f_X9_34 rfl rfl ?_
            refine V_iload_n e_X9_measure_144 rfl rfl ?_
            refine V_ialdv (v := nI x) (j := p) e_X9_measure_145 rfl rfl (by have q : ln 301 = 768 := rfl; omega) ((stH_at (by omega)).trans (by rw [hHp]; rfl)) ?_
            refine V_icmp_ge (tgt := 159) e_X9_measure_146 (by decide) (fun c8 => ?_) (fun c8 => ?_)
            · have d8 : x ≤ y + (cst A p m) := nq_le (by omega) (by omega) c8
              refine V_iinc (v := nI (m + 1)) (L' := [some (.ref (eB E + 292)), some (.int (nI s)), some (.int (nI ch)), some (.int (nI p)), some (.int (nI (m + 1))), some (.int (nI Q1)), some (.int (nI (y + (cst A p m))))]) e_X9_measure_159 rfl (nI_add _ 1) rfl ?_
              refine V_goto (tgt := 76) e_X9_measure_162 (by decide) ?_
              refine V_forget 5 ?_; refine V_forget 6 ?_; exact ih (3 - (m + 1)) (by omega) (m + 1) ch H rfl (by omega) hb (hc.nx (fx_s hnx hHQ hHp d8))
            · have d8 : ¬ x ≤ y + (cst A p m) := nq_nle (by omega) (by omega) c8
              refine V_aload_n e_X9_measure_149 rfl rfl ?_
              refine V_getr (r := 301) e_X9_measure_150 F_X9_hours f_X9_34 rfl rfl ?_
              refine V_iload_n e_X9_measure_153 rfl rfl ?_
              refine V_iload e_X9_measure_154 rfl ?_
              refine V_iast (j := p) e_X9_measure_156 rfl rfl (by have q : ln 301 = 768 := rfl; omega) ?_
              rw [show up2 (stH σ H) 301 p (nI (y + (cst A p m))) = stH σ (updO H p (some (y + cst A p m))) from (stH_up (v := some (y + cst A p m)) (by omega))]
              refine V_iconst (v := nI 1) e_X9_measure_157 (by decide) ?_
              refine V_istore_n (L' := [some (.ref (eB E + 292)), some (.int (nI s)), some (.int (nI 1)), some (.int (nI p)), some (.int (nI m)), some (.int (nI Q1)), some (.int (nI (y + (cst A p m))))]) e_X9_measure_158 rfl rfl ?_
              refine V_iinc (v := nI (m + 1)) (L' := [some (.ref (eB E + 292)), some (.int (nI s)), some (.int (nI 1)), some (.int (nI p)), some (.int (nI (m + 1))), some (.int (nI Q1)), some (.int (nI (y + (cst A p m))))]) e_X9_measure_159 rfl (nI_add _ 1) rfl ?_
              refine V_goto (tgt := 76) e_X9_measure_162 (by decide) ?_
              refine V_forget 5 ?_; refine V_forget 6 ?_; have hup := hb.up hA hpp (by omega) hnx hHQ (fun x9 hx9 => (by rw [hHp] at hx9; rw [← Option.some.inj hx9]; omega)); exact ih (3 - (m + 1)) (by omega) (m + 1) 1 _ rfl (by omega) hup.1 (hc.up hup.2)
set_option maxRecDepth 100000 in
set_option maxHeartbeats 4000000 in
theorem lp_X9_measure_p (E : En) (s : Nat) (A : Vec) (Hs : Nat → Option Nat) (Qv : Sg → Prop) (σ : Sg) (hM : RepM σ 296 A) (hA : WE A) (hA6 : A 0 ≤ 6) (hout : ∀ (ch : Nat) (H : Nat → Option Nat), HB A s H → HC A Hs (128 * A 0) 0 ch H → V E m_X9_measure (kM E 4 (pV Qv)) 171 [some (.ref (eB E + 292)), some (.int (nI s)), some (.int (nI ch)), some (.int (nI (128 * A 0))), none, none, none] [] (stH σ H)) : ∀ (mm : Nat) (p : Nat) (ch : Nat) (H : Nat → Option Nat), 128 * A 0 - p = mm → (p ≤ 128 * A 0) → (HB A s H) → (HC A Hs p 0 ch H) → V E m_X9_measure (kM E 4 (pV Qv)) 59 [some (.ref (eB E + 292)), some (.int (nI s)), some (.int (nI ch)), some (.int (nI p)), none, none, none] [] (stH σ H) := by
  intro mm
  induction mm using Nat.strongRecOn with
  | ind mm ih =>
    intro p ch H hmm hp hb hc
    refine V_iload_n e_X9_measure_59 rfl rfl ?_
    refine V_sipush (v := nI 128) e_X9_measure_60 (by decide) ?_
    refine V_aload_n e_X9_measure_63 rfl rfl ?_
    refine V_getr (r := 296) e_X9_measure_64 F_X9_shore f_X9_19 rfl rfl ?_
    refine V_iconst (v := nI 0) e_X9_measure_67 (by decide) ?_
    refine V_ialdv (v := nI (A 0)) (j := 0) e_X9_measure_68 rfl rfl (by decide) ((stH_M hM) 0 (by omega)) ?_
    refine V_imulN (z := nI (128 * (A 0))) e_X9_measure_69 (pk_mul _ _) ?_
    refine V_icmp_ge (tgt := 171) e_X9_measure_70 (by decide) (fun c1 => ?_) (fun c1 => ?_)
    · have d1 : 128 * (A 0) ≤ p := nq_le (by omega) (by omega) c1
      obtain rfl : p = 128 * A 0 := (by omega); exact hout ch H hb hc
    · have d1 : ¬ 128 * (A 0) ≤ p := nq_nle (by omega) (by omega) c1
      refine V_iconst (v := nI 0) e_X9_measure_73 (by decide) ?_
      refine V_istore (L' := [some (.ref (eB E + 292)), some (.int (nI s)), some (.int (nI ch)), some (.int (nI p)), some (.int (nI 0)), none, none]) e_X9_measure_74 rfl ?_
      refine lp_X9_measure_m E s A p Hs Qv σ hM hA hA6 (by omega) (fun ch1 H1 hb1 hc1 => ?_) 3 0 ch H rfl (by omega) hb hc
      refine V_iinc (v := nI (p + 1)) (L' := [some (.ref (eB E + 292)), some (.int (nI s)), some (.int (nI ch1)), some (.int (nI (p + 1))), none, none, none]) e_X9_measure_165 rfl (nI_add _ 1) rfl ?_
      refine V_goto (tgt := 59) e_X9_measure_168 (by decide) ?_
      exact ih (128 * A 0 - (p + 1)) (by omega) (p + 1) ch1 H1 rfl (by omega) hb1 hc1
set_option maxRecDepth 100000 in
set_option maxHeartbeats 4000000 in
theorem lp_X9_measure_x (E : En) (s : Nat) (A : Vec) (y : Nat) (Qv : Sg → Prop) (σ : Sg)  : ∀ (mm : Nat) (u : Nat), 0 = mm → (Qv σ) → V E m_X9_measure (kM E 4 (pV Qv)) 51 [some (.ref (eB E + 292)), some (.int (nI s)), some (.int (nI 0)), some (.int (nI y)), none, none, none] [] σ := by
  intro mm
  induction mm using Nat.strongRecOn with
  | ind mm ih =>
    intro u hmm hQ
    refine V_iload_n e_X9_measure_51 rfl rfl ?_
    refine V_if_eq (tgt := 174) e_X9_measure_52 (by decide) (fun c1 => ?_) (fun c1 => absurd c1 (by decide))
    exact V_vret e_X9_measure_174 rfl (hQ)
set_option maxRecDepth 100000 in
set_option maxHeartbeats 4000000 in
theorem lp_X9_measure_w (E : En) (s : Nat) (A : Vec) (Qv : Sg → Prop) (σ : Sg) (hM : RepM σ 296 A) (hA : WE A) (hA6 : A 0 ≤ 6) (hQ : ∀ H, HB A s H → (∀ P, P < 128 * A 0 → fxP A H P) → Qv (stH σ H)) : ∀ (mm : Nat) (H : Nat → Option Nat), mM H = mm → (HB A s H) → V E m_X9_measure (kM E 4 (pV Qv)) 51 [some (.ref (eB E + 292)), some (.int (nI s)), some (.int (nI 1)), none, none, none, none] [] (stH σ H) := by
  intro mm
  induction mm using Nat.strongRecOn with
  | ind mm ih =>
    intro H hmm hb
    refine V_iload_n e_X9_measure_51 rfl rfl ?_
    refine V_if_eq (tgt := 174) e_X9_measure_52 (by decide) (fun c1 => absurd c1 (by decide)) (fun c1 => ?_)
    refine V_iconst (v := nI 0) e_X9_measure_55 (by decide) ?_
    refine V_istore_n (L' := [some (.ref (eB E + 292)), some (.int (nI s)), some (.int (nI 0)), none, none, none, none]) e_X9_measure_56 rfl rfl ?_
    refine V_iconst (v := nI 0) e_X9_measure_57 (by decide) ?_
    refine V_istore_n (L' := [some (.ref (eB E + 292)), some (.int (nI s)), some (.int (nI 0)), some (.int (nI 0)), none, none, none]) e_X9_measure_58 rfl rfl ?_
    refine lp_X9_measure_p E s A H Qv σ hM hA hA6 (fun ch1 H1 hb1 hc1 => ?_) (128 * A 0) 0 0 H rfl (by omega) hb (Or.inr ⟨rfl, rfl, fun P hP => absurd hP (Nat.not_lt_zero P), fun m hm => absurd hm (Nat.not_lt_zero m)⟩)
    refine V_goto (tgt := 51) e_X9_measure_171 (by decide) ?_
    rcases hc1 with ⟨rfl, hlt⟩ | ⟨rfl, rfl, hfx, -⟩; (refine V_forget 3 ?_; exact ih (mM H1) (by omega) H1 rfl hb1); (exact lp_X9_measure_x E s A (128 * A 0) Qv _ 0 0 rfl (hQ _ hb1 hfx))
set_option maxRecDepth 100000 in
set_option maxHeartbeats 4000000 in
theorem lp_X9_measure_i (E : En) (s : Nat) (A : Vec) (Qv : Sg → Prop) (σ : Sg) (hM : RepM σ 296 A) (hA : WE A) (hA6 : A 0 ≤ 6) (hs : s < 64) (hQ : ∀ H, HB A s H → (∀ P, P < 128 * A 0 → fxP A H P) → Qv (stH σ H)) : ∀ (mm : Nat) (i : Nat), 768 - i = mm → (i ≤ 768) → V E m_X9_measure (kM E 4 (pV Qv)) 2 [some (.ref (eB E + 292)), some (.int (nI s)), some (.int (nI i)), none, none, none, none] [] (layH i (H0 A s) σ) := by
  intro mm
  induction mm using Nat.strongRecOn with
  | ind mm ih =>
    intro i hmm hi
    refine V_iload_n e_X9_measure_2 rfl rfl ?_
    refine V_sipush (v := nI 768) e_X9_measure_3 (by decide) ?_
    refine V_icmp_ge (tgt := 49) e_X9_measure_6 (by decide) (fun c1 => ?_) (fun c1 => ?_)
    · have d1 : 768 ≤ i := nq_le (by omega) (by omega) c1
      refine V_iconst (v := nI 1) e_X9_measure_49 (by decide) ?_
      refine V_istore_n (L' := [some (.ref (eB E + 292)), some (.int (nI s)), some (.int (nI 1)), none, none, none, none]) e_X9_measure_50 rfl rfl ?_
      obtain rfl : i = 768 := (by omega); exact lp_X9_measure_w E s A Qv σ hM hA hA6 hQ _ (H0 A s) rfl HB0
    · have d1 : ¬ 768 ≤ i := nq_nle (by omega) (by omega) c1
      refine V_aload_n e_X9_measure_9 rfl rfl ?_
      refine V_getr (r := 301) e_X9_measure_10 F_X9_hours f_X9_34 rfl rfl ?_
      refine V_iload_n e_X9_measure_13 rfl rfl ?_
      refine V_iload_n e_X9_measure_14 rfl rfl ?_
      refine V_sipush (v := nI 128) e_X9_measure_15 (by decide) ?_
      refine V_aload_n e_X9_measure_18 rfl rfl ?_
      refine V_getr (r := 296) e_X9_measure_19 F_X9_shore f_X9_19 rfl rfl ?_
      refine V_iconst (v := nI 0) e_X9_measure_22 (by decide) ?_
      refine V_ialdv (v := nI (A 0)) (j := 0) e_X9_measure_23 rfl rfl (by decide) ((layH_M hM) 0 (by omega)) ?_
      refine V_imulN (z := nI (128 * (A 0))) e_X9_measure_24 (pk_mul _ _) ?_
      refine V_icmp_ge (tgt := 40) e_X9_measure_25 (by decide) (fun c2 => ?_) (fun c2 => ?_)
      · have d2 : 128 * (A 0) ≤ i := nq_le (by omega) (by omega) c2
        refine V_ldc (v := (-1000000)) e_X9_measure_40 k_X9_96 ?_
        refine V_topi (y := ov (H0 A s i)) (by have hz : H0 A s i = none := (by unfold H0; first | rw [if_neg (show ¬ i < 128 * A 0 by omega)] | (rw [if_pos (show i < 128 * A 0 by omega)]; first | rw [if_pos d2] | rw [if_neg d2])); rw [hz]; rfl) ?_
        refine V_iast (j := i) e_X9_measure_42 rfl rfl (by have q : ln 301 = 768 := rfl; omega) ?_
        rw [show up2 (layH i (H0 A s) σ) 301 i (ov (H0 A s i)) = layH (i + 1) (H0 A s) σ from layH_s]
        refine V_iinc (v := nI (i + 1)) (L' := [some (.ref (eB E + 292)), some (.int (nI s)), some (.int (nI (i + 1))), none, none, none, none]) e_X9_measure_43 rfl (nI_add _ 1) rfl ?_
        refine V_goto (tgt := 2) e_X9_measure_46 (by decide) ?_
        exact ih (768 - (i + 1)) (by omega) (i + 1) rfl (by omega)
      · have d2 : ¬ 128 * (A 0) ≤ i := nq_nle (by omega) (by omega) c2
        refine V_iload_n e_X9_measure_28 rfl rfl ?_
        refine V_bipush (v := nI 63) e_X9_measure_29 (by decide) ?_
        refine V_iandN (z := nI (i &&& 63)) e_X9_measure_31 (andI _ _) ?_
        refine V_topi (y := nI (i % 64)) (congrArg nI (and63 i)) ?_
        refine V_iload_n e_X9_measure_32 rfl rfl ?_
        refine V_icmp_ne (tgt := 40) e_X9_measure_33 (by decide) (fun c3 => ?_) (fun c3 => ?_)
        · have d3 : ¬ i % 64 = s := nq_ne (by omega) (by omega) c3
          refine V_ldc (v := (-1000000)) e_X9_measure_40 k_X9_96 ?_
          refine V_topi (y := ov (H0 A s i)) (by have hz : H0 A s i = none := (by unfold H0; first | rw [if_neg (show ¬ i < 128 * A 0 by omega)] | (rw [if_pos (show i < 128 * A 0 by omega)]; first | rw [if_pos d3] | rw [if_neg d3])); rw [hz]; rfl) ?_
          refine V_iast (j := i) e_X9_measure_42 rfl rfl (by have q : ln 301 = 768 := rfl; omega) ?_
          rw [show up2 (layH i (H0 A s) σ) 301 i (ov (H0 A s i)) = layH (i + 1) (H0 A s) σ from layH_s]
          refine V_iinc (v := nI (i + 1)) (L' := [some (.ref (eB E + 292)), some (.int (nI s)), some (.int (nI (i + 1))), none, none, none, none]) e_X9_measure_43 rfl (nI_add _ 1) rfl ?_
          refine V_goto (tgt := 2) e_X9_measure_46 (by decide) ?_
          exact ih (768 - (i + 1)) (by omega) (i + 1) rfl (by omega)
        · have d3 : i % 64 = s := nq_eq (by omega) (by omega) c3
          refine V_iconst (v := nI 0) e_X9_measure_36 (by decide) ?_
          refine V_goto (tgt := 42) e_X9_measure_37 (by decide) ?_
          refine V_topi (y := ov (H0 A s i)) (by have hz : H0 A s i = some 0 := (by unfold H0; first | rw [if_neg (show ¬ i < 128 * A 0 by omega)] | (rw [if_pos (show i < 128 * A 0 by omega)]; first | rw [if_pos d3] | rw [if_neg d3])); rw [hz]; rfl) ?_
          refine V_iast (j := i) e_X9_measure_42 rfl rfl (by have q : ln 301 = 768 := rfl; omega) ?_
          rw [show up2 (layH i (H0 A s) σ) 301 i (ov (H0 A s i)) = layH (i + 1) (H0 A s) σ from layH_s]
          refine V_iinc (v := nI (i + 1)) (L' := [some (.ref (eB E + 292)), some (.int (nI s)), some (.int (nI (i + 1))), none, none, none, none]) e_X9_measure_43 rfl (nI_add _ 1) rfl ?_
          refine V_goto (tgt := 2) e_X9_measure_46 (by decide) ?_
          exact ih (768 - (i + 1)) (by omega) (i + 1) rfl (by omega)
set_option maxRecDepth 100000 in
set_option maxHeartbeats 4000000 in
theorem c_X9_measure (E : En) (s : Nat) (A : Vec) (σ : Sg) (hM : RepM σ 296 A) (hA : WE A) (hs : s < 64) : Cn E m_X9_measure 4 [.ref (eB E + 292), .int (nI s)] σ (pV (fun σ' => ∃ H, σ' = stH σ H ∧ HB A s H ∧ ∀ P, P < 128 * A 0 → fxP A H P)) := by
  refine Cn.of [some (.ref (eB E + 292)), some (.int (nI s)), none, none, none, none, none] (by decide) (Nat.le_of_ble_eq_true rfl) rfl ?_
  refine V_iconst (v := nI 0) e_X9_measure_0 (by decide) ?_
  refine V_istore_n (L' := [some (.ref (eB E + 292)), some (.int (nI s)), some (.int (nI 0)), none, none, none, none]) e_X9_measure_1 rfl rfl ?_
  have hX := lp_X9_measure_i E s A (fun σ' => ∃ H, σ' = stH σ H ∧ HB A s H ∧ ∀ P, P < 128 * A 0 → fxP A H P) σ hM hA hA.2.1 hs (fun H h1 h2 => ⟨H, rfl, h1, h2⟩) 768 0 rfl (by omega); rw [layH_0] at hX; exact hX
set_option maxRecDepth 100000 in
set_option maxHeartbeats 4000000 in
theorem lp_X9_least_1 (E : En) (p s w P x : Nat) (A : Vec) (H : Nat → Option Nat) (Q : Sg → Int32 → Prop) (σ : Sg) (hM : RepM σ 296 A) (hA : WE A) (hA6 : A 0 ≤ 6) (hb : HB A s H) (hP : P < 128 * A 0) (hw : w ≤ 1) (hHP : H P = some x) (hx0 : ¬ x = 0) (hx9 : x ≤ 7000) (hQ : ∀ f, fs9 A H P x 0 f → Q (stH σ H) (if w = 0 then nI x else ov f)) : ∀ (mm : Nat) (m : Nat) (f : Option Nat), m = mm → (m ≤ 3) → (fs9 A H P x m f) → V E m_X9_least (kM E 12 (pI Q)) 53 [some (.ref (eB E + 292)), some (.int (nI p)), some (.int (nI s)), some (.int (nI w)), some (.int (nI P)), some (.int (ov f)), some (.int (nI m - nI 1)), none] [] (stH σ H) := by
  intro mm
  induction mm using Nat.strongRecOn with
  | ind mm ih =>
    intro m f hmm hm hf
    rcases Decidable.em (m = 0) with hz | hz
    · obtain rfl := hz
      refine V_iload e_X9_least_53 rfl ?_
      refine V_if_lt (tgt := 138) e_X9_least_55 (by decide) (fun c1 => ?_) (fun c1 => ((c1 (by decide) : False)).elim)
      refine V_iload_n e_X9_least_138 rfl rfl ?_
      refine V_if_ne (tgt := 152) e_X9_least_139 (by decide) (fun c2 => ?_) (fun c2 => ?_)
      · have d2 : ¬ w = 0 := nq_ne (by omega) (by omega) c2
        refine V_iload e_X9_least_152 rfl ?_
        exact V_iret e_X9_least_154 rfl (by have hq := hQ f hf; (first | rw [if_pos d2] at hq | rw [if_neg d2] at hq); exact hq)
      · have d2 : w = 0 := nq_eq (by omega) (by omega) c2
        refine V_aload_n e_X9_least_142 rfl rfl ?_
        refine V_getr (r := 301) e_X9_least_143 F_X9_hours f_X9_34 rfl rfl ?_
        refine V_iload e_X9_least_146 rfl ?_
        refine V_ialdv (v := nI x) (j := P) e_X9_least_148 rfl rfl (by have q : ln 301 = 768 := rfl; omega) ((stH_at (by omega)).trans (by rw [hHP]; rfl)) ?_
        refine V_goto (tgt := 154) e_X9_least_149 (by decide) ?_
        exact V_iret e_X9_least_154 rfl (by have hq := hQ f hf; (first | rw [if_pos d2] at hq | rw [if_neg d2] at hq); exact hq)
    · obtain ⟨m1, rfl⟩ : ∃ m1, m = m1 + 1 := ⟨m - 1, by omega⟩
      rw [show nI (m1 + 1) - nI 1 = nI m1 from isub_n (by omega)]
      refine V_iload e_X9_least_53 rfl ?_
      refine V_if_lt (tgt := 138) e_X9_least_55 (by decide) (fun c3 => ((absurd (show m1 < 0 from nq_lt (by omega) (by omega) c3) (by omega) : False)).elim) (fun c3 => ?_)
      refine V_aload_n e_X9_least_58 rfl rfl ?_
      refine V_getr (r := 301) e_X9_least_59 F_X9_hours f_X9_34 rfl rfl ?_
      refine V_iload e_X9_least_62 rfl ?_
      refine V_ialdv (v := nI x) (j := P) e_X9_least_64 rfl rfl (by have q : ln 301 = 768 := rfl; omega) ((stH_at (by omega)).trans (by rw [hHP]; rfl)) ?_
      refine V_if_le (tgt := 138) e_X9_least_65 (by decide) (fun c4 => ((absurd (show x ≤ 0 from nq_le (by omega) (by omega) c4) (by omega) : False)).elim) (fun c4 => ?_)
      refine V_aload_n e_X9_least_68 rfl rfl ?_
      refine V_iload e_X9_least_69 rfl ?_
      refine V_iload e_X9_least_71 rfl ?_
      refine V_cvIe (av := [.int (nI P), .int (nI m1)]) (st := []) e_X9_least_73 (c_X9_leads E P m1 A (stH σ H) (stH_M hM) hA hP (by omega)) l_X9_229 S_X9_leads rfl (rm_ok (by decide) (by decide)) rfl rfl (Nat.le_of_ble_eq_true rfl) ?_
      rcases hnx : nxt A P m1 with _ | Q1
      · have hdum := hnx
        refine V_topi (y := (-1000000)) rfl ?_
        refine V_istore (L' := [some (.ref (eB E + 292)), some (.int (nI p)), some (.int (nI s)), some (.int (nI w)), some (.int (nI P)), some (.int (ov f)), some (.int (nI m1)), some (.int (-1000000))]) e_X9_least_76 rfl ?_
        refine V_iload e_X9_least_78 rfl ?_
        refine V_ldc (v := (-1000000)) e_X9_least_80 k_X9_96 ?_
        refine V_icmp_eq (tgt := 128) e_X9_least_82 (by decide) (fun c5 => ?_) (fun c5 => absurd c5 (fun q => q rfl))
        refine V_iload e_X9_least_128 rfl ?_
        refine V_istore (L' := [some (.ref (eB E + 292)), some (.int (nI p)), some (.int (nI s)), some (.int (nI w)), some (.int (nI P)), some (.int (ov f)), some (.int (nI m1)), some (.int (-1000000))]) e_X9_least_130 rfl ?_
        refine V_iinc (v := nI m1 + (-1)) (L' := [some (.ref (eB E + 292)), some (.int (nI p)), some (.int (nI s)), some (.int (nI w)), some (.int (nI P)), some (.int (ov f)), some (.int (nI m1 + (-1))), some (.int (-1000000))]) e_X9_least_132 rfl rfl rfl ?_
        refine V_goto (tgt := 53) e_X9_least_135 (by decide) ?_
        rw [m1_sub]; refine V_forget 7 ?_; exact ih m1 (by omega) m1 f rfl (by omega) (fs9_no hf (fun z => by obtain ⟨Q9, y9, a, b, e⟩ := z; rw [hnx] at a; cases a))
      · have hdum := hnx
        have hQ1 := nxt_lt hA6 hP hnx
        have hcc := cst_1 hA hP hnx
        have hcl := mC_le H
        refine V_topi (y := nI Q1) rfl ?_
        refine V_istore (L' := [some (.ref (eB E + 292)), some (.int (nI p)), some (.int (nI s)), some (.int (nI w)), some (.int (nI P)), some (.int (ov f)), some (.int (nI m1)), some (.int (nI Q1))]) e_X9_least_76 rfl ?_
        refine V_iload e_X9_least_78 rfl ?_
        refine V_ldc (v := (-1000000)) e_X9_least_80 k_X9_96 ?_
        refine V_icmp_eq (tgt := 128) e_X9_least_82 (by decide) (fun c6 => ((nI_nn (by omega) c6 : False)).elim) (fun c6 => ?_)
        rcases hHQ : H Q1 with _ | y
        · have hdum := hHQ
          refine V_aload_n e_X9_least_85 rfl rfl ?_
          refine V_getr (r := 301) e_X9_least_86 F_X9_hours f_X9_34 rfl rfl ?_
          refine V_iload e_X9_least_89 rfl ?_
          refine V_ialdv (v := (-1000000)) (j := Q1) e_X9_least_91 rfl rfl (by have q : ln 301 = 768 := rfl; omega) ((stH_at (by omega)).trans (by rw [hHQ]; rfl)) ?_
          refine V_ldc (v := (-1000000)) e_X9_least_92 k_X9_96 ?_
          refine V_icmp_eq (tgt := 128) e_X9_least_94 (by decide) (fun c7 => ?_) (fun c7 => absurd c7 (fun q => q rfl))
          refine V_iload e_X9_least_128 rfl ?_
          refine V_istore (L' := [some (.ref (eB E + 292)), some (.int (nI p)), some (.int (nI s)), some (.int (nI w)), some (.int (nI P)), some (.int (ov f)), some (.int (nI m1)), some (.int (nI Q1))]) e_X9_least_130 rfl ?_
          refine V_iinc (v := nI m1 + (-1)) (L' := [some (.ref (eB E + 292)), some (.int (nI p)), some (.int (nI s)), some (.int (nI w)), some (.int (nI P)), some (.int (ov f)), some (.int (nI m1 + (-1))), some (.int (nI Q1))]) e_X9_least_132 rfl rfl rfl ?_
          refine V_goto (tgt := 53) e_X9_least_135 (by decide) ?_
          rw [m1_sub]; refine V_forget 7 ?_; exact ih m1 (by omega) m1 f rfl (by omega) (fs9_no hf (fun z => by obtain ⟨Q9, y9, a, b, e⟩ := z; rw [hnx] at a; rw [← Option.some.inj a, hHQ] at b; cases b))
        · have hdum := hHQ
          have hy := hb.2.2 Q1 y (by omega) hHQ
          refine V_aload_n e_X9_least_85 rfl rfl ?_
          refine V_getr (r := 301) e_X9_least_86 F_X9_hours f_X9_34 rfl rfl ?_
          refine V_iload e_X9_least_89 rfl ?_
          refine V_ialdv (v := nI y) (j := Q1) e_X9_least_91 rfl rfl (by have q : ln 301 = 768 := rfl; omega) ((stH_at (by omega)).trans (by rw [hHQ]; rfl)) ?_
          refine V_ldc (v := (-1000000)) e_X9_least_92 k_X9_96 ?_
          refine V_icmp_eq (tgt := 128) e_X9_least_94 (by decide) (fun c8 => ((nI_nn (by omega) c8 : False)).elim) (fun c8 => ?_)
          refine V_aload_n e_X9_least_97 rfl rfl ?_
          refine V_getr (r := 301) e_X9_least_98 F_X9_hours f_X9_34 rfl rfl ?_
          refine V_iload e_X9_least_101 rfl ?_
          refine V_ialdv (v := nI y) (j := Q1) e_X9_least_103 rfl rfl (by have q : ln 301 = 768 := rfl; omega) ((stH_at (by omega)).trans (by rw [hHQ]; rfl)) ?_
          refine V_aload_n e_X9_least_104 rfl rfl ?_
          refine V_iload e_X9_least_105 rfl ?_
          refine V_iload e_X9_least_107 rfl ?_
          refine V_cvIe (av := [.int (nI P), .int (nI m1)]) (st := [.int (nI y)]) e_X9_least_109 (c_X9_costs E P m1 Q1 A (stH σ H) (stH_M hM) hA hP (by omega) hnx) l_X9_232 S_X9_costs rfl (rm_ok (by decide) (by decide)) rfl rfl (Nat.le_of_ble_eq_true rfl) ?_
          refine V_iaddN (z := nI (y + (cst A P m1))) e_X9_least_112 (nI_add _ _) ?_
          refine V_aload_n e_X9_least_113 rfl rfl ?_
          refine V_getr (r := 301) e_X9_least_114 F_X9_hours f_X9_34 rfl rfl ?_
          refine V_iload e_X9_least_117 rfl ?_
          refine V_ialdv (v := nI x) (j := P) e_X9_least_119 rfl rfl (by have q : ln 301 = 768 := rfl; omega) ((stH_at (by omega)).trans (by rw [hHP]; rfl)) ?_
          refine V_icmp_ne (tgt := 128) e_X9_least_120 (by decide) (fun c9 => ?_) (fun c9 => ?_)
          · have d9 : ¬ y + (cst A P m1) = x := nq_ne (by omega) (by omega) c9
            refine V_iload e_X9_least_128 rfl ?_
            refine V_istore (L' := [some (.ref (eB E + 292)), some (.int (nI p)), some (.int (nI s)), some (.int (nI w)), some (.int (nI P)), some (.int (ov f)), some (.int (nI m1)), some (.int (nI Q1))]) e_X9_least_130 rfl ?_
            refine V_iinc (v := nI m1 + (-1)) (L' := [some (.ref (eB E + 292)), some (.int (nI p)), some (.int (nI s)), some (.int (nI w)), some (.int (nI P)), some (.int (ov f)), some (.int (nI m1 + (-1))), some (.int (nI Q1))]) e_X9_least_132 rfl rfl rfl ?_
            refine V_goto (tgt := 53) e_X9_least_135 (by decide) ?_
            rw [m1_sub]; refine V_forget 7 ?_; exact ih m1 (by omega) m1 f rfl (by omega) (fs9_no hf (fun z => by obtain ⟨Q9, y9, a, b, e⟩ := z; rw [hnx] at a; rw [← Option.some.inj a, hHQ] at b; rw [← Option.some.inj b] at e; exact d9 e))
          · have d9 : y + (cst A P m1) = x := nq_eq (by omega) (by omega) c9
            refine V_iload e_X9_least_123 rfl ?_
            refine V_goto (tgt := 130) e_X9_least_125 (by decide) ?_
            refine V_istore (L' := [some (.ref (eB E + 292)), some (.int (nI p)), some (.int (nI s)), some (.int (nI w)), some (.int (nI P)), some (.int (nI m1)), some (.int (nI m1)), some (.int (nI Q1))]) e_X9_least_130 rfl ?_
            refine V_iinc (v := nI m1 + (-1)) (L' := [some (.ref (eB E + 292)), some (.int (nI p)), some (.int (nI s)), some (.int (nI w)), some (.int (nI P)), some (.int (nI m1)), some (.int (nI m1 + (-1))), some (.int (nI Q1))]) e_X9_least_132 rfl rfl rfl ?_
            refine V_goto (tgt := 53) e_X9_least_135 (by decide) ?_
            rw [m1_sub]; refine V_forget 7 ?_; exact ih m1 (by omega) m1 (some m1) rfl (by omega) (fs9_yes (by omega) ⟨Q1, y, hnx, hHQ, d9⟩)
set_option maxRecDepth 100000 in
set_option maxHeartbeats 4000000 in
theorem lp_X9_least_n (E : En) (p s w P : Nat) (A : Vec) (H : Nat → Option Nat) (Q : Sg → Int32 → Prop) (σ : Sg) (hA6 : A 0 ≤ 6) (hP : P < 128 * A 0) (hw : w ≤ 1) (hHP : H P = none) (hQ : Q (stH σ H) (if w = 0 then (-1000000) else (-1000000))) : ∀ (mm : Nat) (u : Nat), 0 = mm → V E m_X9_least (kM E 12 (pI Q)) 53 [some (.ref (eB E + 292)), some (.int (nI p)), some (.int (nI s)), some (.int (nI w)), some (.int (nI P)), some (.int (-1000000)), some (.int (nI 2)), none] [] (stH σ H) := by
  intro mm
  induction mm using Nat.strongRecOn with
  | ind mm ih =>
    intro u hmm 
    refine V_iload e_X9_least_53 rfl ?_
    refine V_if_lt (tgt := 138) e_X9_least_55 (by decide) (fun c1 => absurd c1 (by decide)) (fun c1 => ?_)
    refine V_aload_n e_X9_least_58 rfl rfl ?_
    refine V_getr (r := 301) e_X9_least_59 F_X9_hours f_X9_34 rfl rfl ?_
    refine V_iload e_X9_least_62 rfl ?_
    refine V_ialdv (v := (-1000000)) (j := P) e_X9_least_64 rfl rfl (by have q : ln 301 = 768 := rfl; omega) ((stH_at (by omega)).trans (by rw [hHP]; rfl)) ?_
    refine V_if_le (tgt := 138) e_X9_least_65 (by decide) (fun c2 => ?_) (fun c2 => ((c2 (by decide) : False)).elim)
    refine V_iload_n e_X9_least_138 rfl rfl ?_
    refine V_if_ne (tgt := 152) e_X9_least_139 (by decide) (fun c3 => ?_) (fun c3 => ?_)
    · have d3 : ¬ w = 0 := nq_ne (by omega) (by omega) c3
      refine V_iload e_X9_least_152 rfl ?_
      exact V_iret e_X9_least_154 rfl (by have hq := hQ; (first | rw [if_pos d3] at hq | rw [if_neg d3] at hq); exact hq)
    · have d3 : w = 0 := nq_eq (by omega) (by omega) c3
      refine V_aload_n e_X9_least_142 rfl rfl ?_
      refine V_getr (r := 301) e_X9_least_143 F_X9_hours f_X9_34 rfl rfl ?_
      refine V_iload e_X9_least_146 rfl ?_
      refine V_ialdv (v := (-1000000)) (j := P) e_X9_least_148 rfl rfl (by have q : ln 301 = 768 := rfl; omega) ((stH_at (by omega)).trans (by rw [hHP]; rfl)) ?_
      refine V_goto (tgt := 154) e_X9_least_149 (by decide) ?_
      exact V_iret e_X9_least_154 rfl (by have hq := hQ; (first | rw [if_pos d3] at hq | rw [if_neg d3] at hq); exact hq)
set_option maxRecDepth 100000 in
set_option maxHeartbeats 4000000 in
theorem lp_X9_least_z (E : En) (p s w P : Nat) (A : Vec) (H : Nat → Option Nat) (Q : Sg → Int32 → Prop) (σ : Sg) (hA6 : A 0 ≤ 6) (hP : P < 128 * A 0) (hw : w ≤ 1) (hHP : H P = some 0) (hQ : Q (stH σ H) (if w = 0 then nI 0 else (-1000000))) : ∀ (mm : Nat) (u : Nat), 0 = mm → V E m_X9_least (kM E 12 (pI Q)) 53 [some (.ref (eB E + 292)), some (.int (nI p)), some (.int (nI s)), some (.int (nI w)), some (.int (nI P)), some (.int (-1000000)), some (.int (nI 2)), none] [] (stH σ H) := by
  intro mm
  induction mm using Nat.strongRecOn with
  | ind mm ih =>
    intro u hmm 
    refine V_iload e_X9_least_53 rfl ?_
    refine V_if_lt (tgt := 138) e_X9_least_55 (by decide) (fun c1 => absurd c1 (by decide)) (fun c1 => ?_)
    refine V_aload_n e_X9_least_58 rfl rfl ?_
    refine V_getr (r := 301) e_X9_least_59 F_X9_hours f_X9_34 rfl rfl ?_
    refine V_iload e_X9_least_62 rfl ?_
    refine V_ialdv (v := nI 0) (j := P) e_X9_least_64 rfl rfl (by have q : ln 301 = 768 := rfl; omega) ((stH_at (by omega)).trans (by rw [hHP]; rfl)) ?_
    refine V_if_le (tgt := 138) e_X9_least_65 (by decide) (fun c2 => ?_) (fun c2 => absurd c2 (by decide))
    refine V_iload_n e_X9_least_138 rfl rfl ?_
    refine V_if_ne (tgt := 152) e_X9_least_139 (by decide) (fun c3 => ?_) (fun c3 => ?_)
    · have d3 : ¬ w = 0 := nq_ne (by omega) (by omega) c3
      refine V_iload e_X9_least_152 rfl ?_
      exact V_iret e_X9_least_154 rfl (by have hq := hQ; (first | rw [if_pos d3] at hq | rw [if_neg d3] at hq); exact hq)
    · have d3 : w = 0 := nq_eq (by omega) (by omega) c3
      refine V_aload_n e_X9_least_142 rfl rfl ?_
      refine V_getr (r := 301) e_X9_least_143 F_X9_hours f_X9_34 rfl rfl ?_
      refine V_iload e_X9_least_146 rfl ?_
      refine V_ialdv (v := nI 0) (j := P) e_X9_least_148 rfl rfl (by have q : ln 301 = 768 := rfl; omega) ((stH_at (by omega)).trans (by rw [hHP]; rfl)) ?_
      refine V_goto (tgt := 154) e_X9_least_149 (by decide) ?_
      exact V_iret e_X9_least_154 rfl (by have hq := hQ; (first | rw [if_pos d3] at hq | rw [if_neg d3] at hq); exact hq)
theorem IM.sH {σ : Sg} {S : Ab} {H : Nat → Option Nat} (h : IM σ S) : IM (stH σ H) S := h.fr (fun a k hk => layH_ne (fun q => by rw [q] at hk; exact absurd hk (by show ¬ 0 < 0; decide)))
theorem sH_fb {σ : Sg} {H : Nat → Option Nat} : Fb 292 307 σ (stH σ H) := fun a k hk => layH_ne (by omega)
set_option maxRecDepth 100000 in
set_option maxHeartbeats 4000000 in
theorem c9_least (E : En) (x y z : Int32) (A : Vec) (T : AbT) (σ : Sg) (hJ0 : IM σ (A, T)) : Cn E m_X9_least 12 [.ref (eB E + 292), .int x, .int y, .int z] σ (pM σ (oLeast (A, T) x y z)) := by
  have hGD : GD A := hJ0.1.1
  have hN : WN A := hGD.1
  have hNl := hN.le
  have hA4 : A 4 ≤ 999 := hGD.2.2
  have hG := hJ0.1
  have h2G := pow6 hNl.1
  refine Cn.of [some (.ref (eB E + 292)), some (.int x), some (.int y), some (.int z), none, none, none, none] (by decide) (Nat.le_of_ble_eq_true rfl) rfl ?_
  refine V_aload_n e_X9_least_0 rfl rfl ?_
  refine V_iconst (v := nI 0) e_X9_least_1 (by decide) ?_
  refine V_puti e_X9_least_2 F_X9_thrown f_X9_53 rfl ?_
  generalize hτ : up2 σ 292 0 (nI 0) = τ
  have hfb : Fb 292 307 σ τ := hτ ▸ th_fb
  have hJ : IM τ (A, T) := hτ ▸ hJ0.fm Fm.th
  have hM : RepM τ 296 A := hJ.2.1
  refine V_aload_n e_X9_least_5 rfl rfl ?_
  refine V_iload_n e_X9_least_6 rfl rfl ?_
  refine V_cvIe (av := [.int x]) (st := []) e_X9_least_7 (c_X9_isMan E x A τ hM) l_X9_204 S_X9_isMan rfl (rm_ok (by decide) (by decide)) rfl rfl (Nat.le_of_ble_eq_true rfl) ?_
  refine V_if_eq (tgt := 31) e_X9_least_10 (by decide) (fun c1 => ?_) (fun c1 => ?_)
  · refine V_ldc (v := (-1000001)) e_X9_least_31 k_X9_73 ?_
    exact V_iret e_X9_least_33 rfl (by rw [show oLeast (A, T) x y z = ((A, T), (-1000001)) from (by unfold oLeast; (try unfold gIn); (try dsimp only); (try (repeat rw [ixN (by omega)])); (first | rw [if_pos c1] | rw [if_neg c1] | skip); try rfl)]; exact ⟨hfb, hJ, rfl⟩)
  · obtain ⟨p, hp, rfl⟩ := (wi_nat (by omega)).mp c1
    have hF : WF A := hN.wf (by omega)
    refine V_aload_n e_X9_least_13 rfl rfl ?_
    refine V_iload_n e_X9_least_14 rfl rfl ?_
    refine V_cvIe (av := [.int y]) (st := []) e_X9_least_15 (c_X9_areGates E y A τ hM hNl.1) l_X9_235 S_X9_areGates rfl (rm_ok (by decide) (by decide)) rfl rfl (Nat.le_of_ble_eq_true rfl) ?_
    refine V_if_eq (tgt := 31) e_X9_least_18 (by decide) (fun c2 => ?_) (fun c2 => ?_)
    · refine V_ldc (v := (-1000001)) e_X9_least_31 k_X9_73 ?_
      exact V_iret e_X9_least_33 rfl (by rw [show oLeast (A, T) (nI p) y z = ((A, T), (-1000001)) from (by unfold oLeast; (try unfold gIn); (try dsimp only); (try (repeat rw [ixN (by omega)])); (first | rw [if_pos c1] | rw [if_neg c1] | skip); (first | rw [if_pos c2] | rw [if_neg c2] | skip); try rfl)]; exact ⟨hfb, hJ, rfl⟩)
    · obtain ⟨s, hs, rfl⟩ := (wi_nat (by omega)).mp c2
      refine V_iload_n e_X9_least_21 rfl rfl ?_
      refine V_i2l e_X9_least_22 ?_
      refine V_lconst (v := lN 0) e_X9_least_23 (by decide) ?_
      refine V_lconst (v := lN 1) e_X9_least_24 (by decide) ?_
      refine V_csIe (av := [.long z.toInt64, .long (lN 0), .long (lN 1)]) (st := []) e_X9_least_25 (c_X9_inN E z (nI 0) (nI 1) (lN 0) (lN 1) τ (nI_l (by omega)) (nI_l (by omega))) l_X9_63 S_X9_in (rm_ok (by decide) (by decide)) rfl rfl (Nat.le_of_ble_eq_true rfl) ?_
      refine V_if_ne (tgt := 34) e_X9_least_28 (by decide) (fun c3 => ?_) (fun c3 => ?_)
      · obtain ⟨w, hwa, hw, rfl⟩ := (wi_le (by omega) (by omega)).mp c3
        refine V_aload_n e_X9_least_34 rfl rfl ?_
        refine V_iload_n e_X9_least_35 rfl rfl ?_
        refine V_cvV (av := [.int (nI s)]) (st := []) e_X9_least_36 (c_X9_measure E s A τ hM hF.1 (by omega)) l_X9_238 S_X9_measure rfl (rm_ok (by decide) (by decide)) rfl rfl (Nat.le_of_ble_eq_true rfl) ?_
        intro ρ hh
        obtain ⟨H, rfl, hb, hfx⟩ := hh
        have hpl := plO_lt hF hp
        refine V_aload_n e_X9_least_39 rfl rfl ?_
        refine V_iload_n e_X9_least_40 rfl rfl ?_
        refine V_cvIe (av := [.int (nI p)]) (st := []) e_X9_least_41 (c_X9_placeOf E p A (stH τ H) (stH_M hM) (by omega)) l_X9_241 S_X9_placeOf rfl (rm_ok (by decide) (by decide)) rfl rfl (Nat.le_of_ble_eq_true rfl) ?_
        refine V_istore (L' := [some (.ref (eB E + 292)), some (.int (nI p)), some (.int (nI s)), some (.int (nI w)), some (.int (nI (plO A p))), none, none, none]) e_X9_least_44 rfl ?_
        refine V_ldc (v := (-1000000)) e_X9_least_46 k_X9_96 ?_
        refine V_istore (L' := [some (.ref (eB E + 292)), some (.int (nI p)), some (.int (nI s)), some (.int (nI w)), some (.int (nI (plO A p))), some (.int (-1000000)), none, none]) e_X9_least_48 rfl ?_
        refine V_iconst (v := nI 2) e_X9_least_50 (by decide) ?_
        refine V_istore (L' := [some (.ref (eB E + 292)), some (.int (nI p)), some (.int (nI s)), some (.int (nI w)), some (.int (nI (plO A p))), some (.int (-1000000)), some (.int (nI 2)), none]) e_X9_least_51 rfl ?_
        rcases hHP : H (plO A p) with _ | x
        · exact lp_X9_least_n E p s w (plO A p) A H (fun σ' r => Fb 292 307 σ σ' ∧ IM σ' (oLeast (A, T) (nI p) (nI s) (nI w)).1 ∧ r = (oLeast (A, T) (nI p) (nI s) (nI w)).2) τ hNl.1 hpl (by omega) hHP (by split <;> exact (by rw [show oLeast (A, T) (nI p) (nI s) (nI w) = ((A, T), (-1000000)) from (by unfold oLeast; (try unfold gIn); (try dsimp only); (try (repeat rw [ixN (by omega)])); rw [if_neg c1, if_neg c2, if_neg c3, lsV_eq (LSq_none hF.1 hb hfx hpl hHP)])]; exact ⟨hfb.tr sH_fb, hJ.sH, rfl⟩)) 0 0 rfl
        · by_cases hx0 : x = 0
          · subst hx0; exact lp_X9_least_z E p s w (plO A p) A H (fun σ' r => Fb 292 307 σ σ' ∧ IM σ' (oLeast (A, T) (nI p) (nI s) (nI w)).1 ∧ r = (oLeast (A, T) (nI p) (nI s) (nI w)).2) τ hNl.1 hpl (by omega) hHP (by rw [show oLeast (A, T) (nI p) (nI s) (nI w) = ((A, T), if w = 0 then nI 0 else ov none) from (by unfold oLeast; (try unfold gIn); (try dsimp only); (try (repeat rw [ixN (by omega)])); rw [if_neg c1, if_neg c2, if_neg c3, lsV_eq (LSq_some (f := none) hF.1 hb hfx hpl hHP (fun z => absurd rfl z) (fun _ => rfl))])]; exact ⟨hfb.tr sH_fb, hJ.sH, rfl⟩) 0 0 rfl
          · have hx1 := hb.2.2 _ x (by omega) hHP; have hx2 := mC_le H; rw [show nI 2 = nI 3 - nI 1 from by decide]; exact lp_X9_least_1 E p s w (plO A p) x A H (fun σ' r => Fb 292 307 σ σ' ∧ IM σ' (oLeast (A, T) (nI p) (nI s) (nI w)).1 ∧ r = (oLeast (A, T) (nI p) (nI s) (nI w)).2) τ hM hF.1 hNl.1 hb hpl (by omega) hHP hx0 (by omega) (fun f9 hf9 => (by rw [show oLeast (A, T) (nI p) (nI s) (nI w) = ((A, T), if w = 0 then nI x else ov f9) from (by unfold oLeast; (try unfold gIn); (try dsimp only); (try (repeat rw [ixN (by omega)])); rw [if_neg c1, if_neg c2, if_neg c3, lsV_eq (LSq_some hF.1 hb hfx hpl hHP (fun _ => hf9) (fun z => absurd z hx0))])]; exact ⟨hfb.tr sH_fb, hJ.sH, rfl⟩)) 3 3 none rfl (by omega) (Or.inl ⟨rfl, fun m1 a1 a2 => absurd a2 (by omega)⟩)
      · refine V_ldc (v := (-1000001)) e_X9_least_31 k_X9_73 ?_
        exact V_iret e_X9_least_33 rfl (by rw [show oLeast (A, T) (nI p) (nI s) z = ((A, T), (-1000001)) from (by unfold oLeast; (try unfold gIn); (try dsimp only); (try (repeat rw [ixN (by omega)])); (first | rw [if_pos c1] | rw [if_neg c1] | skip); (first | rw [if_pos c2] | rw [if_neg c2] | skip); (first | rw [if_pos c3] | rw [if_neg c3] | skip); try rfl)]; exact ⟨hfb, hJ, rfl⟩)

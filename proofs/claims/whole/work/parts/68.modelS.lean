def RM (σ τ : Sg) (T : Tp) (X : PX) : Prop := (X.1 = 0 ∧ M0 σ τ T X.2.2.1 X.2.2.2 ∧ PV X.2.2.2) ∨ (¬ X.1 = 0 ∧ X.1 ≤ 3 ∧ MF σ τ X.1 X.2.1)
theorem pTake_A {T : Tp} {w : Nat} {X : PX} : (pTake T w X).2.2.2 = X.2.2.2 := by unfold pTake; (repeat' split) <;> rfl
theorem pNum_A {T : Tp} {lo hi : Nat} {X : PX} : (pNum T lo hi X).2.2.2 = X.2.2.2 := by unfold pNum; (repeat' split) <;> rfl
theorem pMap_A {f : Vec → Vec} {X : PX} {q p : Nat} {B : Vec} (h : pMap f X = (0, q, p, B)) : B = f X.2.2.2 := by
  unfold pMap at h
  split at h
  · rw [Prod.mk.injEq, Prod.mk.injEq, Prod.mk.injEq] at h; exact h.2.2.2.symm
  · rename_i z; rw [h] at z; exact absurd rfl z
theorem pGate_A {T : Tp} {q p q1 p1 : Nat} {A A1 : Vec} (h0 : A 0 ≤ 6) (h : pGate T (0, q, p, A) = (0, q1, p1, A1)) : A1 0 = A 0 + 1 ∧ A1 1 = A 1 ∧ A 0 < 6 := by
  by_cases e : A 0 = 6
  · rw [pGate_6 e, Prod.mk.injEq] at h; exact absurd h.1 (by decide)
  · rw [pGate_0 e] at h
    have h2 := pMap_A h
    rw [pTake_A, pNum_A, pTake_A, pNum_A] at h2
    rw [h2]
    exact ⟨gV_0, gV_lo (by omega) (by omega) (by omega) (by omega), by omega⟩
theorem pMan_A {T : Tp} {q p q1 p1 : Nat} {A A1 : Vec} (h0 : A 1 ≤ 5) (h : pMan T (0, q, p, A) = (0, q1, p1, A1)) : A1 1 = A 1 + 1 ∧ A1 0 = A 0 ∧ A 1 < 5 := by
  by_cases e : A 1 = 5
  · rw [pMan_5 e, Prod.mk.injEq] at h; exact absurd h.1 (by decide)
  · rw [pMan_0 e] at h
    have h2 := pMap_A h
    rw [pTake_A, pNum_A, pTake_A, pNum_A, pTake_A, pNum_A] at h2
    rw [h2]
    exact ⟨mV_1, mV_lo (by omega) (by omega) (by omega) (by omega), by omega⟩
set_option maxRecDepth 100000 in
set_option maxHeartbeats 4000000 in
theorem c_X9_readGate_0 (E : En) (q : Nat) (T : Tp) (p : Nat) (A : Vec) (σ τ : Sg) (hMT : MT σ T) (hTb : T.1 ≤ 100) (hT6 : ∀ j, j < T.1 → T.2 j < 256) (h0 : M0 σ τ T p A) (hV : PV A) (hs : ¬ srt (tok T p) = 0) : Cn E m_X9_readGate 5 [.ref (eB E + 292)] τ (pV (fun σ' => RM σ σ' T (pGate T (0, q, p, A)))) := by
  have h06 := hV.1
  refine Cn.of [some (.ref (eB E + 292)), none, none, none, none] (by decide) (Nat.le_of_ble_eq_true rfl) rfl ?_
  refine V_aload_n e_X9_readGate_0 rfl rfl ?_
  refine V_getiv (v := nI (tok T p)) e_X9_readGate_1 F_X9_value f_X9_97 rfl (h0.2.2.1.2.2.2.1 (Or.inl (mtk_2.mpr (srt_lt hs)))) ?_
  refine V_csIe (av := [.int (nI (tok T p))]) (st := []) e_X9_readGate_4 (c_X9_kindBy E (nI (tok T p)) τ) l_X9_125 S_X9_kindBy (rm_ok (by decide) (by decide)) rfl rfl (Nat.le_of_ble_eq_true rfl) ?_
  refine V_topi (y := nI (srt (tok T p))) ((kb_n (by have := tok_lt (c := p) hT6; omega)).trans (if_neg hs)) ?_
  refine V_istore_n (L' := [some (.ref (eB E + 292)), some (.int (nI (srt (tok T p)))), none, none, none]) e_X9_readGate_7 rfl rfl ?_
  refine V_aload_n e_X9_readGate_8 rfl rfl ?_
  refine V_getr (r := 297) e_X9_readGate_9 F_X9_fresh f_X9_22 rfl rfl ?_
  refine V_iconst (v := nI 0) e_X9_readGate_12 (by decide) ?_
  refine V_ialdv (v := nI (A 0)) (j := 0) e_X9_readGate_13 rfl rfl (by decide) (h0.2.2.2.2 0 (by omega)) ?_
  refine V_bipush (v := nI 6) e_X9_readGate_14 (by decide) ?_
  refine V_icmp_ne (tgt := 24) e_X9_readGate_16 (by decide) (fun c1 => ?_) (fun c1 => ?_)
  · have d1 : ¬ A 0 = 6 := nq_ne (by omega) (by omega) c1
    refine V_aload_n e_X9_readGate_24 rfl rfl ?_
    refine V_iconst (v := nI 1) e_X9_readGate_25 (by decide) ?_
    refine V_cvV (av := [.int (nI 1)]) (st := []) e_X9_readGate_26 (c_X9_must_1 E T p A σ τ hMT hTb hT6 h0) l_X9_118 S_X9_must rfl (rm_ok (by decide) (by decide)) rfl rfl (Nat.le_of_ble_eq_true rfl) ?_
    intro τ1 hh1
    refine V_aload_n e_X9_readGate_29 rfl rfl ?_
    refine V_iconst (v := nI 1) e_X9_readGate_30 (by decide) ?_
    refine V_bipush (v := nI 9) e_X9_readGate_31 (by decide) ?_
    refine V_cvI (av := [.int (nI 1), .int (nI 9)]) (st := []) e_X9_readGate_33 (c_X9_number_0 E 1 9 T (nx T p) A σ τ1 hMT hTb hT6 hh1 (by omega) (by omega)) l_X9_128 S_X9_number rfl (rm_ok (by decide) (by decide)) rfl rfl (Nat.le_of_ble_eq_true rfl) ?_
    intro τ2 r2 hh2
    rcases hh2 with ⟨ht2, hv2, hr2, hm2⟩ | ⟨ht2, hr2, hm2⟩ | ⟨ht2, hv2, hr2, hm2⟩
    · subst hr2
      refine V_istore_n (L' := [some (.ref (eB E + 292)), some (.int (nI (srt (tok T p)))), some (.int (nI (vl T (nx T p)))), none, none]) e_X9_readGate_36 rfl rfl ?_
      refine V_aload_n e_X9_readGate_37 rfl rfl ?_
      refine V_bipush (v := nI 44) e_X9_readGate_38 (by decide) ?_
      refine V_cvV (av := [.int (nI 44)]) (st := []) e_X9_readGate_40 (c_X9_mustSign_0 E 44 T (nx T (nx T p)) A σ τ2 hMT hTb hT6 hm2 (by decide)) l_X9_132 S_X9_mustSign rfl (rm_ok (by decide) (by decide)) rfl rfl (Nat.le_of_ble_eq_true rfl) ?_
      intro τ3 hh3
      rcases hh3 with ⟨ht3, hm3⟩ | ⟨ht3, hm3⟩
      · skip
        refine V_aload_n e_X9_readGate_43 rfl rfl ?_
        refine V_iconst (v := nI 0) e_X9_readGate_44 (by decide) ?_
        refine V_iconst (v := nI 1) e_X9_readGate_45 (by decide) ?_
        refine V_cvI (av := [.int (nI 0), .int (nI 1)]) (st := []) e_X9_readGate_46 (c_X9_number_0 E 0 1 T (nx T (nx T (nx T p))) A σ τ3 hMT hTb hT6 hm3 (by omega) (by omega)) l_X9_128 S_X9_number rfl (rm_ok (by decide) (by decide)) rfl rfl (Nat.le_of_ble_eq_true rfl) ?_
        intro τ4 r4 hh4
        rcases hh4 with ⟨ht4, hv4, hr4, hm4⟩ | ⟨ht4, hr4, hm4⟩ | ⟨ht4, hv4, hr4, hm4⟩
        · subst hr4
          refine V_istore_n (L' := [some (.ref (eB E + 292)), some (.int (nI (srt (tok T p)))), some (.int (nI (vl T (nx T p)))), some (.int (nI (vl T (nx T (nx T (nx T p)))))), none]) e_X9_readGate_49 rfl rfl ?_
          refine V_aload_n e_X9_readGate_50 rfl rfl ?_
          refine V_bipush (v := nI 59) e_X9_readGate_51 (by decide) ?_
          refine V_cvV (av := [.int (nI 59)]) (st := []) e_X9_readGate_53 (c_X9_mustSign_0 E 59 T (nx T (nx T (nx T (nx T p)))) A σ τ4 hMT hTb hT6 hm4 (by decide)) l_X9_132 S_X9_mustSign rfl (rm_ok (by decide) (by decide)) rfl rfl (Nat.le_of_ble_eq_true rfl) ?_
          intro τ5 hh5
          rcases hh5 with ⟨ht5, hm5⟩ | ⟨ht5, hm5⟩
          · skip
            refine V_aload_n e_X9_readGate_56 rfl rfl ?_
            refine V_getiv (v := nI 0) e_X9_readGate_57 F_X9_fault f_X9_84 rfl hm5.2.1 ?_
            refine V_if_ne (tgt := 114) e_X9_readGate_60 (by decide) (fun c2 => absurd c2 (by decide)) (fun c2 => ?_)
            refine V_bipush (v := nI 7) e_X9_readGate_63 (by decide) ?_
            refine V_iconst (v := nI 3) e_X9_readGate_65 (by decide) ?_
            refine V_aload_n e_X9_readGate_66 rfl rfl ?_
            refine V_getr (r := 297) e_X9_readGate_67 F_X9_fresh f_X9_22 rfl rfl ?_
            refine V_iconst (v := nI 0) e_X9_readGate_70 (by decide) ?_
            refine V_ialdv (v := nI (A 0)) (j := 0) e_X9_readGate_71 rfl rfl (by decide) (hm5.2.2.2.2 0 (by omega)) ?_
            refine V_imulN (z := nI (3 * (A 0))) e_X9_readGate_72 (pk_mul _ _) ?_
            refine V_iaddN (z := nI (7 + (3 * (A 0)))) e_X9_readGate_73 (nI_add _ _) ?_
            refine V_istore (L' := [some (.ref (eB E + 292)), some (.int (nI (srt (tok T p)))), some (.int (nI (vl T (nx T p)))), some (.int (nI (vl T (nx T (nx T (nx T p)))))), some (.int (nI (7 + (3 * (A 0)))))]) e_X9_readGate_74 rfl ?_
            refine V_aload_n e_X9_readGate_76 rfl rfl ?_
            refine V_getr (r := 297) e_X9_readGate_77 F_X9_fresh f_X9_22 rfl rfl ?_
            refine V_iload e_X9_readGate_80 rfl ?_
            refine V_iload_n e_X9_readGate_82 rfl rfl ?_
            refine V_iast (j := (7 + (3 * (A 0)))) e_X9_readGate_83 rfl rfl (by have q : ln 297 = 55 := rfl; omega) ?_
            refine V_aload_n e_X9_readGate_84 rfl rfl ?_
            refine V_getr (r := 297) e_X9_readGate_85 F_X9_fresh f_X9_22 rfl rfl ?_
            refine V_iload e_X9_readGate_88 rfl ?_
            refine V_iconst (v := nI 1) e_X9_readGate_90 (by decide) ?_
            refine V_iaddN (z := nI (7 + (3 * (A 0)) + 1)) e_X9_readGate_91 (nI_add _ _) ?_
            refine V_iload_n e_X9_readGate_92 rfl rfl ?_
            refine V_iast (j := (7 + (3 * (A 0)) + 1)) e_X9_readGate_93 rfl rfl (by have q : ln 297 = 55 := rfl; omega) ?_
            refine V_aload_n e_X9_readGate_94 rfl rfl ?_
            refine V_getr (r := 297) e_X9_readGate_95 F_X9_fresh f_X9_22 rfl rfl ?_
            refine V_iload e_X9_readGate_98 rfl ?_
            refine V_iconst (v := nI 2) e_X9_readGate_100 (by decide) ?_
            refine V_iaddN (z := nI (7 + (3 * (A 0)) + 2)) e_X9_readGate_101 (nI_add _ _) ?_
            refine V_iload_n e_X9_readGate_102 rfl rfl ?_
            refine V_iast (j := (7 + (3 * (A 0)) + 2)) e_X9_readGate_103 rfl rfl (by have q : ln 297 = 55 := rfl; omega) ?_
            refine V_aload_n e_X9_readGate_104 rfl rfl ?_
            refine V_getr (r := 297) e_X9_readGate_105 F_X9_fresh f_X9_22 rfl rfl ?_
            refine V_iconst (v := nI 0) e_X9_readGate_108 (by decide) ?_
            refine V_dup2 e_X9_readGate_109 rfl rfl ?_
            refine V_ialdv (v := nI (A 0)) (j := 0) e_X9_readGate_110 rfl rfl (by have q : ln 297 = 55 := rfl; omega) ((up2_k (by omega)).trans ((up2_k (by omega)).trans ((up2_k (by omega)).trans (hm5.2.2.2.2 0 (by omega))))) ?_
            refine V_iconst (v := nI 1) e_X9_readGate_111 (by decide) ?_
            refine V_iaddN (z := nI (A 0 + 1)) e_X9_readGate_112 (nI_add _ _) ?_
            refine V_iast (j := 0) e_X9_readGate_113 rfl rfl (by have q : ln 297 = 55 := rfl; omega) ?_
            exact V_vret e_X9_readGate_114 rfl (by have hX : pGate T (0, q, p, A) = (0, q, nx T (nx T (nx T (nx T (nx T p)))), gV (srt (tok T p)) (vl T (nx T p)) (vl T (nx T (nx T (nx T p)))) A) := (by simp only [pGate_0 (show ¬ A 0 = 6 by omega), pNum_y ht2 hv2, pTake_y ht3, pNum_y ht4 hv4, pTake_y ht5, tk_f1, tk_f2, nm_f1, nm_f2, mp_f1, mp_f2, pMap_y]); rw [hX]; exact Or.inl ⟨rfl, (((M0.uf hm5 (by omega)).uf (by omega)).uf (by omega)).uf (by omega), hV.g (by omega) (by omega) (srt_le _) hv2.1 hv2.2 hv4.2⟩)
          · skip
            refine V_aload_n e_X9_readGate_56 rfl rfl ?_
            refine V_getiv (v := nI 1) e_X9_readGate_57 F_X9_fault f_X9_84 rfl hm5.2.1 ?_
            refine V_if_ne (tgt := 114) e_X9_readGate_60 (by decide) (fun c3 => ?_) (fun c3 => absurd c3 (by decide))
            exact V_vret e_X9_readGate_114 rfl (by have hX : (pGate T (0, q, p, A)).1 = 1 ∧ (pGate T (0, q, p, A)).2.1 = nx T (nx T (nx T (nx T p))) := (by constructor <;> simp only [pGate_0 (show ¬ A 0 = 6 by omega), pNum_y ht2 hv2, pTake_y ht3, pNum_y ht4 hv4, pTake_n ht5, tk_f1, tk_f2, nm_f1, nm_f2, mp_f1, mp_f2, pMap_y]); exact Or.inr ⟨by rw [hX.1]; decide, by rw [hX.1]; decide, by rw [hX.1, hX.2]; exact hm5⟩)
        · subst hr4
          refine V_istore_n (L' := [some (.ref (eB E + 292)), some (.int (nI (srt (tok T p)))), some (.int (nI (vl T (nx T p)))), some (.int (nI 0)), none]) e_X9_readGate_49 rfl rfl ?_
          refine V_aload_n e_X9_readGate_50 rfl rfl ?_
          refine V_bipush (v := nI 59) e_X9_readGate_51 (by decide) ?_
          refine V_cvV (av := [.int (nI 59)]) (st := []) e_X9_readGate_53 (c_X9_mustSign_f E (nI 59) 1 (nx T (nx T (nx T p))) σ τ4 hm4 (by decide) (by decide)) l_X9_132 S_X9_mustSign rfl (rm_ok (by decide) (by decide)) rfl rfl (Nat.le_of_ble_eq_true rfl) ?_
          intro τ5 hh5
          refine V_aload_n e_X9_readGate_56 rfl rfl ?_
          refine V_getiv (v := nI 1) e_X9_readGate_57 F_X9_fault f_X9_84 rfl hh5.2.1 ?_
          refine V_if_ne (tgt := 114) e_X9_readGate_60 (by decide) (fun c4 => ?_) (fun c4 => absurd c4 (by decide))
          exact V_vret e_X9_readGate_114 rfl (by have hX : (pGate T (0, q, p, A)).1 = 1 ∧ (pGate T (0, q, p, A)).2.1 = nx T (nx T (nx T p)) := (by constructor <;> simp only [pGate_0 (show ¬ A 0 = 6 by omega), pNum_y ht2 hv2, pTake_y ht3, pNum_n ht4, tk_f1, tk_f2, nm_f1, nm_f2, mp_f1, mp_f2, pMap_y]); exact Or.inr ⟨by rw [hX.1]; decide, by rw [hX.1]; decide, by rw [hX.1, hX.2]; exact hh5⟩)
        · subst hr4
          refine V_istore_n (L' := [some (.ref (eB E + 292)), some (.int (nI (srt (tok T p)))), some (.int (nI (vl T (nx T p)))), some (.int (nI 0)), none]) e_X9_readGate_49 rfl rfl ?_
          refine V_aload_n e_X9_readGate_50 rfl rfl ?_
          refine V_bipush (v := nI 59) e_X9_readGate_51 (by decide) ?_
          refine V_cvV (av := [.int (nI 59)]) (st := []) e_X9_readGate_53 (c_X9_mustSign_f E (nI 59) 2 (nx T (nx T (nx T p))) σ τ4 hm4 (by decide) (by decide)) l_X9_132 S_X9_mustSign rfl (rm_ok (by decide) (by decide)) rfl rfl (Nat.le_of_ble_eq_true rfl) ?_
          intro τ5 hh5
          refine V_aload_n e_X9_readGate_56 rfl rfl ?_
          refine V_getiv (v := nI 2) e_X9_readGate_57 F_X9_fault f_X9_84 rfl hh5.2.1 ?_
          refine V_if_ne (tgt := 114) e_X9_readGate_60 (by decide) (fun c5 => ?_) (fun c5 => absurd c5 (by decide))
          exact V_vret e_X9_readGate_114 rfl (by have hX : (pGate T (0, q, p, A)).1 = 2 ∧ (pGate T (0, q, p, A)).2.1 = nx T (nx T (nx T p)) := (by constructor <;> simp only [pGate_0 (show ¬ A 0 = 6 by omega), pNum_y ht2 hv2, pTake_y ht3, pNum_r ht4 hv4, tk_f1, tk_f2, nm_f1, nm_f2, mp_f1, mp_f2, pMap_y]); exact Or.inr ⟨by rw [hX.1]; decide, by rw [hX.1]; decide, by rw [hX.1, hX.2]; exact hh5⟩)
      · skip
        refine V_aload_n e_X9_readGate_43 rfl rfl ?_
        refine V_iconst (v := nI 0) e_X9_readGate_44 (by decide) ?_
        refine V_iconst (v := nI 1) e_X9_readGate_45 (by decide) ?_
        refine V_cvI (av := [.int (nI 0), .int (nI 1)]) (st := []) e_X9_readGate_46 (c_X9_number_f E (nI 0) (nI 1) 1 (nx T (nx T p)) σ τ3 hm3 (by decide) (by decide)) l_X9_128 S_X9_number rfl (rm_ok (by decide) (by decide)) rfl rfl (Nat.le_of_ble_eq_true rfl) ?_
        intro τ4 r4 hq4
        obtain ⟨rfl, hh4⟩ := hq4
        refine V_istore_n (L' := [some (.ref (eB E + 292)), some (.int (nI (srt (tok T p)))), some (.int (nI (vl T (nx T p)))), some (.int (nI 0)), none]) e_X9_readGate_49 rfl rfl ?_
        refine V_aload_n e_X9_readGate_50 rfl rfl ?_
        refine V_bipush (v := nI 59) e_X9_readGate_51 (by decide) ?_
        refine V_cvV (av := [.int (nI 59)]) (st := []) e_X9_readGate_53 (c_X9_mustSign_f E (nI 59) 1 (nx T (nx T p)) σ τ4 hh4 (by decide) (by decide)) l_X9_132 S_X9_mustSign rfl (rm_ok (by decide) (by decide)) rfl rfl (Nat.le_of_ble_eq_true rfl) ?_
        intro τ5 hh5
        refine V_aload_n e_X9_readGate_56 rfl rfl ?_
        refine V_getiv (v := nI 1) e_X9_readGate_57 F_X9_fault f_X9_84 rfl hh5.2.1 ?_
        refine V_if_ne (tgt := 114) e_X9_readGate_60 (by decide) (fun c6 => ?_) (fun c6 => absurd c6 (by decide))
        exact V_vret e_X9_readGate_114 rfl (by have hX : (pGate T (0, q, p, A)).1 = 1 ∧ (pGate T (0, q, p, A)).2.1 = nx T (nx T p) := (by constructor <;> simp only [pGate_0 (show ¬ A 0 = 6 by omega), pNum_y ht2 hv2, pTake_n ht3, tk_f1, tk_f2, nm_f1, nm_f2, mp_f1, mp_f2, pMap_y]); exact Or.inr ⟨by rw [hX.1]; decide, by rw [hX.1]; decide, by rw [hX.1, hX.2]; exact hh5⟩)
    · subst hr2
      refine V_istore_n (L' := [some (.ref (eB E + 292)), some (.int (nI (srt (tok T p)))), some (.int (nI 1)), none, none]) e_X9_readGate_36 rfl rfl ?_
      refine V_aload_n e_X9_readGate_37 rfl rfl ?_
      refine V_bipush (v := nI 44) e_X9_readGate_38 (by decide) ?_
      refine V_cvV (av := [.int (nI 44)]) (st := []) e_X9_readGate_40 (c_X9_mustSign_f E (nI 44) 1 (nx T p) σ τ2 hm2 (by decide) (by decide)) l_X9_132 S_X9_mustSign rfl (rm_ok (by decide) (by decide)) rfl rfl (Nat.le_of_ble_eq_true rfl) ?_
      intro τ3 hh3
      refine V_aload_n e_X9_readGate_43 rfl rfl ?_
      refine V_iconst (v := nI 0) e_X9_readGate_44 (by decide) ?_
      refine V_iconst (v := nI 1) e_X9_readGate_45 (by decide) ?_
      refine V_cvI (av := [.int (nI 0), .int (nI 1)]) (st := []) e_X9_readGate_46 (c_X9_number_f E (nI 0) (nI 1) 1 (nx T p) σ τ3 hh3 (by decide) (by decide)) l_X9_128 S_X9_number rfl (rm_ok (by decide) (by decide)) rfl rfl (Nat.le_of_ble_eq_true rfl) ?_
      intro τ4 r4 hq4
      obtain ⟨rfl, hh4⟩ := hq4
      refine V_istore_n (L' := [some (.ref (eB E + 292)), some (.int (nI (srt (tok T p)))), some (.int (nI 1)), some (.int (nI 0)), none]) e_X9_readGate_49 rfl rfl ?_
      refine V_aload_n e_X9_readGate_50 rfl rfl ?_
      refine V_bipush (v := nI 59) e_X9_readGate_51 (by decide) ?_
      refine V_cvV (av := [.int (nI 59)]) (st := []) e_X9_readGate_53 (c_X9_mustSign_f E (nI 59) 1 (nx T p) σ τ4 hh4 (by decide) (by decide)) l_X9_132 S_X9_mustSign rfl (rm_ok (by decide) (by decide)) rfl rfl (Nat.le_of_ble_eq_true rfl) ?_
      intro τ5 hh5
      refine V_aload_n e_X9_readGate_56 rfl rfl ?_
      refine V_getiv (v := nI 1) e_X9_readGate_57 F_X9_fault f_X9_84 rfl hh5.2.1 ?_
      refine V_if_ne (tgt := 114) e_X9_readGate_60 (by decide) (fun c7 => ?_) (fun c7 => absurd c7 (by decide))
      exact V_vret e_X9_readGate_114 rfl (by have hX : (pGate T (0, q, p, A)).1 = 1 ∧ (pGate T (0, q, p, A)).2.1 = nx T p := (by constructor <;> simp only [pGate_0 (show ¬ A 0 = 6 by omega), pNum_n ht2, tk_f1, tk_f2, nm_f1, nm_f2, mp_f1, mp_f2, pMap_y]); exact Or.inr ⟨by rw [hX.1]; decide, by rw [hX.1]; decide, by rw [hX.1, hX.2]; exact hh5⟩)
    · subst hr2
      refine V_istore_n (L' := [some (.ref (eB E + 292)), some (.int (nI (srt (tok T p)))), some (.int (nI 1)), none, none]) e_X9_readGate_36 rfl rfl ?_
      refine V_aload_n e_X9_readGate_37 rfl rfl ?_
      refine V_bipush (v := nI 44) e_X9_readGate_38 (by decide) ?_
      refine V_cvV (av := [.int (nI 44)]) (st := []) e_X9_readGate_40 (c_X9_mustSign_f E (nI 44) 2 (nx T p) σ τ2 hm2 (by decide) (by decide)) l_X9_132 S_X9_mustSign rfl (rm_ok (by decide) (by decide)) rfl rfl (Nat.le_of_ble_eq_true rfl) ?_
      intro τ3 hh3
      refine V_aload_n e_X9_readGate_43 rfl rfl ?_
      refine V_iconst (v := nI 0) e_X9_readGate_44 (by decide) ?_
      refine V_iconst (v := nI 1) e_X9_readGate_45 (by decide) ?_
      refine V_cvI (av := [.int (nI 0), .int (nI 1)]) (st := []) e_X9_readGate_46 (c_X9_number_f E (nI 0) (nI 1) 2 (nx T p) σ τ3 hh3 (by decide) (by decide)) l_X9_128 S_X9_number rfl (rm_ok (by decide) (by decide)) rfl rfl (Nat.le_of_ble_eq_true rfl) ?_
      intro τ4 r4 hq4
      obtain ⟨rfl, hh4⟩ := hq4
      refine V_istore_n (L' := [some (.ref (eB E + 292)), some (.int (nI (srt (tok T p)))), some (.int (nI 1)), some (.int (nI 0)), none]) e_X9_readGate_49 rfl rfl ?_
      refine V_aload_n e_X9_readGate_50 rfl rfl ?_
      refine V_bipush (v := nI 59) e_X9_readGate_51 (by decide) ?_
      refine V_cvV (av := [.int (nI 59)]) (st := []) e_X9_readGate_53 (c_X9_mustSign_f E (nI 59) 2 (nx T p) σ τ4 hh4 (by decide) (by decide)) l_X9_132 S_X9_mustSign rfl (rm_ok (by decide) (by decide)) rfl rfl (Nat.le_of_ble_eq_true rfl) ?_
      intro τ5 hh5
      refine V_aload_n e_X9_readGate_56 rfl rfl ?_
      refine V_getiv (v := nI 2) e_X9_readGate_57 F_X9_fault f_X9_84 rfl hh5.2.1 ?_
      refine V_if_ne (tgt := 114) e_X9_readGate_60 (by decide) (fun c8 => ?_) (fun c8 => absurd c8 (by decide))
      exact V_vret e_X9_readGate_114 rfl (by have hX : (pGate T (0, q, p, A)).1 = 2 ∧ (pGate T (0, q, p, A)).2.1 = nx T p := (by constructor <;> simp only [pGate_0 (show ¬ A 0 = 6 by omega), pNum_r ht2 hv2, tk_f1, tk_f2, nm_f1, nm_f2, mp_f1, mp_f2, pMap_y]); exact Or.inr ⟨by rw [hX.1]; decide, by rw [hX.1]; decide, by rw [hX.1, hX.2]; exact hh5⟩)
  · have d1 : A 0 = 6 := nq_eq (by omega) (by omega) c1
    refine V_aload_n e_X9_readGate_19 rfl rfl ?_
    refine V_iconst (v := nI 3) e_X9_readGate_20 (by decide) ?_
    refine V_cvV (av := [.int (nI 3)]) (st := []) e_X9_readGate_21 (c_X9_bad_0 E 3 T p A σ τ h0) l_X9_111 S_X9_bad rfl (rm_ok (by decide) (by decide)) rfl rfl (Nat.le_of_ble_eq_true rfl) ?_
    intro τ1 hh1
    refine V_aload_n e_X9_readGate_24 rfl rfl ?_
    refine V_iconst (v := nI 1) e_X9_readGate_25 (by decide) ?_
    refine V_cvV (av := [.int (nI 1)]) (st := []) e_X9_readGate_26 (c_X9_must_f E (nI 1) 3 p σ τ1 hh1 (by decide) (by decide)) l_X9_118 S_X9_must rfl (rm_ok (by decide) (by decide)) rfl rfl (Nat.le_of_ble_eq_true rfl) ?_
    intro τ2 hh2
    refine V_aload_n e_X9_readGate_29 rfl rfl ?_
    refine V_iconst (v := nI 1) e_X9_readGate_30 (by decide) ?_
    refine V_bipush (v := nI 9) e_X9_readGate_31 (by decide) ?_
    refine V_cvI (av := [.int (nI 1), .int (nI 9)]) (st := []) e_X9_readGate_33 (c_X9_number_f E (nI 1) (nI 9) 3 p σ τ2 hh2 (by decide) (by decide)) l_X9_128 S_X9_number rfl (rm_ok (by decide) (by decide)) rfl rfl (Nat.le_of_ble_eq_true rfl) ?_
    intro τ3 r3 hq3
    obtain ⟨rfl, hh3⟩ := hq3
    refine V_istore_n (L' := [some (.ref (eB E + 292)), some (.int (nI (srt (tok T p)))), some (.int (nI 1)), none, none]) e_X9_readGate_36 rfl rfl ?_
    refine V_aload_n e_X9_readGate_37 rfl rfl ?_
    refine V_bipush (v := nI 44) e_X9_readGate_38 (by decide) ?_
    refine V_cvV (av := [.int (nI 44)]) (st := []) e_X9_readGate_40 (c_X9_mustSign_f E (nI 44) 3 p σ τ3 hh3 (by decide) (by decide)) l_X9_132 S_X9_mustSign rfl (rm_ok (by decide) (by decide)) rfl rfl (Nat.le_of_ble_eq_true rfl) ?_
    intro τ4 hh4
    refine V_aload_n e_X9_readGate_43 rfl rfl ?_
    refine V_iconst (v := nI 0) e_X9_readGate_44 (by decide) ?_
    refine V_iconst (v := nI 1) e_X9_readGate_45 (by decide) ?_
    refine V_cvI (av := [.int (nI 0), .int (nI 1)]) (st := []) e_X9_readGate_46 (c_X9_number_f E (nI 0) (nI 1) 3 p σ τ4 hh4 (by decide) (by decide)) l_X9_128 S_X9_number rfl (rm_ok (by decide) (by decide)) rfl rfl (Nat.le_of_ble_eq_true rfl) ?_
    intro τ5 r5 hq5
    obtain ⟨rfl, hh5⟩ := hq5
    refine V_istore_n (L' := [some (.ref (eB E + 292)), some (.int (nI (srt (tok T p)))), some (.int (nI 1)), some (.int (nI 0)), none]) e_X9_readGate_49 rfl rfl ?_
    refine V_aload_n e_X9_readGate_50 rfl rfl ?_
    refine V_bipush (v := nI 59) e_X9_readGate_51 (by decide) ?_
    refine V_cvV (av := [.int (nI 59)]) (st := []) e_X9_readGate_53 (c_X9_mustSign_f E (nI 59) 3 p σ τ5 hh5 (by decide) (by decide)) l_X9_132 S_X9_mustSign rfl (rm_ok (by decide) (by decide)) rfl rfl (Nat.le_of_ble_eq_true rfl) ?_
    intro τ6 hh6
    refine V_aload_n e_X9_readGate_56 rfl rfl ?_
    refine V_getiv (v := nI 3) e_X9_readGate_57 F_X9_fault f_X9_84 rfl hh6.2.1 ?_
    refine V_if_ne (tgt := 114) e_X9_readGate_60 (by decide) (fun c9 => ?_) (fun c9 => absurd c9 (by decide))
    exact V_vret e_X9_readGate_114 rfl (by rw [pGate_6 (show A 0 = 6 by omega)]; exact Or.inr ⟨by show ¬ 3 = 0; decide, by show 3 ≤ 3; omega, hh6⟩)
set_option maxRecDepth 100000 in
set_option maxHeartbeats 4000000 in
theorem c_X9_readGate_f (E : En) (k q : Nat) (σ τ : Sg) (hf : MF σ τ k q) (hk : ¬ k = 0) (hk3 : k ≤ 3) : Cn E m_X9_readGate 5 [.ref (eB E + 292)] τ (pV (fun σ' => MF σ σ' k q)) := by
  refine Cn.of [some (.ref (eB E + 292)), none, none, none, none] (by decide) (Nat.le_of_ble_eq_true rfl) rfl ?_
  refine V_aload_n e_X9_readGate_0 rfl rfl ?_
  refine V_geti e_X9_readGate_1 F_X9_value f_X9_97 rfl ?_
  refine V_csIe (av := [.int (τ 292 15)]) (st := []) e_X9_readGate_4 (c_X9_kindBy E (τ 292 15) τ) l_X9_125 S_X9_kindBy (rm_ok (by decide) (by decide)) rfl rfl (Nat.le_of_ble_eq_true rfl) ?_
  refine V_istore_n (L' := [some (.ref (eB E + 292)), some (.int (kbI (τ 292 15))), none, none, none]) e_X9_readGate_7 rfl rfl ?_
  refine V_aload_n e_X9_readGate_8 rfl rfl ?_
  refine V_getr (r := 297) e_X9_readGate_9 F_X9_fresh f_X9_22 rfl rfl ?_
  refine V_iconst (v := nI 0) e_X9_readGate_12 (by decide) ?_
  refine V_iald (j := 0) e_X9_readGate_13 rfl rfl (by decide) ?_
  refine V_bipush (v := nI 6) e_X9_readGate_14 (by decide) ?_
  refine V_icmp_ne (tgt := 24) e_X9_readGate_16 (by decide) (fun c1 => ?_) (fun c1 => ?_)
  · refine V_aload_n e_X9_readGate_24 rfl rfl ?_
    refine V_iconst (v := nI 1) e_X9_readGate_25 (by decide) ?_
    refine V_cvV (av := [.int (nI 1)]) (st := []) e_X9_readGate_26 (c_X9_must_f E (nI 1) k q σ τ hf hk hk3) l_X9_118 S_X9_must rfl (rm_ok (by decide) (by decide)) rfl rfl (Nat.le_of_ble_eq_true rfl) ?_
    intro τ1 hh1
    refine V_aload_n e_X9_readGate_29 rfl rfl ?_
    refine V_iconst (v := nI 1) e_X9_readGate_30 (by decide) ?_
    refine V_bipush (v := nI 9) e_X9_readGate_31 (by decide) ?_
    refine V_cvI (av := [.int (nI 1), .int (nI 9)]) (st := []) e_X9_readGate_33 (c_X9_number_f E (nI 1) (nI 9) k q σ τ1 hh1 hk hk3) l_X9_128 S_X9_number rfl (rm_ok (by decide) (by decide)) rfl rfl (Nat.le_of_ble_eq_true rfl) ?_
    intro τ2 r2 hq2
    obtain ⟨rfl, hh2⟩ := hq2
    refine V_istore_n (L' := [some (.ref (eB E + 292)), some (.int (kbI (τ 292 15))), some (.int (nI 1)), none, none]) e_X9_readGate_36 rfl rfl ?_
    refine V_aload_n e_X9_readGate_37 rfl rfl ?_
    refine V_bipush (v := nI 44) e_X9_readGate_38 (by decide) ?_
    refine V_cvV (av := [.int (nI 44)]) (st := []) e_X9_readGate_40 (c_X9_mustSign_f E (nI 44) k q σ τ2 hh2 hk hk3) l_X9_132 S_X9_mustSign rfl (rm_ok (by decide) (by decide)) rfl rfl (Nat.le_of_ble_eq_true rfl) ?_
    intro τ3 hh3
    refine V_aload_n e_X9_readGate_43 rfl rfl ?_
    refine V_iconst (v := nI 0) e_X9_readGate_44 (by decide) ?_
    refine V_iconst (v := nI 1) e_X9_readGate_45 (by decide) ?_
    refine V_cvI (av := [.int (nI 0), .int (nI 1)]) (st := []) e_X9_readGate_46 (c_X9_number_f E (nI 0) (nI 1) k q σ τ3 hh3 hk hk3) l_X9_128 S_X9_number rfl (rm_ok (by decide) (by decide)) rfl rfl (Nat.le_of_ble_eq_true rfl) ?_
    intro τ4 r4 hq4
    obtain ⟨rfl, hh4⟩ := hq4
    refine V_istore_n (L' := [some (.ref (eB E + 292)), some (.int (kbI (τ 292 15))), some (.int (nI 1)), some (.int (nI 0)), none]) e_X9_readGate_49 rfl rfl ?_
    refine V_aload_n e_X9_readGate_50 rfl rfl ?_
    refine V_bipush (v := nI 59) e_X9_readGate_51 (by decide) ?_
    refine V_cvV (av := [.int (nI 59)]) (st := []) e_X9_readGate_53 (c_X9_mustSign_f E (nI 59) k q σ τ4 hh4 hk hk3) l_X9_132 S_X9_mustSign rfl (rm_ok (by decide) (by decide)) rfl rfl (Nat.le_of_ble_eq_true rfl) ?_
    intro τ5 hh5
    refine V_aload_n e_X9_readGate_56 rfl rfl ?_
    refine V_getiv (v := nI k) e_X9_readGate_57 F_X9_fault f_X9_84 rfl hh5.2.1 ?_
    refine V_if_ne (tgt := 114) e_X9_readGate_60 (by decide) (fun c2 => ?_) (fun c2 => ((absurd (show k = 0 from nq_eq (by omega) (by omega) c2) hk : False)).elim)
    exact V_vret e_X9_readGate_114 rfl (hh5)
  · refine V_aload_n e_X9_readGate_19 rfl rfl ?_
    refine V_iconst (v := nI 3) e_X9_readGate_20 (by decide) ?_
    refine V_cvV (av := [.int (nI 3)]) (st := []) e_X9_readGate_21 (c_X9_bad_f E 3 k q σ τ hf hk hk3) l_X9_111 S_X9_bad rfl (rm_ok (by decide) (by decide)) rfl rfl (Nat.le_of_ble_eq_true rfl) ?_
    intro τ1 hh1
    refine V_aload_n e_X9_readGate_24 rfl rfl ?_
    refine V_iconst (v := nI 1) e_X9_readGate_25 (by decide) ?_
    refine V_cvV (av := [.int (nI 1)]) (st := []) e_X9_readGate_26 (c_X9_must_f E (nI 1) k q σ τ1 hh1 hk hk3) l_X9_118 S_X9_must rfl (rm_ok (by decide) (by decide)) rfl rfl (Nat.le_of_ble_eq_true rfl) ?_
    intro τ2 hh2
    refine V_aload_n e_X9_readGate_29 rfl rfl ?_
    refine V_iconst (v := nI 1) e_X9_readGate_30 (by decide) ?_
    refine V_bipush (v := nI 9) e_X9_readGate_31 (by decide) ?_
    refine V_cvI (av := [.int (nI 1), .int (nI 9)]) (st := []) e_X9_readGate_33 (c_X9_number_f E (nI 1) (nI 9) k q σ τ2 hh2 hk hk3) l_X9_128 S_X9_number rfl (rm_ok (by decide) (by decide)) rfl rfl (Nat.le_of_ble_eq_true rfl) ?_
    intro τ3 r3 hq3
    obtain ⟨rfl, hh3⟩ := hq3
    refine V_istore_n (L' := [some (.ref (eB E + 292)), some (.int (kbI (τ 292 15))), some (.int (nI 1)), none, none]) e_X9_readGate_36 rfl rfl ?_
    refine V_aload_n e_X9_readGate_37 rfl rfl ?_
    refine V_bipush (v := nI 44) e_X9_readGate_38 (by decide) ?_
    refine V_cvV (av := [.int (nI 44)]) (st := []) e_X9_readGate_40 (c_X9_mustSign_f E (nI 44) k q σ τ3 hh3 hk hk3) l_X9_132 S_X9_mustSign rfl (rm_ok (by decide) (by decide)) rfl rfl (Nat.le_of_ble_eq_true rfl) ?_
    intro τ4 hh4
    refine V_aload_n e_X9_readGate_43 rfl rfl ?_
    refine V_iconst (v := nI 0) e_X9_readGate_44 (by decide) ?_
    refine V_iconst (v := nI 1) e_X9_readGate_45 (by decide) ?_
    refine V_cvI (av := [.int (nI 0), .int (nI 1)]) (st := []) e_X9_readGate_46 (c_X9_number_f E (nI 0) (nI 1) k q σ τ4 hh4 hk hk3) l_X9_128 S_X9_number rfl (rm_ok (by decide) (by decide)) rfl rfl (Nat.le_of_ble_eq_true rfl) ?_
    intro τ5 r5 hq5
    obtain ⟨rfl, hh5⟩ := hq5
    refine V_istore_n (L' := [some (.ref (eB E + 292)), some (.int (kbI (τ 292 15))), some (.int (nI 1)), some (.int (nI 0)), none]) e_X9_readGate_49 rfl rfl ?_
    refine V_aload_n e_X9_readGate_50 rfl rfl ?_
    refine V_bipush (v := nI 59) e_X9_readGate_51 (by decide) ?_
    refine V_cvV (av := [.int (nI 59)]) (st := []) e_X9_readGate_53 (c_X9_mustSign_f E (nI 59) k q σ τ5 hh5 hk hk3) l_X9_132 S_X9_mustSign rfl (rm_ok (by decide) (by decide)) rfl rfl (Nat.le_of_ble_eq_true rfl) ?_
    intro τ6 hh6
    refine V_aload_n e_X9_readGate_56 rfl rfl ?_
    refine V_getiv (v := nI k) e_X9_readGate_57 F_X9_fault f_X9_84 rfl hh6.2.1 ?_
    refine V_if_ne (tgt := 114) e_X9_readGate_60 (by decide) (fun c3 => ?_) (fun c3 => ((absurd (show k = 0 from nq_eq (by omega) (by omega) c3) hk : False)).elim)
    exact V_vret e_X9_readGate_114 rfl (hh6)
set_option maxRecDepth 100000 in
set_option maxHeartbeats 4000000 in
theorem c_X9_readMan_0 (E : En) (q : Nat) (T : Tp) (p : Nat) (A : Vec) (σ τ : Sg) (hMT : MT σ T) (hTb : T.1 ≤ 100) (hT6 : ∀ j, j < T.1 → T.2 j < 256) (h0 : M0 σ τ T p A) (hV : PV A) (h2 : 2 ≤ A 0) (h122 : tok T p = 122) : Cn E m_X9_readMan 5 [.ref (eB E + 292)] τ (pV (fun σ' => RM σ σ' T (pMan T (0, q, p, A)))) := by
  have h06 := hV.1
  have h15 := hV.2.1
  refine Cn.of [some (.ref (eB E + 292)), none, none, none, none] (by decide) (Nat.le_of_ble_eq_true rfl) rfl ?_
  refine V_aload_n e_X9_readMan_0 rfl rfl ?_
  refine V_getr (r := 297) e_X9_readMan_1 F_X9_fresh f_X9_22 rfl rfl ?_
  refine V_iconst (v := nI 1) e_X9_readMan_4 (by decide) ?_
  refine V_ialdv (v := nI (A 1)) (j := 1) e_X9_readMan_5 rfl rfl (by decide) (h0.2.2.2.2 1 (by omega)) ?_
  refine V_iconst (v := nI 5) e_X9_readMan_6 (by decide) ?_
  refine V_icmp_ne (tgt := 15) e_X9_readMan_7 (by decide) (fun c1 => ?_) (fun c1 => ?_)
  · have d1 : ¬ A 1 = 5 := nq_ne (by omega) (by omega) c1
    refine V_aload_n e_X9_readMan_15 rfl rfl ?_
    refine V_aload_n e_X9_readMan_16 rfl rfl ?_
    refine V_bipush (v := nI 122) e_X9_readMan_17 (by decide) ?_
    refine V_cvIe (av := [.int (nI 122)]) (st := [.ref (eB E + 292)]) e_X9_readMan_19 (c_X9_isLetter_0 E 122 T p A σ τ h0 hT6 (by decide)) l_X9_135 S_X9_isLetter rfl (rm_ok (by decide) (by decide)) rfl rfl (Nat.le_of_ble_eq_true rfl) ?_
    refine V_topi (y := nI 1) (congrArg nI (if_pos h122)) ?_
    refine V_cvV (av := [.int (nI 1)]) (st := []) e_X9_readMan_22 (c_X9_must_1 E T p A σ τ hMT hTb hT6 h0) l_X9_118 S_X9_must rfl (rm_ok (by decide) (by decide)) rfl rfl (Nat.le_of_ble_eq_true rfl) ?_
    intro τ1 hh1
    refine V_aload_n e_X9_readMan_25 rfl rfl ?_
    refine V_iconst (v := nI 0) e_X9_readMan_26 (by decide) ?_
    refine V_aload_n e_X9_readMan_27 rfl rfl ?_
    refine V_getr (r := 297) e_X9_readMan_28 F_X9_fresh f_X9_22 rfl rfl ?_
    refine V_iconst (v := nI 0) e_X9_readMan_31 (by decide) ?_
    refine V_ialdv (v := nI (A 0)) (j := 0) e_X9_readMan_32 rfl rfl (by decide) (hh1.2.2.2.2 0 (by omega)) ?_
    refine V_iconst (v := nI 1) e_X9_readMan_33 (by decide) ?_
    refine V_isubN (z := nI (A 0 - 1)) e_X9_readMan_34 (pk_sub (by omega)) ?_
    refine V_cvI (av := [.int (nI 0), .int (nI (A 0 - 1))]) (st := []) e_X9_readMan_35 (c_X9_number_0 E 0 (A 0 - 1) T (nx T p) A σ τ1 hMT hTb hT6 hh1 (by omega) (by omega)) l_X9_128 S_X9_number rfl (rm_ok (by decide) (by decide)) rfl rfl (Nat.le_of_ble_eq_true rfl) ?_
    intro τ2 r2 hh2
    rcases hh2 with ⟨ht2, hv2, hr2, hm2⟩ | ⟨ht2, hr2, hm2⟩ | ⟨ht2, hv2, hr2, hm2⟩
    · subst hr2
      refine V_istore_n (L' := [some (.ref (eB E + 292)), some (.int (nI (vl T (nx T p)))), none, none, none]) e_X9_readMan_38 rfl rfl ?_
      refine V_aload_n e_X9_readMan_39 rfl rfl ?_
      refine V_bipush (v := nI 44) e_X9_readMan_40 (by decide) ?_
      refine V_cvV (av := [.int (nI 44)]) (st := []) e_X9_readMan_42 (c_X9_mustSign_0 E 44 T (nx T (nx T p)) A σ τ2 hMT hTb hT6 hm2 (by decide)) l_X9_132 S_X9_mustSign rfl (rm_ok (by decide) (by decide)) rfl rfl (Nat.le_of_ble_eq_true rfl) ?_
      intro τ3 hh3
      rcases hh3 with ⟨ht3, hm3⟩ | ⟨ht3, hm3⟩
      · skip
        refine V_aload_n e_X9_readMan_45 rfl rfl ?_
        refine V_iconst (v := nI 0) e_X9_readMan_46 (by decide) ?_
        refine V_iconst (v := nI 1) e_X9_readMan_47 (by decide) ?_
        refine V_cvI (av := [.int (nI 0), .int (nI 1)]) (st := []) e_X9_readMan_48 (c_X9_number_0 E 0 1 T (nx T (nx T (nx T p))) A σ τ3 hMT hTb hT6 hm3 (by omega) (by omega)) l_X9_128 S_X9_number rfl (rm_ok (by decide) (by decide)) rfl rfl (Nat.le_of_ble_eq_true rfl) ?_
        intro τ4 r4 hh4
        rcases hh4 with ⟨ht4, hv4, hr4, hm4⟩ | ⟨ht4, hr4, hm4⟩ | ⟨ht4, hv4, hr4, hm4⟩
        · subst hr4
          refine V_istore_n (L' := [some (.ref (eB E + 292)), some (.int (nI (vl T (nx T p)))), some (.int (nI (vl T (nx T (nx T (nx T p)))))), none, none]) e_X9_readMan_51 rfl rfl ?_
          refine V_aload_n e_X9_readMan_52 rfl rfl ?_
          refine V_bipush (v := nI 44) e_X9_readMan_53 (by decide) ?_
          refine V_cvV (av := [.int (nI 44)]) (st := []) e_X9_readMan_55 (c_X9_mustSign_0 E 44 T (nx T (nx T (nx T (nx T p)))) A σ τ4 hMT hTb hT6 hm4 (by decide)) l_X9_132 S_X9_mustSign rfl (rm_ok (by decide) (by decide)) rfl rfl (Nat.le_of_ble_eq_true rfl) ?_
          intro τ5 hh5
          rcases hh5 with ⟨ht5, hm5⟩ | ⟨ht5, hm5⟩
          · skip
            refine V_aload_n e_X9_readMan_58 rfl rfl ?_
            refine V_iconst (v := nI 0) e_X9_readMan_59 (by decide) ?_
            refine V_bipush (v := nI 99) e_X9_readMan_60 (by decide) ?_
            refine V_cvI (av := [.int (nI 0), .int (nI 99)]) (st := []) e_X9_readMan_62 (c_X9_number_0 E 0 99 T (nx T (nx T (nx T (nx T (nx T p))))) A σ τ5 hMT hTb hT6 hm5 (by omega) (by omega)) l_X9_128 S_X9_number rfl (rm_ok (by decide) (by decide)) rfl rfl (Nat.le_of_ble_eq_true rfl) ?_
            intro τ6 r6 hh6
            rcases hh6 with ⟨ht6, hv6, hr6, hm6⟩ | ⟨ht6, hr6, hm6⟩ | ⟨ht6, hv6, hr6, hm6⟩
            · subst hr6
              refine V_istore_n (L' := [some (.ref (eB E + 292)), some (.int (nI (vl T (nx T p)))), some (.int (nI (vl T (nx T (nx T (nx T p)))))), some (.int (nI (vl T (nx T (nx T (nx T (nx T (nx T p)))))))), none]) e_X9_readMan_65 rfl rfl ?_
              refine V_aload_n e_X9_readMan_66 rfl rfl ?_
              refine V_bipush (v := nI 59) e_X9_readMan_67 (by decide) ?_
              refine V_cvV (av := [.int (nI 59)]) (st := []) e_X9_readMan_69 (c_X9_mustSign_0 E 59 T (nx T (nx T (nx T (nx T (nx T (nx T p)))))) A σ τ6 hMT hTb hT6 hm6 (by decide)) l_X9_132 S_X9_mustSign rfl (rm_ok (by decide) (by decide)) rfl rfl (Nat.le_of_ble_eq_true rfl) ?_
              intro τ7 hh7
              rcases hh7 with ⟨ht7, hm7⟩ | ⟨ht7, hm7⟩
              · skip
                refine V_aload_n e_X9_readMan_72 rfl rfl ?_
                refine V_getiv (v := nI 0) e_X9_readMan_73 F_X9_fault f_X9_84 rfl hm7.2.1 ?_
                refine V_if_ne (tgt := 131) e_X9_readMan_76 (by decide) (fun c2 => absurd c2 (by decide)) (fun c2 => ?_)
                refine V_bipush (v := nI 25) e_X9_readMan_79 (by decide) ?_
                refine V_bipush (v := nI 6) e_X9_readMan_81 (by decide) ?_
                refine V_aload_n e_X9_readMan_83 rfl rfl ?_
                refine V_getr (r := 297) e_X9_readMan_84 F_X9_fresh f_X9_22 rfl rfl ?_
                refine V_iconst (v := nI 1) e_X9_readMan_87 (by decide) ?_
                refine V_ialdv (v := nI (A 1)) (j := 1) e_X9_readMan_88 rfl rfl (by decide) (hm7.2.2.2.2 1 (by omega)) ?_
                refine V_imulN (z := nI (6 * (A 1))) e_X9_readMan_89 (pk_mul _ _) ?_
                refine V_iaddN (z := nI (25 + (6 * (A 1)))) e_X9_readMan_90 (nI_add _ _) ?_
                refine V_istore (L' := [some (.ref (eB E + 292)), some (.int (nI (vl T (nx T p)))), some (.int (nI (vl T (nx T (nx T (nx T p)))))), some (.int (nI (vl T (nx T (nx T (nx T (nx T (nx T p)))))))), some (.int (nI (25 + (6 * (A 1)))))]) e_X9_readMan_91 rfl ?_
                refine V_aload_n e_X9_readMan_93 rfl rfl ?_
                refine V_getr (r := 297) e_X9_readMan_94 F_X9_fresh f_X9_22 rfl rfl ?_
                refine V_iload e_X9_readMan_97 rfl ?_
                refine V_iload_n e_X9_readMan_99 rfl rfl ?_
                refine V_iast (j := (25 + (6 * (A 1)))) e_X9_readMan_100 rfl rfl (by have q : ln 297 = 55 := rfl; omega) ?_
                refine V_aload_n e_X9_readMan_101 rfl rfl ?_
                refine V_getr (r := 297) e_X9_readMan_102 F_X9_fresh f_X9_22 rfl rfl ?_
                refine V_iload e_X9_readMan_105 rfl ?_
                refine V_iconst (v := nI 3) e_X9_readMan_107 (by decide) ?_
                refine V_iaddN (z := nI (25 + (6 * (A 1)) + 3)) e_X9_readMan_108 (nI_add _ _) ?_
                refine V_iload_n e_X9_readMan_109 rfl rfl ?_
                refine V_iast (j := (25 + (6 * (A 1)) + 3)) e_X9_readMan_110 rfl rfl (by have q : ln 297 = 55 := rfl; omega) ?_
                refine V_aload_n e_X9_readMan_111 rfl rfl ?_
                refine V_getr (r := 297) e_X9_readMan_112 F_X9_fresh f_X9_22 rfl rfl ?_
                refine V_iload e_X9_readMan_115 rfl ?_
                refine V_iconst (v := nI 4) e_X9_readMan_117 (by decide) ?_
                refine V_iaddN (z := nI (25 + (6 * (A 1)) + 4)) e_X9_readMan_118 (nI_add _ _) ?_
                refine V_iload_n e_X9_readMan_119 rfl rfl ?_
                refine V_iast (j := (25 + (6 * (A 1)) + 4)) e_X9_readMan_120 rfl rfl (by have q : ln 297 = 55 := rfl; omega) ?_
                refine V_aload_n e_X9_readMan_121 rfl rfl ?_
                refine V_getr (r := 297) e_X9_readMan_122 F_X9_fresh f_X9_22 rfl rfl ?_
                refine V_iconst (v := nI 1) e_X9_readMan_125 (by decide) ?_
                refine V_dup2 e_X9_readMan_126 rfl rfl ?_
                refine V_ialdv (v := nI (A 1)) (j := 1) e_X9_readMan_127 rfl rfl (by have q : ln 297 = 55 := rfl; omega) ((up2_k (by omega)).trans ((up2_k (by omega)).trans ((up2_k (by omega)).trans (hm7.2.2.2.2 1 (by omega))))) ?_
                refine V_iconst (v := nI 1) e_X9_readMan_128 (by decide) ?_
                refine V_iaddN (z := nI (A 1 + 1)) e_X9_readMan_129 (nI_add _ _) ?_
                refine V_iast (j := 1) e_X9_readMan_130 rfl rfl (by have q : ln 297 = 55 := rfl; omega) ?_
                exact V_vret e_X9_readMan_131 rfl (by have hX : pMan T (0, q, p, A) = (0, q, nx T (nx T (nx T (nx T (nx T (nx T (nx T p)))))), mV (vl T (nx T p)) (vl T (nx T (nx T (nx T p)))) (vl T (nx T (nx T (nx T (nx T (nx T p)))))) A) := (by simp only [pMan_0 (show ¬ A 1 = 5 by omega), pNum_y ht2 hv2, pTake_y ht3, pNum_y ht4 hv4, pTake_y ht5, pNum_y ht6 hv6, pTake_y ht7, tk_f1, tk_f2, nm_f1, nm_f2, mp_f1, mp_f2, pMap_y]); rw [hX]; exact Or.inl ⟨rfl, (((M0.uf hm7 (by omega)).uf (by omega)).uf (by omega)).uf (by omega), hV.m (by omega) (by have := hv2; omega) hv4.2 hv6.2⟩)
              · skip
                refine V_aload_n e_X9_readMan_72 rfl rfl ?_
                refine V_getiv (v := nI 1) e_X9_readMan_73 F_X9_fault f_X9_84 rfl hm7.2.1 ?_
                refine V_if_ne (tgt := 131) e_X9_readMan_76 (by decide) (fun c3 => ?_) (fun c3 => absurd c3 (by decide))
                exact V_vret e_X9_readMan_131 rfl (by have hX : (pMan T (0, q, p, A)).1 = 1 ∧ (pMan T (0, q, p, A)).2.1 = nx T (nx T (nx T (nx T (nx T (nx T p))))) := (by constructor <;> simp only [pMan_0 (show ¬ A 1 = 5 by omega), pNum_y ht2 hv2, pTake_y ht3, pNum_y ht4 hv4, pTake_y ht5, pNum_y ht6 hv6, pTake_n ht7, tk_f1, tk_f2, nm_f1, nm_f2, mp_f1, mp_f2, pMap_y]); exact Or.inr ⟨by rw [hX.1]; decide, by rw [hX.1]; decide, by rw [hX.1, hX.2]; exact hm7⟩)
            · subst hr6
              refine V_istore_n (L' := [some (.ref (eB E + 292)), some (.int (nI (vl T (nx T p)))), some (.int (nI (vl T (nx T (nx T (nx T p)))))), some (.int (nI 0)), none]) e_X9_readMan_65 rfl rfl ?_
              refine V_aload_n e_X9_readMan_66 rfl rfl ?_
              refine V_bipush (v := nI 59) e_X9_readMan_67 (by decide) ?_
              refine V_cvV (av := [.int (nI 59)]) (st := []) e_X9_readMan_69 (c_X9_mustSign_f E (nI 59) 1 (nx T (nx T (nx T (nx T (nx T p))))) σ τ6 hm6 (by decide) (by decide)) l_X9_132 S_X9_mustSign rfl (rm_ok (by decide) (by decide)) rfl rfl (Nat.le_of_ble_eq_true rfl) ?_
              intro τ7 hh7
              refine V_aload_n e_X9_readMan_72 rfl rfl ?_
              refine V_getiv (v := nI 1) e_X9_readMan_73 F_X9_fault f_X9_84 rfl hh7.2.1 ?_
              refine V_if_ne (tgt := 131) e_X9_readMan_76 (by decide) (fun c4 => ?_) (fun c4 => absurd c4 (by decide))
              exact V_vret e_X9_readMan_131 rfl (by have hX : (pMan T (0, q, p, A)).1 = 1 ∧ (pMan T (0, q, p, A)).2.1 = nx T (nx T (nx T (nx T (nx T p)))) := (by constructor <;> simp only [pMan_0 (show ¬ A 1 = 5 by omega), pNum_y ht2 hv2, pTake_y ht3, pNum_y ht4 hv4, pTake_y ht5, pNum_n ht6, tk_f1, tk_f2, nm_f1, nm_f2, mp_f1, mp_f2, pMap_y]); exact Or.inr ⟨by rw [hX.1]; decide, by rw [hX.1]; decide, by rw [hX.1, hX.2]; exact hh7⟩)
            · subst hr6
              refine V_istore_n (L' := [some (.ref (eB E + 292)), some (.int (nI (vl T (nx T p)))), some (.int (nI (vl T (nx T (nx T (nx T p)))))), some (.int (nI 0)), none]) e_X9_readMan_65 rfl rfl ?_
              refine V_aload_n e_X9_readMan_66 rfl rfl ?_
              refine V_bipush (v := nI 59) e_X9_readMan_67 (by decide) ?_
              refine V_cvV (av := [.int (nI 59)]) (st := []) e_X9_readMan_69 (c_X9_mustSign_f E (nI 59) 2 (nx T (nx T (nx T (nx T (nx T p))))) σ τ6 hm6 (by decide) (by decide)) l_X9_132 S_X9_mustSign rfl (rm_ok (by decide) (by decide)) rfl rfl (Nat.le_of_ble_eq_true rfl) ?_
              intro τ7 hh7
              refine V_aload_n e_X9_readMan_72 rfl rfl ?_
              refine V_getiv (v := nI 2) e_X9_readMan_73 F_X9_fault f_X9_84 rfl hh7.2.1 ?_
              refine V_if_ne (tgt := 131) e_X9_readMan_76 (by decide) (fun c5 => ?_) (fun c5 => absurd c5 (by decide))
              exact V_vret e_X9_readMan_131 rfl (by have hX : (pMan T (0, q, p, A)).1 = 2 ∧ (pMan T (0, q, p, A)).2.1 = nx T (nx T (nx T (nx T (nx T p)))) := (by constructor <;> simp only [pMan_0 (show ¬ A 1 = 5 by omega), pNum_y ht2 hv2, pTake_y ht3, pNum_y ht4 hv4, pTake_y ht5, pNum_r ht6 hv6, tk_f1, tk_f2, nm_f1, nm_f2, mp_f1, mp_f2, pMap_y]); exact Or.inr ⟨by rw [hX.1]; decide, by rw [hX.1]; decide, by rw [hX.1, hX.2]; exact hh7⟩)
          · skip
            refine V_aload_n e_X9_readMan_58 rfl rfl ?_
            refine V_iconst (v := nI 0) e_X9_readMan_59 (by decide) ?_
            refine V_bipush (v := nI 99) e_X9_readMan_60 (by decide) ?_
            refine V_cvI (av := [.int (nI 0), .int (nI 99)]) (st := []) e_X9_readMan_62 (c_X9_number_f E (nI 0) (nI 99) 1 (nx T (nx T (nx T (nx T p)))) σ τ5 hm5 (by decide) (by decide)) l_X9_128 S_X9_number rfl (rm_ok (by decide) (by decide)) rfl rfl (Nat.le_of_ble_eq_true rfl) ?_
            intro τ6 r6 hq6
            obtain ⟨rfl, hh6⟩ := hq6
            refine V_istore_n (L' := [some (.ref (eB E + 292)), some (.int (nI (vl T (nx T p)))), some (.int (nI (vl T (nx T (nx T (nx T p)))))), some (.int (nI 0)), none]) e_X9_readMan_65 rfl rfl ?_
            refine V_aload_n e_X9_readMan_66 rfl rfl ?_
            refine V_bipush (v := nI 59) e_X9_readMan_67 (by decide) ?_
            refine V_cvV (av := [.int (nI 59)]) (st := []) e_X9_readMan_69 (c_X9_mustSign_f E (nI 59) 1 (nx T (nx T (nx T (nx T p)))) σ τ6 hh6 (by decide) (by decide)) l_X9_132 S_X9_mustSign rfl (rm_ok (by decide) (by decide)) rfl rfl (Nat.le_of_ble_eq_true rfl) ?_
            intro τ7 hh7
            refine V_aload_n e_X9_readMan_72 rfl rfl ?_
            refine V_getiv (v := nI 1) e_X9_readMan_73 F_X9_fault f_X9_84 rfl hh7.2.1 ?_
            refine V_if_ne (tgt := 131) e_X9_readMan_76 (by decide) (fun c6 => ?_) (fun c6 => absurd c6 (by decide))
            exact V_vret e_X9_readMan_131 rfl (by have hX : (pMan T (0, q, p, A)).1 = 1 ∧ (pMan T (0, q, p, A)).2.1 = nx T (nx T (nx T (nx T p))) := (by constructor <;> simp only [pMan_0 (show ¬ A 1 = 5 by omega), pNum_y ht2 hv2, pTake_y ht3, pNum_y ht4 hv4, pTake_n ht5, tk_f1, tk_f2, nm_f1, nm_f2, mp_f1, mp_f2, pMap_y]); exact Or.inr ⟨by rw [hX.1]; decide, by rw [hX.1]; decide, by rw [hX.1, hX.2]; exact hh7⟩)
        · subst hr4
          refine V_istore_n (L' := [some (.ref (eB E + 292)), some (.int (nI (vl T (nx T p)))), some (.int (nI 0)), none, none]) e_X9_readMan_51 rfl rfl ?_
          refine V_aload_n e_X9_readMan_52 rfl rfl ?_
          refine V_bipush (v := nI 44) e_X9_readMan_53 (by decide) ?_
          refine V_cvV (av := [.int (nI 44)]) (st := []) e_X9_readMan_55 (c_X9_mustSign_f E (nI 44) 1 (nx T (nx T (nx T p))) σ τ4 hm4 (by decide) (by decide)) l_X9_132 S_X9_mustSign rfl (rm_ok (by decide) (by decide)) rfl rfl (Nat.le_of_ble_eq_true rfl) ?_
          intro τ5 hh5
          refine V_aload_n e_X9_readMan_58 rfl rfl ?_
          refine V_iconst (v := nI 0) e_X9_readMan_59 (by decide) ?_
          refine V_bipush (v := nI 99) e_X9_readMan_60 (by decide) ?_
          refine V_cvI (av := [.int (nI 0), .int (nI 99)]) (st := []) e_X9_readMan_62 (c_X9_number_f E (nI 0) (nI 99) 1 (nx T (nx T (nx T p))) σ τ5 hh5 (by decide) (by decide)) l_X9_128 S_X9_number rfl (rm_ok (by decide) (by decide)) rfl rfl (Nat.le_of_ble_eq_true rfl) ?_
          intro τ6 r6 hq6
          obtain ⟨rfl, hh6⟩ := hq6
          refine V_istore_n (L' := [some (.ref (eB E + 292)), some (.int (nI (vl T (nx T p)))), some (.int (nI 0)), some (.int (nI 0)), none]) e_X9_readMan_65 rfl rfl ?_
          refine V_aload_n e_X9_readMan_66 rfl rfl ?_
          refine V_bipush (v := nI 59) e_X9_readMan_67 (by decide) ?_
          refine V_cvV (av := [.int (nI 59)]) (st := []) e_X9_readMan_69 (c_X9_mustSign_f E (nI 59) 1 (nx T (nx T (nx T p))) σ τ6 hh6 (by decide) (by decide)) l_X9_132 S_X9_mustSign rfl (rm_ok (by decide) (by decide)) rfl rfl (Nat.le_of_ble_eq_true rfl) ?_
          intro τ7 hh7
          refine V_aload_n e_X9_readMan_72 rfl rfl ?_
          refine V_getiv (v := nI 1) e_X9_readMan_73 F_X9_fault f_X9_84 rfl hh7.2.1 ?_
          refine V_if_ne (tgt := 131) e_X9_readMan_76 (by decide) (fun c7 => ?_) (fun c7 => absurd c7 (by decide))
          exact V_vret e_X9_readMan_131 rfl (by have hX : (pMan T (0, q, p, A)).1 = 1 ∧ (pMan T (0, q, p, A)).2.1 = nx T (nx T (nx T p)) := (by constructor <;> simp only [pMan_0 (show ¬ A 1 = 5 by omega), pNum_y ht2 hv2, pTake_y ht3, pNum_n ht4, tk_f1, tk_f2, nm_f1, nm_f2, mp_f1, mp_f2, pMap_y]); exact Or.inr ⟨by rw [hX.1]; decide, by rw [hX.1]; decide, by rw [hX.1, hX.2]; exact hh7⟩)
        · subst hr4
          refine V_istore_n (L' := [some (.ref (eB E + 292)), some (.int (nI (vl T (nx T p)))), some (.int (nI 0)), none, none]) e_X9_readMan_51 rfl rfl ?_
          refine V_aload_n e_X9_readMan_52 rfl rfl ?_
          refine V_bipush (v := nI 44) e_X9_readMan_53 (by decide) ?_
          refine V_cvV (av := [.int (nI 44)]) (st := []) e_X9_readMan_55 (c_X9_mustSign_f E (nI 44) 2 (nx T (nx T (nx T p))) σ τ4 hm4 (by decide) (by decide)) l_X9_132 S_X9_mustSign rfl (rm_ok (by decide) (by decide)) rfl rfl (Nat.le_of_ble_eq_true rfl) ?_
          intro τ5 hh5
          refine V_aload_n e_X9_readMan_58 rfl rfl ?_
          refine V_iconst (v := nI 0) e_X9_readMan_59 (by decide) ?_
          refine V_bipush (v := nI 99) e_X9_readMan_60 (by decide) ?_
          refine V_cvI (av := [.int (nI 0), .int (nI 99)]) (st := []) e_X9_readMan_62 (c_X9_number_f E (nI 0) (nI 99) 2 (nx T (nx T (nx T p))) σ τ5 hh5 (by decide) (by decide)) l_X9_128 S_X9_number rfl (rm_ok (by decide) (by decide)) rfl rfl (Nat.le_of_ble_eq_true rfl) ?_
          intro τ6 r6 hq6
          obtain ⟨rfl, hh6⟩ := hq6
          refine V_istore_n (L' := [some (.ref (eB E + 292)), some (.int (nI (vl T (nx T p)))), some (.int (nI 0)), some (.int (nI 0)), none]) e_X9_readMan_65 rfl rfl ?_
          refine V_aload_n e_X9_readMan_66 rfl rfl ?_
          refine V_bipush (v := nI 59) e_X9_readMan_67 (by decide) ?_
          refine V_cvV (av := [.int (nI 59)]) (st := []) e_X9_readMan_69 (c_X9_mustSign_f E (nI 59) 2 (nx T (nx T (nx T p))) σ τ6 hh6 (by decide) (by decide)) l_X9_132 S_X9_mustSign rfl (rm_ok (by decide) (by decide)) rfl rfl (Nat.le_of_ble_eq_true rfl) ?_
          intro τ7 hh7
          refine V_aload_n e_X9_readMan_72 rfl rfl ?_
          refine V_getiv (v := nI 2) e_X9_readMan_73 F_X9_fault f_X9_84 rfl hh7.2.1 ?_
          refine V_if_ne (tgt := 131) e_X9_readMan_76 (by decide) (fun c8 => ?_) (fun c8 => absurd c8 (by decide))
          exact V_vret e_X9_readMan_131 rfl (by have hX : (pMan T (0, q, p, A)).1 = 2 ∧ (pMan T (0, q, p, A)).2.1 = nx T (nx T (nx T p)) := (by constructor <;> simp only [pMan_0 (show ¬ A 1 = 5 by omega), pNum_y ht2 hv2, pTake_y ht3, pNum_r ht4 hv4, tk_f1, tk_f2, nm_f1, nm_f2, mp_f1, mp_f2, pMap_y]); exact Or.inr ⟨by rw [hX.1]; decide, by rw [hX.1]; decide, by rw [hX.1, hX.2]; exact hh7⟩)
      · skip
        refine V_aload_n e_X9_readMan_45 rfl rfl ?_
        refine V_iconst (v := nI 0) e_X9_readMan_46 (by decide) ?_
        refine V_iconst (v := nI 1) e_X9_readMan_47 (by decide) ?_
        refine V_cvI (av := [.int (nI 0), .int (nI 1)]) (st := []) e_X9_readMan_48 (c_X9_number_f E (nI 0) (nI 1) 1 (nx T (nx T p)) σ τ3 hm3 (by decide) (by decide)) l_X9_128 S_X9_number rfl (rm_ok (by decide) (by decide)) rfl rfl (Nat.le_of_ble_eq_true rfl) ?_
        intro τ4 r4 hq4
        obtain ⟨rfl, hh4⟩ := hq4
        refine V_istore_n (L' := [some (.ref (eB E + 292)), some (.int (nI (vl T (nx T p)))), some (.int (nI 0)), none, none]) e_X9_readMan_51 rfl rfl ?_
        refine V_aload_n e_X9_readMan_52 rfl rfl ?_
        refine V_bipush (v := nI 44) e_X9_readMan_53 (by decide) ?_
        refine V_cvV (av := [.int (nI 44)]) (st := []) e_X9_readMan_55 (c_X9_mustSign_f E (nI 44) 1 (nx T (nx T p)) σ τ4 hh4 (by decide) (by decide)) l_X9_132 S_X9_mustSign rfl (rm_ok (by decide) (by decide)) rfl rfl (Nat.le_of_ble_eq_true rfl) ?_
        intro τ5 hh5
        refine V_aload_n e_X9_readMan_58 rfl rfl ?_
        refine V_iconst (v := nI 0) e_X9_readMan_59 (by decide) ?_
        refine V_bipush (v := nI 99) e_X9_readMan_60 (by decide) ?_
        refine V_cvI (av := [.int (nI 0), .int (nI 99)]) (st := []) e_X9_readMan_62 (c_X9_number_f E (nI 0) (nI 99) 1 (nx T (nx T p)) σ τ5 hh5 (by decide) (by decide)) l_X9_128 S_X9_number rfl (rm_ok (by decide) (by decide)) rfl rfl (Nat.le_of_ble_eq_true rfl) ?_
        intro τ6 r6 hq6
        obtain ⟨rfl, hh6⟩ := hq6
        refine V_istore_n (L' := [some (.ref (eB E + 292)), some (.int (nI (vl T (nx T p)))), some (.int (nI 0)), some (.int (nI 0)), none]) e_X9_readMan_65 rfl rfl ?_
        refine V_aload_n e_X9_readMan_66 rfl rfl ?_
        refine V_bipush (v := nI 59) e_X9_readMan_67 (by decide) ?_
        refine V_cvV (av := [.int (nI 59)]) (st := []) e_X9_readMan_69 (c_X9_mustSign_f E (nI 59) 1 (nx T (nx T p)) σ τ6 hh6 (by decide) (by decide)) l_X9_132 S_X9_mustSign rfl (rm_ok (by decide) (by decide)) rfl rfl (Nat.le_of_ble_eq_true rfl) ?_
        intro τ7 hh7
        refine V_aload_n e_X9_readMan_72 rfl rfl ?_
        refine V_getiv (v := nI 1) e_X9_readMan_73 F_X9_fault f_X9_84 rfl hh7.2.1 ?_
        refine V_if_ne (tgt := 131) e_X9_readMan_76 (by decide) (fun c9 => ?_) (fun c9 => absurd c9 (by decide))
        exact V_vret e_X9_readMan_131 rfl (by have hX : (pMan T (0, q, p, A)).1 = 1 ∧ (pMan T (0, q, p, A)).2.1 = nx T (nx T p) := (by constructor <;> simp only [pMan_0 (show ¬ A 1 = 5 by omega), pNum_y ht2 hv2, pTake_n ht3, tk_f1, tk_f2, nm_f1, nm_f2, mp_f1, mp_f2, pMap_y]); exact Or.inr ⟨by rw [hX.1]; decide, by rw [hX.1]; decide, by rw [hX.1, hX.2]; exact hh7⟩)
    · subst hr2
      refine V_istore_n (L' := [some (.ref (eB E + 292)), some (.int (nI 0)), none, none, none]) e_X9_readMan_38 rfl rfl ?_
      refine V_aload_n e_X9_readMan_39 rfl rfl ?_
      refine V_bipush (v := nI 44) e_X9_readMan_40 (by decide) ?_
      refine V_cvV (av := [.int (nI 44)]) (st := []) e_X9_readMan_42 (c_X9_mustSign_f E (nI 44) 1 (nx T p) σ τ2 hm2 (by decide) (by decide)) l_X9_132 S_X9_mustSign rfl (rm_ok (by decide) (by decide)) rfl rfl (Nat.le_of_ble_eq_true rfl) ?_
      intro τ3 hh3
      refine V_aload_n e_X9_readMan_45 rfl rfl ?_
      refine V_iconst (v := nI 0) e_X9_readMan_46 (by decide) ?_
      refine V_iconst (v := nI 1) e_X9_readMan_47 (by decide) ?_
      refine V_cvI (av := [.int (nI 0), .int (nI 1)]) (st := []) e_X9_readMan_48 (c_X9_number_f E (nI 0) (nI 1) 1 (nx T p) σ τ3 hh3 (by decide) (by decide)) l_X9_128 S_X9_number rfl (rm_ok (by decide) (by decide)) rfl rfl (Nat.le_of_ble_eq_true rfl) ?_
      intro τ4 r4 hq4
      obtain ⟨rfl, hh4⟩ := hq4
      refine V_istore_n (L' := [some (.ref (eB E + 292)), some (.int (nI 0)), some (.int (nI 0)), none, none]) e_X9_readMan_51 rfl rfl ?_
      refine V_aload_n e_X9_readMan_52 rfl rfl ?_
      refine V_bipush (v := nI 44) e_X9_readMan_53 (by decide) ?_
      refine V_cvV (av := [.int (nI 44)]) (st := []) e_X9_readMan_55 (c_X9_mustSign_f E (nI 44) 1 (nx T p) σ τ4 hh4 (by decide) (by decide)) l_X9_132 S_X9_mustSign rfl (rm_ok (by decide) (by decide)) rfl rfl (Nat.le_of_ble_eq_true rfl) ?_
      intro τ5 hh5
      refine V_aload_n e_X9_readMan_58 rfl rfl ?_
      refine V_iconst (v := nI 0) e_X9_readMan_59 (by decide) ?_
      refine V_bipush (v := nI 99) e_X9_readMan_60 (by decide) ?_
      refine V_cvI (av := [.int (nI 0), .int (nI 99)]) (st := []) e_X9_readMan_62 (c_X9_number_f E (nI 0) (nI 99) 1 (nx T p) σ τ5 hh5 (by decide) (by decide)) l_X9_128 S_X9_number rfl (rm_ok (by decide) (by decide)) rfl rfl (Nat.le_of_ble_eq_true rfl) ?_
      intro τ6 r6 hq6
      obtain ⟨rfl, hh6⟩ := hq6
      refine V_istore_n (L' := [some (.ref (eB E + 292)), some (.int (nI 0)), some (.int (nI 0)), some (.int (nI 0)), none]) e_X9_readMan_65 rfl rfl ?_
      refine V_aload_n e_X9_readMan_66 rfl rfl ?_
      refine V_bipush (v := nI 59) e_X9_readMan_67 (by decide) ?_
      refine V_cvV (av := [.int (nI 59)]) (st := []) e_X9_readMan_69 (c_X9_mustSign_f E (nI 59) 1 (nx T p) σ τ6 hh6 (by decide) (by decide)) l_X9_132 S_X9_mustSign rfl (rm_ok (by decide) (by decide)) rfl rfl (Nat.le_of_ble_eq_true rfl) ?_
      intro τ7 hh7
      refine V_aload_n e_X9_readMan_72 rfl rfl ?_
      refine V_getiv (v := nI 1) e_X9_readMan_73 F_X9_fault f_X9_84 rfl hh7.2.1 ?_
      refine V_if_ne (tgt := 131) e_X9_readMan_76 (by decide) (fun c10 => ?_) (fun c10 => absurd c10 (by decide))
      exact V_vret e_X9_readMan_131 rfl (by have hX : (pMan T (0, q, p, A)).1 = 1 ∧ (pMan T (0, q, p, A)).2.1 = nx T p := (by constructor <;> simp only [pMan_0 (show ¬ A 1 = 5 by omega), pNum_n ht2, tk_f1, tk_f2, nm_f1, nm_f2, mp_f1, mp_f2, pMap_y]); exact Or.inr ⟨by rw [hX.1]; decide, by rw [hX.1]; decide, by rw [hX.1, hX.2]; exact hh7⟩)
    · subst hr2
      refine V_istore_n (L' := [some (.ref (eB E + 292)), some (.int (nI 0)), none, none, none]) e_X9_readMan_38 rfl rfl ?_
      refine V_aload_n e_X9_readMan_39 rfl rfl ?_
      refine V_bipush (v := nI 44) e_X9_readMan_40 (by decide) ?_
      refine V_cvV (av := [.int (nI 44)]) (st := []) e_X9_readMan_42 (c_X9_mustSign_f E (nI 44) 2 (nx T p) σ τ2 hm2 (by decide) (by decide)) l_X9_132 S_X9_mustSign rfl (rm_ok (by decide) (by decide)) rfl rfl (Nat.le_of_ble_eq_true rfl) ?_
      intro τ3 hh3
      refine V_aload_n e_X9_readMan_45 rfl rfl ?_
      refine V_iconst (v := nI 0) e_X9_readMan_46 (by decide) ?_
      refine V_iconst (v := nI 1) e_X9_readMan_47 (by decide) ?_
      refine V_cvI (av := [.int (nI 0), .int (nI 1)]) (st := []) e_X9_readMan_48 (c_X9_number_f E (nI 0) (nI 1) 2 (nx T p) σ τ3 hh3 (by decide) (by decide)) l_X9_128 S_X9_number rfl (rm_ok (by decide) (by decide)) rfl rfl (Nat.le_of_ble_eq_true rfl) ?_
      intro τ4 r4 hq4
      obtain ⟨rfl, hh4⟩ := hq4
      refine V_istore_n (L' := [some (.ref (eB E + 292)), some (.int (nI 0)), some (.int (nI 0)), none, none]) e_X9_readMan_51 rfl rfl ?_
      refine V_aload_n e_X9_readMan_52 rfl rfl ?_
      refine V_bipush (v := nI 44) e_X9_readMan_53 (by decide) ?_
      refine V_cvV (av := [.int (nI 44)]) (st := []) e_X9_readMan_55 (c_X9_mustSign_f E (nI 44) 2 (nx T p) σ τ4 hh4 (by decide) (by decide)) l_X9_132 S_X9_mustSign rfl (rm_ok (by decide) (by decide)) rfl rfl (Nat.le_of_ble_eq_true rfl) ?_
      intro τ5 hh5
      refine V_aload_n e_X9_readMan_58 rfl rfl ?_
      refine V_iconst (v := nI 0) e_X9_readMan_59 (by decide) ?_
      refine V_bipush (v := nI 99) e_X9_readMan_60 (by decide) ?_
      refine V_cvI (av := [.int (nI 0), .int (nI 99)]) (st := []) e_X9_readMan_62 (c_X9_number_f E (nI 0) (nI 99) 2 (nx T p) σ τ5 hh5 (by decide) (by decide)) l_X9_128 S_X9_number rfl (rm_ok (by decide) (by decide)) rfl rfl (Nat.le_of_ble_eq_true rfl) ?_
      intro τ6 r6 hq6
      obtain ⟨rfl, hh6⟩ := hq6
      refine V_istore_n (L' := [some (.ref (eB E + 292)), some (.int (nI 0)), some (.int (nI 0)), some (.int (nI 0)), none]) e_X9_readMan_65 rfl rfl ?_
      refine V_aload_n e_X9_readMan_66 rfl rfl ?_
      refine V_bipush (v := nI 59) e_X9_readMan_67 (by decide) ?_
      refine V_cvV (av := [.int (nI 59)]) (st := []) e_X9_readMan_69 (c_X9_mustSign_f E (nI 59) 2 (nx T p) σ τ6 hh6 (by decide) (by decide)) l_X9_132 S_X9_mustSign rfl (rm_ok (by decide) (by decide)) rfl rfl (Nat.le_of_ble_eq_true rfl) ?_
      intro τ7 hh7
      refine V_aload_n e_X9_readMan_72 rfl rfl ?_
      refine V_getiv (v := nI 2) e_X9_readMan_73 F_X9_fault f_X9_84 rfl hh7.2.1 ?_
      refine V_if_ne (tgt := 131) e_X9_readMan_76 (by decide) (fun c11 => ?_) (fun c11 => absurd c11 (by decide))
      exact V_vret e_X9_readMan_131 rfl (by have hX : (pMan T (0, q, p, A)).1 = 2 ∧ (pMan T (0, q, p, A)).2.1 = nx T p := (by constructor <;> simp only [pMan_0 (show ¬ A 1 = 5 by omega), pNum_r ht2 hv2, tk_f1, tk_f2, nm_f1, nm_f2, mp_f1, mp_f2, pMap_y]); exact Or.inr ⟨by rw [hX.1]; decide, by rw [hX.1]; decide, by rw [hX.1, hX.2]; exact hh7⟩)
  · have d1 : A 1 = 5 := nq_eq (by omega) (by omega) c1
    refine V_aload_n e_X9_readMan_10 rfl rfl ?_
    refine V_iconst (v := nI 3) e_X9_readMan_11 (by decide) ?_
    refine V_cvV (av := [.int (nI 3)]) (st := []) e_X9_readMan_12 (c_X9_bad_0 E 3 T p A σ τ h0) l_X9_111 S_X9_bad rfl (rm_ok (by decide) (by decide)) rfl rfl (Nat.le_of_ble_eq_true rfl) ?_
    intro τ1 hh1
    refine V_aload_n e_X9_readMan_15 rfl rfl ?_
    refine V_aload_n e_X9_readMan_16 rfl rfl ?_
    refine V_bipush (v := nI 122) e_X9_readMan_17 (by decide) ?_
    refine V_cvIe (av := [.int (nI 122)]) (st := [.ref (eB E + 292)]) e_X9_readMan_19 (c_X9_isLetter_f E (nI 122) 3 p σ τ1 hh1 (by decide) (by decide)) l_X9_135 S_X9_isLetter rfl (rm_ok (by decide) (by decide)) rfl rfl (Nat.le_of_ble_eq_true rfl) ?_
    refine V_cvV (av := [.int (nI 0)]) (st := []) e_X9_readMan_22 (c_X9_must_f E (nI 0) 3 p σ τ1 hh1 (by decide) (by decide)) l_X9_118 S_X9_must rfl (rm_ok (by decide) (by decide)) rfl rfl (Nat.le_of_ble_eq_true rfl) ?_
    intro τ2 hh2
    refine V_aload_n e_X9_readMan_25 rfl rfl ?_
    refine V_iconst (v := nI 0) e_X9_readMan_26 (by decide) ?_
    refine V_aload_n e_X9_readMan_27 rfl rfl ?_
    refine V_getr (r := 297) e_X9_readMan_28 F_X9_fresh f_X9_22 rfl rfl ?_
    refine V_iconst (v := nI 0) e_X9_readMan_31 (by decide) ?_
    refine V_iald (j := 0) e_X9_readMan_32 rfl rfl (by decide) ?_
    refine V_iconst (v := nI 1) e_X9_readMan_33 (by decide) ?_
    refine V_isub e_X9_readMan_34 ?_
    refine V_cvI (av := [.int (nI 0), .int ((τ2 297 0) - (nI 1))]) (st := []) e_X9_readMan_35 (c_X9_number_f E (nI 0) ((τ2 297 0) - (nI 1)) 3 p σ τ2 hh2 (by decide) (by decide)) l_X9_128 S_X9_number rfl (rm_ok (by decide) (by decide)) rfl rfl (Nat.le_of_ble_eq_true rfl) ?_
    intro τ3 r3 hq3
    obtain ⟨rfl, hh3⟩ := hq3
    refine V_istore_n (L' := [some (.ref (eB E + 292)), some (.int (nI 0)), none, none, none]) e_X9_readMan_38 rfl rfl ?_
    refine V_aload_n e_X9_readMan_39 rfl rfl ?_
    refine V_bipush (v := nI 44) e_X9_readMan_40 (by decide) ?_
    refine V_cvV (av := [.int (nI 44)]) (st := []) e_X9_readMan_42 (c_X9_mustSign_f E (nI 44) 3 p σ τ3 hh3 (by decide) (by decide)) l_X9_132 S_X9_mustSign rfl (rm_ok (by decide) (by decide)) rfl rfl (Nat.le_of_ble_eq_true rfl) ?_
    intro τ4 hh4
    refine V_aload_n e_X9_readMan_45 rfl rfl ?_
    refine V_iconst (v := nI 0) e_X9_readMan_46 (by decide) ?_
    refine V_iconst (v := nI 1) e_X9_readMan_47 (by decide) ?_
    refine V_cvI (av := [.int (nI 0), .int (nI 1)]) (st := []) e_X9_readMan_48 (c_X9_number_f E (nI 0) (nI 1) 3 p σ τ4 hh4 (by decide) (by decide)) l_X9_128 S_X9_number rfl (rm_ok (by decide) (by decide)) rfl rfl (Nat.le_of_ble_eq_true rfl) ?_
    intro τ5 r5 hq5
    obtain ⟨rfl, hh5⟩ := hq5
    refine V_istore_n (L' := [some (.ref (eB E + 292)), some (.int (nI 0)), some (.int (nI 0)), none, none]) e_X9_readMan_51 rfl rfl ?_
    refine V_aload_n e_X9_readMan_52 rfl rfl ?_
    refine V_bipush (v := nI 44) e_X9_readMan_53 (by decide) ?_
    refine V_cvV (av := [.int (nI 44)]) (st := []) e_X9_readMan_55 (c_X9_mustSign_f E (nI 44) 3 p σ τ5 hh5 (by decide) (by decide)) l_X9_132 S_X9_mustSign rfl (rm_ok (by decide) (by decide)) rfl rfl (Nat.le_of_ble_eq_true rfl) ?_
    intro τ6 hh6
    refine V_aload_n e_X9_readMan_58 rfl rfl ?_
    refine V_iconst (v := nI 0) e_X9_readMan_59 (by decide) ?_
    refine V_bipush (v := nI 99) e_X9_readMan_60 (by decide) ?_
    refine V_cvI (av := [.int (nI 0), .int (nI 99)]) (st := []) e_X9_readMan_62 (c_X9_number_f E (nI 0) (nI 99) 3 p σ τ6 hh6 (by decide) (by decide)) l_X9_128 S_X9_number rfl (rm_ok (by decide) (by decide)) rfl rfl (Nat.le_of_ble_eq_true rfl) ?_
    intro τ7 r7 hq7
    obtain ⟨rfl, hh7⟩ := hq7
    refine V_istore_n (L' := [some (.ref (eB E + 292)), some (.int (nI 0)), some (.int (nI 0)), some (.int (nI 0)), none]) e_X9_readMan_65 rfl rfl ?_
    refine V_aload_n e_X9_readMan_66 rfl rfl ?_
    refine V_bipush (v := nI 59) e_X9_readMan_67 (by decide) ?_
    refine V_cvV (av := [.int (nI 59)]) (st := []) e_X9_readMan_69 (c_X9_mustSign_f E (nI 59) 3 p σ τ7 hh7 (by decide) (by decide)) l_X9_132 S_X9_mustSign rfl (rm_ok (by decide) (by decide)) rfl rfl (Nat.le_of_ble_eq_true rfl) ?_
    intro τ8 hh8
    refine V_aload_n e_X9_readMan_72 rfl rfl ?_
    refine V_getiv (v := nI 3) e_X9_readMan_73 F_X9_fault f_X9_84 rfl hh8.2.1 ?_
    refine V_if_ne (tgt := 131) e_X9_readMan_76 (by decide) (fun c12 => ?_) (fun c12 => absurd c12 (by decide))
    exact V_vret e_X9_readMan_131 rfl (by rw [pMan_5 (show A 1 = 5 by omega)]; exact Or.inr ⟨by show ¬ 3 = 0; decide, by show 3 ≤ 3; omega, hh8⟩)
set_option maxRecDepth 100000 in
set_option maxHeartbeats 4000000 in
theorem c_X9_readMan_f (E : En) (k q : Nat) (σ τ : Sg) (hf : MF σ τ k q) (hk : ¬ k = 0) (hk3 : k ≤ 3) : Cn E m_X9_readMan 5 [.ref (eB E + 292)] τ (pV (fun σ' => MF σ σ' k q)) := by
  refine Cn.of [some (.ref (eB E + 292)), none, none, none, none] (by decide) (Nat.le_of_ble_eq_true rfl) rfl ?_
  refine V_aload_n e_X9_readMan_0 rfl rfl ?_
  refine V_getr (r := 297) e_X9_readMan_1 F_X9_fresh f_X9_22 rfl rfl ?_
  refine V_iconst (v := nI 1) e_X9_readMan_4 (by decide) ?_
  refine V_iald (j := 1) e_X9_readMan_5 rfl rfl (by decide) ?_
  refine V_iconst (v := nI 5) e_X9_readMan_6 (by decide) ?_
  refine V_icmp_ne (tgt := 15) e_X9_readMan_7 (by decide) (fun c1 => ?_) (fun c1 => ?_)
  · refine V_aload_n e_X9_readMan_15 rfl rfl ?_
    refine V_aload_n e_X9_readMan_16 rfl rfl ?_
    refine V_bipush (v := nI 122) e_X9_readMan_17 (by decide) ?_
    refine V_cvIe (av := [.int (nI 122)]) (st := [.ref (eB E + 292)]) e_X9_readMan_19 (c_X9_isLetter_f E (nI 122) k q σ τ hf hk hk3) l_X9_135 S_X9_isLetter rfl (rm_ok (by decide) (by decide)) rfl rfl (Nat.le_of_ble_eq_true rfl) ?_
    refine V_cvV (av := [.int (nI 0)]) (st := []) e_X9_readMan_22 (c_X9_must_f E (nI 0) k q σ τ hf hk hk3) l_X9_118 S_X9_must rfl (rm_ok (by decide) (by decide)) rfl rfl (Nat.le_of_ble_eq_true rfl) ?_
    intro τ1 hh1
    refine V_aload_n e_X9_readMan_25 rfl rfl ?_
    refine V_iconst (v := nI 0) e_X9_readMan_26 (by decide) ?_
    refine V_aload_n e_X9_readMan_27 rfl rfl ?_
    refine V_getr (r := 297) e_X9_readMan_28 F_X9_fresh f_X9_22 rfl rfl ?_
    refine V_iconst (v := nI 0) e_X9_readMan_31 (by decide) ?_
    refine V_iald (j := 0) e_X9_readMan_32 rfl rfl (by decide) ?_
    refine V_iconst (v := nI 1) e_X9_readMan_33 (by decide) ?_
    refine V_isub e_X9_readMan_34 ?_
    refine V_cvI (av := [.int (nI 0), .int ((τ1 297 0) - (nI 1))]) (st := []) e_X9_readMan_35 (c_X9_number_f E (nI 0) ((τ1 297 0) - (nI 1)) k q σ τ1 hh1 hk hk3) l_X9_128 S_X9_number rfl (rm_ok (by decide) (by decide)) rfl rfl (Nat.le_of_ble_eq_true rfl) ?_
    intro τ2 r2 hq2
    obtain ⟨rfl, hh2⟩ := hq2
    refine V_istore_n (L' := [some (.ref (eB E + 292)), some (.int (nI 0)), none, none, none]) e_X9_readMan_38 rfl rfl ?_
    refine V_aload_n e_X9_readMan_39 rfl rfl ?_
    refine V_bipush (v := nI 44) e_X9_readMan_40 (by decide) ?_
    refine V_cvV (av := [.int (nI 44)]) (st := []) e_X9_readMan_42 (c_X9_mustSign_f E (nI 44) k q σ τ2 hh2 hk hk3) l_X9_132 S_X9_mustSign rfl (rm_ok (by decide) (by decide)) rfl rfl (Nat.le_of_ble_eq_true rfl) ?_
    intro τ3 hh3
    refine V_aload_n e_X9_readMan_45 rfl rfl ?_
    refine V_iconst (v := nI 0) e_X9_readMan_46 (by decide) ?_
    refine V_iconst (v := nI 1) e_X9_readMan_47 (by decide) ?_
    refine V_cvI (av := [.int (nI 0), .int (nI 1)]) (st := []) e_X9_readMan_48 (c_X9_number_f E (nI 0) (nI 1) k q σ τ3 hh3 hk hk3) l_X9_128 S_X9_number rfl (rm_ok (by decide) (by decide)) rfl rfl (Nat.le_of_ble_eq_true rfl) ?_
    intro τ4 r4 hq4
    obtain ⟨rfl, hh4⟩ := hq4
    refine V_istore_n (L' := [some (.ref (eB E + 292)), some (.int (nI 0)), some (.int (nI 0)), none, none]) e_X9_readMan_51 rfl rfl ?_
    refine V_aload_n e_X9_readMan_52 rfl rfl ?_
    refine V_bipush (v := nI 44) e_X9_readMan_53 (by decide) ?_
    refine V_cvV (av := [.int (nI 44)]) (st := []) e_X9_readMan_55 (c_X9_mustSign_f E (nI 44) k q σ τ4 hh4 hk hk3) l_X9_132 S_X9_mustSign rfl (rm_ok (by decide) (by decide)) rfl rfl (Nat.le_of_ble_eq_true rfl) ?_
    intro τ5 hh5
    refine V_aload_n e_X9_readMan_58 rfl rfl ?_
    refine V_iconst (v := nI 0) e_X9_readMan_59 (by decide) ?_
    refine V_bipush (v := nI 99) e_X9_readMan_60 (by decide) ?_
    refine V_cvI (av := [.int (nI 0), .int (nI 99)]) (st := []) e_X9_readMan_62 (c_X9_number_f E (nI 0) (nI 99) k q σ τ5 hh5 hk hk3) l_X9_128 S_X9_number rfl (rm_ok (by decide) (by decide)) rfl rfl (Nat.le_of_ble_eq_true rfl) ?_
    intro τ6 r6 hq6
    obtain ⟨rfl, hh6⟩ := hq6
    refine V_istore_n (L' := [some (.ref (eB E + 292)), some (.int (nI 0)), some (.int (nI 0)), some (.int (nI 0)), none]) e_X9_readMan_65 rfl rfl ?_
    refine V_aload_n e_X9_readMan_66 rfl rfl ?_
    refine V_bipush (v := nI 59) e_X9_readMan_67 (by decide) ?_
    refine V_cvV (av := [.int (nI 59)]) (st := []) e_X9_readMan_69 (c_X9_mustSign_f E (nI 59) k q σ τ6 hh6 hk hk3) l_X9_132 S_X9_mustSign rfl (rm_ok (by decide) (by decide)) rfl rfl (Nat.le_of_ble_eq_true rfl) ?_
    intro τ7 hh7
    refine V_aload_n e_X9_readMan_72 rfl rfl ?_
    refine V_getiv (v := nI k) e_X9_readMan_73 F_X9_fault f_X9_84 rfl hh7.2.1 ?_
    refine V_if_ne (tgt := 131) e_X9_readMan_76 (by decide) (fun c2 => ?_) (fun c2 => ((absurd (show k = 0 from nq_eq (by omega) (by omega) c2) hk : False)).elim)
    exact V_vret e_X9_readMan_131 rfl (hh7)
  · refine V_aload_n e_X9_readMan_10 rfl rfl ?_
    refine V_iconst (v := nI 3) e_X9_readMan_11 (by decide) ?_
    refine V_cvV (av := [.int (nI 3)]) (st := []) e_X9_readMan_12 (c_X9_bad_f E 3 k q σ τ hf hk hk3) l_X9_111 S_X9_bad rfl (rm_ok (by decide) (by decide)) rfl rfl (Nat.le_of_ble_eq_true rfl) ?_
    intro τ1 hh1
    refine V_aload_n e_X9_readMan_15 rfl rfl ?_
    refine V_aload_n e_X9_readMan_16 rfl rfl ?_
    refine V_bipush (v := nI 122) e_X9_readMan_17 (by decide) ?_
    refine V_cvIe (av := [.int (nI 122)]) (st := [.ref (eB E + 292)]) e_X9_readMan_19 (c_X9_isLetter_f E (nI 122) k q σ τ1 hh1 hk hk3) l_X9_135 S_X9_isLetter rfl (rm_ok (by decide) (by decide)) rfl rfl (Nat.le_of_ble_eq_true rfl) ?_
    refine V_cvV (av := [.int (nI 0)]) (st := []) e_X9_readMan_22 (c_X9_must_f E (nI 0) k q σ τ1 hh1 hk hk3) l_X9_118 S_X9_must rfl (rm_ok (by decide) (by decide)) rfl rfl (Nat.le_of_ble_eq_true rfl) ?_
    intro τ2 hh2
    refine V_aload_n e_X9_readMan_25 rfl rfl ?_
    refine V_iconst (v := nI 0) e_X9_readMan_26 (by decide) ?_
    refine V_aload_n e_X9_readMan_27 rfl rfl ?_
    refine V_getr (r := 297) e_X9_readMan_28 F_X9_fresh f_X9_22 rfl rfl ?_
    refine V_iconst (v := nI 0) e_X9_readMan_31 (by decide) ?_
    refine V_iald (j := 0) e_X9_readMan_32 rfl rfl (by decide) ?_
    refine V_iconst (v := nI 1) e_X9_readMan_33 (by decide) ?_
    refine V_isub e_X9_readMan_34 ?_
    refine V_cvI (av := [.int (nI 0), .int ((τ2 297 0) - (nI 1))]) (st := []) e_X9_readMan_35 (c_X9_number_f E (nI 0) ((τ2 297 0) - (nI 1)) k q σ τ2 hh2 hk hk3) l_X9_128 S_X9_number rfl (rm_ok (by decide) (by decide)) rfl rfl (Nat.le_of_ble_eq_true rfl) ?_
    intro τ3 r3 hq3
    obtain ⟨rfl, hh3⟩ := hq3
    refine V_istore_n (L' := [some (.ref (eB E + 292)), some (.int (nI 0)), none, none, none]) e_X9_readMan_38 rfl rfl ?_
    refine V_aload_n e_X9_readMan_39 rfl rfl ?_
    refine V_bipush (v := nI 44) e_X9_readMan_40 (by decide) ?_
    refine V_cvV (av := [.int (nI 44)]) (st := []) e_X9_readMan_42 (c_X9_mustSign_f E (nI 44) k q σ τ3 hh3 hk hk3) l_X9_132 S_X9_mustSign rfl (rm_ok (by decide) (by decide)) rfl rfl (Nat.le_of_ble_eq_true rfl) ?_
    intro τ4 hh4
    refine V_aload_n e_X9_readMan_45 rfl rfl ?_
    refine V_iconst (v := nI 0) e_X9_readMan_46 (by decide) ?_
    refine V_iconst (v := nI 1) e_X9_readMan_47 (by decide) ?_
    refine V_cvI (av := [.int (nI 0), .int (nI 1)]) (st := []) e_X9_readMan_48 (c_X9_number_f E (nI 0) (nI 1) k q σ τ4 hh4 hk hk3) l_X9_128 S_X9_number rfl (rm_ok (by decide) (by decide)) rfl rfl (Nat.le_of_ble_eq_true rfl) ?_
    intro τ5 r5 hq5
    obtain ⟨rfl, hh5⟩ := hq5
    refine V_istore_n (L' := [some (.ref (eB E + 292)), some (.int (nI 0)), some (.int (nI 0)), none, none]) e_X9_readMan_51 rfl rfl ?_
    refine V_aload_n e_X9_readMan_52 rfl rfl ?_
    refine V_bipush (v := nI 44) e_X9_readMan_53 (by decide) ?_
    refine V_cvV (av := [.int (nI 44)]) (st := []) e_X9_readMan_55 (c_X9_mustSign_f E (nI 44) k q σ τ5 hh5 hk hk3) l_X9_132 S_X9_mustSign rfl (rm_ok (by decide) (by decide)) rfl rfl (Nat.le_of_ble_eq_true rfl) ?_
    intro τ6 hh6
    refine V_aload_n e_X9_readMan_58 rfl rfl ?_
    refine V_iconst (v := nI 0) e_X9_readMan_59 (by decide) ?_
    refine V_bipush (v := nI 99) e_X9_readMan_60 (by decide) ?_
    refine V_cvI (av := [.int (nI 0), .int (nI 99)]) (st := []) e_X9_readMan_62 (c_X9_number_f E (nI 0) (nI 99) k q σ τ6 hh6 hk hk3) l_X9_128 S_X9_number rfl (rm_ok (by decide) (by decide)) rfl rfl (Nat.le_of_ble_eq_true rfl) ?_
    intro τ7 r7 hq7
    obtain ⟨rfl, hh7⟩ := hq7
    refine V_istore_n (L' := [some (.ref (eB E + 292)), some (.int (nI 0)), some (.int (nI 0)), some (.int (nI 0)), none]) e_X9_readMan_65 rfl rfl ?_
    refine V_aload_n e_X9_readMan_66 rfl rfl ?_
    refine V_bipush (v := nI 59) e_X9_readMan_67 (by decide) ?_
    refine V_cvV (av := [.int (nI 59)]) (st := []) e_X9_readMan_69 (c_X9_mustSign_f E (nI 59) k q σ τ7 hh7 hk hk3) l_X9_132 S_X9_mustSign rfl (rm_ok (by decide) (by decide)) rfl rfl (Nat.le_of_ble_eq_true rfl) ?_
    intro τ8 hh8
    refine V_aload_n e_X9_readMan_72 rfl rfl ?_
    refine V_getiv (v := nI k) e_X9_readMan_73 F_X9_fault f_X9_84 rfl hh8.2.1 ?_
    refine V_if_ne (tgt := 131) e_X9_readMan_76 (by decide) (fun c3 => ?_) (fun c3 => ((absurd (show k = 0 from nq_eq (by omega) (by omega) c3) hk : False)).elim)
    exact V_vret e_X9_readMan_131 rfl (hh8)
set_option maxRecDepth 100000 in
set_option maxHeartbeats 4000000 in
theorem c_X9_begin (E : En) (T : Tp) (σ : Sg) (hMT : MT σ T) (hTb : T.1 ≤ 100) (hT6 : ∀ j, j < T.1 → T.2 j < 256) : Cn E m_X9_begin 3 [.ref (eB E + 292)] σ (pV (fun σ' => FMr σ σ' ∧ σ' 292 16 = nI 0 ∧ MPos σ' T 0)) := by
  refine Cn.of [some (.ref (eB E + 292))] (by decide) (Nat.le_of_ble_eq_true rfl) rfl ?_
  refine V_aload_n e_X9_begin_0 rfl rfl ?_
  refine V_iconst (v := nI 0) e_X9_begin_1 (by decide) ?_
  refine V_puti e_X9_begin_2 F_X9_cursor f_X9_93 rfl ?_
  refine V_aload_n e_X9_begin_5 rfl rfl ?_
  refine V_iconst (v := nI 0) e_X9_begin_6 (by decide) ?_
  refine V_puti e_X9_begin_7 F_X9_fault f_X9_84 rfl ?_
  refine V_aload_n e_X9_begin_10 rfl rfl ?_
  refine V_cvV (av := []) (st := []) e_X9_begin_11 (c_X9_nextToken E 0 T (up2 (up2 σ 292 12 (nI 0)) 292 16 (nI 0)) (hMT.fm ((FMr.rf.up (by omega) (by omega)).up (by omega) (by omega))) hTb hT6 (Nat.zero_le _) ((up2_k (by decide)).trans up2_at)) l_X9_115 S_X9_nextToken rfl (rm_ok (by decide) (by decide)) rfl rfl (Nat.le_of_ble_eq_true rfl) ?_
  intro τ1 hh
  obtain ⟨hn1, hp1⟩ := hh
  exact V_vret e_X9_begin_14 rfl (⟨((FMr.rf.up (by omega) (by omega)).up (by omega) (by omega)).fn hn1, (hn1 292 16 (by omega)).trans up2_at, hp1⟩)

theorem pGs_s {T : Tp} {f q p : Nat} {A : Vec} (h : ¬ srt (tok T p) = 0) : pGs T (f + 1) (0, q, p, A) = pGs T f (pGate T (0, q, p, A)) := (if_pos rfl).trans (if_neg h)
theorem pGs_e {T : Tp} {f q p : Nat} {A : Vec} (h : srt (tok T p) = 0) : pGs T f (0, q, p, A) = (0, q, p, A) := by
  cases f with
  | zero => rfl
  | succ f => exact (if_pos rfl).trans (if_pos h)
theorem pMs_s {T : Tp} {f q p : Nat} {A : Vec} (h : tok T p = 122) : pMs T (f + 1) (0, q, p, A) = pMs T f (pMan T (0, q, p, A)) := (if_pos rfl).trans (if_pos h)
theorem pMs_e {T : Tp} {f q p : Nat} {A : Vec} (h : ¬ tok T p = 122) : pMs T f (0, q, p, A) = (0, q, p, A) := by
  cases f with
  | zero => rfl
  | succ f => exact (if_pos rfl).trans (if_neg h)
theorem pGe_f {X : PX} (h : ¬ X.1 = 0) : pGe X = X := if_neg h
theorem pMe_f {X : PX} (h : ¬ X.1 = 0) : pMe X = X := if_neg h
theorem pGe_y {q p : Nat} {A : Vec} (h : ¬ A 0 < 2) : pGe (0, q, p, A) = (0, q, p, A) := (if_pos rfl).trans (if_neg h)
theorem pGe_n {q p : Nat} {A : Vec} (h : A 0 < 2) : pGe (0, q, p, A) = (1, p, p, A) := (if_pos rfl).trans (if_pos h)
theorem pMe_y {q p : Nat} {A : Vec} (h : ¬ A 1 < 1) : pMe (0, q, p, A) = (0, q, p, A) := (if_pos rfl).trans (if_neg h)
theorem pMe_n {q p : Nat} {A : Vec} (h : A 1 < 1) : pMe (0, q, p, A) = (1, p, p, A) := (if_pos rfl).trans (if_pos h)
set_option maxRecDepth 100000 in
set_option maxHeartbeats 4000000 in
theorem lp_X6_readGates (E : En) (T : Tp) (Xs : PX) (σ : Sg) (hTb : T.1 ≤ 100) (hT6 : ∀ j, j < T.1 → T.2 j < 256) : ∀ (mm : Nat) (g : Nat) (q : Nat) (p : Nat) (A : Vec) (τ : Sg), 7 - g = mm → (g ≤ 7) → (CT τ T) → (Fdr σ τ) → (p ≤ T.1) → (CPos τ T p) → (DrC τ A) → (PV A) → (pGs T 7 Xs = pGs T (7 - g) (0, q, p, A)) → V E m_X6_readGates (kM E 6 (pI (fun σ' r => Fdr σ σ' ∧ RC T 2 0 σ' (pGe (pGs T 7 Xs)) r))) 2 [some (.ref (eB E + 2)), some (.ref (eB E + 13)), some (.int (nI g))] [] τ := by
  intro mm
  induction mm using Nat.strongRecOn with
  | ind mm ih =>
    intro g q p A τ hmm hg hct hfd hp hP hD hV hX
    have h06 := hV.1
    refine V_iload_n e_X6_readGates_2 rfl rfl ?_
    refine V_bipush (v := nI 6) e_X6_readGates_3 (by decide) ?_
    refine V_icmp_gt (tgt := 31) e_X6_readGates_5 (by decide) (fun c1 => ?_) (fun c1 => ?_)
    · have d1 : 6 < g := nq_lt (by first | omega | (have hq9 := srt_le (tok T p); omega)) (by first | omega | (have hq9 := srt_le (tok T p); omega)) c1
      refine V_aload_n e_X6_readGates_31 rfl rfl ?_
      refine V_getiv (v := nI (A 0)) e_X6_readGates_32 F_X5_gates f_X6_64 rfl hD.1.1.2.2.2.1 ?_
      refine V_iconst (v := nI 2) e_X6_readGates_35 (by decide) ?_
      refine V_icmp_ge (tgt := 47) e_X6_readGates_36 (by decide) (fun c2 => ?_) (fun c2 => ?_)
      · have d2 : 2 ≤ A 0 := nq_le (by first | omega | (have hq9 := srt_le (tok T p); omega)) (by first | omega | (have hq9 := srt_le (tok T p); omega)) c2
        refine V_iconst (v := nI 1) e_X6_readGates_47 (by decide) ?_
        refine V_goto (tgt := 52) e_X6_readGates_48 (by decide) ?_
        exact V_zret e_X6_readGates_52 rfl (by first | exact Or.inl nI_0 | exact Or.inr rfl | assumption) (by have hE : pGs T 7 Xs = (0, q, p, A) := hX.trans (by rw [show 7 - g = 0 by omega]; rfl); rw [show pGe (pGs T 7 Xs) = (0, q, p, A) from (by rw [hE, pGe_y (by omega)])]; exact ⟨hfd, Or.inl ⟨rfl, rfl, hP, hp, hD, hV, (by show 2 ≤ A 0; omega), Nat.zero_le _⟩⟩)
      · have d2 : ¬ 2 ≤ A 0 := nq_nle (by first | omega | (have hq9 := srt_le (tok T p); omega)) (by first | omega | (have hq9 := srt_le (tok T p); omega)) c2
        refine V_aload_n e_X6_readGates_39 rfl rfl ?_
        refine V_iconst (v := nI 1) e_X6_readGates_40 (by decide) ?_
        refine V_cvIe (av := [.int (nI 1)]) (st := []) e_X6_readGates_41 (c_X6_refuse E 1 p τ hP.1) l_X6_67 S_X6_refuse rfl (rm_ok (by decide) (by decide)) rfl rfl (Nat.le_of_ble_eq_true rfl) ?_
        refine V_if_eq (tgt := 51) e_X6_readGates_44 (by decide) (fun c3 => ?_) (fun c3 => absurd c3 (by decide))
        refine V_iconst (v := nI 0) e_X6_readGates_51 (by decide) ?_
        exact V_zret e_X6_readGates_52 rfl (by first | exact Or.inl nI_0 | exact Or.inr rfl | assumption) (by have hE : pGs T 7 Xs = (0, q, p, A) := hX.trans (by rw [show 7 - g = 0 by omega]; rfl); rw [show pGe (pGs T 7 Xs) = (1, p, p, A) from (by rw [hE, pGe_n (by omega)])]; exact ⟨hfd.tr ((F2.rf.up (by omega)).up (by omega)).d, Or.inr ⟨by show ¬ 1 = 0; decide, rfl, (up2_k (by decide)).trans up2_at, up2_at⟩⟩)
    · have d1 : ¬ 6 < g := nq_nlt (by first | omega | (have hq9 := srt_le (tok T p); omega)) (by first | omega | (have hq9 := srt_le (tok T p); omega)) c1
      refine V_aload_n e_X6_readGates_8 rfl rfl ?_
      refine V_cvIe (av := []) (st := []) e_X6_readGates_9 (c_X6_sortInView E (tok T p) τ hP.2.2.1 (tok_lt hT6)) l_X6_57 S_X6_sortInView rfl (rm_ok (by decide) (by decide)) rfl rfl (Nat.le_of_ble_eq_true rfl) ?_
      refine V_if_eq (tgt := 31) e_X6_readGates_12 (by decide) (fun c4 => ?_) (fun c4 => ?_)
      · have d4 : srt (tok T p) = 0 := nq_eq (by first | omega | (have hq9 := srt_le (tok T p); omega)) (by first | omega | (have hq9 := srt_le (tok T p); omega)) c4
        have hsr := d4
        refine V_aload_n e_X6_readGates_31 rfl rfl ?_
        refine V_getiv (v := nI (A 0)) e_X6_readGates_32 F_X5_gates f_X6_64 rfl hD.1.1.2.2.2.1 ?_
        refine V_iconst (v := nI 2) e_X6_readGates_35 (by decide) ?_
        refine V_icmp_ge (tgt := 47) e_X6_readGates_36 (by decide) (fun c5 => ?_) (fun c5 => ?_)
        · have d5 : 2 ≤ A 0 := nq_le (by first | omega | (have hq9 := srt_le (tok T p); omega)) (by first | omega | (have hq9 := srt_le (tok T p); omega)) c5
          refine V_iconst (v := nI 1) e_X6_readGates_47 (by decide) ?_
          refine V_goto (tgt := 52) e_X6_readGates_48 (by decide) ?_
          exact V_zret e_X6_readGates_52 rfl (by first | exact Or.inl nI_0 | exact Or.inr rfl | assumption) (by have hE : pGs T 7 Xs = (0, q, p, A) := hX.trans (by exact pGs_e hsr); rw [show pGe (pGs T 7 Xs) = (0, q, p, A) from (by rw [hE, pGe_y (by omega)])]; exact ⟨hfd, Or.inl ⟨rfl, rfl, hP, hp, hD, hV, (by show 2 ≤ A 0; omega), Nat.zero_le _⟩⟩)
        · have d5 : ¬ 2 ≤ A 0 := nq_nle (by first | omega | (have hq9 := srt_le (tok T p); omega)) (by first | omega | (have hq9 := srt_le (tok T p); omega)) c5
          refine V_aload_n e_X6_readGates_39 rfl rfl ?_
          refine V_iconst (v := nI 1) e_X6_readGates_40 (by decide) ?_
          refine V_cvIe (av := [.int (nI 1)]) (st := []) e_X6_readGates_41 (c_X6_refuse E 1 p τ hP.1) l_X6_67 S_X6_refuse rfl (rm_ok (by decide) (by decide)) rfl rfl (Nat.le_of_ble_eq_true rfl) ?_
          refine V_if_eq (tgt := 51) e_X6_readGates_44 (by decide) (fun c6 => ?_) (fun c6 => absurd c6 (by decide))
          refine V_iconst (v := nI 0) e_X6_readGates_51 (by decide) ?_
          exact V_zret e_X6_readGates_52 rfl (by first | exact Or.inl nI_0 | exact Or.inr rfl | assumption) (by have hE : pGs T 7 Xs = (0, q, p, A) := hX.trans (by exact pGs_e hsr); rw [show pGe (pGs T 7 Xs) = (1, p, p, A) from (by rw [hE, pGe_n (by omega)])]; exact ⟨hfd.tr ((F2.rf.up (by omega)).up (by omega)).d, Or.inr ⟨by show ¬ 1 = 0; decide, rfl, (up2_k (by decide)).trans up2_at, up2_at⟩⟩)
      · have d4 : ¬ srt (tok T p) = 0 := nq_ne (by first | omega | (have hq9 := srt_le (tok T p); omega)) (by first | omega | (have hq9 := srt_le (tok T p); omega)) c4
        have hsr := d4
        refine V_aload_n e_X6_readGates_15 rfl rfl ?_
        refine V_aload_n e_X6_readGates_16 rfl rfl ?_
        refine V_cvI (av := [.ref (eB E + 13)]) (st := []) e_X6_readGates_17 (c_X6_readGate E T q p A τ hct hTb hT6 hp hP hD hV hsr) l_X6_61 S_X6_readGate rfl (rm_ok (by decide) (by decide)) rfl rfl (Nat.le_of_ble_eq_true rfl) ?_
        intro τ1 r1 hh1
        obtain ⟨hf1, hr1⟩ := hh1
        rcases hG1 : pGate T (0, q, p, A) with ⟨k1, q1, p1, A1⟩
        rw [hG1] at hr1
        rcases hr1 with ⟨hk1, hz1, hp1, hle1, hd1, hv1, hg1, hm1⟩ | ⟨hk1, hz1, hn1, hq1⟩
        · subst hz1
          obtain rfl : k1 = 0 := hk1
          refine V_if_ne (tgt := 25) e_X6_readGates_20 (by decide) (fun c7 => ?_) (fun c7 => absurd c7 (by decide))
          refine V_iinc (v := nI (g + 1)) (L' := [some (.ref (eB E + 2)), some (.ref (eB E + 13)), some (.int (nI (g + 1)))]) e_X6_readGates_25 rfl (nI_add _ 1) rfl ?_
          refine V_goto (tgt := 2) e_X6_readGates_28 (by decide) ?_
          exact ih (7 - (g + 1)) (by omega) (g + 1) q1 p1 A1 τ1 rfl (by omega) (hct.d hf1) (hfd.tr hf1) hle1 hp1 hd1 hv1 (by rw [hX, show 7 - g = (7 - (g + 1)) + 1 by omega, pGs_s hsr, hG1])
        · subst hz1
          refine V_if_ne (tgt := 25) e_X6_readGates_20 (by decide) (fun c8 => absurd c8 (by decide)) (fun c8 => ?_)
          refine V_iconst (v := nI 0) e_X6_readGates_23 (by decide) ?_
          exact V_zret e_X6_readGates_24 rfl (by first | exact Or.inl nI_0 | exact Or.inr rfl | assumption) (by have hX2 : pGe (pGs T 7 Xs) = (k1, q1, p1, A1) := (by rw [hX, show 7 - g = (7 - (g + 1)) + 1 by omega, pGs_s hsr, hG1, pGs_f hk1, pGe_f hk1]); rw [hX2]; exact ⟨hfd.tr hf1, Or.inr ⟨hk1, rfl, hn1, hq1⟩⟩)
set_option maxRecDepth 100000 in
set_option maxHeartbeats 4000000 in
theorem c_X6_readGates (E : En) (T : Tp) (q p : Nat) (A : Vec) (σ : Sg) (hCT : CT σ T) (hTb : T.1 ≤ 100) (hT6 : ∀ j, j < T.1 → T.2 j < 256) (hp : p ≤ T.1) (hP : CPos σ T p) (hD : DrC σ A) (hV : PV A) : Cn E m_X6_readGates 6 [.ref (eB E + 2), .ref (eB E + 13)] σ (pI (fun σ' r => Fdr σ σ' ∧ RC T 2 0 σ' (pGe (pGs T 7 (0, q, p, A))) r)) := by
  refine Cn.of [some (.ref (eB E + 2)), some (.ref (eB E + 13)), none] (by decide) (Nat.le_of_ble_eq_true rfl) rfl ?_
  refine V_iconst (v := nI 0) e_X6_readGates_0 (by decide) ?_
  refine V_istore_n (L' := [some (.ref (eB E + 2)), some (.ref (eB E + 13)), some (.int (nI 0))]) e_X6_readGates_1 rfl rfl ?_
  exact lp_X6_readGates E T (0, q, p, A) σ hTb hT6 7 0 q p A σ rfl (by omega) hCT Fdr.rf hp hP hD hV rfl
set_option maxRecDepth 100000 in
set_option maxHeartbeats 4000000 in
theorem lp_X6_readPeople (E : En) (T : Tp) (Xs : PX) (σ : Sg) (hTb : T.1 ≤ 100) (hT6 : ∀ j, j < T.1 → T.2 j < 256) : ∀ (mm : Nat) (g : Nat) (q : Nat) (p : Nat) (A : Vec) (τ : Sg), 6 - g = mm → (g ≤ 6) → (CT τ T) → (Fdr σ τ) → (p ≤ T.1) → (CPos τ T p) → (DrC τ A) → (PV A) → (pMs T 6 Xs = pMs T (6 - g) (0, q, p, A)) → (2 ≤ A 0) → V E m_X6_readPeople (kM E 6 (pI (fun σ' r => Fdr σ σ' ∧ RC T 2 1 σ' (pMe (pMs T 6 Xs)) r))) 2 [some (.ref (eB E + 2)), some (.ref (eB E + 13)), some (.int (nI g))] [] τ := by
  intro mm
  induction mm using Nat.strongRecOn with
  | ind mm ih =>
    intro g q p A τ hmm hg hct hfd hp hP hD hV hX h2
    have h15 := hV.2.1
    have ht9 := tok_lt (c := p) hT6
    refine V_iload_n e_X6_readPeople_2 rfl rfl ?_
    refine V_iconst (v := nI 5) e_X6_readPeople_3 (by decide) ?_
    refine V_icmp_gt (tgt := 32) e_X6_readPeople_4 (by decide) (fun c1 => ?_) (fun c1 => ?_)
    · have d1 : 5 < g := nq_lt (by omega) (by omega) c1
      refine V_aload_n e_X6_readPeople_32 rfl rfl ?_
      refine V_getiv (v := nI (A 1)) e_X6_readPeople_33 F_X5_people f_X6_80 rfl hD.1.1.2.2.2.2.1 ?_
      refine V_iconst (v := nI 1) e_X6_readPeople_36 (by decide) ?_
      refine V_icmp_ge (tgt := 48) e_X6_readPeople_37 (by decide) (fun c2 => ?_) (fun c2 => ?_)
      · have d2 : 1 ≤ A 1 := nq_le (by omega) (by omega) c2
        refine V_iconst (v := nI 1) e_X6_readPeople_48 (by decide) ?_
        refine V_goto (tgt := 53) e_X6_readPeople_49 (by decide) ?_
        exact V_zret e_X6_readPeople_53 rfl (by first | exact Or.inl nI_0 | exact Or.inr rfl | assumption) (by have hE : pMs T 6 Xs = (0, q, p, A) := hX.trans (by rw [show 6 - g = 0 by omega]; rfl); rw [show pMe (pMs T 6 Xs) = (0, q, p, A) from (by rw [hE, pMe_y (by omega)])]; exact ⟨hfd, Or.inl ⟨rfl, rfl, hP, hp, hD, hV, h2, (by show 1 ≤ A 1; omega)⟩⟩)
      · have d2 : ¬ 1 ≤ A 1 := nq_nle (by omega) (by omega) c2
        refine V_aload_n e_X6_readPeople_40 rfl rfl ?_
        refine V_iconst (v := nI 1) e_X6_readPeople_41 (by decide) ?_
        refine V_cvIe (av := [.int (nI 1)]) (st := []) e_X6_readPeople_42 (c_X6_refuse E 1 p τ hP.1) l_X6_67 S_X6_refuse rfl (rm_ok (by decide) (by decide)) rfl rfl (Nat.le_of_ble_eq_true rfl) ?_
        refine V_if_eq (tgt := 52) e_X6_readPeople_45 (by decide) (fun c3 => ?_) (fun c3 => absurd c3 (by decide))
        refine V_iconst (v := nI 0) e_X6_readPeople_52 (by decide) ?_
        exact V_zret e_X6_readPeople_53 rfl (by first | exact Or.inl nI_0 | exact Or.inr rfl | assumption) (by have hE : pMs T 6 Xs = (0, q, p, A) := hX.trans (by rw [show 6 - g = 0 by omega]; rfl); rw [show pMe (pMs T 6 Xs) = (1, p, p, A) from (by rw [hE, pMe_n (by omega)])]; exact ⟨hfd.tr ((F2.rf.up (by omega)).up (by omega)).d, Or.inr ⟨by show ¬ 1 = 0; decide, rfl, (up2_k (by decide)).trans up2_at, up2_at⟩⟩)
    · have d1 : ¬ 5 < g := nq_nlt (by omega) (by omega) c1
      refine V_aload_n e_X6_readPeople_7 rfl rfl ?_
      refine V_getiv (v := nI (tok T p)) e_X6_readPeople_8 F_X6_token f_X6_74 rfl hP.2.2.1 ?_
      refine V_bipush (v := nI 122) e_X6_readPeople_11 (by decide) ?_
      refine V_icmp_ne (tgt := 32) e_X6_readPeople_13 (by decide) (fun c4 => ?_) (fun c4 => ?_)
      · have d4 : ¬ tok T p = 122 := nq_ne (by omega) (by omega) c4
        have hsr := d4
        refine V_aload_n e_X6_readPeople_32 rfl rfl ?_
        refine V_getiv (v := nI (A 1)) e_X6_readPeople_33 F_X5_people f_X6_80 rfl hD.1.1.2.2.2.2.1 ?_
        refine V_iconst (v := nI 1) e_X6_readPeople_36 (by decide) ?_
        refine V_icmp_ge (tgt := 48) e_X6_readPeople_37 (by decide) (fun c5 => ?_) (fun c5 => ?_)
        · have d5 : 1 ≤ A 1 := nq_le (by omega) (by omega) c5
          refine V_iconst (v := nI 1) e_X6_readPeople_48 (by decide) ?_
          refine V_goto (tgt := 53) e_X6_readPeople_49 (by decide) ?_
          exact V_zret e_X6_readPeople_53 rfl (by first | exact Or.inl nI_0 | exact Or.inr rfl | assumption) (by have hE : pMs T 6 Xs = (0, q, p, A) := hX.trans (by exact pMs_e hsr); rw [show pMe (pMs T 6 Xs) = (0, q, p, A) from (by rw [hE, pMe_y (by omega)])]; exact ⟨hfd, Or.inl ⟨rfl, rfl, hP, hp, hD, hV, h2, (by show 1 ≤ A 1; omega)⟩⟩)
        · have d5 : ¬ 1 ≤ A 1 := nq_nle (by omega) (by omega) c5
          refine V_aload_n e_X6_readPeople_40 rfl rfl ?_
          refine V_iconst (v := nI 1) e_X6_readPeople_41 (by decide) ?_
          refine V_cvIe (av := [.int (nI 1)]) (st := []) e_X6_readPeople_42 (c_X6_refuse E 1 p τ hP.1) l_X6_67 S_X6_refuse rfl (rm_ok (by decide) (by decide)) rfl rfl (Nat.le_of_ble_eq_true rfl) ?_
          refine V_if_eq (tgt := 52) e_X6_readPeople_45 (by decide) (fun c6 => ?_) (fun c6 => absurd c6 (by decide))
          refine V_iconst (v := nI 0) e_X6_readPeople_52 (by decide) ?_
          exact V_zret e_X6_readPeople_53 rfl (by first | exact Or.inl nI_0 | exact Or.inr rfl | assumption) (by have hE : pMs T 6 Xs = (0, q, p, A) := hX.trans (by exact pMs_e hsr); rw [show pMe (pMs T 6 Xs) = (1, p, p, A) from (by rw [hE, pMe_n (by omega)])]; exact ⟨hfd.tr ((F2.rf.up (by omega)).up (by omega)).d, Or.inr ⟨by show ¬ 1 = 0; decide, rfl, (up2_k (by decide)).trans up2_at, up2_at⟩⟩)
      · have d4 : tok T p = 122 := nq_eq (by omega) (by omega) c4
        have hsr := d4
        refine V_aload_n e_X6_readPeople_16 rfl rfl ?_
        refine V_aload_n e_X6_readPeople_17 rfl rfl ?_
        refine V_cvI (av := [.ref (eB E + 13)]) (st := []) e_X6_readPeople_18 (c_X6_readPerson E T q p A τ hct hTb hT6 hp hP hD hV h2) l_X6_77 S_X6_readPerson rfl (rm_ok (by decide) (by decide)) rfl rfl (Nat.le_of_ble_eq_true rfl) ?_
        intro τ1 r1 hh1
        obtain ⟨hf1, hr1⟩ := hh1
        rcases hG1 : pMan T (0, q, p, A) with ⟨k1, q1, p1, A1⟩
        rw [hG1] at hr1
        rcases hr1 with ⟨hk1, hz1, hp1, hle1, hd1, hv1, hg1, hm1⟩ | ⟨hk1, hz1, hn1, hq1⟩
        · subst hz1
          obtain rfl : k1 = 0 := hk1
          refine V_if_ne (tgt := 26) e_X6_readPeople_21 (by decide) (fun c7 => ?_) (fun c7 => absurd c7 (by decide))
          refine V_iinc (v := nI (g + 1)) (L' := [some (.ref (eB E + 2)), some (.ref (eB E + 13)), some (.int (nI (g + 1)))]) e_X6_readPeople_26 rfl (nI_add _ 1) rfl ?_
          refine V_goto (tgt := 2) e_X6_readPeople_29 (by decide) ?_
          exact ih (6 - (g + 1)) (by omega) (g + 1) q1 p1 A1 τ1 rfl (by omega) (hct.d hf1) (hfd.tr hf1) hle1 hp1 hd1 hv1 (by rw [hX, show 6 - g = (6 - (g + 1)) + 1 by omega, pMs_s hsr, hG1]) hg1
        · subst hz1
          refine V_if_ne (tgt := 26) e_X6_readPeople_21 (by decide) (fun c8 => absurd c8 (by decide)) (fun c8 => ?_)
          refine V_iconst (v := nI 0) e_X6_readPeople_24 (by decide) ?_
          exact V_zret e_X6_readPeople_25 rfl (by first | exact Or.inl nI_0 | exact Or.inr rfl | assumption) (by have hX2 : pMe (pMs T 6 Xs) = (k1, q1, p1, A1) := (by rw [hX, show 6 - g = (6 - (g + 1)) + 1 by omega, pMs_s hsr, hG1, pMs_f hk1, pMe_f hk1]); rw [hX2]; exact ⟨hfd.tr hf1, Or.inr ⟨hk1, rfl, hn1, hq1⟩⟩)
set_option maxRecDepth 100000 in
set_option maxHeartbeats 4000000 in
theorem c_X6_readPeople (E : En) (T : Tp) (q p : Nat) (A : Vec) (σ : Sg) (hCT : CT σ T) (hTb : T.1 ≤ 100) (hT6 : ∀ j, j < T.1 → T.2 j < 256) (hp : p ≤ T.1) (hP : CPos σ T p) (hD : DrC σ A) (hV : PV A) (h2 : 2 ≤ A 0) : Cn E m_X6_readPeople 6 [.ref (eB E + 2), .ref (eB E + 13)] σ (pI (fun σ' r => Fdr σ σ' ∧ RC T 2 1 σ' (pMe (pMs T 6 (0, q, p, A))) r)) := by
  refine Cn.of [some (.ref (eB E + 2)), some (.ref (eB E + 13)), none] (by decide) (Nat.le_of_ble_eq_true rfl) rfl ?_
  refine V_iconst (v := nI 0) e_X6_readPeople_0 (by decide) ?_
  refine V_istore_n (L' := [some (.ref (eB E + 2)), some (.ref (eB E + 13)), some (.int (nI 0))]) e_X6_readPeople_1 rfl rfl ?_
  exact lp_X6_readPeople E T (0, q, p, A) σ hTb hT6 6 0 q p A σ rfl (by omega) hCT Fdr.rf hp hP hD hV rfl h2
set_option maxRecDepth 100000 in
set_option maxHeartbeats 4000000 in
theorem c_X6_readInto (E : En) (T : Tp) (σ : Sg) (hCT : CT σ T) (hTb : T.1 ≤ 100) (hT6 : ∀ j, j < T.1 → T.2 j < 256) : Cn E m_X6_readInto 7 [.ref (eB E + 2), .ref (eB E + 13)] σ (pI (fun σ' r => Fdr σ σ' ∧ RC T 2 1 σ' (pAll T) r)) := by
  refine Cn.of [some (.ref (eB E + 2)), some (.ref (eB E + 13))] (by decide) (Nat.le_of_ble_eq_true rfl) rfl ?_
  refine V_aload_n e_X6_readInto_0 rfl rfl ?_
  refine V_cvVe (av := []) (st := []) e_X6_readInto_1 (c_X5_clear E 13 σ rfl) l_X6_19 S_X5_clear rfl (rm_ok (by decide) (by decide)) rfl rfl (Nat.le_of_ble_eq_true rfl) ?_
  refine V_aload_n e_X6_readInto_4 rfl rfl ?_
  refine V_iconst (v := nI 0) e_X6_readInto_5 (by decide) ?_
  refine V_puti e_X6_readInto_6 F_X6_behind f_X6_24 rfl ?_
  obtain ⟨τ0, hτ0⟩ : ∃ τ9 : Sg, τ9 = up2 (up2 (up2 (up2 (up2 (up2 σ 13 2 (nI 0)) 13 3 (nI 0)) 13 4 (nI 0)) 13 5 (nI 0)) 13 6 (nI 0)) 2 5 (nI 0) := ⟨_, rfl⟩
  rw [← hτ0]
  have hct0 : CT τ0 T := by rw [hτ0]; exact (hCT.d (((((Fdr.rf.up (by decide) (by decide)).up (by decide) (by decide)).up (by decide) (by decide)).up (by decide) (by decide)).up (by decide) (by decide))).f2 (F2.rf.up (by omega))
  have hfd0 : Fdr σ τ0 := by rw [hτ0]; exact (((((Fdr.rf.up (by decide) (by decide)).up (by decide) (by decide)).up (by decide) (by decide)).up (by decide) (by decide)).up (by decide) (by decide)).tr (F2.rf.up (by omega)).d
  have hb0 : τ0 2 5 = nI 0 := by rw [hτ0]; exact up2_at
  have hz0 : LZ3 τ0 (τ0 13 0) (τ0 13 1) := ⟨fun j h1 h2 => by
      rw [hτ0, up2_ne (by decide)]
      rcases (show j = 2 ∨ j = 3 ∨ j = 4 ∨ j = 5 ∨ j = 6 by omega) with rfl | rfl | rfl | rfl | rfl <;> simp [up2], rfl, rfl⟩
  refine V_aload_n e_X6_readInto_9 rfl rfl ?_
  refine V_cvV (av := []) (st := []) e_X6_readInto_10 (c_X6_advance E 0 T τ0 hct0 hTb hT6 (Nat.zero_le _) hb0) l_X6_27 S_X6_advance rfl (rm_ok (by decide) (by decide)) rfl rfl (Nat.le_of_ble_eq_true rfl) ?_
  intro τ1 hh1
  have hct1 : CT τ1 T := hct0.f2 hh1.1
  have hz1 : LZ3 τ1 (τ1 13 0) (τ1 13 1) := ⟨(hz0.f2 hh1.1).1, rfl, rfl⟩
  refine V_aload_n e_X6_readInto_13 rfl rfl ?_
  refine V_aload_n e_X6_readInto_14 rfl rfl ?_
  refine V_cvI (av := [.ref (eB E + 13)]) (st := []) e_X6_readInto_15 (c_X6_readLaw E T 0 τ1 hct1 hTb hT6 (Nat.zero_le _) hh1.2.1 hz1) l_X6_30 S_X6_readLaw rfl (rm_ok (by decide) (by decide)) rfl rfl (Nat.le_of_ble_eq_true rfl) ?_
  intro τ2 r2 hh2
  obtain ⟨hf2, hr2⟩ := hh2
  rcases hG2 : pLaw T (0, 0, 0, fun _ => 0) with ⟨k2, q2, p2, A2⟩
  rw [hG2] at hr2
  rcases hr2 with ⟨hk2, hz2, hp2, hle2, hd2, hv2, hg2, hm2⟩ | ⟨hk2, hz2, hn2, hq2⟩
  · subst hz2
    obtain rfl : k2 = 0 := hk2
    refine V_if_eq (tgt := 51) e_X6_readInto_18 (by decide) (fun c1 => absurd c1 (by decide)) (fun c1 => ?_)
    refine V_aload_n e_X6_readInto_21 rfl rfl ?_
    refine V_aload_n e_X6_readInto_22 rfl rfl ?_
    refine V_cvI (av := [.ref (eB E + 13)]) (st := []) e_X6_readInto_23 (c_X6_readGates E T q2 p2 A2 τ2 (hct1.d hf2) hTb hT6 hle2 hp2 hd2 hv2) l_X6_34 S_X6_readGates rfl (rm_ok (by decide) (by decide)) rfl rfl (Nat.le_of_ble_eq_true rfl) ?_
    intro τ3 r3 hh3
    obtain ⟨hf3, hr3⟩ := hh3
    rcases hG3 : pGe (pGs T 7 (0, q2, p2, A2)) with ⟨k3, q3, p3, A3⟩
    rw [hG3] at hr3
    rcases hr3 with ⟨hk3, hz3, hp3, hle3, hd3, hv3, hg3, hm3⟩ | ⟨hk3, hz3, hn3, hq3⟩
    · subst hz3
      obtain rfl : k3 = 0 := hk3
      refine V_if_eq (tgt := 51) e_X6_readInto_26 (by decide) (fun c2 => absurd c2 (by decide)) (fun c2 => ?_)
      refine V_aload_n e_X6_readInto_29 rfl rfl ?_
      refine V_aload_n e_X6_readInto_30 rfl rfl ?_
      refine V_cvI (av := [.ref (eB E + 13)]) (st := []) e_X6_readInto_31 (c_X6_readPeople E T q3 p3 A3 τ3 ((hct1.d hf2).d hf3) hTb hT6 hle3 hp3 hd3 hv3 hg3) l_X6_37 S_X6_readPeople rfl (rm_ok (by decide) (by decide)) rfl rfl (Nat.le_of_ble_eq_true rfl) ?_
      intro τ4 r4 hh4
      obtain ⟨hf4, hr4⟩ := hh4
      rcases hG4 : pMe (pMs T 6 (0, q3, p3, A3)) with ⟨k4, q4, p4, A4⟩
      rw [hG4] at hr4
      rcases hr4 with ⟨hk4, hz4, hp4, hle4, hd4, hv4, hg4, hm4⟩ | ⟨hk4, hz4, hn4, hq4⟩
      · subst hz4
        obtain rfl : k4 = 0 := hk4
        refine V_if_eq (tgt := 51) e_X6_readInto_34 (by decide) (fun c3 => absurd c3 (by decide)) (fun c3 => ?_)
        refine V_aload_n e_X6_readInto_37 rfl rfl ?_
        refine V_sipush (v := nI 257) e_X6_readInto_38 (by decide) ?_
        refine V_cvI (av := [.int (nI 257)]) (st := []) e_X6_readInto_41 (c_X6_take E T p4 257 τ4 (((hct1.d hf2).d hf3).d hf4) hTb hT6 hle4 hp4 (by omega)) l_X6_40 S_X6_take rfl (rm_ok (by decide) (by decide)) rfl rfl (Nat.le_of_ble_eq_true rfl) ?_
        intro τ5 r5 hh5
        rcases hh5.2 with ⟨ht5, hz5, hp5⟩ | ⟨ht5, hz5, hn5, hq5⟩
        · subst hz5
          refine V_if_eq (tgt := 51) e_X6_readInto_44 (by decide) (fun c4 => absurd c4 (by decide)) (fun c4 => ?_)
          refine V_iconst (v := nI 1) e_X6_readInto_47 (by decide) ?_
          refine V_goto (tgt := 52) e_X6_readInto_48 (by decide) ?_
          exact V_zret e_X6_readInto_52 rfl (by first | exact Or.inl nI_0 | exact Or.inr rfl | assumption) (by rw [show pAll T = (0, q4, nx T p4, A4) from (by unfold pAll; rw [show pLaw T X0 = (0, q2, p2, A2) from hG2, hG3, hG4, pTake_y ht5])]; exact ⟨((((hfd0.tr hh1.1.d).tr hf2).tr hf3).tr hf4).tr hh5.1.d, Or.inl ⟨rfl, rfl, hp5, nx_le hle4, hd4.f2 hv4.2.1 hh5.1, hv4, hg4, hm4⟩⟩)
        · subst hz5
          refine V_if_eq (tgt := 51) e_X6_readInto_44 (by decide) (fun c5 => ?_) (fun c5 => absurd c5 (by decide))
          refine V_iconst (v := nI 0) e_X6_readInto_51 (by decide) ?_
          exact V_zret e_X6_readInto_52 rfl (by first | exact Or.inl nI_0 | exact Or.inr rfl | assumption) (by rw [show pAll T = (1, p4, p4, A4) from (by unfold pAll; rw [show pLaw T X0 = (0, q2, p2, A2) from hG2, hG3, hG4, pTake_n ht5])]; exact ⟨((((hfd0.tr hh1.1.d).tr hf2).tr hf3).tr hf4).tr hh5.1.d, Or.inr ⟨by show ¬ 1 = 0; decide, rfl, hn5, hq5⟩⟩)
      · subst hz4
        refine V_if_eq (tgt := 51) e_X6_readInto_34 (by decide) (fun c6 => ?_) (fun c6 => absurd c6 (by decide))
        refine V_iconst (v := nI 0) e_X6_readInto_51 (by decide) ?_
        exact V_zret e_X6_readInto_52 rfl (by first | exact Or.inl nI_0 | exact Or.inr rfl | assumption) (by rw [show pAll T = (k4, q4, p4, A4) from (by unfold pAll; rw [show pLaw T X0 = (0, q2, p2, A2) from hG2, hG3, hG4, pTake_f hk4])]; exact ⟨(((hfd0.tr hh1.1.d).tr hf2).tr hf3).tr hf4, Or.inr ⟨hk4, rfl, hn4, hq4⟩⟩)
    · subst hz3
      refine V_if_eq (tgt := 51) e_X6_readInto_26 (by decide) (fun c7 => ?_) (fun c7 => absurd c7 (by decide))
      refine V_iconst (v := nI 0) e_X6_readInto_51 (by decide) ?_
      exact V_zret e_X6_readInto_52 rfl (by first | exact Or.inl nI_0 | exact Or.inr rfl | assumption) (by rw [show pAll T = (k3, q3, p3, A3) from (by unfold pAll; rw [show pLaw T X0 = (0, q2, p2, A2) from hG2, hG3, pMs_f hk3, pMe_f hk3, pTake_f hk3])]; exact ⟨((hfd0.tr hh1.1.d).tr hf2).tr hf3, Or.inr ⟨hk3, rfl, hn3, hq3⟩⟩)
  · subst hz2
    refine V_if_eq (tgt := 51) e_X6_readInto_18 (by decide) (fun c8 => ?_) (fun c8 => absurd c8 (by decide))
    refine V_iconst (v := nI 0) e_X6_readInto_51 (by decide) ?_
    exact V_zret e_X6_readInto_52 rfl (by first | exact Or.inl nI_0 | exact Or.inr rfl | assumption) (by rw [show pAll T = (k2, q2, p2, A2) from (by unfold pAll; rw [show pLaw T X0 = (k2, q2, p2, A2) from hG2, pGs_f hk2, pGe_f hk2, pMs_f hk2, pMe_f hk2, pTake_f hk2])]; exact ⟨(hfd0.tr hh1.1.d).tr hf2, Or.inr ⟨hk2, rfl, hn2, hq2⟩⟩)
theorem shore_ic {ρ : Sg} {S : Ab} {B : Vec} (h : IC ρ S) (hB : GD B) (hR : RepC ρ 13 B) : IC (up2 (bec 4 13 ρ) 23 2 (nI 0)) (wH (wA S B) ((aH S).1, 0)) := by
  have h1 := h.wA hB (bec_rep (n := 4) hB.g6 hB.p5 hR) bec_fb
  obtain ⟨O, o1, o2, o3, o4⟩ := id h1.2.2.1
  refine h1.wH ⟨Nat.zero_le _, fun j hj => absurd hj (Nat.not_lt_zero j)⟩ ⟨O, o1, (up2_k (by decide)).trans o2, up2_at, fun j hj => absurd hj (Nat.not_lt_zero j)⟩ (Fb.rf.up (by decide) (by decide))
set_option maxRecDepth 100000 in
set_option maxHeartbeats 4000000 in
theorem c8_shore (E : En) (A : Vec) (T : AbT) (σ : Sg) (hI : IC σ (A, T)) : Cn E m_X8_shore 12 [.ref (eB E + 0)] σ (pC σ (oShore (A, T))) := by
  have hR : RepC σ 4 A := hI.2.1
  have hGD : GD A := hI.1.1
  have hN : WN A := hGD.1
  have hNl := hN.le
  have hA4 : A 4 ≤ 999 := hGD.2.2
  refine Cn.of [some (.ref (eB E + 0)), none] (by decide) (Nat.le_of_ble_eq_true rfl) rfl ?_
  refine V_aload_n e_X8_shore_0 rfl rfl ?_
  refine V_getr (r := 2) e_X8_shore_1 F_X8_tape f_X8_18 rfl rfl ?_
  refine V_aload_n e_X8_shore_4 rfl rfl ?_
  refine V_getr (r := 13) e_X8_shore_5 F_X8_draft f_X8_29 rfl rfl ?_
  refine V_cvI (av := [.ref (eB E + 13)]) (st := []) e_X8_shore_8 (c_X6_readInto E (aT (A, T)) σ hI.2.2.2.2.2.1 hI.1.2.2.2.2.1.1 hI.1.2.2.2.2.1.2) l_X8_118 S_X6_readInto rfl (rm_ok (by decide) (by decide)) rfl rfl (Nat.le_of_ble_eq_true rfl) ?_
  intro τ r9 hh9
  obtain ⟨hf9, hr9⟩ := hh9
  have hk3 := (PK.all (aT (A, T))).1
  rcases hX : pAll (aT (A, T)) with ⟨k9, q9, p9, B⟩
  rw [hX] at hr9 hk3
  have hJ : IC τ (A, T) := hI.fr (fun a k hk => hf9 a k (fun q => hk (by unfold Nrd; omega)) (fun q => hk (by unfold Nrd; omega)))
  have hJ2 : IC (up2 τ 2 1 (nI 0)) (wT (A, T) (0, (aT (A, T)).2)) := hJ.wT ⟨Nat.zero_le _, fun j hj => absurd hj (Nat.not_lt_zero j)⟩ ⟨up2_at, fun j hj => absurd hj (Nat.not_lt_zero j)⟩ (Fb.rf.up (by decide) (by decide))
  have hb9 : Fb 0 292 σ (up2 τ 2 1 (nI 0)) := Fb.up (fun a k hk => hf9 a k (by omega) (by omega)) (by decide) (by decide)
  rcases hr9 with ⟨hk9, hz9, hp9, hle9, hd9, hv9, hg9, hm9⟩ | ⟨hk9, hz9, hn9, hq9⟩
  · subst hz9
    obtain rfl : k9 = 0 := hk9
    have hGB : GD B := hv9.gd hg9 hm9
    have hR13 : RepC (up2 τ 2 1 (nI 0)) 13 B := hd9.1.eq hGB.p5 (fun a a1 a2 k => congrFun (up2_ne (by omega)) k)
    refine V_istore_n (L' := [some (.ref (eB E + 0)), some (.int (nI 1))]) e_X8_shore_11 rfl rfl ?_
    refine V_aload_n e_X8_shore_12 rfl rfl ?_
    refine V_getr (r := 2) e_X8_shore_13 F_X8_tape f_X8_18 rfl rfl ?_
    refine V_iconst (v := nI 0) e_X8_shore_16 (by decide) ?_
    refine V_puti e_X8_shore_17 F_X6_size f_X8_116 rfl ?_
    refine V_iload_n e_X8_shore_20 rfl rfl ?_
    refine V_if_ne (tgt := 46) e_X8_shore_21 (by decide) (fun c1 => ?_) (fun c1 => absurd c1 (by decide))
    refine V_aload_n e_X8_shore_46 rfl rfl ?_
    refine V_getr (r := 4) e_X8_shore_47 F_X8_now f_X8_25 rfl rfl ?_
    refine V_aload_n e_X8_shore_50 rfl rfl ?_
    refine V_getr (r := 13) e_X8_shore_51 F_X8_draft f_X8_29 rfl rfl ?_
    refine V_cvVe (av := [.ref (eB E + 13)]) (st := []) e_X8_shore_54 (c_X5_become E 4 13 (up2 τ 2 1 (nI 0)) rfl rfl (by omega)) l_X8_132 S_X5_become rfl (rm_ok (by decide) (by decide)) rfl rfl (Nat.le_of_ble_eq_true rfl) ?_
    refine V_aload_n e_X8_shore_57 rfl rfl ?_
    refine V_getr (r := 23) e_X8_shore_58 F_X8_acts f_X8_39 rfl rfl ?_
    refine V_cvVe (av := []) (st := []) e_X8_shore_61 (c_X0_forgetAll E (bec 4 13 (up2 τ 2 1 (nI 0)))) l_X8_136 S_X0_forgetAll rfl (rm_ok (by decide) (by decide)) rfl rfl (Nat.le_of_ble_eq_true rfl) ?_
    refine V_aload_n e_X8_shore_64 rfl rfl ?_
    refine V_getr (r := 4) e_X8_shore_65 F_X8_now f_X8_25 rfl rfl ?_
    refine V_getiv (v := nI (B 0)) e_X8_shore_68 F_X5_gates f_X8_139 rfl ((congrFun (up2_ne (by decide)) _).trans (bec_rep (n := 4) hGB.g6 hGB.p5 hR13).1.2.2.2.1) ?_
    exact V_iret e_X8_shore_71 rfl (by rw [show oShore (A, T) = (wH (wA (wT (A, T) (0, (aT (A, T)).2)) B) ((aH (A, T)).1, 0), nI (B 0)) from (by unfold oShore; rw [hX]; exact if_pos rfl)]; exact ⟨(hb9.tr (bec_fb.wide (by decide) (by decide))).up (by decide) (by decide), shore_ic hJ2 hGB hR13, rfl⟩)
  · subst hz9
    refine V_istore_n (L' := [some (.ref (eB E + 0)), some (.int (nI 0))]) e_X8_shore_11 rfl rfl ?_
    refine V_aload_n e_X8_shore_12 rfl rfl ?_
    refine V_getr (r := 2) e_X8_shore_13 F_X8_tape f_X8_18 rfl rfl ?_
    refine V_iconst (v := nI 0) e_X8_shore_16 (by decide) ?_
    refine V_puti e_X8_shore_17 F_X6_size f_X8_116 rfl ?_
    refine V_iload_n e_X8_shore_20 rfl rfl ?_
    refine V_if_ne (tgt := 46) e_X8_shore_21 (by decide) (fun c2 => absurd c2 (by decide)) (fun c2 => ?_)
    refine V_aload_n e_X8_shore_24 rfl rfl ?_
    refine V_aload_n e_X8_shore_25 rfl rfl ?_
    refine V_getr (r := 2) e_X8_shore_26 F_X8_tape f_X8_18 rfl rfl ?_
    refine V_getiv (v := nI k9) e_X8_shore_29 F_X6_faultNumber f_X8_122 rfl ((up2_k (by decide)).trans hn9) ?_
    refine V_puti e_X8_shore_32 F_X8_latestFault f_X8_125 rfl ?_
    refine V_ldc (v := (-1000100)) e_X8_shore_35 k_X8_128 ?_
    refine V_aload_n e_X8_shore_37 rfl rfl ?_
    refine V_getr (r := 2) e_X8_shore_38 F_X8_tape f_X8_18 rfl rfl ?_
    refine V_getiv (v := nI q9) e_X8_shore_41 F_X6_faultPlace f_X8_129 rfl ((congrFun (up2_ne (by decide)) _).trans ((up2_k (by decide)).trans hq9)) ?_
    refine V_isub e_X8_shore_44 ?_
    exact V_iret e_X8_shore_45 rfl (by rw [show oShore (A, T) = (wF (wT (A, T) (0, (aT (A, T)).2)) k9, (-1000100) - nI q9) from (by unfold oShore; rw [hX]; exact if_neg hk9)]; exact ⟨hb9.up (by decide) (by decide), hJ2.wF hk3, rfl⟩)

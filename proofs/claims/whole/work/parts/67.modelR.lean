def FMr (σ τ : Sg) : Prop := ∀ a k, ¬ (a = 292 ∧ 12 ≤ k ∧ k ≤ 17) → a ≠ 297 → τ a k = σ a k
theorem FMr.rf {σ : Sg} : FMr σ σ := fun _ _ _ _ => rfl
theorem FMr.fn {σ τ ρ : Sg} (h1 : FMr σ τ) (h2 : FN τ ρ) : FMr σ ρ := fun a k h g => (h2 a k (by omega)).trans (h1 a k h g)
theorem FMr.up {σ τ : Sg} {k : Nat} {v : Int32} (h : FMr σ τ) (h1 : 12 ≤ k) (h2 : k ≤ 17) : FMr σ (up2 τ 292 k v) := fun a j hj g => by
  unfold up2
  rw [if_neg (fun q => hj ⟨q.1, by rw [q.2]; exact h1, by rw [q.2]; exact h2⟩)]
  exact h a j hj g
theorem FMr.uf {σ τ : Sg} {k : Nat} {v : Int32} (h : FMr σ τ) : FMr σ (up2 τ 297 k v) := fun a j hj g => by rw [up2_ne g]; exact h a j hj g
theorem MT.fm {σ τ : Sg} {T : Tp} (h : MT σ T) (e : FMr σ τ) : MT τ T := h.fr (e 292 11 (by omega) (by decide)) (fun k => e 300 k (by omega) (by decide))
/-- a fault is told -/
def MF (σ τ : Sg) (k q : Nat) : Prop := FMr σ τ ∧ τ 292 16 = nI k ∧ τ 292 17 = nI q
theorem MF.uf {σ τ : Sg} {k q j : Nat} {v : Int32} (h : MF σ τ k q) : MF σ (up2 τ 297 j v) k q := ⟨h.1.uf, (congrFun (up2_ne (by decide)) _).trans h.2.1, (congrFun (up2_ne (by decide)) _).trans h.2.2⟩
/-- none so far -/
def M0 (σ τ : Sg) (T : Tp) (p : Nat) (A : Vec) : Prop := FMr σ τ ∧ τ 292 16 = nI 0 ∧ MPos τ T p ∧ p ≤ T.1 ∧ RepM τ 297 A
theorem M0.uf {σ τ : Sg} {T : Tp} {p j v : Nat} {A : Vec} (h : M0 σ τ T p A) (hj : j < 55) : M0 σ (up2 τ 297 j (nI v)) T p (updN A j v) := by
  obtain ⟨h1, h2, h3, h4, h5⟩ := h
  refine ⟨h1.uf, (congrFun (up2_ne (by decide)) _).trans h2, ?_, h4, fun k hk => ?_⟩
  · unfold MPos
    rw [up2_ne (by decide)]
    exact h3
  · unfold up2 updN
    by_cases e : k = j
    · rw [if_pos ⟨rfl, e⟩, if_pos e]
    · rw [if_neg (fun q => e q.2), if_neg e]; exact h5 k hk
def kbI (x : Int32) : Int32 := if x = nI 106 then nI 1 else if x = nI 119 then nI 2 else if x = nI 116 then nI 3 else if x = nI 111 then nI 4 else if x = nI 109 then nI 5 else (-1000000)
theorem kb_n {t : Nat} (h : t < 300) : kbI (nI t) = if srt t = 0 then (-1000000) else nI (srt t) := (show ∀ t, t < 300 → kbI (nI t) = if srt t = 0 then (-1000000) else nI (srt t) by decide +kernel) t h
set_option maxRecDepth 100000 in
set_option maxHeartbeats 4000000 in
theorem c_X9_kindBy (E : En) (x : Int32) (σ : Sg) : Cn E m_X9_kindBy 1 [.int x] σ (pI (fun σ' r => σ' = σ ∧ r = kbI x)) := by
  refine Cn.of [some (.int x)] (by decide) (Nat.le_of_ble_eq_true rfl) rfl ?_
  refine V_iload_n e_X9_kindBy_0 rfl rfl ?_
  refine V_bipush (v := nI 106) e_X9_kindBy_1 (by decide) ?_
  refine V_icmp_ne (tgt := 10) e_X9_kindBy_3 (by decide) (fun c1 => ?_) (fun c1 => ?_)
  · refine V_iload_n e_X9_kindBy_10 rfl rfl ?_
    refine V_bipush (v := nI 119) e_X9_kindBy_11 (by decide) ?_
    refine V_icmp_ne (tgt := 20) e_X9_kindBy_13 (by decide) (fun c2 => ?_) (fun c2 => ?_)
    · refine V_iload_n e_X9_kindBy_20 rfl rfl ?_
      refine V_bipush (v := nI 116) e_X9_kindBy_21 (by decide) ?_
      refine V_icmp_ne (tgt := 30) e_X9_kindBy_23 (by decide) (fun c3 => ?_) (fun c3 => ?_)
      · refine V_iload_n e_X9_kindBy_30 rfl rfl ?_
        refine V_bipush (v := nI 111) e_X9_kindBy_31 (by decide) ?_
        refine V_icmp_ne (tgt := 40) e_X9_kindBy_33 (by decide) (fun c4 => ?_) (fun c4 => ?_)
        · refine V_iload_n e_X9_kindBy_40 rfl rfl ?_
          refine V_bipush (v := nI 109) e_X9_kindBy_41 (by decide) ?_
          refine V_icmp_ne (tgt := 50) e_X9_kindBy_43 (by decide) (fun c5 => ?_) (fun c5 => ?_)
          · refine V_ldc (v := (-1000000)) e_X9_kindBy_50 k_X9_96 ?_
            exact V_iret e_X9_kindBy_52 rfl (⟨rfl, by unfold kbI; (first | rw [if_pos c1] | rw [if_neg c1] | skip); (first | rw [if_pos c2] | rw [if_neg c2] | skip); (first | rw [if_pos c3] | rw [if_neg c3] | skip); (first | rw [if_pos c4] | rw [if_neg c4] | skip); (first | rw [if_pos c5] | rw [if_neg c5] | skip); (try rfl)⟩)
          · refine V_iconst (v := nI 5) e_X9_kindBy_46 (by decide) ?_
            refine V_goto (tgt := 52) e_X9_kindBy_47 (by decide) ?_
            exact V_iret e_X9_kindBy_52 rfl (⟨rfl, by unfold kbI; (first | rw [if_pos c1] | rw [if_neg c1] | skip); (first | rw [if_pos c2] | rw [if_neg c2] | skip); (first | rw [if_pos c3] | rw [if_neg c3] | skip); (first | rw [if_pos c4] | rw [if_neg c4] | skip); (first | rw [if_pos c5] | rw [if_neg c5] | skip); (try rfl)⟩)
        · refine V_iconst (v := nI 4) e_X9_kindBy_36 (by decide) ?_
          refine V_goto (tgt := 52) e_X9_kindBy_37 (by decide) ?_
          exact V_iret e_X9_kindBy_52 rfl (⟨rfl, by unfold kbI; (first | rw [if_pos c1] | rw [if_neg c1] | skip); (first | rw [if_pos c2] | rw [if_neg c2] | skip); (first | rw [if_pos c3] | rw [if_neg c3] | skip); (first | rw [if_pos c4] | rw [if_neg c4] | skip); (try rfl)⟩)
      · refine V_iconst (v := nI 3) e_X9_kindBy_26 (by decide) ?_
        refine V_goto (tgt := 52) e_X9_kindBy_27 (by decide) ?_
        exact V_iret e_X9_kindBy_52 rfl (⟨rfl, by unfold kbI; (first | rw [if_pos c1] | rw [if_neg c1] | skip); (first | rw [if_pos c2] | rw [if_neg c2] | skip); (first | rw [if_pos c3] | rw [if_neg c3] | skip); (try rfl)⟩)
    · refine V_iconst (v := nI 2) e_X9_kindBy_16 (by decide) ?_
      refine V_goto (tgt := 52) e_X9_kindBy_17 (by decide) ?_
      exact V_iret e_X9_kindBy_52 rfl (⟨rfl, by unfold kbI; (first | rw [if_pos c1] | rw [if_neg c1] | skip); (first | rw [if_pos c2] | rw [if_neg c2] | skip); (try rfl)⟩)
  · refine V_iconst (v := nI 1) e_X9_kindBy_6 (by decide) ?_
    refine V_goto (tgt := 52) e_X9_kindBy_7 (by decide) ?_
    exact V_iret e_X9_kindBy_52 rfl (⟨rfl, by unfold kbI; (first | rw [if_pos c1] | rw [if_neg c1] | skip); (try rfl)⟩)
set_option maxRecDepth 100000 in
set_option maxHeartbeats 4000000 in
theorem c_X9_bad_0 (E : En) (n : Nat) (T : Tp) (p : Nat) (A : Vec) (σ τ : Sg) (h0 : M0 σ τ T p A) : Cn E m_X9_bad 1 [.ref (eB E + 292), .int (nI n)] τ (pV (fun σ' => MF σ σ' n p)) := by
  refine Cn.of [some (.ref (eB E + 292)), some (.int (nI n))] (by decide) (Nat.le_of_ble_eq_true rfl) rfl ?_
  refine V_aload_n e_X9_bad_0 rfl rfl ?_
  refine V_getiv (v := nI 0) e_X9_bad_1 F_X9_fault f_X9_84 rfl h0.2.1 ?_
  refine V_if_ne (tgt := 20) e_X9_bad_4 (by decide) (fun c1 => absurd c1 (by decide)) (fun c1 => ?_)
  refine V_aload_n e_X9_bad_7 rfl rfl ?_
  refine V_iload_n e_X9_bad_8 rfl rfl ?_
  refine V_puti e_X9_bad_9 F_X9_fault f_X9_84 rfl ?_
  refine V_aload_n e_X9_bad_12 rfl rfl ?_
  refine V_aload_n e_X9_bad_13 rfl rfl ?_
  refine V_getiv (v := nI p) e_X9_bad_14 F_X9_start f_X9_87 rfl ((up2_k (by decide)).trans (h0.2.2.1.2.1)) ?_
  refine V_puti e_X9_bad_17 F_X9_faultAt f_X9_90 rfl ?_
  exact V_vret e_X9_bad_20 rfl (⟨(h0.1.up (by omega) (by omega)).up (by omega) (by omega), (up2_k (by decide)).trans up2_at, up2_at⟩)
set_option maxRecDepth 100000 in
set_option maxHeartbeats 4000000 in
theorem c_X9_bad_f (E : En) (n : Nat) (k q : Nat) (σ τ : Sg) (hf : MF σ τ k q) (hk : ¬ k = 0) (hk3 : k ≤ 3) : Cn E m_X9_bad 1 [.ref (eB E + 292), .int (nI n)] τ (pV (fun σ' => MF σ σ' k q)) := by
  refine Cn.of [some (.ref (eB E + 292)), some (.int (nI n))] (by decide) (Nat.le_of_ble_eq_true rfl) rfl ?_
  refine V_aload_n e_X9_bad_0 rfl rfl ?_
  refine V_getiv (v := nI k) e_X9_bad_1 F_X9_fault f_X9_84 rfl hf.2.1 ?_
  refine V_if_ne (tgt := 20) e_X9_bad_4 (by decide) (fun c1 => ?_) (fun c1 => ((absurd (show k = 0 from nq_eq (by omega) (by omega) c1) hk : False)).elim)
  exact V_vret e_X9_bad_20 rfl (hf)
set_option maxRecDepth 100000 in
set_option maxHeartbeats 4000000 in
theorem c_X9_must_1 (E : En) (T : Tp) (p : Nat) (A : Vec) (σ τ : Sg) (hMT : MT σ T) (hTb : T.1 ≤ 100) (hT6 : ∀ j, j < T.1 → T.2 j < 256) (h0 : M0 σ τ T p A) : Cn E m_X9_must 3 [.ref (eB E + 292), .int (nI 1)] τ (pV (fun σ' => M0 σ σ' T (nx T p) A)) := by
  refine Cn.of [some (.ref (eB E + 292)), some (.int (nI 1))] (by decide) (Nat.le_of_ble_eq_true rfl) rfl ?_
  refine V_iload_n e_X9_must_0 rfl rfl ?_
  refine V_if_ne (tgt := 9) e_X9_must_1 (by decide) (fun c1 => ?_) (fun c1 => absurd c1 (by decide))
  refine V_aload_n e_X9_must_9 rfl rfl ?_
  refine V_getiv (v := nI 0) e_X9_must_10 F_X9_fault f_X9_84 rfl h0.2.1 ?_
  refine V_if_ne (tgt := 20) e_X9_must_13 (by decide) (fun c2 => absurd c2 (by decide)) (fun c2 => ?_)
  refine V_aload_n e_X9_must_16 rfl rfl ?_
  refine V_cvV (av := []) (st := []) e_X9_must_17 (c_X9_nextToken E (nx T p) T τ (hMT.fm h0.1) hTb hT6 (nx_le h0.2.2.2.1) h0.2.2.1.1) l_X9_115 S_X9_nextToken rfl (rm_ok (by decide) (by decide)) rfl rfl (Nat.le_of_ble_eq_true rfl) ?_
  intro τ1 hh
  obtain ⟨hn1, hp1⟩ := hh
  have h1 : M0 σ τ1 T (nx T p) A := ⟨h0.1.fn hn1, (hn1 292 16 (by omega)).trans h0.2.1, hp1, nx_le h0.2.2.2.1, fun k hk => (hn1 297 k (by omega)).trans (h0.2.2.2.2 k hk)⟩
  exact V_vret e_X9_must_20 rfl (h1)
set_option maxRecDepth 100000 in
set_option maxHeartbeats 4000000 in
theorem c_X9_must_0 (E : En) (T : Tp) (p : Nat) (A : Vec) (σ τ : Sg) (h0 : M0 σ τ T p A) : Cn E m_X9_must 3 [.ref (eB E + 292), .int (nI 0)] τ (pV (fun σ' => MF σ σ' 1 p)) := by
  refine Cn.of [some (.ref (eB E + 292)), some (.int (nI 0))] (by decide) (Nat.le_of_ble_eq_true rfl) rfl ?_
  refine V_iload_n e_X9_must_0 rfl rfl ?_
  refine V_if_ne (tgt := 9) e_X9_must_1 (by decide) (fun c1 => absurd c1 (by decide)) (fun c1 => ?_)
  refine V_aload_n e_X9_must_4 rfl rfl ?_
  refine V_iconst (v := nI 1) e_X9_must_5 (by decide) ?_
  refine V_cvV (av := [.int (nI 1)]) (st := []) e_X9_must_6 (c_X9_bad_0 E 1 T p A σ τ h0) l_X9_111 S_X9_bad rfl (rm_ok (by decide) (by decide)) rfl rfl (Nat.le_of_ble_eq_true rfl) ?_
  intro τ1 hf1
  refine V_aload_n e_X9_must_9 rfl rfl ?_
  refine V_getiv (v := nI 1) e_X9_must_10 F_X9_fault f_X9_84 rfl hf1.2.1 ?_
  refine V_if_ne (tgt := 20) e_X9_must_13 (by decide) (fun c2 => ?_) (fun c2 => absurd c2 (by decide))
  exact V_vret e_X9_must_20 rfl (hf1)
set_option maxRecDepth 100000 in
set_option maxHeartbeats 4000000 in
theorem c_X9_must_f (E : En) (b : Int32) (k q : Nat) (σ τ : Sg) (hf : MF σ τ k q) (hk : ¬ k = 0) (hk3 : k ≤ 3) : Cn E m_X9_must 3 [.ref (eB E + 292), .int b] τ (pV (fun σ' => MF σ σ' k q)) := by
  refine Cn.of [some (.ref (eB E + 292)), some (.int b)] (by decide) (Nat.le_of_ble_eq_true rfl) rfl ?_
  refine V_iload_n e_X9_must_0 rfl rfl ?_
  refine V_if_ne (tgt := 9) e_X9_must_1 (by decide) (fun c1 => ?_) (fun c1 => ?_)
  · refine V_aload_n e_X9_must_9 rfl rfl ?_
    refine V_getiv (v := nI k) e_X9_must_10 F_X9_fault f_X9_84 rfl hf.2.1 ?_
    refine V_if_ne (tgt := 20) e_X9_must_13 (by decide) (fun c2 => ?_) (fun c2 => ((absurd (show k = 0 from nq_eq (by omega) (by omega) c2) hk : False)).elim)
    exact V_vret e_X9_must_20 rfl (hf)
  · refine V_aload_n e_X9_must_4 rfl rfl ?_
    refine V_iconst (v := nI 1) e_X9_must_5 (by decide) ?_
    refine V_cvV (av := [.int (nI 1)]) (st := []) e_X9_must_6 (c_X9_bad_f E 1 k q σ τ hf hk hk3) l_X9_111 S_X9_bad rfl (rm_ok (by decide) (by decide)) rfl rfl (Nat.le_of_ble_eq_true rfl) ?_
    intro τ1 hf1
    refine V_aload_n e_X9_must_9 rfl rfl ?_
    refine V_getiv (v := nI k) e_X9_must_10 F_X9_fault f_X9_84 rfl hf1.2.1 ?_
    refine V_if_ne (tgt := 20) e_X9_must_13 (by decide) (fun c3 => ?_) (fun c3 => ((absurd (show k = 0 from nq_eq (by omega) (by omega) c3) hk : False)).elim)
    exact V_vret e_X9_must_20 rfl (hf1)
set_option maxRecDepth 100000 in
set_option maxHeartbeats 4000000 in
theorem c_X9_isLetter_0 (E : En) (c : Nat) (T : Tp) (p : Nat) (A : Vec) (σ τ : Sg) (h0 : M0 σ τ T p A) (hT6 : ∀ j, j < T.1 → T.2 j < 256) (hc : 97 ≤ c ∧ c ≤ 122) : Cn E m_X9_isLetter 1 [.ref (eB E + 292), .int (nI c)] τ (pI (fun σ' r => σ' = τ ∧ r = nI (if tok T p = c then 1 else 0))) := by
  have hmt := mtk_le (tok T p)
  have ht9 := tok_lt (c := p) hT6
  refine Cn.of [some (.ref (eB E + 292)), some (.int (nI c))] (by decide) (Nat.le_of_ble_eq_true rfl) rfl ?_
  refine V_aload_n e_X9_isLetter_0 rfl rfl ?_
  refine V_getiv (v := nI 0) e_X9_isLetter_1 F_X9_fault f_X9_84 rfl h0.2.1 ?_
  refine V_if_ne (tgt := 27) e_X9_isLetter_4 (by decide) (fun c1 => absurd c1 (by decide)) (fun c1 => ?_)
  refine V_aload_n e_X9_isLetter_7 rfl rfl ?_
  refine V_getiv (v := nI (mtk (tok T p))) e_X9_isLetter_8 F_X9_token f_X9_108 rfl h0.2.2.1.2.2.1 ?_
  refine V_iconst (v := nI 2) e_X9_isLetter_11 (by decide) ?_
  refine V_icmp_ne (tgt := 27) e_X9_isLetter_12 (by decide) (fun c2 => ?_) (fun c2 => ?_)
  · have d2 : ¬ mtk (tok T p) = 2 := nq_ne (by omega) (by omega) c2
    refine V_iconst (v := nI 0) e_X9_isLetter_27 (by decide) ?_
    exact V_zret e_X9_isLetter_28 rfl (by first | exact Or.inl nI_0 | exact Or.inr rfl | assumption) (⟨rfl, congrArg nI (by first | rw [if_pos d2] | rw [if_neg d2] | rw [if_neg (fun z => d2 (by rw [z]; exact mtk_2.mpr hc))])⟩)
  · have d2 : mtk (tok T p) = 2 := nq_eq (by omega) (by omega) c2
    refine V_aload_n e_X9_isLetter_15 rfl rfl ?_
    refine V_getiv (v := nI (tok T p)) e_X9_isLetter_16 F_X9_value f_X9_97 rfl (h0.2.2.1.2.2.2.1 (Or.inl d2)) ?_
    refine V_iload_n e_X9_isLetter_19 rfl rfl ?_
    refine V_icmp_ne (tgt := 27) e_X9_isLetter_20 (by decide) (fun c3 => ?_) (fun c3 => ?_)
    · have d3 : ¬ tok T p = c := nq_ne (by omega) (by omega) c3
      refine V_iconst (v := nI 0) e_X9_isLetter_27 (by decide) ?_
      exact V_zret e_X9_isLetter_28 rfl (by first | exact Or.inl nI_0 | exact Or.inr rfl | assumption) (⟨rfl, congrArg nI (by first | rw [if_pos d3] | rw [if_neg d3] | rw [if_neg (fun z => d3 (by rw [z]; exact mtk_2.mpr hc))])⟩)
    · have d3 : tok T p = c := nq_eq (by omega) (by omega) c3
      refine V_iconst (v := nI 1) e_X9_isLetter_23 (by decide) ?_
      refine V_goto (tgt := 28) e_X9_isLetter_24 (by decide) ?_
      exact V_zret e_X9_isLetter_28 rfl (by first | exact Or.inl nI_0 | exact Or.inr rfl | assumption) (⟨rfl, congrArg nI (by first | rw [if_pos d3] | rw [if_neg d3] | rw [if_neg (fun z => d3 (by rw [z]; exact mtk_2.mpr hc))])⟩)
set_option maxRecDepth 100000 in
set_option maxHeartbeats 4000000 in
theorem c_X9_isLetter_f (E : En) (c : Int32) (k q : Nat) (σ τ : Sg) (hf : MF σ τ k q) (hk : ¬ k = 0) (hk3 : k ≤ 3) : Cn E m_X9_isLetter 1 [.ref (eB E + 292), .int c] τ (pI (fun σ' r => σ' = τ ∧ r = nI 0)) := by
  refine Cn.of [some (.ref (eB E + 292)), some (.int c)] (by decide) (Nat.le_of_ble_eq_true rfl) rfl ?_
  refine V_aload_n e_X9_isLetter_0 rfl rfl ?_
  refine V_getiv (v := nI k) e_X9_isLetter_1 F_X9_fault f_X9_84 rfl hf.2.1 ?_
  refine V_if_ne (tgt := 27) e_X9_isLetter_4 (by decide) (fun c1 => ?_) (fun c1 => ((absurd (show k = 0 from nq_eq (by omega) (by omega) c1) hk : False)).elim)
  refine V_iconst (v := nI 0) e_X9_isLetter_27 (by decide) ?_
  exact V_zret e_X9_isLetter_28 rfl (by first | exact Or.inl nI_0 | exact Or.inr rfl | assumption) (⟨rfl, rfl⟩)
theorem srt_lt {t : Nat} (h : ¬ srt t = 0) : 97 ≤ t ∧ t ≤ 122 := by
  unfold srt at h
  (repeat' split at h) <;> omega
set_option maxRecDepth 100000 in
set_option maxHeartbeats 4000000 in
theorem c_X9_isSort_0 (E : En) (T : Tp) (p : Nat) (A : Vec) (σ τ : Sg) (h0 : M0 σ τ T p A) (hT6 : ∀ j, j < T.1 → T.2 j < 256) : Cn E m_X9_isSort 2 [.ref (eB E + 292)] τ (pI (fun σ' r => σ' = τ ∧ r = nI (if srt (tok T p) = 0 then 0 else 1))) := by
  have hmt := mtk_le (tok T p)
  have ht9 := tok_lt (c := p) hT6
  refine Cn.of [some (.ref (eB E + 292))] (by decide) (Nat.le_of_ble_eq_true rfl) rfl ?_
  refine V_aload_n e_X9_isSort_0 rfl rfl ?_
  refine V_getiv (v := nI 0) e_X9_isSort_1 F_X9_fault f_X9_84 rfl h0.2.1 ?_
  refine V_if_ne (tgt := 31) e_X9_isSort_4 (by decide) (fun c1 => absurd c1 (by decide)) (fun c1 => ?_)
  refine V_aload_n e_X9_isSort_7 rfl rfl ?_
  refine V_getiv (v := nI (mtk (tok T p))) e_X9_isSort_8 F_X9_token f_X9_108 rfl h0.2.2.1.2.2.1 ?_
  refine V_iconst (v := nI 2) e_X9_isSort_11 (by decide) ?_
  refine V_icmp_ne (tgt := 31) e_X9_isSort_12 (by decide) (fun c2 => ?_) (fun c2 => ?_)
  · have d2 : ¬ mtk (tok T p) = 2 := nq_ne (by omega) (by omega) c2
    refine V_iconst (v := nI 0) e_X9_isSort_31 (by decide) ?_
    exact V_zret e_X9_isSort_32 rfl (by first | exact Or.inl nI_0 | exact Or.inr rfl | assumption) (⟨rfl, congrArg nI (by first | rw [if_pos hsr] | rw [if_neg hsr] | rw [if_pos (Decidable.byContradiction (fun z => d2 (mtk_2.mpr (srt_lt z))))])⟩)
  · have d2 : mtk (tok T p) = 2 := nq_eq (by omega) (by omega) c2
    refine V_aload_n e_X9_isSort_15 rfl rfl ?_
    refine V_getiv (v := nI (tok T p)) e_X9_isSort_16 F_X9_value f_X9_97 rfl (h0.2.2.1.2.2.2.1 (Or.inl d2)) ?_
    refine V_csIe (av := [.int (nI (tok T p))]) (st := []) e_X9_isSort_19 (c_X9_kindBy E (nI (tok T p)) τ) l_X9_125 S_X9_kindBy (rm_ok (by decide) (by decide)) rfl rfl (Nat.le_of_ble_eq_true rfl) ?_
    refine V_topi (y := if srt (tok T p) = 0 then (-1000000) else nI (srt (tok T p))) (kb_n (by omega)) ?_
    rcases Decidable.em (srt (tok T p) = 0) with hsr | hsr
    · refine V_topi (y := (-1000000)) (if_pos hsr) ?_
      refine V_ldc (v := (-1000000)) e_X9_isSort_22 k_X9_96 ?_
      refine V_icmp_eq (tgt := 31) e_X9_isSort_24 (by decide) (fun c3 => ?_) (fun c3 => absurd c3 (fun q => q rfl))
      refine V_iconst (v := nI 0) e_X9_isSort_31 (by decide) ?_
      exact V_zret e_X9_isSort_32 rfl (by first | exact Or.inl nI_0 | exact Or.inr rfl | assumption) (⟨rfl, congrArg nI (by first | rw [if_pos hsr] | rw [if_neg hsr] | rw [if_pos (Decidable.byContradiction (fun z => d2 (mtk_2.mpr (srt_lt z))))])⟩)
    · refine V_topi (y := nI (srt (tok T p))) (if_neg hsr) ?_
      refine V_ldc (v := (-1000000)) e_X9_isSort_22 k_X9_96 ?_
      refine V_icmp_eq (tgt := 31) e_X9_isSort_24 (by decide) (fun c4 => ((nI_nn (by have := srt_le (tok T p); omega) c4 : False)).elim) (fun c4 => ?_)
      refine V_iconst (v := nI 1) e_X9_isSort_27 (by decide) ?_
      refine V_goto (tgt := 32) e_X9_isSort_28 (by decide) ?_
      exact V_zret e_X9_isSort_32 rfl (by first | exact Or.inl nI_0 | exact Or.inr rfl | assumption) (⟨rfl, congrArg nI (by first | rw [if_pos hsr] | rw [if_neg hsr] | rw [if_pos (Decidable.byContradiction (fun z => d2 (mtk_2.mpr (srt_lt z))))])⟩)
set_option maxRecDepth 100000 in
set_option maxHeartbeats 4000000 in
theorem c_X9_isSort_f (E : En) (k q : Nat) (σ τ : Sg) (hf : MF σ τ k q) (hk : ¬ k = 0) (hk3 : k ≤ 3) : Cn E m_X9_isSort 2 [.ref (eB E + 292)] τ (pI (fun σ' r => σ' = τ ∧ r = nI 0)) := by
  refine Cn.of [some (.ref (eB E + 292))] (by decide) (Nat.le_of_ble_eq_true rfl) rfl ?_
  refine V_aload_n e_X9_isSort_0 rfl rfl ?_
  refine V_getiv (v := nI k) e_X9_isSort_1 F_X9_fault f_X9_84 rfl hf.2.1 ?_
  refine V_if_ne (tgt := 31) e_X9_isSort_4 (by decide) (fun c1 => ?_) (fun c1 => ((absurd (show k = 0 from nq_eq (by omega) (by omega) c1) hk : False)).elim)
  refine V_iconst (v := nI 0) e_X9_isSort_31 (by decide) ?_
  exact V_zret e_X9_isSort_32 rfl (by first | exact Or.inl nI_0 | exact Or.inr rfl | assumption) (⟨rfl, rfl⟩)
set_option maxRecDepth 100000 in
set_option maxHeartbeats 4000000 in
theorem c_X9_number_0 (E : En) (lo hi : Nat) (T : Tp) (p : Nat) (A : Vec) (σ τ : Sg) (hMT : MT σ T) (hTb : T.1 ≤ 100) (hT6 : ∀ j, j < T.1 → T.2 j < 256) (h0 : M0 σ τ T p A) (hlo : lo < 1000) (hhi : hi < 1000) : Cn E m_X9_number 4 [.ref (eB E + 292), .int (nI lo), .int (nI hi)] τ (pI (fun σ' r => (tok T p = 256 ∧ (lo ≤ vl T p ∧ vl T p ≤ hi) ∧ r = nI (vl T p) ∧ M0 σ σ' T (nx T p) A) ∨ ((¬ tok T p = 256 ∧ r = nI lo ∧ MF σ σ' 1 p) ∨ (tok T p = 256 ∧ ¬ (lo ≤ vl T p ∧ vl T p ≤ hi) ∧ r = nI lo ∧ MF σ σ' 2 p)))) := by
  have hmt := mtk_le (tok T p)
  refine Cn.of [some (.ref (eB E + 292)), some (.int (nI lo)), some (.int (nI hi)), none] (by decide) (Nat.le_of_ble_eq_true rfl) rfl ?_
  refine V_aload_n e_X9_number_0 rfl rfl ?_
  refine V_getiv (v := nI 0) e_X9_number_1 F_X9_fault f_X9_84 rfl h0.2.1 ?_
  refine V_if_ne (tgt := 20) e_X9_number_4 (by decide) (fun c1 => absurd c1 (by decide)) (fun c1 => ?_)
  refine V_aload_n e_X9_number_7 rfl rfl ?_
  refine V_getiv (v := nI (mtk (tok T p))) e_X9_number_8 F_X9_token f_X9_108 rfl h0.2.2.1.2.2.1 ?_
  refine V_iconst (v := nI 3) e_X9_number_11 (by decide) ?_
  refine V_icmp_eq (tgt := 20) e_X9_number_12 (by decide) (fun c2 => ?_) (fun c2 => ?_)
  · have d2 : mtk (tok T p) = 3 := nq_eq (by omega) (by omega) c2
    have ht3 := d2
    have h256t := mtk_3.mp ht3
    have hvl := vl_lt hT6 h256t
    refine V_aload_n e_X9_number_20 rfl rfl ?_
    refine V_getiv (v := nI 0) e_X9_number_21 F_X9_fault f_X9_84 rfl h0.2.1 ?_
    refine V_if_ne (tgt := 47) e_X9_number_24 (by decide) (fun c3 => absurd c3 (by decide)) (fun c3 => ?_)
    refine V_aload_n e_X9_number_27 rfl rfl ?_
    refine V_getiv (v := nI (vl T p)) e_X9_number_28 F_X9_value f_X9_97 rfl (h0.2.2.1.2.2.2.2 ht3) ?_
    refine V_i2lN (z := lN (vl T p)) e_X9_number_31 (nI_l (by omega)) ?_
    refine V_iload_n e_X9_number_32 rfl rfl ?_
    refine V_i2lN (z := lN lo) e_X9_number_33 (nI_l (by omega)) ?_
    refine V_iload_n e_X9_number_34 rfl rfl ?_
    refine V_i2lN (z := lN hi) e_X9_number_35 (nI_l (by omega)) ?_
    refine V_csIe (av := [.long (lN (vl T p)), .long (lN lo), .long (lN hi)]) (st := []) e_X9_number_36 (c_X9_inL E (vl T p) (nI lo) (nI hi) (lN lo) (lN hi) τ (by omega) (nI_l (by omega)) (nI_l (by omega))) l_X9_63 S_X9_in (rm_ok (by decide) (by decide)) rfl rfl (Nat.le_of_ble_eq_true rfl) ?_
    refine V_if_ne (tgt := 47) e_X9_number_39 (by decide) (fun c4 => ?_) (fun c4 => ?_)
    · have h39 := in_t (by omega) (by omega) (by omega) c4
      refine V_aload_n e_X9_number_47 rfl rfl ?_
      refine V_getiv (v := nI 0) e_X9_number_48 F_X9_fault f_X9_84 rfl h0.2.1 ?_
      refine V_if_ne (tgt := 61) e_X9_number_51 (by decide) (fun c5 => absurd c5 (by decide)) (fun c5 => ?_)
      refine V_aload_n e_X9_number_54 rfl rfl ?_
      refine V_getiv (v := nI (vl T p)) e_X9_number_55 F_X9_value f_X9_97 rfl (h0.2.2.1.2.2.2.2 ht3) ?_
      refine V_goto (tgt := 62) e_X9_number_58 (by decide) ?_
      refine V_istore_n (L' := [some (.ref (eB E + 292)), some (.int (nI lo)), some (.int (nI hi)), some (.int (nI (vl T p)))]) e_X9_number_62 rfl rfl ?_
      refine V_aload_n e_X9_number_63 rfl rfl ?_
      refine V_iconst (v := nI 1) e_X9_number_64 (by decide) ?_
      refine V_cvV (av := [.int (nI 1)]) (st := []) e_X9_number_65 (c_X9_must_1 E T p A σ τ hMT hTb hT6 h0) l_X9_118 S_X9_must rfl (rm_ok (by decide) (by decide)) rfl rfl (Nat.le_of_ble_eq_true rfl) ?_
      intro τ4 h4
      refine V_iload_n e_X9_number_68 rfl rfl ?_
      exact V_iret e_X9_number_69 rfl (Or.inl ⟨h256t, h39, rfl, h4⟩)
    · have h39 := in_f (by omega) (by omega) c4
      refine V_aload_n e_X9_number_42 rfl rfl ?_
      refine V_iconst (v := nI 2) e_X9_number_43 (by decide) ?_
      refine V_cvV (av := [.int (nI 2)]) (st := []) e_X9_number_44 (c_X9_bad_0 E 2 T p A σ τ h0) l_X9_111 S_X9_bad rfl (rm_ok (by decide) (by decide)) rfl rfl (Nat.le_of_ble_eq_true rfl) ?_
      intro τ2 hf1
      refine V_aload_n e_X9_number_47 rfl rfl ?_
      refine V_getiv (v := nI 2) e_X9_number_48 F_X9_fault f_X9_84 rfl hf1.2.1 ?_
      refine V_if_ne (tgt := 61) e_X9_number_51 (by decide) (fun c6 => ?_) (fun c6 => absurd c6 (by decide))
      refine V_iload_n e_X9_number_61 rfl rfl ?_
      refine V_istore_n (L' := [some (.ref (eB E + 292)), some (.int (nI lo)), some (.int (nI hi)), some (.int (nI lo))]) e_X9_number_62 rfl rfl ?_
      refine V_aload_n e_X9_number_63 rfl rfl ?_
      refine V_iconst (v := nI 1) e_X9_number_64 (by decide) ?_
      refine V_cvV (av := [.int (nI 1)]) (st := []) e_X9_number_65 (c_X9_must_f E (nI 1) 2 p σ τ2 hf1 (by decide) (by decide)) l_X9_118 S_X9_must rfl (rm_ok (by decide) (by decide)) rfl rfl (Nat.le_of_ble_eq_true rfl) ?_
      intro τ4 h4
      refine V_iload_n e_X9_number_68 rfl rfl ?_
      exact V_iret e_X9_number_69 rfl (Or.inr (Or.inr ⟨h256t, h39, rfl, h4⟩))
  · have d2 : ¬ mtk (tok T p) = 3 := nq_ne (by omega) (by omega) c2
    have h256t : ¬ tok T p = 256 := fun z => d2 (mtk_3.mpr z)
    refine V_aload_n e_X9_number_15 rfl rfl ?_
    refine V_iconst (v := nI 1) e_X9_number_16 (by decide) ?_
    refine V_cvV (av := [.int (nI 1)]) (st := []) e_X9_number_17 (c_X9_bad_0 E 1 T p A σ τ h0) l_X9_111 S_X9_bad rfl (rm_ok (by decide) (by decide)) rfl rfl (Nat.le_of_ble_eq_true rfl) ?_
    intro τ1 hf1
    refine V_aload_n e_X9_number_20 rfl rfl ?_
    refine V_getiv (v := nI 1) e_X9_number_21 F_X9_fault f_X9_84 rfl hf1.2.1 ?_
    refine V_if_ne (tgt := 47) e_X9_number_24 (by decide) (fun c7 => ?_) (fun c7 => absurd c7 (by decide))
    refine V_aload_n e_X9_number_47 rfl rfl ?_
    refine V_getiv (v := nI 1) e_X9_number_48 F_X9_fault f_X9_84 rfl hf1.2.1 ?_
    refine V_if_ne (tgt := 61) e_X9_number_51 (by decide) (fun c8 => ?_) (fun c8 => absurd c8 (by decide))
    refine V_iload_n e_X9_number_61 rfl rfl ?_
    refine V_istore_n (L' := [some (.ref (eB E + 292)), some (.int (nI lo)), some (.int (nI hi)), some (.int (nI lo))]) e_X9_number_62 rfl rfl ?_
    refine V_aload_n e_X9_number_63 rfl rfl ?_
    refine V_iconst (v := nI 1) e_X9_number_64 (by decide) ?_
    refine V_cvV (av := [.int (nI 1)]) (st := []) e_X9_number_65 (c_X9_must_f E (nI 1) 1 p σ τ1 hf1 (by decide) (by decide)) l_X9_118 S_X9_must rfl (rm_ok (by decide) (by decide)) rfl rfl (Nat.le_of_ble_eq_true rfl) ?_
    intro τ4 h4
    refine V_iload_n e_X9_number_68 rfl rfl ?_
    exact V_iret e_X9_number_69 rfl (Or.inr (Or.inl ⟨h256t, rfl, h4⟩))
set_option maxRecDepth 100000 in
set_option maxHeartbeats 4000000 in
theorem c_X9_number_f (E : En) (lo hi : Int32) (k q : Nat) (σ τ : Sg) (hf : MF σ τ k q) (hk : ¬ k = 0) (hk3 : k ≤ 3) : Cn E m_X9_number 4 [.ref (eB E + 292), .int lo, .int hi] τ (pI (fun σ' r => r = lo ∧ MF σ σ' k q)) := by
  refine Cn.of [some (.ref (eB E + 292)), some (.int lo), some (.int hi), none] (by decide) (Nat.le_of_ble_eq_true rfl) rfl ?_
  refine V_aload_n e_X9_number_0 rfl rfl ?_
  refine V_getiv (v := nI k) e_X9_number_1 F_X9_fault f_X9_84 rfl hf.2.1 ?_
  refine V_if_ne (tgt := 20) e_X9_number_4 (by decide) (fun c1 => ?_) (fun c1 => ((absurd (show k = 0 from nq_eq (by omega) (by omega) c1) hk : False)).elim)
  refine V_aload_n e_X9_number_20 rfl rfl ?_
  refine V_getiv (v := nI k) e_X9_number_21 F_X9_fault f_X9_84 rfl hf.2.1 ?_
  refine V_if_ne (tgt := 47) e_X9_number_24 (by decide) (fun c2 => ?_) (fun c2 => ((absurd (show k = 0 from nq_eq (by omega) (by omega) c2) hk : False)).elim)
  refine V_aload_n e_X9_number_47 rfl rfl ?_
  refine V_getiv (v := nI k) e_X9_number_48 F_X9_fault f_X9_84 rfl hf.2.1 ?_
  refine V_if_ne (tgt := 61) e_X9_number_51 (by decide) (fun c3 => ?_) (fun c3 => ((absurd (show k = 0 from nq_eq (by omega) (by omega) c3) hk : False)).elim)
  refine V_iload_n e_X9_number_61 rfl rfl ?_
  refine V_istore_n (L' := [some (.ref (eB E + 292)), some (.int lo), some (.int hi), some (.int lo)]) e_X9_number_62 rfl rfl ?_
  refine V_aload_n e_X9_number_63 rfl rfl ?_
  refine V_iconst (v := nI 1) e_X9_number_64 (by decide) ?_
  refine V_cvV (av := [.int (nI 1)]) (st := []) e_X9_number_65 (c_X9_must_f E (nI 1) k q σ τ hf hk hk3) l_X9_118 S_X9_must rfl (rm_ok (by decide) (by decide)) rfl rfl (Nat.le_of_ble_eq_true rfl) ?_
  intro τ4 h4
  refine V_iload_n e_X9_number_68 rfl rfl ?_
  exact V_iret e_X9_number_69 rfl (⟨rfl, h4⟩)
set_option maxRecDepth 100000 in
set_option maxHeartbeats 4000000 in
theorem c_X9_mustSign_0 (E : En) (c : Nat) (T : Tp) (p : Nat) (A : Vec) (σ τ : Sg) (hMT : MT σ T) (hTb : T.1 ≤ 100) (hT6 : ∀ j, j < T.1 → T.2 j < 256) (h0 : M0 σ τ T p A) (hc : c = 44 ∨ c = 59) : Cn E m_X9_mustSign 4 [.ref (eB E + 292), .int (nI c)] τ (pV (fun σ' => (tok T p = c ∧ M0 σ σ' T (nx T p) A) ∨ (¬ tok T p = c ∧ MF σ σ' 1 p))) := by
  have hmt := mtk_le (tok T p)
  have ht9 := tok_lt (c := p) hT6
  refine Cn.of [some (.ref (eB E + 292)), some (.int (nI c))] (by decide) (Nat.le_of_ble_eq_true rfl) rfl ?_
  refine V_aload_n e_X9_mustSign_0 rfl rfl ?_
  refine V_aload_n e_X9_mustSign_1 rfl rfl ?_
  refine V_getiv (v := nI (mtk (tok T p))) e_X9_mustSign_2 F_X9_token f_X9_108 rfl h0.2.2.1.2.2.1 ?_
  refine V_iconst (v := nI 4) e_X9_mustSign_5 (by decide) ?_
  refine V_icmp_ne (tgt := 21) e_X9_mustSign_6 (by decide) (fun c1 => ?_) (fun c1 => ?_)
  · have d1 : ¬ mtk (tok T p) = 4 := nq_ne (by omega) (by omega) c1
    refine V_iconst (v := nI 0) e_X9_mustSign_21 (by decide) ?_
    refine V_cvV (av := [.int (nI 0)]) (st := []) e_X9_mustSign_22 (c_X9_must_0 E T p A σ τ h0) l_X9_118 S_X9_must rfl (rm_ok (by decide) (by decide)) rfl rfl (Nat.le_of_ble_eq_true rfl) ?_
    intro τ4 h4
    exact V_vret e_X9_mustSign_25 rfl (Or.inr ⟨by first | exact d1 | exact fun z => d1 (by rw [z]; exact mtk_4.mpr hc), h4⟩)
  · have d1 : mtk (tok T p) = 4 := nq_eq (by omega) (by omega) c1
    refine V_aload_n e_X9_mustSign_9 rfl rfl ?_
    refine V_getiv (v := nI (tok T p)) e_X9_mustSign_10 F_X9_value f_X9_97 rfl (h0.2.2.1.2.2.2.1 (Or.inr d1)) ?_
    refine V_iload_n e_X9_mustSign_13 rfl rfl ?_
    refine V_icmp_ne (tgt := 21) e_X9_mustSign_14 (by decide) (fun c2 => ?_) (fun c2 => ?_)
    · have d2 : ¬ tok T p = c := nq_ne (by omega) (by omega) c2
      refine V_iconst (v := nI 0) e_X9_mustSign_21 (by decide) ?_
      refine V_cvV (av := [.int (nI 0)]) (st := []) e_X9_mustSign_22 (c_X9_must_0 E T p A σ τ h0) l_X9_118 S_X9_must rfl (rm_ok (by decide) (by decide)) rfl rfl (Nat.le_of_ble_eq_true rfl) ?_
      intro τ4 h4
      exact V_vret e_X9_mustSign_25 rfl (Or.inr ⟨by first | exact d2 | exact fun z => d2 (by rw [z]; exact mtk_4.mpr hc), h4⟩)
    · have d2 : tok T p = c := nq_eq (by omega) (by omega) c2
      refine V_iconst (v := nI 1) e_X9_mustSign_17 (by decide) ?_
      refine V_goto (tgt := 22) e_X9_mustSign_18 (by decide) ?_
      refine V_cvV (av := [.int (nI 1)]) (st := []) e_X9_mustSign_22 (c_X9_must_1 E T p A σ τ hMT hTb hT6 h0) l_X9_118 S_X9_must rfl (rm_ok (by decide) (by decide)) rfl rfl (Nat.le_of_ble_eq_true rfl) ?_
      intro τ4 h4
      exact V_vret e_X9_mustSign_25 rfl (Or.inl ⟨d2, h4⟩)
set_option maxRecDepth 100000 in
set_option maxHeartbeats 4000000 in
theorem c_X9_mustSign_f (E : En) (c : Int32) (k q : Nat) (σ τ : Sg) (hf : MF σ τ k q) (hk : ¬ k = 0) (hk3 : k ≤ 3) : Cn E m_X9_mustSign 4 [.ref (eB E + 292), .int c] τ (pV (fun σ' => MF σ σ' k q)) := by
  refine Cn.of [some (.ref (eB E + 292)), some (.int c)] (by decide) (Nat.le_of_ble_eq_true rfl) rfl ?_
  refine V_aload_n e_X9_mustSign_0 rfl rfl ?_
  refine V_aload_n e_X9_mustSign_1 rfl rfl ?_
  refine V_geti e_X9_mustSign_2 F_X9_token f_X9_108 rfl ?_
  refine V_iconst (v := nI 4) e_X9_mustSign_5 (by decide) ?_
  refine V_icmp_ne (tgt := 21) e_X9_mustSign_6 (by decide) (fun c1 => ?_) (fun c1 => ?_)
  · refine V_iconst (v := nI 0) e_X9_mustSign_21 (by decide) ?_
    refine V_cvV (av := [.int (nI 0)]) (st := []) e_X9_mustSign_22 (c_X9_must_f E (nI 0) k q σ τ hf hk hk3) l_X9_118 S_X9_must rfl (rm_ok (by decide) (by decide)) rfl rfl (Nat.le_of_ble_eq_true rfl) ?_
    intro τ4 h4
    exact V_vret e_X9_mustSign_25 rfl (h4)
  · refine V_aload_n e_X9_mustSign_9 rfl rfl ?_
    refine V_geti e_X9_mustSign_10 F_X9_value f_X9_97 rfl ?_
    refine V_iload_n e_X9_mustSign_13 rfl rfl ?_
    refine V_icmp_ne (tgt := 21) e_X9_mustSign_14 (by decide) (fun c2 => ?_) (fun c2 => ?_)
    · refine V_iconst (v := nI 0) e_X9_mustSign_21 (by decide) ?_
      refine V_cvV (av := [.int (nI 0)]) (st := []) e_X9_mustSign_22 (c_X9_must_f E (nI 0) k q σ τ hf hk hk3) l_X9_118 S_X9_must rfl (rm_ok (by decide) (by decide)) rfl rfl (Nat.le_of_ble_eq_true rfl) ?_
      intro τ4 h4
      exact V_vret e_X9_mustSign_25 rfl (h4)
    · refine V_iconst (v := nI 1) e_X9_mustSign_17 (by decide) ?_
      refine V_goto (tgt := 22) e_X9_mustSign_18 (by decide) ?_
      refine V_cvV (av := [.int (nI 1)]) (st := []) e_X9_mustSign_22 (c_X9_must_f E (nI 1) k q σ τ hf hk hk3) l_X9_118 S_X9_must rfl (rm_ok (by decide) (by decide)) rfl rfl (Nat.le_of_ble_eq_true rfl) ?_
      intro τ4 h4
      exact V_vret e_X9_mustSign_25 rfl (h4)
set_option maxRecDepth 100000 in
set_option maxHeartbeats 4000000 in
theorem c_X9_failed_f (E : En) (k q : Nat) (σ τ : Sg) (hf : MF σ τ k q) (hk : ¬ k = 0) (hk3 : k ≤ 3) : Cn E m_X9_failed 2 [.ref (eB E + 292)] τ (pI (fun σ' r => σ' = up2 (up2 τ 292 11 (nI 0)) 292 18 (nI k) ∧ r = nI 1)) := by
  refine Cn.of [some (.ref (eB E + 292))] (by decide) (Nat.le_of_ble_eq_true rfl) rfl ?_
  refine V_aload_n e_X9_failed_0 rfl rfl ?_
  refine V_getiv (v := nI k) e_X9_failed_1 F_X9_fault f_X9_84 rfl hf.2.1 ?_
  refine V_if_ne (tgt := 20) e_X9_failed_4 (by decide) (fun c1 => ?_) (fun c1 => ((absurd (show k = 0 from nq_eq (by omega) (by omega) c1) hk : False)).elim)
  refine V_aload_n e_X9_failed_20 rfl rfl ?_
  refine V_iconst (v := nI 0) e_X9_failed_21 (by decide) ?_
  refine V_puti e_X9_failed_22 F_X9_taped f_X9_80 rfl ?_
  refine V_aload_n e_X9_failed_25 rfl rfl ?_
  refine V_aload_n e_X9_failed_26 rfl rfl ?_
  refine V_getiv (v := nI k) e_X9_failed_27 F_X9_fault f_X9_84 rfl ((up2_k (by decide)).trans (hf.2.1)) ?_
  refine V_if_le (tgt := 40) e_X9_failed_30 (by decide) (fun c2 => ((absurd (show k ≤ 0 from nq_le (by omega) (by omega) c2) (by omega) : False)).elim) (fun c2 => ?_)
  refine V_aload_n e_X9_failed_33 rfl rfl ?_
  refine V_getiv (v := nI k) e_X9_failed_34 F_X9_fault f_X9_84 rfl ((up2_k (by decide)).trans (hf.2.1)) ?_
  refine V_goto (tgt := 44) e_X9_failed_37 (by decide) ?_
  refine V_puti e_X9_failed_44 F_X9_latest f_X9_122 rfl ?_
  refine V_aload_n e_X9_failed_47 rfl rfl ?_
  refine V_getiv (v := nI k) e_X9_failed_48 F_X9_fault f_X9_84 rfl ((up2_k (by decide)).trans ((up2_k (by decide)).trans (hf.2.1))) ?_
  refine V_if_le (tgt := 58) e_X9_failed_51 (by decide) (fun c3 => ((absurd (show k ≤ 0 from nq_le (by omega) (by omega) c3) (by omega) : False)).elim) (fun c3 => ?_)
  refine V_iconst (v := nI 1) e_X9_failed_54 (by decide) ?_
  refine V_goto (tgt := 59) e_X9_failed_55 (by decide) ?_
  exact V_zret e_X9_failed_59 rfl (by first | exact Or.inl nI_0 | exact Or.inr rfl | assumption) (⟨rfl, rfl⟩)
set_option maxRecDepth 100000 in
set_option maxHeartbeats 4000000 in
theorem c_X9_failed_0 (E : En) (T : Tp) (p : Nat) (A : Vec) (σ τ : Sg) (h0 : M0 σ τ T p A) : Cn E m_X9_failed 2 [.ref (eB E + 292)] τ (pI (fun σ' r => (tok T p = 257 ∧ σ' = up2 (up2 τ 292 11 (nI 0)) 292 18 (τ 292 18) ∧ r = nI 0) ∨ (¬ tok T p = 257 ∧ (∃ ρ, MF σ ρ 1 p ∧ σ' = up2 (up2 ρ 292 11 (nI 0)) 292 18 (nI 1)) ∧ r = nI 1))) := by
  have hmt := mtk_le (tok T p)
  refine Cn.of [some (.ref (eB E + 292))] (by decide) (Nat.le_of_ble_eq_true rfl) rfl ?_
  refine V_aload_n e_X9_failed_0 rfl rfl ?_
  refine V_getiv (v := nI 0) e_X9_failed_1 F_X9_fault f_X9_84 rfl h0.2.1 ?_
  refine V_if_ne (tgt := 20) e_X9_failed_4 (by decide) (fun c1 => absurd c1 (by decide)) (fun c1 => ?_)
  refine V_aload_n e_X9_failed_7 rfl rfl ?_
  refine V_getiv (v := nI (mtk (tok T p))) e_X9_failed_8 F_X9_token f_X9_108 rfl h0.2.2.1.2.2.1 ?_
  refine V_iconst (v := nI 1) e_X9_failed_11 (by decide) ?_
  refine V_icmp_eq (tgt := 20) e_X9_failed_12 (by decide) (fun c2 => ?_) (fun c2 => ?_)
  · have d2 : mtk (tok T p) = 1 := nq_eq (by omega) (by omega) c2
    refine V_aload_n e_X9_failed_20 rfl rfl ?_
    refine V_iconst (v := nI 0) e_X9_failed_21 (by decide) ?_
    refine V_puti e_X9_failed_22 F_X9_taped f_X9_80 rfl ?_
    refine V_aload_n e_X9_failed_25 rfl rfl ?_
    refine V_aload_n e_X9_failed_26 rfl rfl ?_
    refine V_getiv (v := nI 0) e_X9_failed_27 F_X9_fault f_X9_84 rfl ((up2_k (by decide)).trans (h0.2.1)) ?_
    refine V_if_le (tgt := 40) e_X9_failed_30 (by decide) (fun c3 => ?_) (fun c3 => absurd c3 (by decide))
    refine V_aload_n e_X9_failed_40 rfl rfl ?_
    refine V_geti e_X9_failed_41 F_X9_latest f_X9_122 rfl ?_
    refine V_puti e_X9_failed_44 F_X9_latest f_X9_122 rfl ?_
    refine V_aload_n e_X9_failed_47 rfl rfl ?_
    refine V_getiv (v := nI 0) e_X9_failed_48 F_X9_fault f_X9_84 rfl ((up2_k (by decide)).trans ((up2_k (by decide)).trans (h0.2.1))) ?_
    refine V_if_le (tgt := 58) e_X9_failed_51 (by decide) (fun c4 => ?_) (fun c4 => absurd c4 (by decide))
    refine V_iconst (v := nI 0) e_X9_failed_58 (by decide) ?_
    exact V_zret e_X9_failed_59 rfl (by first | exact Or.inl nI_0 | exact Or.inr rfl | assumption) (Or.inl ⟨mtk_1.mp d2, by rw [show τ 292 18 = up2 τ 292 11 (nI 0) 292 18 from (up2_k (by decide)).symm], rfl⟩)
  · have d2 : ¬ mtk (tok T p) = 1 := nq_ne (by omega) (by omega) c2
    refine V_aload_n e_X9_failed_15 rfl rfl ?_
    refine V_iconst (v := nI 1) e_X9_failed_16 (by decide) ?_
    refine V_cvV (av := [.int (nI 1)]) (st := []) e_X9_failed_17 (c_X9_bad_0 E 1 T p A σ τ h0) l_X9_111 S_X9_bad rfl (rm_ok (by decide) (by decide)) rfl rfl (Nat.le_of_ble_eq_true rfl) ?_
    intro τ1 hf1
    refine V_aload_n e_X9_failed_20 rfl rfl ?_
    refine V_iconst (v := nI 0) e_X9_failed_21 (by decide) ?_
    refine V_puti e_X9_failed_22 F_X9_taped f_X9_80 rfl ?_
    refine V_aload_n e_X9_failed_25 rfl rfl ?_
    refine V_aload_n e_X9_failed_26 rfl rfl ?_
    refine V_getiv (v := nI 1) e_X9_failed_27 F_X9_fault f_X9_84 rfl ((up2_k (by decide)).trans (hf1.2.1)) ?_
    refine V_if_le (tgt := 40) e_X9_failed_30 (by decide) (fun c5 => absurd c5 (by decide)) (fun c5 => ?_)
    refine V_aload_n e_X9_failed_33 rfl rfl ?_
    refine V_getiv (v := nI 1) e_X9_failed_34 F_X9_fault f_X9_84 rfl ((up2_k (by decide)).trans (hf1.2.1)) ?_
    refine V_goto (tgt := 44) e_X9_failed_37 (by decide) ?_
    refine V_puti e_X9_failed_44 F_X9_latest f_X9_122 rfl ?_
    refine V_aload_n e_X9_failed_47 rfl rfl ?_
    refine V_getiv (v := nI 1) e_X9_failed_48 F_X9_fault f_X9_84 rfl ((up2_k (by decide)).trans ((up2_k (by decide)).trans (hf1.2.1))) ?_
    refine V_if_le (tgt := 58) e_X9_failed_51 (by decide) (fun c6 => absurd c6 (by decide)) (fun c6 => ?_)
    refine V_iconst (v := nI 1) e_X9_failed_54 (by decide) ?_
    refine V_goto (tgt := 59) e_X9_failed_55 (by decide) ?_
    exact V_zret e_X9_failed_59 rfl (by first | exact Or.inl nI_0 | exact Or.inr rfl | assumption) (Or.inr ⟨fun z => d2 (mtk_1.mpr z), ⟨τ1, hf1, rfl⟩, rfl⟩)

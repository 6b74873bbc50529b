set_option maxRecDepth 100000 in
set_option maxHeartbeats 4000000 in
theorem c_X6_append (E : En) (t x : Nat) (σ : Sg) (ht : σ 2 1 = nI t) (ht9 : t < 100) : Cn E m_X6_append 1 [.ref (eB E + 2), .int (nI x)] σ (pI (fun σ' r => σ' = up2 (up2 σ 3 t (nI x)) 2 1 (nI (t + 1)) ∧ r = nI 1)) := by
  refine Cn.of [some (.ref (eB E + 2)), some (.int (nI x))] (by decide) (Nat.le_of_ble_eq_true rfl) rfl ?_
  refine V_aload_n e_X6_append_0 rfl rfl ?_
  refine V_getiv (v := nI t) e_X6_append_1 F_X6_size f_X6_15 rfl ht ?_
  refine V_bipush (v := nI 100) e_X6_append_4 (by decide) ?_
  refine V_icmp_lt (tgt := 11) e_X6_append_6 (by decide) (fun c1 => ?_) (fun c1 => absurd c1 (fun q => q ((nI_ltI (by omega) (by omega)).mpr ht9)))
  refine V_aload_n e_X6_append_11 rfl rfl ?_
  refine V_getr (r := 3) e_X6_append_12 F_X6_bytes f_X6_9 rfl rfl ?_
  refine V_aload_n e_X6_append_15 rfl rfl ?_
  refine V_getiv (v := nI t) e_X6_append_16 F_X6_size f_X6_15 rfl ht ?_
  refine V_iload_n e_X6_append_19 rfl rfl ?_
  refine V_iast (j := t) e_X6_append_20 rfl rfl (by have q : ln 3 = 100 := rfl; omega) ?_
  refine V_aload_n e_X6_append_21 rfl rfl ?_
  refine V_dup e_X6_append_22 rfl ?_
  refine V_getiv (v := nI t) e_X6_append_23 F_X6_size f_X6_15 rfl ((congrFun (up2_ne (by decide)) 1).trans ht) ?_
  refine V_iconst (v := nI 1) e_X6_append_26 (by decide) ?_
  refine V_iaddN (z := nI (t + 1)) e_X6_append_27 (nI_add _ _) ?_
  refine V_puti e_X6_append_28 F_X6_size f_X6_15 rfl ?_
  refine V_iconst (v := nI 1) e_X6_append_31 (by decide) ?_
  exact V_zret e_X6_append_32 rfl (by first | exact Or.inl nI_0 | exact Or.inr rfl | assumption) (⟨rfl, rfl⟩)
set_option maxRecDepth 100000 in
set_option maxHeartbeats 4000000 in
theorem c_X6_append_f (E : En) (x : Nat) (σ : Sg) (ht : σ 2 1 = nI 100) : Cn E m_X6_append 1 [.ref (eB E + 2), .int (nI x)] σ (pI (fun σ' r => σ' = σ ∧ r = nI 0)) := by
  refine Cn.of [some (.ref (eB E + 2)), some (.int (nI x))] (by decide) (Nat.le_of_ble_eq_true rfl) rfl ?_
  refine V_aload_n e_X6_append_0 rfl rfl ?_
  refine V_getiv (v := nI 100) e_X6_append_1 F_X6_size f_X6_15 rfl ht ?_
  refine V_bipush (v := nI 100) e_X6_append_4 (by decide) ?_
  refine V_icmp_lt (tgt := 11) e_X6_append_6 (by decide) (fun c1 => absurd c1 (by decide)) (fun c1 => ?_)
  refine V_iconst (v := nI 0) e_X6_append_9 (by decide) ?_
  exact V_zret e_X6_append_10 rfl (by first | exact Or.inl nI_0 | exact Or.inr rfl | assumption) (⟨rfl, rfl⟩)
theorem feed_ok {T : Nat × (Nat → Nat)} {x : Nat} (h : T.1 ≤ 100 ∧ ∀ j, j < T.1 → T.2 j < 256) (h1 : T.1 < 100) (hx : x < 256) : (T.1 + 1, fun j => if j = T.1 then x else T.2 j).1 ≤ 100 ∧ ∀ j, j < (T.1 + 1, fun j => if j = T.1 then x else T.2 j).1 → (T.1 + 1, fun j => if j = T.1 then x else T.2 j).2 j < 256 := by
  dsimp only
  refine ⟨h1, fun j hj => ?_⟩
  split
  · exact hx
  · exact h.2 j (by omega)
theorem feed_ct {σ : Sg} {T : Nat × (Nat → Nat)} {x : Nat} (h : CT σ T) : CT (up2 (up2 σ 3 T.1 (nI x)) 2 1 (nI (T.1 + 1))) (T.1 + 1, fun j => if j = T.1 then x else T.2 j) := by
  refine ⟨up2_at, fun j hj => ?_⟩
  dsimp only at hj ⊢
  rw [up2_ne (by decide)]
  by_cases q : j = T.1
  · rw [q, up2_at, if_pos rfl]
  · rw [up2_k q, if_neg q]
    exact h.2 j (by omega)
set_option maxRecDepth 100000 in
set_option maxHeartbeats 4000000 in
theorem c8_feed_f (E : En) (x : Int32) (A : Vec) (T : AbT) (σ : Sg) (hI : IC σ (A, T)) (h100 : (aT (A, T)).1 = 100) : Cn E m_X8_feed 12 [.ref (eB E + 0), .int x] σ (pC σ (oFeed (A, T) x)) := by
  have hT1 := hI.1.2.2.2.2.1.1
  refine Cn.of [some (.ref (eB E + 0)), some (.int x)] (by decide) (Nat.le_of_ble_eq_true rfl) rfl ?_
  refine V_iload_n e_X8_feed_0 rfl rfl ?_
  refine V_iconst (v := nI 0) e_X8_feed_1 (by decide) ?_
  refine V_sipush (v := nI 255) e_X8_feed_2 (by decide) ?_
  refine V_csIe (av := [.int x, .int (nI 0), .int (nI 255)]) (st := []) e_X8_feed_5 (c_X8_within E x (nI 0) (nI 255) σ) l_X8_69 S_X8_within (rm_ok (by decide) (by decide)) rfl rfl (Nat.le_of_ble_eq_true rfl) ?_
  refine V_if_ne (tgt := 14) e_X8_feed_8 (by decide) (fun c1 => ?_) (fun c1 => ?_)
  · obtain ⟨x0, hxa, hx0, rfl⟩ := (wi_le (by omega) (by omega)).mp c1
    refine V_aload_n e_X8_feed_14 rfl rfl ?_
    refine V_getr (r := 2) e_X8_feed_15 F_X8_tape f_X8_18 rfl rfl ?_
    refine V_iload_n e_X8_feed_18 rfl rfl ?_
    refine V_cvIe (av := [.int (nI x0)]) (st := []) e_X8_feed_19 (c_X6_append_f E x0 σ (hI.2.2.2.2.2.1.1.trans (congrArg nI h100))) l_X8_113 S_X6_append rfl (rm_ok (by decide) (by decide)) rfl rfl (Nat.le_of_ble_eq_true rfl) ?_
    refine V_if_eq (tgt := 35) e_X8_feed_22 (by decide) (fun c2 => ?_) (fun c2 => absurd c2 (by decide))
    refine V_ldc (v := (-1000003)) e_X8_feed_35 k_X8_117 ?_
    exact V_iret e_X8_feed_37 rfl (by rw [show oFeed (A, T) (nI x0) = ((A, T), (-1000003)) from (by unfold oFeed; (try unfold gIn); (try dsimp only); (try (repeat rw [ixN (by omega)])); (first | rw [if_pos c1] | rw [if_neg c1] | skip); (first | rw [if_pos h100] | rw [if_neg h100] | skip); try rfl)]; exact ⟨Fb.rf, hI, rfl⟩)
  · refine V_ldc (v := (-1000001)) e_X8_feed_11 k_X8_73 ?_
    exact V_iret e_X8_feed_13 rfl (by rw [show oFeed (A, T) x = ((A, T), (-1000001)) from (by unfold oFeed; (try unfold gIn); (try dsimp only); (try (repeat rw [ixN (by omega)])); (first | rw [if_pos c1] | rw [if_neg c1] | skip); (first | rw [if_pos h100] | rw [if_neg h100] | skip); try rfl)]; exact ⟨Fb.rf, hI, rfl⟩)
set_option maxRecDepth 100000 in
set_option maxHeartbeats 4000000 in
theorem c8_feed_n (E : En) (x : Int32) (A : Vec) (T : AbT) (σ : Sg) (hI : IC σ (A, T)) (h100 : ¬ (aT (A, T)).1 = 100) : Cn E m_X8_feed 12 [.ref (eB E + 0), .int x] σ (pC σ (oFeed (A, T) x)) := by
  have hT1 := hI.1.2.2.2.2.1.1
  refine Cn.of [some (.ref (eB E + 0)), some (.int x)] (by decide) (Nat.le_of_ble_eq_true rfl) rfl ?_
  refine V_iload_n e_X8_feed_0 rfl rfl ?_
  refine V_iconst (v := nI 0) e_X8_feed_1 (by decide) ?_
  refine V_sipush (v := nI 255) e_X8_feed_2 (by decide) ?_
  refine V_csIe (av := [.int x, .int (nI 0), .int (nI 255)]) (st := []) e_X8_feed_5 (c_X8_within E x (nI 0) (nI 255) σ) l_X8_69 S_X8_within (rm_ok (by decide) (by decide)) rfl rfl (Nat.le_of_ble_eq_true rfl) ?_
  refine V_if_ne (tgt := 14) e_X8_feed_8 (by decide) (fun c1 => ?_) (fun c1 => ?_)
  · obtain ⟨x0, hxa, hx0, rfl⟩ := (wi_le (by omega) (by omega)).mp c1
    refine V_aload_n e_X8_feed_14 rfl rfl ?_
    refine V_getr (r := 2) e_X8_feed_15 F_X8_tape f_X8_18 rfl rfl ?_
    refine V_iload_n e_X8_feed_18 rfl rfl ?_
    refine V_cvIe (av := [.int (nI x0)]) (st := []) e_X8_feed_19 (c_X6_append E (aT (A, T)).1 x0 σ hI.2.2.2.2.2.1.1 (by omega)) l_X8_113 S_X6_append rfl (rm_ok (by decide) (by decide)) rfl rfl (Nat.le_of_ble_eq_true rfl) ?_
    refine V_if_eq (tgt := 35) e_X8_feed_22 (by decide) (fun c2 => absurd c2 (by decide)) (fun c2 => ?_)
    refine V_aload_n e_X8_feed_25 rfl rfl ?_
    refine V_getr (r := 2) e_X8_feed_26 F_X8_tape f_X8_18 rfl rfl ?_
    refine V_getiv (v := nI ((aT (A, T)).1 + 1)) e_X8_feed_29 F_X6_size f_X8_116 rfl up2_at ?_
    refine V_goto (tgt := 37) e_X8_feed_32 (by decide) ?_
    exact V_iret e_X8_feed_37 rfl (by rw [show oFeed (A, T) (nI x0) = (wT (A, T) ((aT (A, T)).1 + 1, fun j => if j = (aT (A, T)).1 then x0 else (aT (A, T)).2 j), nI ((aT (A, T)).1 + 1)) from (by unfold oFeed; (try unfold gIn); (try dsimp only); (try (repeat rw [ixN (by omega)])); (first | rw [if_pos c1] | rw [if_neg c1] | skip); (first | rw [if_pos h100] | rw [if_neg h100] | skip); try rfl)]; exact ⟨(show Fb 0 292 σ (up2 (up2 σ 3 (aT (A, T)).1 (nI x0)) 2 1 (nI ((aT (A, T)).1 + 1))) from (Fb.rf.up (by decide) (by decide)).up (by decide) (by decide)), (show IC (up2 (up2 σ 3 (aT (A, T)).1 (nI x0)) 2 1 (nI ((aT (A, T)).1 + 1))) (wT (A, T) ((aT (A, T)).1 + 1, fun j => if j = (aT (A, T)).1 then x0 else (aT (A, T)).2 j)) from hI.wT (feed_ok hI.1.2.2.2.2.1 (by omega) (by omega)) (feed_ct hI.2.2.2.2.2.1) ((Fb.rf.up (by decide) (by decide)).up (by decide) (by decide))), rfl⟩)
  · refine V_ldc (v := (-1000001)) e_X8_feed_11 k_X8_73 ?_
    exact V_iret e_X8_feed_13 rfl (by rw [show oFeed (A, T) x = ((A, T), (-1000001)) from (by unfold oFeed; (try unfold gIn); (try dsimp only); (try (repeat rw [ixN (by omega)])); (first | rw [if_pos c1] | rw [if_neg c1] | skip); (first | rw [if_pos h100] | rw [if_neg h100] | skip); try rfl)]; exact ⟨Fb.rf, hI, rfl⟩)
theorem c8_feed (E : En) (x : Int32) (A : Vec) (T : AbT) (σ : Sg) (hI : IC σ (A, T)) : Cn E m_X8_feed 12 [.ref (eB E + 0), .int x] σ (pC σ (oFeed (A, T) x)) := by
  by_cases h : (aT (A, T)).1 = 100
  · exact c8_feed_f E x A T σ hI h
  · exact c8_feed_n E x A T σ hI h
def oFault (S : Ab) : Ab × Int32 := (S, nI (aF S))
def oStatus (S : Ab) : Ab × Int32 := (S, nI (aS S))
set_option maxRecDepth 100000 in
set_option maxHeartbeats 4000000 in
theorem c8_fault (E : En) (A : Vec) (T : AbT) (σ : Sg) (hI : IC σ (A, T)) : Cn E m_X8_fault 12 [.ref (eB E + 0)] σ (pC σ (oFault (A, T))) := by
  have hR : RepC σ 4 A := hI.2.1
  have hGD : GD A := hI.1.1
  have hN : WN A := hGD.1
  have hNl := hN.le
  have hA4 : A 4 ≤ 999 := hGD.2.2
  refine Cn.of [some (.ref (eB E + 0))] (by decide) (Nat.le_of_ble_eq_true rfl) rfl ?_
  refine V_aload_n e_X8_fault_0 rfl rfl ?_
  refine V_getiv (v := nI (aF (A, T))) e_X8_fault_1 F_X8_latestFault f_X8_125 rfl hI.2.2.2.2.2.2.1 ?_
  exact V_iret e_X8_fault_4 rfl (⟨Fb.rf, hI, rfl⟩)
set_option maxRecDepth 100000 in
set_option maxHeartbeats 4000000 in
theorem c8_status (E : En) (A : Vec) (T : AbT) (σ : Sg) (hI : IC σ (A, T)) : Cn E m_X8_status 12 [.ref (eB E + 0)] σ (pC σ (oStatus (A, T))) := by
  have hR : RepC σ 4 A := hI.2.1
  have hGD : GD A := hI.1.1
  have hN : WN A := hGD.1
  have hNl := hN.le
  have hA4 : A 4 ≤ 999 := hGD.2.2
  refine Cn.of [some (.ref (eB E + 0))] (by decide) (Nat.le_of_ble_eq_true rfl) rfl ?_
  refine V_aload_n e_X8_status_0 rfl rfl ?_
  refine V_getiv (v := nI (aS (A, T))) e_X8_status_1 F_X8_latestFinding f_X8_323 rfl hI.2.2.2.2.2.2.2.1 ?_
  exact V_iret e_X8_status_4 rfl (⟨Fb.rf, hI, rfl⟩)
set_option maxRecDepth 100000 in
set_option maxHeartbeats 4000000 in
theorem c8_as (E : En) (x y : Int32) (A : Vec) (T : AbT) (σ : Sg) (hI : IC σ (A, T)) : Cn E m_X8_as 12 [.ref (eB E + 0), .int x, .int y] σ (pC σ (oAs (A, T) x y)) := by
  have hR : RepC σ 4 A := hI.2.1
  have hGD : GD A := hI.1.1
  have hN : WN A := hGD.1
  have hNl := hN.le
  have hA4 : A 4 ≤ 999 := hGD.2.2
  refine Cn.of [some (.ref (eB E + 0)), some (.int x), some (.int y)] (by decide) (Nat.le_of_ble_eq_true rfl) rfl ?_
  refine V_aload_n e_X8_as_0 rfl rfl ?_
  refine V_getr (r := 4) e_X8_as_1 F_X8_now f_X8_25 rfl rfl ?_
  refine V_iload_n e_X8_as_4 rfl rfl ?_
  refine V_cvIe (av := [.int x]) (st := []) e_X8_as_5 (c_X5_hasGate E 4 (A 0) x σ rfl hR.1.2.2.2.1) l_X8_189 S_X5_hasGate rfl (rm_ok (by decide) (by decide)) rfl rfl (Nat.le_of_ble_eq_true rfl) ?_
  refine V_if_eq (tgt := 20) e_X8_as_8 (by decide) (fun c1 => ?_) (fun c1 => ?_)
  · refine V_ldc (v := (-1000001)) e_X8_as_20 k_X8_73 ?_
    exact V_iret e_X8_as_22 rfl (by rw [show oAs (A, T) x y = ((A, T), (-1000001)) from (by unfold oAs; (try unfold gIn); (try dsimp only); (try (repeat rw [ixN (by omega)])); (first | rw [if_pos c1] | rw [if_neg c1] | skip); try rfl)]; exact ⟨Fb.rf, hI, rfl⟩)
  · obtain ⟨g, hg, rfl⟩ := (wi_nat (by omega)).mp c1
    have hF : WF A := hN.wf (by omega)
    refine V_iload_n e_X8_as_11 rfl rfl ?_
    refine V_iconst (v := nI 0) e_X8_as_12 (by decide) ?_
    refine V_iconst (v := nI 5) e_X8_as_13 (by decide) ?_
    refine V_csIe (av := [.int y, .int (nI 0), .int (nI 5)]) (st := []) e_X8_as_14 (c_X8_within E y (nI 0) (nI 5) σ) l_X8_69 S_X8_within (rm_ok (by decide) (by decide)) rfl rfl (Nat.le_of_ble_eq_true rfl) ?_
    refine V_if_ne (tgt := 23) e_X8_as_17 (by decide) (fun c2 => ?_) (fun c2 => ?_)
    · obtain ⟨k, hka, hk, rfl⟩ := (wi_le (by omega) (by omega)).mp c2
      have hkg := (hF.1.2.2.2.2.2.2.2.2 g hg)
      have hbk := bitN_le (kiN (A (7 + 3 * g))) k
      refine V_aload_n e_X8_as_23 rfl rfl ?_
      refine V_getr (r := 4) e_X8_as_24 F_X8_now f_X8_25 rfl rfl ?_
      refine V_getr (r := 5) e_X8_as_27 F_X5_sorts f_X8_301 rfl rfl ?_
      refine V_iload_n e_X8_as_30 rfl rfl ?_
      refine V_ialdv (v := nI (A (7 + 3 * g))) (j := g) e_X8_as_31 rfl rfl (by have q : ln 5 = 6 := rfl; omega) ((hR.1.2.2.2.2.2.2.2 g (by omega)).1) ?_
      refine V_iload_n e_X8_as_32 rfl rfl ?_
      refine V_csIe (av := [.int (nI (A (7 + 3 * g))), .int (nI k)]) (st := []) e_X8_as_33 (c_X1_isKind E (A (7 + 3 * g)) k σ (by omega) (by omega)) l_X8_304 S_X1_isKind (rm_ok (by decide) (by decide)) rfl rfl (Nat.le_of_ble_eq_true rfl) ?_
      refine V_if_eq (tgt := 47) e_X8_as_36 (by decide) (fun c3 => ?_) (fun c3 => ?_)
      · have d3 : bitN (kiN (A (7 + 3 * g))) k = 0 := nq_eq (by omega) (by omega) c3
        refine V_aload_n e_X8_as_47 rfl rfl ?_
        refine V_iconst (v := nI 3) e_X8_as_48 (by decide) ?_
        refine V_cvIe (av := [.int (nI 3)]) (st := []) e_X8_as_49 (c_X8_found E (nI 3) σ) l_X8_74 S_X8_found rfl (rm_ok (by decide) (by decide)) rfl rfl (Nat.le_of_ble_eq_true rfl) ?_
        exact V_iret e_X8_as_52 rfl (by rw [show oAs (A, T) (nI g) (nI k) = (wS (A, T) 3, (-1000010) - nI 3) from (by unfold oAs; (try unfold gIn); (try dsimp only); (try (repeat rw [ixN (by omega)])); (first | rw [if_pos c1] | rw [if_neg c1] | skip); (first | rw [if_pos c2] | rw [if_neg c2] | skip); (first | rw [if_pos d3] | rw [if_neg d3] | skip); try rfl)]; exact ⟨Fb.rf.up (by decide) (by decide), hI.wS (by omega), rfl⟩)
      · have d3 : ¬ bitN (kiN (A (7 + 3 * g))) k = 0 := nq_ne (by omega) (by omega) c3
        refine V_aload_n e_X8_as_39 rfl rfl ?_
        refine V_iload_n e_X8_as_40 rfl rfl ?_
        refine V_cvIe (av := [.int (nI g)]) (st := []) e_X8_as_41 (c_X8_sound E (nI g) σ) l_X8_82 S_X8_sound rfl (rm_ok (by decide) (by decide)) rfl rfl (Nat.le_of_ble_eq_true rfl) ?_
        refine V_goto (tgt := 52) e_X8_as_44 (by decide) ?_
        exact V_iret e_X8_as_52 rfl (by rw [show oAs (A, T) (nI g) (nI k) = (wS (A, T) 0, nI g) from (by unfold oAs; (try unfold gIn); (try dsimp only); (try (repeat rw [ixN (by omega)])); (first | rw [if_pos c1] | rw [if_neg c1] | skip); (first | rw [if_pos c2] | rw [if_neg c2] | skip); (first | rw [if_pos d3] | rw [if_neg d3] | skip); try rfl)]; exact ⟨(show Fb 0 292 σ (up2 σ 0 11 (nI 0)) from Fb.rf.up (by decide) (by decide)), (show IC (up2 σ 0 11 (nI 0)) (wS (A, T) 0) from hI.wS (by omega)), rfl⟩)
    · refine V_ldc (v := (-1000001)) e_X8_as_20 k_X8_73 ?_
      exact V_iret e_X8_as_22 rfl (by rw [show oAs (A, T) (nI g) y = ((A, T), (-1000001)) from (by unfold oAs; (try unfold gIn); (try dsimp only); (try (repeat rw [ixN (by omega)])); (first | rw [if_pos c1] | rw [if_neg c1] | skip); (first | rw [if_pos c2] | rw [if_neg c2] | skip); try rfl)]; exact ⟨Fb.rf, hI, rfl⟩)
theorem c8_answer (E : En) (g w : Nat) (A : Vec) (σ : Sg) (hR : RepC σ 4 A) (hF : WF A) (hg : g < A 0) (hw : w ≤ 1) : Cn E m_X1_answer 11 [.ref (eB E + 256), .ref (eB E + 4), .int (nI g), .int (nI w)] σ (pI (fun σ' r => σ' = trL 0 (askT (A (7 + 3 * g)) w) (up2 σ 256 1 (nI 0)) ∧ r = askV A g w)) := by
  have hk := hF.1.2.2.2.2.2.2.2.2 g hg
  rcases (show A (7 + 3 * g) = 1 ∨ A (7 + 3 * g) = 2 ∨ A (7 + 3 * g) = 3 ∨ A (7 + 3 * g) = 4 ∨ A (7 + 3 * g) = 5 by omega) with h | h | h | h | h <;> rcases (show w = 0 ∨ w = 1 by omega) with rfl | rfl <;> unfold askV <;> rw [h]
  · exact c_X1_answer_1_0 E g A σ hR hF hg h
  · exact c_X1_answer_1_1 E g A σ hR hF hg h
  · exact c_X1_answer_2_0 E g A σ hR hF hg h
  · exact c_X1_answer_2_1 E g A σ hR hF hg h
  · exact c_X1_answer_3_0 E g A σ hR hF hg h
  · exact c_X1_answer_3_1 E g A σ hR hF hg h
  · exact c_X1_answer_4_0 E g A σ hR hF hg h
  · exact c_X1_answer_4_1 E g A σ hR hF hg h
  · exact c_X1_answer_5_0 E g A σ hR hF hg h
  · exact c_X1_answer_5_1 E g A σ hR hF hg h
set_option maxRecDepth 100000 in
set_option maxHeartbeats 4000000 in
theorem c8_ask (E : En) (x y : Int32) (A : Vec) (T : AbT) (σ : Sg) (hI : IC σ (A, T)) : Cn E m_X8_ask 12 [.ref (eB E + 0), .int x, .int y] σ (pC σ (oAsk (A, T) x y)) := by
  have hR : RepC σ 4 A := hI.2.1
  have hGD : GD A := hI.1.1
  have hN : WN A := hGD.1
  have hNl := hN.le
  have hA4 : A 4 ≤ 999 := hGD.2.2
  refine Cn.of [some (.ref (eB E + 0)), some (.int x), some (.int y)] (by decide) (Nat.le_of_ble_eq_true rfl) rfl ?_
  refine V_aload_n e_X8_ask_0 rfl rfl ?_
  refine V_getr (r := 4) e_X8_ask_1 F_X8_now f_X8_25 rfl rfl ?_
  refine V_iload_n e_X8_ask_4 rfl rfl ?_
  refine V_cvIe (av := [.int x]) (st := []) e_X8_ask_5 (c_X5_hasGate E 4 (A 0) x σ rfl hR.1.2.2.2.1) l_X8_189 S_X5_hasGate rfl (rm_ok (by decide) (by decide)) rfl rfl (Nat.le_of_ble_eq_true rfl) ?_
  refine V_if_eq (tgt := 20) e_X8_ask_8 (by decide) (fun c1 => ?_) (fun c1 => ?_)
  · refine V_ldc (v := (-1000001)) e_X8_ask_20 k_X8_73 ?_
    exact V_iret e_X8_ask_22 rfl (by rw [show oAsk (A, T) x y = ((A, T), (-1000001)) from (by unfold oAsk; (try unfold gIn); (try dsimp only); (try (repeat rw [ixN (by omega)])); (first | rw [if_pos c1] | rw [if_neg c1] | skip); try rfl)]; exact ⟨Fb.rf, hI, rfl⟩)
  · obtain ⟨g, hg, rfl⟩ := (wi_nat (by omega)).mp c1
    have hF : WF A := hN.wf (by omega)
    refine V_iload_n e_X8_ask_11 rfl rfl ?_
    refine V_iconst (v := nI 0) e_X8_ask_12 (by decide) ?_
    refine V_iconst (v := nI 1) e_X8_ask_13 (by decide) ?_
    refine V_csIe (av := [.int y, .int (nI 0), .int (nI 1)]) (st := []) e_X8_ask_14 (c_X8_within E y (nI 0) (nI 1) σ) l_X8_69 S_X8_within (rm_ok (by decide) (by decide)) rfl rfl (Nat.le_of_ble_eq_true rfl) ?_
    refine V_if_ne (tgt := 23) e_X8_ask_17 (by decide) (fun c2 => ?_) (fun c2 => ?_)
    · obtain ⟨k, hka, hk, rfl⟩ := (wi_le (by omega) (by omega)).mp c2
      refine V_aload_n e_X8_ask_23 rfl rfl ?_
      refine V_getr (r := 256) e_X8_ask_24 F_X8_asks f_X8_60 rfl rfl ?_
      refine V_aload_n e_X8_ask_27 rfl rfl ?_
      refine V_getr (r := 4) e_X8_ask_28 F_X8_now f_X8_25 rfl rfl ?_
      refine V_iload_n e_X8_ask_31 rfl rfl ?_
      refine V_iload_n e_X8_ask_32 rfl rfl ?_
      refine V_cvIe (av := [.ref (eB E + 4), .int (nI g), .int (nI k)]) (st := []) e_X8_ask_33 (c8_answer E g k A σ hR hF hg (by omega)) l_X8_307 S_X1_answer rfl (rm_ok (by decide) (by decide)) rfl rfl (Nat.le_of_ble_eq_true rfl) ?_
      exact V_iret e_X8_ask_36 rfl (by rw [show oAsk (A, T) (nI g) (nI k) = (wX (A, T) (lX (askT (A (7 + 3 * g)) k)), askV A g k) from (by unfold oAsk; (try unfold gIn); (try dsimp only); (try (repeat rw [ixN (by omega)])); (first | rw [if_pos c1] | rw [if_neg c1] | skip); (first | rw [if_pos c2] | rw [if_neg c2] | skip); try rfl)]; exact ⟨(show Fb 0 292 σ (trL 0 (askT (A (7 + 3 * g)) k) (up2 σ 256 1 (nI 0))) from ((Fb.rf.up (lo := 256) (hi := 258) (by decide) (by decide)).tr (trL_fb (t := 0) _ _ _)).wide (by decide) (by decide)), (show IC (trL 0 (askT (A (7 + 3 * g)) k) (up2 σ 256 1 (nI 0))) (wX (A, T) (lX (askT (A (7 + 3 * g)) k))) from hI.wX (askT_le _ _) CX.tr ((Fb.rf.up (by decide) (by decide)).tr (trL_fb (t := 0) _ _ _))), rfl⟩)
    · refine V_ldc (v := (-1000001)) e_X8_ask_20 k_X8_73 ?_
      exact V_iret e_X8_ask_22 rfl (by rw [show oAsk (A, T) (nI g) y = ((A, T), (-1000001)) from (by unfold oAsk; (try unfold gIn); (try dsimp only); (try (repeat rw [ixN (by omega)])); (first | rw [if_pos c1] | rw [if_neg c1] | skip); (first | rw [if_pos c2] | rw [if_neg c2] | skip); try rfl)]; exact ⟨Fb.rf, hI, rfl⟩)
set_option maxRecDepth 100000 in
set_option maxHeartbeats 4000000 in
theorem c8_trace (E : En) (x : Int32) (A : Vec) (T : AbT) (σ : Sg) (hI : IC σ (A, T)) : Cn E m_X8_trace 12 [.ref (eB E + 0), .int x] σ (pC σ (oTrace (A, T) x)) := by
  have hR : RepC σ 4 A := hI.2.1
  have hGD : GD A := hI.1.1
  have hN : WN A := hGD.1
  have hNl := hN.le
  have hA4 : A 4 ≤ 999 := hGD.2.2
  have hX16 : (aX (A, T)).1 ≤ 16 := hI.1.2.2.2.2.2.2.2
  refine Cn.of [some (.ref (eB E + 0)), some (.int x)] (by decide) (Nat.le_of_ble_eq_true rfl) rfl ?_
  refine V_iload_n e_X8_trace_0 rfl rfl ?_
  refine V_iconst (v := nI 0) e_X8_trace_1 (by decide) ?_
  refine V_aload_n e_X8_trace_2 rfl rfl ?_
  refine V_getr (r := 256) e_X8_trace_3 F_X8_asks f_X8_60 rfl rfl ?_
  refine V_getiv (v := nI ((aX (A, T)).1)) e_X8_trace_6 F_X1_traceSize f_X8_310 rfl hI.2.2.2.2.2.2.2.2.1 ?_
  refine V_iconst (v := nI 1) e_X8_trace_9 (by decide) ?_
  refine V_isub e_X8_trace_10 ?_
  refine V_csIe (av := [.int x, .int (nI 0), .int ((nI ((aX (A, T)).1)) - (nI 1))]) (st := []) e_X8_trace_11 (c_X8_within E x (nI 0) ((nI ((aX (A, T)).1)) - (nI 1)) σ) l_X8_69 S_X8_within (rm_ok (by decide) (by decide)) rfl rfl (Nat.le_of_ble_eq_true rfl) ?_
  refine V_if_eq (tgt := 29) e_X8_trace_14 (by decide) (fun c1 => ?_) (fun c1 => ?_)
  · refine V_ldc_w (v := (-1000000)) e_X8_trace_29 k_X8_316 ?_
    exact V_iret e_X8_trace_32 rfl (by rw [show oTrace (A, T) x = ((A, T), (-1000000)) from (by unfold oTrace; (try unfold gIn); (try dsimp only); (try (repeat rw [ixN (by omega)])); (first | rw [if_pos c1] | rw [if_neg c1] | skip); try rfl)]; exact ⟨Fb.rf, hI, rfl⟩)
  · obtain ⟨j, hj, rfl⟩ := (wi_nat (by omega)).mp c1
    refine V_aload_n e_X8_trace_17 rfl rfl ?_
    refine V_getr (r := 256) e_X8_trace_18 F_X8_asks f_X8_60 rfl rfl ?_
    refine V_getr (r := 257) e_X8_trace_21 F_X1_traced f_X8_313 rfl rfl ?_
    refine V_iload_n e_X8_trace_24 rfl rfl ?_
    refine V_ialdv (v := nI ((aX (A, T)).2 j)) (j := j) e_X8_trace_25 rfl rfl (by have q : ln 257 = 16 := rfl; omega) (hI.2.2.2.2.2.2.2.2.2 j (by omega)) ?_
    refine V_goto (tgt := 32) e_X8_trace_26 (by decide) ?_
    exact V_iret e_X8_trace_32 rfl (by rw [show oTrace (A, T) (nI j) = ((A, T), nI ((aX (A, T)).2 j)) from (by unfold oTrace; (try unfold gIn); (try dsimp only); (try (repeat rw [ixN (by omega)])); (first | rw [if_pos c1] | rw [if_neg c1] | skip); try rfl)]; exact ⟨Fb.rf, hI, rfl⟩)
set_option maxRecDepth 100000 in
set_option maxHeartbeats 4000000 in
theorem lp_X8_rowsThatAre (E : En) (A : Vec) (T : AbT) (σ : Sg) (hCR : CR σ (aR (A, T))) : ∀ (mm : Nat) (r : Nat), 8 - r = mm → (r ≤ 8) → V E m_X8_rowsThatAre (kM E 1 (pI (fun σ' r => σ' = σ ∧ r = nI (sumN (rwF (aR (A, T))) 8)))) 4 [some (.ref (eB E + 0)), some (.int (nI (sumN (rwF (aR (A, T))) r))), some (.int (nI r))] [] σ := by
  intro mm
  induction mm using Nat.strongRecOn with
  | ind mm ih =>
    intro r hmm hr
    refine V_iload_n e_X8_rowsThatAre_4 rfl rfl ?_
    refine V_bipush (v := nI 8) e_X8_rowsThatAre_5 (by decide) ?_
    refine V_icmp_ge (tgt := 36) e_X8_rowsThatAre_7 (by decide) (fun c1 => ?_) (fun c1 => ?_)
    · have d1 : 8 ≤ r := nq_le (by first | omega | (split <;> omega)) (by first | omega | (split <;> omega)) c1
      refine V_iload_n e_X8_rowsThatAre_36 rfl rfl ?_
      exact V_iret e_X8_rowsThatAre_37 rfl (⟨rfl, by rw [show r = 8 by omega]⟩)
    · have d1 : ¬ 8 ≤ r := nq_nle (by first | omega | (split <;> omega)) (by first | omega | (split <;> omega)) c1
      obtain ⟨er1, er2, er3, er4⟩ := hCR r (by omega)
      refine V_iload_n e_X8_rowsThatAre_10 rfl rfl ?_
      refine V_aload_n e_X8_rowsThatAre_11 rfl rfl ?_
      refine V_getr (r := 1) e_X8_rowsThatAre_12 F_X8_rows f_X8_11 rfl rfl ?_
      refine V_iload_n e_X8_rowsThatAre_15 rfl rfl ?_
      refine V_aald (j := r) (r := 258 + 2 * r) e_X8_rowsThatAre_16 (by decide) (by decide) rfl (by have q : ln 1 = 8 := rfl; omega) rfl ?_
      refine V_getiv (v := nI (if (aR (A, T)).1 r = 0 then 1 else 0)) e_X8_rowsThatAre_17 F_X3_missing f_X8_92 (kd_row r (by have q : ln 1 = 8 := rfl; omega)) er1 ?_
      refine V_if_eq (tgt := 27) e_X8_rowsThatAre_20 (by decide) (fun c2 => ?_) (fun c2 => ?_)
      · have d2 : (if (aR (A, T)).1 r = 0 then 1 else 0) = 0 := nq_eq (by first | omega | (split <;> omega)) (by first | omega | (split <;> omega)) c2
        refine V_iconst (v := nI 1) e_X8_rowsThatAre_27 (by decide) ?_
        refine V_iaddN (z := nI (sumN (rwF (aR (A, T))) r + 1)) e_X8_rowsThatAre_28 (nI_add _ _) ?_
        refine V_istore_n (L' := [some (.ref (eB E + 0)), some (.int (nI (sumN (rwF (aR (A, T))) r + 1))), some (.int (nI r))]) e_X8_rowsThatAre_29 rfl rfl ?_
        refine V_iinc (v := nI (r + 1)) (L' := [some (.ref (eB E + 0)), some (.int (nI (sumN (rwF (aR (A, T))) r + 1))), some (.int (nI (r + 1)))]) e_X8_rowsThatAre_30 rfl (nI_add _ 1) rfl ?_
        refine V_goto (tgt := 4) e_X8_rowsThatAre_33 (by decide) ?_
        rw [show sumN (rwF (aR (A, T))) r + 1 = sumN (rwF (aR (A, T))) (r + 1) from (by rw [sumN]; congr 1; unfold rwF; split <;> simp_all)]; exact ih (8 - (r + 1)) (by omega) (r + 1) rfl (by omega)
      · have d2 : ¬ (if (aR (A, T)).1 r = 0 then 1 else 0) = 0 := nq_ne (by first | omega | (split <;> omega)) (by first | omega | (split <;> omega)) c2
        refine V_iconst (v := nI 0) e_X8_rowsThatAre_23 (by decide) ?_
        refine V_goto (tgt := 28) e_X8_rowsThatAre_24 (by decide) ?_
        refine V_iaddN (z := nI (sumN (rwF (aR (A, T))) r + 0)) e_X8_rowsThatAre_28 (nI_add _ _) ?_
        refine V_istore_n (L' := [some (.ref (eB E + 0)), some (.int (nI (sumN (rwF (aR (A, T))) r + 0))), some (.int (nI r))]) e_X8_rowsThatAre_29 rfl rfl ?_
        refine V_iinc (v := nI (r + 1)) (L' := [some (.ref (eB E + 0)), some (.int (nI (sumN (rwF (aR (A, T))) r + 0))), some (.int (nI (r + 1)))]) e_X8_rowsThatAre_30 rfl (nI_add _ 1) rfl ?_
        refine V_goto (tgt := 4) e_X8_rowsThatAre_33 (by decide) ?_
        rw [show sumN (rwF (aR (A, T))) r + 0 = sumN (rwF (aR (A, T))) (r + 1) from (by rw [sumN]; congr 1; unfold rwF; split <;> simp_all)]; exact ih (8 - (r + 1)) (by omega) (r + 1) rfl (by omega)
set_option maxRecDepth 100000 in
set_option maxHeartbeats 4000000 in
theorem c_X8_rowsThatAre (E : En) (A : Vec) (T : AbT) (σ : Sg) (hCR : CR σ (aR (A, T))) : Cn E m_X8_rowsThatAre 1 [.ref (eB E + 0)] σ (pI (fun σ' r => σ' = σ ∧ r = nI (sumN (rwF (aR (A, T))) 8))) := by
  refine Cn.of [some (.ref (eB E + 0)), none, none] (by decide) (Nat.le_of_ble_eq_true rfl) rfl ?_
  refine V_iconst (v := nI 0) e_X8_rowsThatAre_0 (by decide) ?_
  refine V_istore_n (L' := [some (.ref (eB E + 0)), some (.int (nI 0)), none]) e_X8_rowsThatAre_1 rfl rfl ?_
  refine V_iconst (v := nI 0) e_X8_rowsThatAre_2 (by decide) ?_
  refine V_istore_n (L' := [some (.ref (eB E + 0)), some (.int (nI 0)), some (.int (nI 0))]) e_X8_rowsThatAre_3 rfl rfl ?_
  exact lp_X8_rowsThatAre E A T σ hCR 8 0 rfl (by omega)
set_option maxRecDepth 100000 in
set_option maxHeartbeats 4000000 in
theorem c8_count (E : En) (x : Int32) (A : Vec) (T : AbT) (σ : Sg) (hI : IC σ (A, T)) : Cn E m_X8_count 12 [.ref (eB E + 0), .int x] σ (pC σ (oCount (A, T) x)) := by
  have hR : RepC σ 4 A := hI.2.1
  have hGD : GD A := hI.1.1
  have hN : WN A := hGD.1
  have hNl := hN.le
  have hA4 : A 4 ≤ 999 := hGD.2.2
  have hG := hI.1
  have hCR : CR σ (aR (A, T)) := hI.2.2.2.2.1
  obtain ⟨O9, -, -, hsz, -⟩ := id hI.2.2.1
  refine Cn.of [some (.ref (eB E + 0)), some (.int x)] (by decide) (Nat.le_of_ble_eq_true rfl) rfl ?_
  refine V_iload_n e_X8_count_0 rfl rfl ?_
  rcases sw_c x 0 7 with ⟨j1, c2a, c2b, c2⟩ | c2
  · have c2d : j1 = 0 ∨ j1 = 1 ∨ j1 = 2 ∨ j1 = 3 ∨ j1 = 4 ∨ j1 = 5 ∨ j1 = 6 ∨ j1 = 7 := by omega
    rcases c2d with rfl | rfl | rfl | rfl | rfl | rfl | rfl | rfl
    · refine V_tab (j := 0) (tgt := 48) e_X8_count_1 c2 (by decide) (by decide +kernel) ?_
      refine V_aload_n e_X8_count_48 rfl rfl ?_
      refine V_cvIe (av := []) (st := []) e_X8_count_49 (c_X8_rowsThatAre E A T σ hCR) l_X8_317 S_X8_rowsThatAre rfl (rm_ok (by decide) (by decide)) rfl rfl (Nat.le_of_ble_eq_true rfl) ?_
      exact V_iret e_X8_count_52 rfl (by rw [show oCount (A, T) x = ((A, T), nI (sumN (rwF (aR (A, T))) 8)) from (by unfold oCount; rw [c2, show swx (nI 0) 7 = 0 by decide]; try rfl)]; exact ⟨Fb.rf, hI, rfl⟩)
    · refine V_tab (j := 1) (tgt := 53) e_X8_count_1 c2 (by decide) (by decide +kernel) ?_
      refine V_aload_n e_X8_count_53 rfl rfl ?_
      refine V_getr (r := 4) e_X8_count_54 F_X8_now f_X8_25 rfl rfl ?_
      refine V_getiv (v := nI (A 0)) e_X8_count_57 F_X5_gates f_X8_139 rfl hR.1.2.2.2.1 ?_
      exact V_iret e_X8_count_60 rfl (by rw [show oCount (A, T) x = ((A, T), nI (A 0)) from (by unfold oCount; rw [c2, show swx (nI 1) 7 = 1 by decide]; try rfl)]; exact ⟨Fb.rf, hI, rfl⟩)
    · refine V_tab (j := 2) (tgt := 61) e_X8_count_1 c2 (by decide) (by decide +kernel) ?_
      refine V_aload_n e_X8_count_61 rfl rfl ?_
      refine V_getr (r := 4) e_X8_count_62 F_X8_now f_X8_25 rfl rfl ?_
      refine V_getiv (v := nI (A 1)) e_X8_count_65 F_X5_people f_X8_320 rfl hR.1.2.2.2.2.1 ?_
      exact V_iret e_X8_count_68 rfl (by rw [show oCount (A, T) x = ((A, T), nI (A 1)) from (by unfold oCount; rw [c2, show swx (nI 2) 7 = 2 by decide]; try rfl)]; exact ⟨Fb.rf, hI, rfl⟩)
    · refine V_tab (j := 3) (tgt := 69) e_X8_count_1 c2 (by decide) (by decide +kernel) ?_
      refine V_aload_n e_X8_count_69 rfl rfl ?_
      refine V_getr (r := 4) e_X8_count_70 F_X8_now f_X8_25 rfl rfl ?_
      refine V_getiv (v := nI (A 4)) e_X8_count_73 F_X5_day f_X8_151 rfl hR.1.2.2.1 ?_
      exact V_iret e_X8_count_76 rfl (by rw [show oCount (A, T) x = ((A, T), nI (A 4)) from (by unfold oCount; rw [c2, show swx (nI 3) 7 = 3 by decide]; try rfl)]; exact ⟨Fb.rf, hI, rfl⟩)
    · refine V_tab (j := 4) (tgt := 77) e_X8_count_1 c2 (by decide) (by decide +kernel) ?_
      refine V_aload_n e_X8_count_77 rfl rfl ?_
      refine V_getr (r := 4) e_X8_count_78 F_X8_now f_X8_25 rfl rfl ?_
      refine V_getiv (v := nI (A 5)) e_X8_count_81 F_X5_fallen f_X8_198 rfl hR.1.2.2.2.2.2.1 ?_
      exact V_iret e_X8_count_84 rfl (by rw [show oCount (A, T) x = ((A, T), nI (A 5)) from (by unfold oCount; rw [c2, show swx (nI 4) 7 = 4 by decide]; try rfl)]; exact ⟨Fb.rf, hI, rfl⟩)
    · refine V_tab (j := 5) (tgt := 85) e_X8_count_1 c2 (by decide) (by decide +kernel) ?_
      refine V_aload_n e_X8_count_85 rfl rfl ?_
      refine V_getr (r := 4) e_X8_count_86 F_X8_now f_X8_25 rfl rfl ?_
      refine V_cvIe (av := []) (st := []) e_X8_count_89 (c_X5_hungerOfAll E 4 A σ rfl hR hNl.2) l_X8_160 S_X5_hungerOfAll rfl (rm_ok (by decide) (by decide)) rfl rfl (Nat.le_of_ble_eq_true rfl) ?_
      exact V_iret e_X8_count_92 rfl (by rw [show oCount (A, T) x = ((A, T), nI (hung A)) from (by unfold oCount; rw [c2, show swx (nI 5) 7 = 5 by decide]; try rfl)]; exact ⟨Fb.rf, hI, rfl⟩)
    · refine V_tab (j := 6) (tgt := 93) e_X8_count_1 c2 (by decide) (by decide +kernel) ?_
      refine V_aload_n e_X8_count_93 rfl rfl ?_
      refine V_getr (r := 23) e_X8_count_94 F_X8_acts f_X8_39 rfl rfl ?_
      refine V_getiv (v := nI ((aH (A, T)).2)) e_X8_count_97 F_X0_size f_X8_145 rfl hsz ?_
      exact V_iret e_X8_count_100 rfl (by rw [show oCount (A, T) x = ((A, T), nI ((aH (A, T)).2)) from (by unfold oCount; rw [c2, show swx (nI 6) 7 = 6 by decide]; try rfl)]; exact ⟨Fb.rf, hI, rfl⟩)
    · refine V_tab (j := 7) (tgt := 101) e_X8_count_1 c2 (by decide) (by decide +kernel) ?_
      refine V_aload_n e_X8_count_101 rfl rfl ?_
      refine V_getr (r := 2) e_X8_count_102 F_X8_tape f_X8_18 rfl rfl ?_
      refine V_getiv (v := nI ((aT (A, T)).1)) e_X8_count_105 F_X6_size f_X8_116 rfl hI.2.2.2.2.2.1.1 ?_
      exact V_iret e_X8_count_108 rfl (by rw [show oCount (A, T) x = ((A, T), nI ((aT (A, T)).1)) from (by unfold oCount; rw [c2, show swx (nI 7) 7 = 7 by decide]; try rfl)]; exact ⟨Fb.rf, hI, rfl⟩)
  · refine V_tabo (tgt := 109) e_X8_count_1 c2 (by decide) ?_
    refine V_ldc (v := (-1000001)) e_X8_count_109 k_X8_73 ?_
    exact V_iret e_X8_count_111 rfl (by rw [show oCount (A, T) x = ((A, T), (-1000001)) from (by unfold oCount; rw [show swx _ 7 = 8 from if_pos c2]; try rfl)]; exact ⟨Fb.rf, hI, rfl⟩)
theorem img_bits : ∀ a, a ≤ 1 → ∀ b, b ≤ 1 → ∀ k, k < 2 → (a + 2 * b) ||| 2 ^ k = (if k = 0 then 1 else a) + 2 * (if k = 1 then 1 else b) ∧ bitN (a + 2 * b) k = if k = 0 then a else b := by decide
theorem img_ok {S : Ab} (h : GS S) {k : Nat} (hk : k < 2) : ∀ j, j < 2 → (if j = k then 1 else (aI S).1 j) ≤ 1 ∧ ((if j = k then 1 else (aI S).1 j) = 1 → GD (if j = k then S.1 else (aI S).2 j)) := fun j hj => by
  by_cases q : j = k
  · simp only [if_pos q]; exact ⟨Nat.le_refl _, fun _ => h.1⟩
  · simp only [if_neg q]; exact h.2.2.1 j hj
theorem img_ci {σ : Sg} {S : Ab} (hI : IC σ S) {k : Nat} (hk : k < 2) : CI (up2 (bec (274 + 9 * k) 4 σ) 0 9 (nI ((aI S).1 0 + 2 * (aI S).1 1 ||| 2 ^ k))) (fun j => if j = k then 1 else (aI S).1 j, fun j => if j = k then S.1 else (aI S).2 j) := by
  obtain ⟨i1, i2⟩ := hI.2.2.2.1
  have hg := hI.1.2.2.1
  have hb := img_bits _ (hg 0 (by omega)).1 _ (hg 1 (by omega)).1 k hk
  refine ⟨?_, fun j hj h1 => ?_⟩
  · rw [up2_at, hb.1]
    dsimp only
    congr 2
    · rcases (show k = 0 ∨ k = 1 by omega) with rfl | rfl <;> simp
    · rcases (show k = 0 ∨ k = 1 by omega) with rfl | rfl <;> simp
  · dsimp only at h1 ⊢
    by_cases q : j = k
    · rw [if_pos q, q]
      exact (bec_rep hI.1.1.g6 hI.1.1.p5 hI.2.1).eq hI.1.1.p5 (fun a ha hb k => congrFun (up2_ne (by omega)) k)
    · rw [if_neg q] at h1 ⊢
      exact (i2 j hj h1).eq ((hg j hj).2 h1).p5 (fun a ha hb k => (congrFun (up2_ne (by omega)) k).trans (bec_fb a k (by omega)))
set_option maxRecDepth 100000 in
set_option maxHeartbeats 4000000 in
theorem c8_image (E : En) (x : Int32) (A : Vec) (T : AbT) (σ : Sg) (hI : IC σ (A, T)) : Cn E m_X8_image 12 [.ref (eB E + 0), .int x] σ (pC σ (oImage (A, T) x)) := by
  have hR : RepC σ 4 A := hI.2.1
  have hGD : GD A := hI.1.1
  have hN : WN A := hGD.1
  have hNl := hN.le
  have hA4 : A 4 ≤ 999 := hGD.2.2
  refine Cn.of [some (.ref (eB E + 0)), some (.int x)] (by decide) (Nat.le_of_ble_eq_true rfl) rfl ?_
  refine V_iload_n e_X8_image_0 rfl rfl ?_
  refine V_iconst (v := nI 0) e_X8_image_1 (by decide) ?_
  refine V_iconst (v := nI 1) e_X8_image_2 (by decide) ?_
  refine V_csIe (av := [.int x, .int (nI 0), .int (nI 1)]) (st := []) e_X8_image_3 (c_X8_within E x (nI 0) (nI 1) σ) l_X8_69 S_X8_within (rm_ok (by decide) (by decide)) rfl rfl (Nat.le_of_ble_eq_true rfl) ?_
  refine V_if_ne (tgt := 12) e_X8_image_6 (by decide) (fun c1 => ?_) (fun c1 => ?_)
  · obtain ⟨k, hka, hk, rfl⟩ := (wi_le (by omega) (by omega)).mp c1
    refine V_aload_n e_X8_image_12 rfl rfl ?_
    refine V_getr (r := 4) e_X8_image_13 F_X8_now f_X8_25 rfl rfl ?_
    refine V_cvIe (av := []) (st := []) e_X8_image_16 (c_X5_isNone E 4 (A 0) σ rfl hR.1.2.2.2.1 hNl.1) l_X8_147 S_X5_isNone rfl (rm_ok (by decide) (by decide)) rfl rfl (Nat.le_of_ble_eq_true rfl) ?_
    refine V_if_eq (tgt := 25) e_X8_image_19 (by decide) (fun c2 => ?_) (fun c2 => ?_)
    · have d2 : (if A 0 = 0 then 1 else 0) = 0 := nq_eq (by first | omega | (split <;> omega)) (by first | omega | (split <;> omega)) c2
      have hA0 : ¬ A 0 = 0 := fun q => by rw [if_pos q] at d2; omega
      have hF : WF A := hN.wf (by omega)
      refine V_aload_n e_X8_image_25 rfl rfl ?_
      refine V_getr (r := 22) e_X8_image_26 F_X8_images f_X8_32 rfl rfl ?_
      refine V_iload_n e_X8_image_29 rfl rfl ?_
      refine V_aald (j := k) (r := 274 + (9 * k)) e_X8_image_30 (by decide) (by decide) rfl (by have q : ln 22 = 2 := rfl; omega) rfl ?_
      refine V_aload_n e_X8_image_31 rfl rfl ?_
      refine V_getr (r := 4) e_X8_image_32 F_X8_now f_X8_25 rfl rfl ?_
      refine V_cvVe (av := [.ref (eB E + 4)]) (st := []) e_X8_image_35 (c_X5_become E (274 + 9 * k) 4 σ (kd_img k (by have q : ln 22 = 2 := rfl; omega)) rfl (by omega)) l_X8_132 S_X5_become (kd_img k (by have q : ln 22 = 2 := rfl; omega)) (rm_ok (by decide) (by decide)) rfl rfl (Nat.le_of_ble_eq_true rfl) ?_
      refine V_aload_n e_X8_image_38 rfl rfl ?_
      refine V_dup e_X8_image_39 rfl ?_
      refine V_getiv (v := nI ((aI (A, T)).1 0 + 2 * (aI (A, T)).1 1)) e_X8_image_40 F_X8_imagesKept f_X8_298 rfl ((bec_fb 0 9 (by omega)).trans hI.2.2.2.1.1) ?_
      refine V_iconst (v := nI 1) e_X8_image_43 (by decide) ?_
      refine V_iload_n e_X8_image_44 rfl rfl ?_
      refine V_ishlN (z := nI (2 ^ k)) e_X8_image_45 (shl1 (by omega)) ?_
      refine V_iorN (z := nI (((aI (A, T)).1 0 + 2 * (aI (A, T)).1 1) ||| (2 ^ k))) e_X8_image_46 (lorI _ _) ?_
      refine V_puti e_X8_image_47 F_X8_imagesKept f_X8_298 rfl ?_
      refine V_iconst (v := nI 1) e_X8_image_50 (by decide) ?_
      exact V_iret e_X8_image_51 rfl (by rw [show oImage (A, T) (nI k) = (wI (A, T) (fun j => if j = k then 1 else (aI (A, T)).1 j, fun j => if j = k then A else (aI (A, T)).2 j), nI 1) from (by unfold oImage; (try unfold gIn); (try dsimp only); (try (repeat rw [ixN (by omega)])); (first | rw [if_pos c1] | rw [if_neg c1] | skip); (first | rw [if_pos hA0] | rw [if_neg hA0] | skip); try rfl)]; exact ⟨(show Fb 0 292 σ (up2 (bec (274 + 9 * k) 4 σ) 0 9 (nI (((aI (A, T)).1 0 + 2 * (aI (A, T)).1 1) ||| (2 ^ k)))) from (bec_fb.wide (by omega) (by omega)).up (by decide) (by decide)), (show IC (up2 (bec (274 + 9 * k) 4 σ) 0 9 (nI (((aI (A, T)).1 0 + 2 * (aI (A, T)).1 1) ||| (2 ^ k)))) (wI (A, T) (fun j => if j = k then 1 else (aI (A, T)).1 j, fun j => if j = k then A else (aI (A, T)).2 j)) from hI.wI (img_ok hI.1 (by omega)) (img_ci hI (by omega)) (fun a j h1 h2 => by unfold up2; rw [if_neg h1]; exact bec_fb a j (by omega))), rfl⟩)
    · have d2 : ¬ (if A 0 = 0 then 1 else 0) = 0 := nq_ne (by first | omega | (split <;> omega)) (by first | omega | (split <;> omega)) c2
      have hA0 : A 0 = 0 := Decidable.byContradiction (fun q => by rw [if_neg q] at d2; omega)
      refine V_ldc (v := (-1000002)) e_X8_image_22 k_X8_146 ?_
      exact V_iret e_X8_image_24 rfl (by rw [show oImage (A, T) (nI k) = ((A, T), (-1000002)) from (by unfold oImage; (try unfold gIn); (try dsimp only); (try (repeat rw [ixN (by omega)])); (first | rw [if_pos c1] | rw [if_neg c1] | skip); (first | rw [if_pos hA0] | rw [if_neg hA0] | skip); try rfl)]; exact ⟨Fb.rf, hI, rfl⟩)
  · refine V_ldc (v := (-1000001)) e_X8_image_9 k_X8_73 ?_
    exact V_iret e_X8_image_11 rfl (by rw [show oImage (A, T) x = ((A, T), (-1000001)) from (by unfold oImage; (try unfold gIn); (try dsimp only); (try (repeat rw [ixN (by omega)])); (first | rw [if_pos c1] | rw [if_neg c1] | skip); (first | rw [if_pos hA0] | rw [if_neg hA0] | skip); try rfl)]; exact ⟨Fb.rf, hI, rfl⟩)
theorem res_fb {σ : Sg} {k : Nat} : Fb 0 292 σ (up2 (bec 4 (274 + 9 * k) σ) 23 2 (nI 0)) := (bec_fb.wide (by omega) (by omega)).up (by decide) (by decide)
theorem res_ic {σ : Sg} {A : Vec} {T : AbT} {k : Nat} (hI : IC σ (A, T)) (hk : k < 2) (h0 : ¬ (aI (A, T)).1 k = 0) : IC (up2 (bec 4 (274 + 9 * k) σ) 23 2 (nI 0)) ((aI (A, T)).2 k, ((aH (A, T)).1, 0), T.2) := by
  have hg := hI.1.2.2.1 k hk
  have h1 : (aI (A, T)).1 k = 1 := by omega
  have hgd := hg.2 h1
  have hr := hI.2.2.2.1.2 k hk h1
  obtain ⟨O, hO, o1, o2, o3⟩ := id hI.2.2.1
  have hi1 : IC (bec 4 (274 + 9 * k) σ) (wA (A, T) ((aI (A, T)).2 k)) := hI.wA hgd (bec_rep hgd.g6 hgd.p5 hr) (bec_fb.wide (by omega) (by omega))
  have hi2 := hi1.wH (H := ((aH (A, T)).1, 0)) (τ := up2 (bec 4 (274 + 9 * k) σ) 23 2 (nI 0)) ⟨Nat.zero_le _, fun j hj => absurd hj (Nat.not_lt_zero j)⟩ ⟨O, hO, by rw [up2_k (by omega), bec_fb 23 1 (by omega)]; exact o1, up2_at, fun j hj => absurd hj (Nat.not_lt_zero j)⟩ (Fb.rf.up (by decide) (by decide))
  exact hi2
set_option maxRecDepth 100000 in
set_option maxHeartbeats 4000000 in
theorem c8_restore (E : En) (x : Int32) (A : Vec) (T : AbT) (σ : Sg) (hI : IC σ (A, T)) : Cn E m_X8_restore 12 [.ref (eB E + 0), .int x] σ (pC σ (oRestore (A, T) x)) := by
  have hR : RepC σ 4 A := hI.2.1
  have hGD : GD A := hI.1.1
  have hN : WN A := hGD.1
  have hNl := hN.le
  have hA4 : A 4 ≤ 999 := hGD.2.2
  refine Cn.of [some (.ref (eB E + 0)), some (.int x)] (by decide) (Nat.le_of_ble_eq_true rfl) rfl ?_
  refine V_iload_n e_X8_restore_0 rfl rfl ?_
  refine V_iconst (v := nI 0) e_X8_restore_1 (by decide) ?_
  refine V_iconst (v := nI 1) e_X8_restore_2 (by decide) ?_
  refine V_csIe (av := [.int x, .int (nI 0), .int (nI 1)]) (st := []) e_X8_restore_3 (c_X8_within E x (nI 0) (nI 1) σ) l_X8_69 S_X8_within (rm_ok (by decide) (by decide)) rfl rfl (Nat.le_of_ble_eq_true rfl) ?_
  refine V_if_ne (tgt := 12) e_X8_restore_6 (by decide) (fun c1 => ?_) (fun c1 => ?_)
  · obtain ⟨k, hka, hk, rfl⟩ := (wi_le (by omega) (by omega)).mp c1
    have hg0 := (hI.1.2.2.1 0 (by omega)).1
    have hg1 := (hI.1.2.2.1 1 (by omega)).1
    have hbk : bitN ((aI (A, T)).1 0 + 2 * (aI (A, T)).1 1) k = (aI (A, T)).1 k := ((img_bits _ hg0 _ hg1 k (by omega)).2).trans (by rcases (show k = 0 ∨ k = 1 by omega) with rfl | rfl <;> rfl)
    have hgk := (hI.1.2.2.1 k (by omega)).1
    refine V_aload_n e_X8_restore_12 rfl rfl ?_
    refine V_getiv (v := nI ((aI (A, T)).1 0 + 2 * (aI (A, T)).1 1)) e_X8_restore_13 F_X8_imagesKept f_X8_298 rfl hI.2.2.2.1.1 ?_
    refine V_iload_n e_X8_restore_16 rfl rfl ?_
    refine V_csIe (av := [.int (nI ((aI (A, T)).1 0 + 2 * (aI (A, T)).1 1)), .int (nI k)]) (st := []) e_X8_restore_17 (c_X8_bitN E ((aI (A, T)).1 0 + 2 * (aI (A, T)).1 1) k σ (by omega) (by omega)) l_X8_195 S_X8_bit (rm_ok (by decide) (by decide)) rfl rfl (Nat.le_of_ble_eq_true rfl) ?_
    refine V_if_ne (tgt := 26) e_X8_restore_20 (by decide) (fun c2 => ?_) (fun c2 => ?_)
    · have d2 : ¬ bitN ((aI (A, T)).1 0 + 2 * (aI (A, T)).1 1) k = 0 := nq_ne (by first | omega | (rw [hbk]; omega)) (by first | omega | (rw [hbk]; omega)) c2
      refine V_aload_n e_X8_restore_26 rfl rfl ?_
      refine V_getr (r := 4) e_X8_restore_27 F_X8_now f_X8_25 rfl rfl ?_
      refine V_aload_n e_X8_restore_30 rfl rfl ?_
      refine V_getr (r := 22) e_X8_restore_31 F_X8_images f_X8_32 rfl rfl ?_
      refine V_iload_n e_X8_restore_34 rfl rfl ?_
      refine V_aald (j := k) (r := 274 + (9 * k)) e_X8_restore_35 (by decide) (by decide) rfl (by have q : ln 22 = 2 := rfl; omega) rfl ?_
      refine V_cvVe (av := [.ref (eB E + (274 + (9 * k)))]) (st := []) e_X8_restore_36 (c_X5_become E 4 (274 + 9 * k) σ rfl (kd_img k (by have q : ln 22 = 2 := rfl; omega)) (by omega)) l_X8_132 S_X5_become rfl (rm_ok (by decide) (by decide)) rfl rfl (Nat.le_of_ble_eq_true rfl) ?_
      refine V_aload_n e_X8_restore_39 rfl rfl ?_
      refine V_getr (r := 23) e_X8_restore_40 F_X8_acts f_X8_39 rfl rfl ?_
      refine V_cvVe (av := []) (st := []) e_X8_restore_43 (c_X0_forgetAll E (bec 4 (274 + 9 * k) σ)) l_X8_136 S_X0_forgetAll rfl (rm_ok (by decide) (by decide)) rfl rfl (Nat.le_of_ble_eq_true rfl) ?_
      refine V_iconst (v := nI 1) e_X8_restore_46 (by decide) ?_
      exact V_iret e_X8_restore_47 rfl (by rw [show oRestore (A, T) (nI k) = (((aI (A, T)).2 k, ((aH (A, T)).1, 0), T.2), nI 1) from (by unfold oRestore; (try unfold gIn); (try dsimp only); (try (repeat rw [ixN (by omega)])); (first | rw [if_pos c1] | rw [if_neg c1] | skip); (first | rw [if_pos (show ¬ (aI (A, T)).1 k = 0 by rw [hbk] at d2; exact d2)] | rw [if_neg (show ¬ (aI (A, T)).1 k = 0 by rw [hbk] at d2; exact d2)] | skip); try rfl)]; exact ⟨(show Fb 0 292 σ (up2 (bec 4 (274 + 9 * k) σ) 23 2 (nI 0)) from res_fb), (show IC (up2 (bec 4 (274 + 9 * k) σ) 23 2 (nI 0)) (((aI (A, T)).2 k, ((aH (A, T)).1, 0), T.2)) from res_ic hI (by omega) (by rw [hbk] at d2; exact d2)), rfl⟩)
    · have d2 : bitN ((aI (A, T)).1 0 + 2 * (aI (A, T)).1 1) k = 0 := nq_eq (by first | omega | (rw [hbk]; omega)) (by first | omega | (rw [hbk]; omega)) c2
      refine V_ldc (v := (-1000002)) e_X8_restore_23 k_X8_146 ?_
      exact V_iret e_X8_restore_25 rfl (by rw [show oRestore (A, T) (nI k) = ((A, T), (-1000002)) from (by unfold oRestore; (try unfold gIn); (try dsimp only); (try (repeat rw [ixN (by omega)])); (first | rw [if_pos c1] | rw [if_neg c1] | skip); (first | rw [if_pos (show (aI (A, T)).1 k = 0 by rw [hbk] at d2; exact d2)] | rw [if_neg (show (aI (A, T)).1 k = 0 by rw [hbk] at d2; exact d2)] | skip); try rfl)]; exact ⟨Fb.rf, hI, rfl⟩)
  · refine V_ldc (v := (-1000001)) e_X8_restore_9 k_X8_73 ?_
    exact V_iret e_X8_restore_11 rfl (by rw [show oRestore (A, T) x = ((A, T), (-1000001)) from (by unfold oRestore; (try unfold gIn); (try dsimp only); (try (repeat rw [ixN (by omega)])); (first | rw [if_pos c1] | rw [if_neg c1] | skip); try rfl)]; exact ⟨Fb.rf, hI, rfl⟩)
theorem c8_kind (E : En) (x : Int32) (S : Ab) (σ : Sg) (hI : IC σ S) : Cn E m_X8_kind 12 [.ref (eB E + 0), .int x] σ (pC σ (S, sKind S.1 x)) := (c_X8_kind E x S.1 σ hI.2.1 hI.1.1.1).mono (fun σ' v hv => by obtain ⟨r, hv1, hv2, hv3⟩ := hv; exact ⟨r, hv1, by rw [hv2]; exact Fb.rf, by rw [hv2]; exact hI, hv3⟩)
theorem c8_homes (E : En) (x : Int32) (S : Ab) (σ : Sg) (hI : IC σ S) : Cn E m_X8_homes 12 [.ref (eB E + 0), .int x] σ (pC σ (S, sHomes S.1 x)) := (c_X8_homes E x S.1 σ hI.2.1 hI.1.1.1).mono (fun σ' v hv => by obtain ⟨r, hv1, hv2, hv3⟩ := hv; exact ⟨r, hv1, by rw [hv2]; exact Fb.rf, by rw [hv2]; exact hI, hv3⟩)
theorem c8_fellows (E : En) (x : Int32) (S : Ab) (σ : Sg) (hI : IC σ S) : Cn E m_X8_fellows 12 [.ref (eB E + 0), .int x] σ (pC σ (S, sFellows S.1 x)) := (c_X8_fellows E x S.1 σ hI.2.1 hI.1.1.1).mono (fun σ' v hv => by obtain ⟨r, hv1, hv2, hv3⟩ := hv; exact ⟨r, hv1, by rw [hv2]; exact Fb.rf, by rw [hv2]; exact hI, hv3⟩)
theorem c8_share (E : En) (x y : Int32) (S : Ab) (σ : Sg) (hI : IC σ S) : Cn E m_X8_share 12 [.ref (eB E + 0), .int x, .int y] σ (pC σ (S, sShare S.1 x y)) := (c_X8_share E x y S.1 σ hI.2.1 hI.1.1.1).mono (fun σ' v hv => by obtain ⟨r, hv1, hv2, hv3⟩ := hv; exact ⟨r, hv1, by rw [hv2]; exact Fb.rf, by rw [hv2]; exact hI, hv3⟩)
theorem c8_gate (E : En) (x y : Int32) (S : Ab) (σ : Sg) (hI : IC σ S) : Cn E m_X8_gate 12 [.ref (eB E + 0), .int x, .int y] σ (pC σ (S, sGate S.1 x y)) := (c_X8_gate E x y S.1 σ hI.2.1 hI.1.1.1).mono (fun σ' v hv => by obtain ⟨r, hv1, hv2, hv3⟩ := hv; exact ⟨r, hv1, by rw [hv2]; exact Fb.rf, by rw [hv2]; exact hI, hv3⟩)
theorem c8_person (E : En) (x y : Int32) (S : Ab) (σ : Sg) (hI : IC σ S) : Cn E m_X8_person 12 [.ref (eB E + 0), .int x, .int y] σ (pC σ (S, sPerson S.1 x y)) := (c_X8_person E x y S.1 σ hI.2.1 hI.1.1.1).mono (fun σ' v hv => by obtain ⟨r, hv1, hv2, hv3⟩ := hv; exact ⟨r, hv1, by rw [hv2]; exact Fb.rf, by rw [hv2]; exact hI, hv3⟩)
theorem c8_ahead (E : En) (x y z : Int32) (S : Ab) (σ : Sg) (hI : IC σ S) : Cn E m_X8_ahead 12 [.ref (eB E + 0), .int x, .int y, .int z] σ (pC σ (S, sAhead S.1 x y z)) := (c_X8_ahead E x y z S.1 σ hI.2.1 hI.1.1.1).mono (fun σ' v hv => by obtain ⟨r, hv1, hv2, hv3⟩ := hv; exact ⟨r, hv1, hv2.wide (by decide) (by decide), hI.fb hv2, hv3⟩)
theorem c8_when (E : En) (x y : Int32) (S : Ab) (σ : Sg) (hI : IC σ S) : Cn E m_X8_when 12 [.ref (eB E + 0), .int x, .int y] σ (pC σ (S, sWhen S.1 x y)) := (c_X8_when E x y S.1 σ hI.2.1 hI.1.1.1).mono (fun σ' v hv => by obtain ⟨r, hv1, hv2, hv3⟩ := hv; exact ⟨r, hv1, hv2.wide (by decide) (by decide), hI.fb hv2, hv3⟩)
theorem c8_first (E : En) (x : Int32) (S : Ab) (σ : Sg) (hI : IC σ S) : Cn E m_X8_first 12 [.ref (eB E + 0), .int x] σ (pC σ (S, sFirst S.1 x)) := (c_X8_first E x S.1 σ hI.2.1 hI.1.1.1 hI.1.1.hb).mono (fun σ' v hv => by obtain ⟨r, hv1, hv2, hv3⟩ := hv; exact ⟨r, hv1, hv2.wide (by decide) (by decide), hI.fb hv2, hv3⟩)
theorem c8_rounds (E : En) (x y z w : Int32) (S : Ab) (σ : Sg) (hI : IC σ S) : Cn E m_X8_rounds 12 [.ref (eB E + 0), .int x, .int y, .int z, .int w] σ (pC σ (S, sRounds S.1 x y z w)) := (c_X8_rounds E x y z w S.1 σ hI.2.1 hI.1.1.1).mono (fun σ' v hv => by obtain ⟨r, hv1, hv2, hv3⟩ := hv; exact ⟨r, hv1, hv2.wide (by decide) (by decide), hI.fb hv2, hv3⟩)
theorem c8_falls (E : En) (x y : Int32) (S : Ab) (σ : Sg) (hI : IC σ S) : Cn E m_X8_falls 12 [.ref (eB E + 0), .int x, .int y] σ (pC σ (S, sFalls S.1 x y)) := (c_X8_falls E x y S.1 σ hI.2.1 hI.1.1.1 hI.1.1.hb).mono (fun σ' v hv => by obtain ⟨r, hv1, hv2, hv3⟩ := hv; exact ⟨r, hv1, hv2.wide (by decide) (by decide), hI.fb hv2, hv3⟩)
theorem c8_fed (E : En) (x y z w : Int32) (S : Ab) (σ : Sg) (hI : IC σ S) : Cn E m_X8_fed 12 [.ref (eB E + 0), .int x, .int y, .int z, .int w] σ (pCJ σ (S, sFed S.1 x y z w)) := (c_X8_fed E x y z w S.1 σ hI.2.1 hI.1.1.1 hI.1.1.hb).mono (fun σ' v hv => by obtain ⟨r, hv1, hv2, hv3⟩ := hv; exact ⟨r, hv1, hv2.wide (by decide) (by decide), hI.fb hv2, hv3⟩)
theorem c8_drawn (E : En) (x y z : Int32) (S : Ab) (σ : Sg) (hI : IC σ S) : Cn E m_X8_drawn 12 [.ref (eB E + 0), .int x, .int y, .int z] σ (pC σ (S, sDrawn S.1 x y z)) := (c_X8_drawn E x y z S.1 σ hI.2.1 hI.1.1.1).mono (fun σ' v hv => by obtain ⟨r, hv1, hv2, hv3⟩ := hv; exact ⟨r, hv1, hv2.wide (by decide) (by decide), hI.fb hv2, hv3⟩)

def zr (σ : Sg) (n i : Nat) : Sg := fun b k => if b = n + 1 ∧ k < i then nI 0 else σ b k
theorem zr_0 {σ : Sg} {n : Nat} : zr σ n 0 = σ := by funext b k; exact if_neg (by omega)
theorem zr_s {σ : Sg} {n i : Nat} : up2 (zr σ n i) (n + 1) i (nI 0) = zr σ n (i + 1) := by
  funext b k
  unfold up2 zr
  (repeat' split) <;> first | rfl | (exfalso; omega)
theorem zr_ne {σ : Sg} {n i b k : Nat} (h : b ≠ n + 1) : zr σ n i b k = σ b k := if_neg (fun q => h q.1)
set_option maxRecDepth 100000 in
set_option maxHeartbeats 4000000 in
theorem lp_X3_begin (E : En) (n : Nat) (x y : Int32) (σ : Sg) (hn : kd n = 3) : ∀ (mm : Nat) (i : Nat), 40 - i = mm → (i ≤ 40) → V E m_X3_begin (kM E 1 (pV (fun σ' => σ' = zr σ n 40))) 17 [some (.ref (eB E + n)), some (.int x), some (.int y), some (.int (nI i))] [] (zr σ n i) := by
  intro mm
  induction mm using Nat.strongRecOn with
  | ind mm ih =>
    intro i hmm hi
    refine V_iload_n e_X3_begin_17 rfl rfl ?_
    refine V_bipush (v := nI 40) e_X3_begin_18 (by decide) ?_
    refine V_icmp_ge (tgt := 36) e_X3_begin_20 (by decide) (fun c1 => ?_) (fun c1 => ?_)
    · have d1 : 40 ≤ i := nq_le (by omega) (by omega) c1
      exact V_vret e_X3_begin_36 rfl (by rw [show i = 40 by omega])
    · have d1 : ¬ 40 ≤ i := nq_nle (by omega) (by omega) c1
      refine V_aload_n e_X3_begin_23 rfl rfl ?_
      refine V_getr (r := n + 1) e_X3_begin_24 F_X3_items f_X3_9 hn (rf3_0 hn) ?_
      refine V_iload_n e_X3_begin_27 rfl rfl ?_
      refine V_iconst (v := nI 0) e_X3_begin_28 (by decide) ?_
      refine V_iast (j := i) e_X3_begin_29 (kd3_1 hn) rfl (by rw [ln3_1 hn]; omega) ?_
      rw [show up2 (zr σ n i) (n + 1) i (nI 0) = zr σ n (i + 1) from zr_s]
      refine V_iinc (v := nI (i + 1)) (L' := [some (.ref (eB E + n)), some (.int x), some (.int y), some (.int (nI (i + 1)))]) e_X3_begin_30 rfl (nI_add _ 1) rfl ?_
      refine V_goto (tgt := 17) e_X3_begin_33 (by decide) ?_
      exact ih (40 - (i + 1)) (by omega) (i + 1) rfl (by omega)
set_option maxRecDepth 100000 in
set_option maxHeartbeats 4000000 in
theorem c_X3_begin (E : En) (n : Nat) (x y : Int32) (σ : Sg) (hn : kd n = 3) : Cn E m_X3_begin 1 [.ref (eB E + n), .int x, .int y] σ (pV (fun σ' => σ' = zr (up2 (up2 (up2 σ n 1 (nI 0)) n 2 x) n 3 y) n 40)) := by
  refine Cn.of [some (.ref (eB E + n)), some (.int x), some (.int y), none] (by decide) (Nat.le_of_ble_eq_true rfl) rfl ?_
  refine V_aload_n e_X3_begin_0 rfl rfl ?_
  refine V_iconst (v := nI 0) e_X3_begin_1 (by decide) ?_
  refine V_putz e_X3_begin_2 F_X3_missing f_X3_15 hn (by first | exact Or.inl nI_0 | exact Or.inl rfl | exact Or.inr rfl | assumption) ?_
  refine V_aload_n e_X3_begin_5 rfl rfl ?_
  refine V_iload_n e_X3_begin_6 rfl rfl ?_
  refine V_puti e_X3_begin_7 F_X3_lane f_X3_19 hn ?_
  refine V_aload_n e_X3_begin_10 rfl rfl ?_
  refine V_iload_n e_X3_begin_11 rfl rfl ?_
  refine V_puti e_X3_begin_12 F_X3_size f_X3_23 hn ?_
  refine V_iconst (v := nI 0) e_X3_begin_15 (by decide) ?_
  refine V_istore_n (L' := [some (.ref (eB E + n)), some (.int x), some (.int y), some (.int (nI 0))]) e_X3_begin_16 rfl rfl ?_
  have hX := lp_X3_begin E n x y (up2 (up2 (up2 σ n 1 (nI 0)) n 2 x) n 3 y) hn 40 0 rfl (by omega); rw [zr_0] at hX; exact hX
theorem rowb_fr {σ : Sg} {r l n : Nat} (hr : r < 8) : Fb 258 274 σ (zr (up2 (up2 (up2 σ (258 + 2 * r) 1 (nI 0)) (258 + 2 * r) 2 (nI l)) (258 + 2 * r) 3 (nI n)) (258 + 2 * r) 40) := fun a k hk => by
  rw [zr_ne (by omega), up2_ne (by omega), up2_ne (by omega), up2_ne (by omega)]
theorem rowb_fb {σ : Sg} {r l n : Nat} {x : Int32} (hr : r ≤ 7) : Fb 0 292 σ (up2 (zr (up2 (up2 (up2 σ (258 + 2 * r) 1 (nI 0)) (258 + 2 * r) 2 (nI l)) (258 + 2 * r) 3 (nI n)) (258 + 2 * r) 40) 0 11 x) := ((rowb_fr (by omega)).wide (by decide) (by decide)).up (by decide) (by decide)
theorem rowb_cr {σ : Sg} {R : Rw} {r l n : Nat} (h : CR σ R) (hr : r < 8) : CR (zr (up2 (up2 (up2 σ (258 + 2 * r) 1 (nI 0)) (258 + 2 * r) 2 (nI l)) (258 + 2 * r) 3 (nI n)) (258 + 2 * r) 40) (begR R r l n) := by
  refine h.beg hr (fun a k h1 h2 => ?_) ?_ ?_ ?_ (fun k hk => ?_)
  · rw [zr_ne (by omega), up2_ne h1, up2_ne h1, up2_ne h1]
  · rw [zr_ne (by omega), up2_k (by omega), up2_k (by omega), up2_at]
  · rw [zr_ne (by omega), up2_k (by omega), up2_at]
  · rw [zr_ne (by omega), up2_at]
  · rw [show 259 + 2 * r = 258 + 2 * r + 1 by omega]
    exact (if_pos ⟨rfl, hk⟩).trans nI_0
theorem n40 {z : Int32} (h1 : ¬ nI 40 < z) (h2 : ¬ z < 0) : ∃ n, n ≤ 40 ∧ z = nI n := by
  have b1 := z.toInt_lt
  rw [i_0] at h2
  have e : z = nI z.toInt.toNat := by apply Int32.toInt_inj.mp; rw [nI_toInt (by omega)]; omega
  refine ⟨z.toInt.toNat, ?_, e⟩
  rw [e] at h1
  have := nq_nlt (by omega) (by omega) h1
  omega
theorem i_nle {x y : Int32} : ¬ x ≤ y ↔ y < x := Int32.not_le
theorem i_nlt {x y : Int32} : ¬ x < y ↔ y ≤ x := Int32.not_lt
set_option maxRecDepth 100000 in
set_option maxHeartbeats 4000000 in
theorem c8_row (E : En) (x y z : Int32) (A : Vec) (T : AbT) (σ : Sg) (hI : IC σ (A, T)) : Cn E m_X8_row 12 [.ref (eB E + 0), .int x, .int y, .int z] σ (pC σ (oRow (A, T) x y z)) := by
  have hR : RepC σ 4 A := hI.2.1
  have hGD : GD A := hI.1.1
  have hN : WN A := hGD.1
  have hNl := hN.le
  have hA4 : A 4 ≤ 999 := hGD.2.2
  have hG := hI.1
  have hCR : CR σ (aR (A, T)) := hI.2.2.2.2.1
  refine Cn.of [some (.ref (eB E + 0)), some (.int x), some (.int y), some (.int z)] (by decide) (Nat.le_of_ble_eq_true rfl) rfl ?_
  refine V_iload_n e_X8_row_0 rfl rfl ?_
  refine V_csIe (av := [.int x]) (st := []) e_X8_row_1 (c_X8_isRow E x σ) l_X8_65 S_X8_isRow (rm_ok (by decide) (by decide)) rfl rfl (Nat.le_of_ble_eq_true rfl) ?_
  refine V_if_eq (tgt := 22) e_X8_row_4 (by decide) (fun c1 => ?_) (fun c1 => ?_)
  · refine V_ldc (v := (-1000001)) e_X8_row_22 k_X8_73 ?_
    exact V_iret e_X8_row_24 rfl (by rw [show oRow (A, T) x y z = ((A, T), (-1000001)) from (by unfold oRow; (try unfold gIn); (try dsimp only); (try (repeat rw [ixN (by omega)])); (first | rw [if_pos c1] | rw [if_neg c1] | skip); try rfl)]; exact ⟨Fb.rf, hI, rfl⟩)
  · obtain ⟨r, hra, hr, rfl⟩ := (wi_le (by omega) (by omega)).mp c1
    have hGr := hG.rows r (by omega)
    obtain ⟨er1, er2, er3, er4⟩ := hCR r (by omega)
    refine V_iload_n e_X8_row_7 rfl rfl ?_
    refine V_iconst (v := nI 0) e_X8_row_8 (by decide) ?_
    refine V_iconst (v := nI 2) e_X8_row_9 (by decide) ?_
    refine V_csIe (av := [.int y, .int (nI 0), .int (nI 2)]) (st := []) e_X8_row_10 (c_X8_within E y (nI 0) (nI 2) σ) l_X8_69 S_X8_within (rm_ok (by decide) (by decide)) rfl rfl (Nat.le_of_ble_eq_true rfl) ?_
    refine V_if_eq (tgt := 22) e_X8_row_13 (by decide) (fun c2 => ?_) (fun c2 => ?_)
    · refine V_ldc (v := (-1000001)) e_X8_row_22 k_X8_73 ?_
      exact V_iret e_X8_row_24 rfl (by rw [show oRow (A, T) (nI r) y z = ((A, T), (-1000001)) from (by unfold oRow; (try unfold gIn); (try dsimp only); (try (repeat rw [ixN (by omega)])); (first | rw [if_pos c1] | rw [if_neg c1] | skip); (first | rw [if_pos c2] | rw [if_neg c2] | skip); try rfl)]; exact ⟨Fb.rf, hI, rfl⟩)
    · obtain ⟨l, hla, hl, rfl⟩ := (wi_le (by omega) (by omega)).mp c2
      refine V_iload_n e_X8_row_16 rfl rfl ?_
      refine V_bipush (v := nI 40) e_X8_row_17 (by decide) ?_
      refine V_icmp_le (tgt := 25) e_X8_row_19 (by decide) (fun c3 => ?_) (fun c3 => ?_)
      · have g40 : ¬ nI 40 < z := i_nlt.mpr c3
        refine V_iload_n e_X8_row_25 rfl rfl ?_
        refine V_if_ge (tgt := 35) e_X8_row_26 (by decide) (fun c4 => ?_) (fun c4 => ?_)
        · have g0 : ¬ z < 0 := i_nlt.mpr c4
          obtain ⟨n, hn, rfl⟩ := n40 g40 g0
          refine V_aload_n e_X8_row_35 rfl rfl ?_
          refine V_getr (r := 1) e_X8_row_36 F_X8_rows f_X8_11 rfl rfl ?_
          refine V_iload_n e_X8_row_39 rfl rfl ?_
          refine V_aald (j := r) (r := 258 + 2 * r) e_X8_row_40 (by decide) (by decide) rfl (by have q : ln 1 = 8 := rfl; omega) rfl ?_
          refine V_iload_n e_X8_row_41 rfl rfl ?_
          refine V_iload_n e_X8_row_42 rfl rfl ?_
          refine V_cvVe (av := [.int (nI l), .int (nI n)]) (st := []) e_X8_row_43 (c_X3_begin E (258 + 2 * r) (nI l) (nI n) σ (kd_row r (by have q : ln 1 = 8 := rfl; omega))) l_X8_78 S_X3_begin (kd_row r (by have q : ln 1 = 8 := rfl; omega)) (rm_ok (by decide) (by decide)) rfl rfl (Nat.le_of_ble_eq_true rfl) ?_
          refine V_aload_n e_X8_row_46 rfl rfl ?_
          refine V_iload_n e_X8_row_47 rfl rfl ?_
          refine V_cvIe (av := [.int (nI n)]) (st := []) e_X8_row_48 (c_X8_sound E (nI n) (zr (up2 (up2 (up2 σ (258 + 2 * r) 1 (nI 0)) (258 + 2 * r) 2 (nI l)) (258 + 2 * r) 3 (nI n)) (258 + 2 * r) 40)) l_X8_82 S_X8_sound rfl (rm_ok (by decide) (by decide)) rfl rfl (Nat.le_of_ble_eq_true rfl) ?_
          exact V_iret e_X8_row_51 rfl (by rw [show oRow (A, T) (nI r) (nI l) (nI n) = (wS (wR (A, T) (begR (aR (A, T)) r l n)) 0, nI n) from (by unfold oRow; (try unfold gIn); (try dsimp only); (try (repeat rw [ixN (by omega)])); (first | rw [if_pos c1] | rw [if_neg c1] | skip); (first | rw [if_pos c2] | rw [if_neg c2] | skip); (first | rw [if_pos g40] | rw [if_neg g40] | skip); (first | rw [if_pos g0] | rw [if_neg g0] | skip); try rfl)]; exact ⟨(show Fb 0 292 σ (up2 (zr (up2 (up2 (up2 σ (258 + 2 * r) 1 (nI 0)) (258 + 2 * r) 2 (nI l)) (258 + 2 * r) 3 (nI n)) (258 + 2 * r) 40) 0 11 (nI 0)) from rowb_fb hr), (show IC (up2 (zr (up2 (up2 (up2 σ (258 + 2 * r) 1 (nI 0)) (258 + 2 * r) 2 (nI l)) (258 + 2 * r) 3 (nI n)) (258 + 2 * r) 40) 0 11 (nI 0)) (wS (wR (A, T) (begR (aR (A, T)) r l n)) 0) from (hI.wR (begR_ok hG.rows (by omega) (by omega)) (rowb_cr hCR (by omega)) (rowb_fr (by omega))).wS (by omega)), rfl⟩)
        · have g0 : z < 0 := i_nle.mp c4
          refine V_aload_n e_X8_row_29 rfl rfl ?_
          refine V_iconst (v := nI 4) e_X8_row_30 (by decide) ?_
          refine V_cvIe (av := [.int (nI 4)]) (st := []) e_X8_row_31 (c_X8_found E (nI 4) σ) l_X8_74 S_X8_found rfl (rm_ok (by decide) (by decide)) rfl rfl (Nat.le_of_ble_eq_true rfl) ?_
          exact V_iret e_X8_row_34 rfl (by rw [show oRow (A, T) (nI r) (nI l) z = (wS (A, T) 4, (-1000010) - nI 4) from (by unfold oRow; (try unfold gIn); (try dsimp only); (try (repeat rw [ixN (by omega)])); (first | rw [if_pos c1] | rw [if_neg c1] | skip); (first | rw [if_pos c2] | rw [if_neg c2] | skip); (first | rw [if_pos g40] | rw [if_neg g40] | skip); (first | rw [if_pos g0] | rw [if_neg g0] | skip); try rfl)]; exact ⟨Fb.rf.up (by decide) (by decide), hI.wS (by omega), rfl⟩)
      · have g40 : nI 40 < z := i_nle.mp c3
        refine V_ldc (v := (-1000001)) e_X8_row_22 k_X8_73 ?_
        exact V_iret e_X8_row_24 rfl (by rw [show oRow (A, T) (nI r) (nI l) z = ((A, T), (-1000001)) from (by unfold oRow; (try unfold gIn); (try dsimp only); (try (repeat rw [ixN (by omega)])); (first | rw [if_pos c1] | rw [if_neg c1] | skip); (first | rw [if_pos c2] | rw [if_neg c2] | skip); (first | rw [if_pos g40] | rw [if_neg g40] | skip); try rfl)]; exact ⟨Fb.rf, hI, rfl⟩)
set_option maxRecDepth 100000 in
set_option maxHeartbeats 4000000 in
theorem c8_set (E : En) (x y z : Int32) (A : Vec) (T : AbT) (σ : Sg) (hI : IC σ (A, T)) : Cn E m_X8_set 12 [.ref (eB E + 0), .int x, .int y, .int z] σ (pC σ (oSet (A, T) x y z)) := by
  have hR : RepC σ 4 A := hI.2.1
  have hGD : GD A := hI.1.1
  have hN : WN A := hGD.1
  have hNl := hN.le
  have hA4 : A 4 ≤ 999 := hGD.2.2
  have hG := hI.1
  have hCR : CR σ (aR (A, T)) := hI.2.2.2.2.1
  refine Cn.of [some (.ref (eB E + 0)), some (.int x), some (.int y), some (.int z), none] (by decide) (Nat.le_of_ble_eq_true rfl) rfl ?_
  refine V_iload_n e_X8_set_0 rfl rfl ?_
  refine V_csIe (av := [.int x]) (st := []) e_X8_set_1 (c_X8_isRow E x σ) l_X8_65 S_X8_isRow (rm_ok (by decide) (by decide)) rfl rfl (Nat.le_of_ble_eq_true rfl) ?_
  refine V_if_ne (tgt := 10) e_X8_set_4 (by decide) (fun c1 => ?_) (fun c1 => ?_)
  · obtain ⟨r, hra, hr, rfl⟩ := (wi_le (by omega) (by omega)).mp c1
    have hGr := hG.rows r (by omega)
    obtain ⟨er1, er2, er3, er4⟩ := hCR r (by omega)
    refine V_aload_n e_X8_set_10 rfl rfl ?_
    refine V_getr (r := 1) e_X8_set_11 F_X8_rows f_X8_11 rfl rfl ?_
    refine V_iload_n e_X8_set_14 rfl rfl ?_
    refine V_aald (j := r) (r := 258 + 2 * r) e_X8_set_15 (by decide) (by decide) rfl (by have q : ln 1 = 8 := rfl; omega) rfl ?_
    refine V_iload_n e_X8_set_16 rfl rfl ?_
    refine V_iconst (v := nI 1) e_X8_set_17 (by decide) ?_
    refine V_cvIe (av := [.int y, .int (nI 1)]) (st := []) e_X8_set_18 (c_X3_findingAt E (258 + 2 * r) y (nI 1) σ (kd_row r (by have q : ln 1 = 8 := rfl; omega))) l_X8_85 S_X3_findingAt (kd_row r (by have q : ln 1 = 8 := rfl; omega)) (rm_ok (by decide) (by decide)) rfl rfl (Nat.le_of_ble_eq_true rfl) ?_
    refine V_topi (y := nI (fndS ((aR (A, T)).1 r) ((aR (A, T)).2.1 r) y (nI 1))) (by rw [er1, er3]; exact fnd_S hGr.2) ?_
    refine V_istore (L' := [some (.ref (eB E + 0)), some (.int (nI r)), some (.int y), some (.int z), some (.int (nI (fndS ((aR (A, T)).1 r) ((aR (A, T)).2.1 r) y (nI 1))))]) e_X8_set_21 rfl ?_
    refine V_iload e_X8_set_23 rfl ?_
    refine V_if_eq (tgt := 37) e_X8_set_25 (by decide) (fun c2 => ?_) (fun c2 => ?_)
    · have d2 : fndS ((aR (A, T)).1 r) ((aR (A, T)).2.1 r) y (nI 1) = 0 := nq_eq (by first | omega | (have hz9 := fndS_le ((aR (A, T)).1 r) ((aR (A, T)).2.1 r) y (nI 1); omega)) (by first | omega | (have hz9 := fndS_le ((aR (A, T)).1 r) ((aR (A, T)).2.1 r) y (nI 1); omega)) c2
      obtain ⟨hlr, hpl⟩ := fndS_0 d2
      obtain ⟨j, b1, rfl, hb1, hjb, hj31, hb31⟩ := hpl.nat
      obtain rfl : 1 = b1 := nq_eq (by omega) hb31 hb1
      refine V_aload_n e_X8_set_37 rfl rfl ?_
      refine V_aload_n e_X8_set_38 rfl rfl ?_
      refine V_getr (r := 1) e_X8_set_39 F_X8_rows f_X8_11 rfl rfl ?_
      refine V_iload_n e_X8_set_42 rfl rfl ?_
      refine V_aald (j := r) (r := 258 + 2 * r) e_X8_set_43 (by decide) (by decide) rfl (by have q : ln 1 = 8 := rfl; omega) rfl ?_
      refine V_iload_n e_X8_set_44 rfl rfl ?_
      refine V_iload_n e_X8_set_45 rfl rfl ?_
      refine V_cvIe (av := [.int (nI j), .int z]) (st := [.ref (eB E + 0)]) e_X8_set_46 (c_X3_put E (258 + 2 * r) j z σ (kd_row r (by have q : ln 1 = 8 := rfl; omega)) (by omega)) l_X8_89 S_X3_put (kd_row r (by have q : ln 1 = 8 := rfl; omega)) (rm_ok (by decide) (by decide)) rfl rfl (Nat.le_of_ble_eq_true rfl) ?_
      rw [er2 hlr, show 258 + 2 * r + 1 = 259 + 2 * r by omega]
      refine V_cvIe (av := [.int (put3 (nI ((aR (A, T)).1 r - 1)) z)]) (st := []) e_X8_set_49 (c_X8_sound E (put3 (nI ((aR (A, T)).1 r - 1)) z) (up2 σ (259 + 2 * r) j (put3 (nI ((aR (A, T)).1 r - 1)) z))) l_X8_82 S_X8_sound rfl (rm_ok (by decide) (by decide)) rfl rfl (Nat.le_of_ble_eq_true rfl) ?_
      exact V_iret e_X8_set_52 rfl (by rw [show oSet (A, T) (nI r) (nI j) z = (wS (wR (A, T) (putR (aR (A, T)) r j (put3 (nI ((aR (A, T)).1 r - 1)) z))) 0, put3 (nI ((aR (A, T)).1 r - 1)) z) from (by unfold oSet; (try unfold gIn); (try dsimp only); (try (repeat rw [ixN (by omega)])); (first | rw [if_pos c1] | rw [if_neg c1] | skip); (first | rw [if_pos d2] | rw [if_neg d2] | skip); try rfl)]; exact ⟨(show Fb 0 292 σ (up2 (up2 σ (259 + 2 * r) j (put3 (nI ((aR (A, T)).1 r - 1)) z)) 0 11 (nI 0)) from ((Fb.rf.up (by omega) (by omega))).up (by decide) (by decide)), (show IC (up2 (up2 σ (259 + 2 * r) j (put3 (nI ((aR (A, T)).1 r - 1)) z)) 0 11 (nI 0)) (wS (wR (A, T) (putR (aR (A, T)) r j (put3 (nI ((aR (A, T)).1 r - 1)) z))) 0) from (IC.wR (R := putR (aR (A, T)) r j (put3 (nI ((aR (A, T)).1 r - 1)) z)) hI hG.rows hCR.put (Fb.rf.up (by omega) (by omega))).wS (by omega)), rfl⟩)
    · have d2 : ¬ fndS ((aR (A, T)).1 r) ((aR (A, T)).2.1 r) y (nI 1) = 0 := nq_ne (by first | omega | (have hz9 := fndS_le ((aR (A, T)).1 r) ((aR (A, T)).2.1 r) y (nI 1); omega)) (by first | omega | (have hz9 := fndS_le ((aR (A, T)).1 r) ((aR (A, T)).2.1 r) y (nI 1); omega)) c2
      refine V_aload_n e_X8_set_28 rfl rfl ?_
      refine V_iload e_X8_set_29 rfl ?_
      refine V_cvIe (av := [.int (nI (fndS ((aR (A, T)).1 r) ((aR (A, T)).2.1 r) y (nI 1)))]) (st := []) e_X8_set_31 (c_X8_found E (nI (fndS ((aR (A, T)).1 r) ((aR (A, T)).2.1 r) y (nI 1))) σ) l_X8_74 S_X8_found rfl (rm_ok (by decide) (by decide)) rfl rfl (Nat.le_of_ble_eq_true rfl) ?_
      refine V_goto (tgt := 52) e_X8_set_34 (by decide) ?_
      exact V_iret e_X8_set_52 rfl (by rw [show oSet (A, T) (nI r) y z = (wS (A, T) (fndS ((aR (A, T)).1 r) ((aR (A, T)).2.1 r) y (nI 1)), (-1000010) - nI (fndS ((aR (A, T)).1 r) ((aR (A, T)).2.1 r) y (nI 1))) from (by unfold oSet; (try unfold gIn); (try dsimp only); (try (repeat rw [ixN (by omega)])); (first | rw [if_pos c1] | rw [if_neg c1] | skip); (first | rw [if_pos d2] | rw [if_neg d2] | skip); try rfl)]; exact ⟨Fb.rf.up (by decide) (by decide), hI.wS (by have hz9 := fndS_le ((aR (A, T)).1 r) ((aR (A, T)).2.1 r) y (nI 1); omega), rfl⟩)
  · refine V_ldc (v := (-1000001)) e_X8_set_7 k_X8_73 ?_
    exact V_iret e_X8_set_9 rfl (by rw [show oSet (A, T) x y z = ((A, T), (-1000001)) from (by unfold oSet; (try unfold gIn); (try dsimp only); (try (repeat rw [ixN (by omega)])); (first | rw [if_pos c1] | rw [if_neg c1] | skip); try rfl)]; exact ⟨Fb.rf, hI, rfl⟩)
set_option maxRecDepth 100000 in
set_option maxHeartbeats 4000000 in
theorem c8_drop (E : En) (x : Int32) (A : Vec) (T : AbT) (σ : Sg) (hI : IC σ (A, T)) : Cn E m_X8_drop 12 [.ref (eB E + 0), .int x] σ (pC σ (oDrop (A, T) x)) := by
  have hR : RepC σ 4 A := hI.2.1
  have hGD : GD A := hI.1.1
  have hN : WN A := hGD.1
  have hNl := hN.le
  have hA4 : A 4 ≤ 999 := hGD.2.2
  have hG := hI.1
  have hCR : CR σ (aR (A, T)) := hI.2.2.2.2.1
  refine Cn.of [some (.ref (eB E + 0)), some (.int x)] (by decide) (Nat.le_of_ble_eq_true rfl) rfl ?_
  refine V_iload_n e_X8_drop_0 rfl rfl ?_
  refine V_csIe (av := [.int x]) (st := []) e_X8_drop_1 (c_X8_isRow E x σ) l_X8_65 S_X8_isRow (rm_ok (by decide) (by decide)) rfl rfl (Nat.le_of_ble_eq_true rfl) ?_
  refine V_if_ne (tgt := 10) e_X8_drop_4 (by decide) (fun c1 => ?_) (fun c1 => ?_)
  · obtain ⟨r, hra, hr, rfl⟩ := (wi_le (by omega) (by omega)).mp c1
    have hGr := hG.rows r (by omega)
    obtain ⟨er1, er2, er3, er4⟩ := hCR r (by omega)
    refine V_aload_n e_X8_drop_10 rfl rfl ?_
    refine V_getr (r := 1) e_X8_drop_11 F_X8_rows f_X8_11 rfl rfl ?_
    refine V_iload_n e_X8_drop_14 rfl rfl ?_
    refine V_aald (j := r) (r := 258 + 2 * r) e_X8_drop_15 (by decide) (by decide) rfl (by have q : ln 1 = 8 := rfl; omega) rfl ?_
    refine V_getiv (v := nI (if (aR (A, T)).1 r = 0 then 1 else 0)) e_X8_drop_16 F_X3_missing f_X8_92 (kd_row r (by have q : ln 1 = 8 := rfl; omega)) er1 ?_
    refine V_if_eq (tgt := 28) e_X8_drop_19 (by decide) (fun c2 => ?_) (fun c2 => ?_)
    · have d2 : (if (aR (A, T)).1 r = 0 then 1 else 0) = 0 := nq_eq (by first | omega | (split <;> omega)) (by first | omega | (split <;> omega)) c2
      have hlr : ¬ (aR (A, T)).1 r = 0 := fun q => by rw [if_pos q] at d2; omega
      refine V_aload_n e_X8_drop_28 rfl rfl ?_
      refine V_getr (r := 1) e_X8_drop_29 F_X8_rows f_X8_11 rfl rfl ?_
      refine V_iload_n e_X8_drop_32 rfl rfl ?_
      refine V_aald (j := r) (r := 258 + 2 * r) e_X8_drop_33 (by decide) (by decide) rfl (by have q : ln 1 = 8 := rfl; omega) rfl ?_
      refine V_iconst (v := nI 1) e_X8_drop_34 (by decide) ?_
      refine V_putz e_X8_drop_35 F_X3_missing f_X8_92 (kd_row r (by have q : ln 1 = 8 := rfl; omega)) (by first | exact Or.inl nI_0 | exact Or.inl rfl | exact Or.inr rfl | assumption) ?_
      refine V_aload_n e_X8_drop_38 rfl rfl ?_
      refine V_aload_n e_X8_drop_39 rfl rfl ?_
      refine V_getr (r := 1) e_X8_drop_40 F_X8_rows f_X8_11 rfl rfl ?_
      refine V_iload_n e_X8_drop_43 rfl rfl ?_
      refine V_aald (j := r) (r := 258 + 2 * r) e_X8_drop_44 (by decide) (by decide) rfl (by have q : ln 1 = 8 := rfl; omega) rfl ?_
      refine V_getiv (v := nI ((aR (A, T)).2.1 r)) e_X8_drop_45 F_X3_size f_X8_110 (kd_row r (by have q : ln 1 = 8 := rfl; omega)) ((up2_k (by omega)).trans er3) ?_
      refine V_cvIe (av := [.int (nI ((aR (A, T)).2.1 r))]) (st := []) e_X8_drop_48 (c_X8_sound E (nI ((aR (A, T)).2.1 r)) (up2 σ (258 + 2 * r) 1 (nI 1))) l_X8_82 S_X8_sound rfl (rm_ok (by decide) (by decide)) rfl rfl (Nat.le_of_ble_eq_true rfl) ?_
      exact V_iret e_X8_drop_51 rfl (by rw [show oDrop (A, T) (nI r) = (wS (wR (A, T) (dropR (aR (A, T)) r)) 0, nI ((aR (A, T)).2.1 r)) from (by unfold oDrop; (try unfold gIn); (try dsimp only); (try (repeat rw [ixN (by omega)])); (first | rw [if_pos c1] | rw [if_neg c1] | skip); (first | rw [if_pos hlr] | rw [if_neg hlr] | skip); try rfl)]; exact ⟨(show Fb 0 292 σ (up2 (up2 σ (258 + 2 * r) 1 (nI 1)) 0 11 (nI 0)) from ((Fb.rf.up (by omega) (by omega))).up (by decide) (by decide)), (show IC (up2 (up2 σ (258 + 2 * r) 1 (nI 1)) 0 11 (nI 0)) (wS (wR (A, T) (dropR (aR (A, T)) r)) 0) from (hI.wR (dropR_ok hG.rows) hCR.drop (Fb.rf.up (by omega) (by omega))).wS (by omega)), rfl⟩)
    · have d2 : ¬ (if (aR (A, T)).1 r = 0 then 1 else 0) = 0 := nq_ne (by first | omega | (split <;> omega)) (by first | omega | (split <;> omega)) c2
      have hlr : (aR (A, T)).1 r = 0 := Decidable.byContradiction (fun q => by rw [if_neg q] at d2; omega)
      refine V_aload_n e_X8_drop_22 rfl rfl ?_
      refine V_iconst (v := nI 1) e_X8_drop_23 (by decide) ?_
      refine V_cvIe (av := [.int (nI 1)]) (st := []) e_X8_drop_24 (c_X8_found E (nI 1) σ) l_X8_74 S_X8_found rfl (rm_ok (by decide) (by decide)) rfl rfl (Nat.le_of_ble_eq_true rfl) ?_
      exact V_iret e_X8_drop_27 rfl (by rw [show oDrop (A, T) (nI r) = (wS (A, T) 1, (-1000010) - nI 1) from (by unfold oDrop; (try unfold gIn); (try dsimp only); (try (repeat rw [ixN (by omega)])); (first | rw [if_pos c1] | rw [if_neg c1] | skip); (first | rw [if_pos hlr] | rw [if_neg hlr] | skip); try rfl)]; exact ⟨Fb.rf.up (by decide) (by decide), hI.wS (by omega), rfl⟩)
  · refine V_ldc (v := (-1000001)) e_X8_drop_7 k_X8_73 ?_
    exact V_iret e_X8_drop_9 rfl (by rw [show oDrop (A, T) x = ((A, T), (-1000001)) from (by unfold oDrop; (try unfold gIn); (try dsimp only); (try (repeat rw [ixN (by omega)])); (first | rw [if_pos c1] | rw [if_neg c1] | skip); (first | rw [if_pos hlr] | rw [if_neg hlr] | skip); try rfl)]; exact ⟨Fb.rf, hI, rfl⟩)
theorem cp_fr {σ : Sg} {a i b j n : Nat} (hb : b < 8) : Fb 258 274 σ (cpS σ a i (259 + 2 * b) j n) := fun c k hk => if_neg (by omega)
theorem cp_fb {σ : Sg} {a i b j n : Nat} (hb : b < 8) : Fb 0 292 σ (cpS σ a i (259 + 2 * b) j n) := (cp_fr hb).wide (by decide) (by decide)
theorem nI_31 {a b : Nat} (ha : a < 2 ^ 31) (hb : b < 2 ^ 31) (h : nI a = nI b) : a = b := nq_eq ha hb h
set_option maxRecDepth 100000 in
set_option maxHeartbeats 4000000 in
theorem c8_copy (E : En) (x y z w v : Int32) (A : Vec) (T : AbT) (σ : Sg) (hI : IC σ (A, T)) : Cn E m_X8_copy 12 [.ref (eB E + 0), .int x, .int y, .int z, .int w, .int v] σ (pC σ (oCopy (A, T) x y z w v)) := by
  have hR : RepC σ 4 A := hI.2.1
  have hGD : GD A := hI.1.1
  have hN : WN A := hGD.1
  have hNl := hN.le
  have hA4 : A 4 ≤ 999 := hGD.2.2
  have hG := hI.1
  have hCR : CR σ (aR (A, T)) := hI.2.2.2.2.1
  refine Cn.of [some (.ref (eB E + 0)), some (.int x), some (.int y), some (.int z), some (.int w), some (.int v), none, none] (by decide) (Nat.le_of_ble_eq_true rfl) rfl ?_
  refine V_iload_n e_X8_copy_0 rfl rfl ?_
  refine V_csIe (av := [.int x]) (st := []) e_X8_copy_1 (c_X8_isRow E x σ) l_X8_65 S_X8_isRow (rm_ok (by decide) (by decide)) rfl rfl (Nat.le_of_ble_eq_true rfl) ?_
  refine V_if_eq (tgt := 14) e_X8_copy_4 (by decide) (fun c1 => ?_) (fun c1 => ?_)
  · refine V_ldc (v := (-1000001)) e_X8_copy_14 k_X8_73 ?_
    exact V_iret e_X8_copy_16 rfl (by rw [show oCopy (A, T) x y z w v = ((A, T), (-1000001)) from (by unfold oCopy; (try unfold gIn); (try dsimp only); (try (repeat rw [ixN (by omega)])); (first | rw [if_pos c1] | rw [if_neg c1] | skip); try rfl)]; exact ⟨Fb.rf, hI, rfl⟩)
  · obtain ⟨r, hra, hr, rfl⟩ := (wi_le (by omega) (by omega)).mp c1
    have hGr := hG.rows r (by omega)
    obtain ⟨er1, er2, er3, er4⟩ := hCR r (by omega)
    refine V_iload_n e_X8_copy_7 rfl rfl ?_
    refine V_csIe (av := [.int z]) (st := []) e_X8_copy_8 (c_X8_isRow E z σ) l_X8_65 S_X8_isRow (rm_ok (by decide) (by decide)) rfl rfl (Nat.le_of_ble_eq_true rfl) ?_
    refine V_if_ne (tgt := 17) e_X8_copy_11 (by decide) (fun c2 => ?_) (fun c2 => ?_)
    · obtain ⟨t, hta, ht, rfl⟩ := (wi_le (by omega) (by omega)).mp c2
      have hGt := hG.rows t (by omega)
      obtain ⟨et1, et2, et3, et4⟩ := hCR t (by omega)
      refine V_aload_n e_X8_copy_17 rfl rfl ?_
      refine V_getr (r := 1) e_X8_copy_18 F_X8_rows f_X8_11 rfl rfl ?_
      refine V_iload_n e_X8_copy_21 rfl rfl ?_
      refine V_aald (j := r) (r := 258 + 2 * r) e_X8_copy_22 (by decide) (by decide) rfl (by have q : ln 1 = 8 := rfl; omega) rfl ?_
      refine V_astore (L' := [some (.ref (eB E + 0)), some (.int (nI r)), some (.int y), some (.int (nI t)), some (.int w), some (.int v), some (.ref (eB E + (258 + 2 * r))), none]) e_X8_copy_23 rfl ?_
      refine V_aload_n e_X8_copy_25 rfl rfl ?_
      refine V_getr (r := 1) e_X8_copy_26 F_X8_rows f_X8_11 rfl rfl ?_
      refine V_iload_n e_X8_copy_29 rfl rfl ?_
      refine V_aald (j := t) (r := 258 + 2 * t) e_X8_copy_30 (by decide) (by decide) rfl (by have q : ln 1 = 8 := rfl; omega) rfl ?_
      refine V_astore (L' := [some (.ref (eB E + 0)), some (.int (nI r)), some (.int y), some (.int (nI t)), some (.int w), some (.int v), some (.ref (eB E + (258 + 2 * r))), some (.ref (eB E + (258 + 2 * t)))]) e_X8_copy_31 rfl ?_
      refine V_aload e_X8_copy_33 rfl ?_
      refine V_getiv (v := nI (if (aR (A, T)).1 r = 0 then 1 else 0)) e_X8_copy_35 F_X3_missing f_X8_92 (kd_row r (by have q : ln 1 = 8 := rfl; omega)) er1 ?_
      refine V_if_ne (tgt := 49) e_X8_copy_38 (by decide) (fun c3 => ?_) (fun c3 => ?_)
      · have d3 : ¬ (if (aR (A, T)).1 r = 0 then 1 else 0) = 0 := nq_ne (by first | omega | (split <;> omega) | (have hz9 := fndS_le ((aR (A, T)).1 r) ((aR (A, T)).2.1 r) y v; omega) | (have hz9 := fndS_le ((aR (A, T)).1 t) ((aR (A, T)).2.1 t) w (nI n); omega)) (by first | omega | (split <;> omega) | (have hz9 := fndS_le ((aR (A, T)).1 r) ((aR (A, T)).2.1 r) y v; omega) | (have hz9 := fndS_le ((aR (A, T)).1 t) ((aR (A, T)).2.1 t) w (nI n); omega)) c3
        have hlr : (aR (A, T)).1 r = 0 := Decidable.byContradiction (fun q => by rw [if_neg q] at d3; omega)
        refine V_aload_n e_X8_copy_49 rfl rfl ?_
        refine V_iconst (v := nI 1) e_X8_copy_50 (by decide) ?_
        refine V_cvIe (av := [.int (nI 1)]) (st := []) e_X8_copy_51 (c_X8_found E (nI 1) σ) l_X8_74 S_X8_found rfl (rm_ok (by decide) (by decide)) rfl rfl (Nat.le_of_ble_eq_true rfl) ?_
        exact V_iret e_X8_copy_54 rfl (by rw [show oCopy (A, T) (nI r) y (nI t) w v = (wS (A, T) 1, (-1000010) - nI 1) from (by unfold oCopy; (try unfold gIn); (try dsimp only); (try (repeat rw [ixN (by omega)])); (first | rw [if_pos c1] | rw [if_neg c1] | skip); (first | rw [if_pos c2] | rw [if_neg c2] | skip); (first | rw [if_pos hlr] | rw [if_neg hlr] | skip); try rfl)]; exact ⟨Fb.rf.up (by decide) (by decide), hI.wS (by omega), rfl⟩)
      · have d3 : (if (aR (A, T)).1 r = 0 then 1 else 0) = 0 := nq_eq (by first | omega | (split <;> omega) | (have hz9 := fndS_le ((aR (A, T)).1 r) ((aR (A, T)).2.1 r) y v; omega) | (have hz9 := fndS_le ((aR (A, T)).1 t) ((aR (A, T)).2.1 t) w (nI n); omega)) (by first | omega | (split <;> omega) | (have hz9 := fndS_le ((aR (A, T)).1 r) ((aR (A, T)).2.1 r) y v; omega) | (have hz9 := fndS_le ((aR (A, T)).1 t) ((aR (A, T)).2.1 t) w (nI n); omega)) c3
        have hlr : ¬ (aR (A, T)).1 r = 0 := fun q => by rw [if_pos q] at d3; omega
        refine V_aload e_X8_copy_41 rfl ?_
        refine V_getiv (v := nI (if (aR (A, T)).1 t = 0 then 1 else 0)) e_X8_copy_43 F_X3_missing f_X8_92 (kd_row t (by have q : ln 1 = 8 := rfl; omega)) et1 ?_
        refine V_if_eq (tgt := 55) e_X8_copy_46 (by decide) (fun c4 => ?_) (fun c4 => ?_)
        · have d4 : (if (aR (A, T)).1 t = 0 then 1 else 0) = 0 := nq_eq (by first | omega | (split <;> omega) | (have hz9 := fndS_le ((aR (A, T)).1 r) ((aR (A, T)).2.1 r) y v; omega) | (have hz9 := fndS_le ((aR (A, T)).1 t) ((aR (A, T)).2.1 t) w (nI n); omega)) (by first | omega | (split <;> omega) | (have hz9 := fndS_le ((aR (A, T)).1 r) ((aR (A, T)).2.1 r) y v; omega) | (have hz9 := fndS_le ((aR (A, T)).1 t) ((aR (A, T)).2.1 t) w (nI n); omega)) c4
          have hlt : ¬ (aR (A, T)).1 t = 0 := fun q => by rw [if_pos q] at d4; omega
          refine V_aload e_X8_copy_55 rfl ?_
          refine V_getiv (v := nI ((aR (A, T)).1 r - 1)) e_X8_copy_57 F_X3_lane f_X8_96 (kd_row r (by have q : ln 1 = 8 := rfl; omega)) (er2 hlr) ?_
          refine V_aload e_X8_copy_60 rfl ?_
          refine V_getiv (v := nI ((aR (A, T)).1 t - 1)) e_X8_copy_62 F_X3_lane f_X8_96 (kd_row t (by have q : ln 1 = 8 := rfl; omega)) (et2 hlt) ?_
          refine V_icmp_eq (tgt := 74) e_X8_copy_65 (by decide) (fun c5 => ?_) (fun c5 => ?_)
          · have d5 : (aR (A, T)).1 r - 1 = (aR (A, T)).1 t - 1 := nq_eq (by first | omega | (split <;> omega) | (have hz9 := fndS_le ((aR (A, T)).1 r) ((aR (A, T)).2.1 r) y v; omega) | (have hz9 := fndS_le ((aR (A, T)).1 t) ((aR (A, T)).2.1 t) w (nI n); omega)) (by first | omega | (split <;> omega) | (have hz9 := fndS_le ((aR (A, T)).1 r) ((aR (A, T)).2.1 r) y v; omega) | (have hz9 := fndS_le ((aR (A, T)).1 t) ((aR (A, T)).2.1 t) w (nI n); omega)) c5
            have hll : (aR (A, T)).1 r = (aR (A, T)).1 t := by omega
            refine V_aload e_X8_copy_74 rfl ?_
            refine V_iload_n e_X8_copy_76 rfl rfl ?_
            refine V_iload e_X8_copy_77 rfl ?_
            refine V_cvIe (av := [.int y, .int v]) (st := []) e_X8_copy_79 (c_X3_findingAt E (258 + 2 * r) y v σ (kd_row r (by have q : ln 1 = 8 := rfl; omega))) l_X8_85 S_X3_findingAt (kd_row r (by have q : ln 1 = 8 := rfl; omega)) (rm_ok (by decide) (by decide)) rfl rfl (Nat.le_of_ble_eq_true rfl) ?_
            refine V_topi (y := nI (fndS ((aR (A, T)).1 r) ((aR (A, T)).2.1 r) y v)) (by rw [er1, er3]; exact fnd_S hGr.2) ?_
            refine V_if_ne (tgt := 97) e_X8_copy_82 (by decide) (fun c6 => ?_) (fun c6 => ?_)
            · have d6 : ¬ fndS ((aR (A, T)).1 r) ((aR (A, T)).2.1 r) y v = 0 := nq_ne (by first | omega | (split <;> omega) | (have hz9 := fndS_le ((aR (A, T)).1 r) ((aR (A, T)).2.1 r) y v; omega) | (have hz9 := fndS_le ((aR (A, T)).1 t) ((aR (A, T)).2.1 t) w (nI n); omega)) (by first | omega | (split <;> omega) | (have hz9 := fndS_le ((aR (A, T)).1 r) ((aR (A, T)).2.1 r) y v; omega) | (have hz9 := fndS_le ((aR (A, T)).1 t) ((aR (A, T)).2.1 t) w (nI n); omega)) c6
              refine V_aload_n e_X8_copy_97 rfl rfl ?_
              refine V_iconst (v := nI 2) e_X8_copy_98 (by decide) ?_
              refine V_cvIe (av := [.int (nI 2)]) (st := []) e_X8_copy_99 (c_X8_found E (nI 2) σ) l_X8_74 S_X8_found rfl (rm_ok (by decide) (by decide)) rfl rfl (Nat.le_of_ble_eq_true rfl) ?_
              exact V_iret e_X8_copy_102 rfl (by rw [show oCopy (A, T) (nI r) y (nI t) w v = (wS (A, T) 2, (-1000010) - nI 2) from (by unfold oCopy; (try unfold gIn); (try dsimp only); (try (repeat rw [ixN (by omega)])); (first | rw [if_pos c1] | rw [if_neg c1] | skip); (first | rw [if_pos c2] | rw [if_neg c2] | skip); (first | rw [if_pos hlr] | rw [if_neg hlr] | skip); (first | rw [if_pos hlt] | rw [if_neg hlt] | skip); (first | rw [if_pos hll] | rw [if_neg hll] | skip); (first | rw [if_pos d6] | rw [if_neg d6] | skip); try rfl)]; exact ⟨Fb.rf.up (by decide) (by decide), hI.wS (by omega), rfl⟩)
            · have d6 : fndS ((aR (A, T)).1 r) ((aR (A, T)).2.1 r) y v = 0 := nq_eq (by first | omega | (split <;> omega) | (have hz9 := fndS_le ((aR (A, T)).1 r) ((aR (A, T)).2.1 r) y v; omega) | (have hz9 := fndS_le ((aR (A, T)).1 t) ((aR (A, T)).2.1 t) w (nI n); omega)) (by first | omega | (split <;> omega) | (have hz9 := fndS_le ((aR (A, T)).1 r) ((aR (A, T)).2.1 r) y v; omega) | (have hz9 := fndS_le ((aR (A, T)).1 t) ((aR (A, T)).2.1 t) w (nI n); omega)) c6
              obtain ⟨-, hpl⟩ := fndS_0 d6
              obtain ⟨i, n, rfl, rfl, hin, hi31, hn31⟩ := hpl.nat
              refine V_aload e_X8_copy_85 rfl ?_
              refine V_iload e_X8_copy_87 rfl ?_
              refine V_iload e_X8_copy_89 rfl ?_
              refine V_cvIe (av := [.int w, .int (nI n)]) (st := []) e_X8_copy_91 (c_X3_findingAt E (258 + 2 * t) w (nI n) σ (kd_row t (by have q : ln 1 = 8 := rfl; omega))) l_X8_85 S_X3_findingAt (kd_row t (by have q : ln 1 = 8 := rfl; omega)) (rm_ok (by decide) (by decide)) rfl rfl (Nat.le_of_ble_eq_true rfl) ?_
              refine V_topi (y := nI (fndS ((aR (A, T)).1 t) ((aR (A, T)).2.1 t) w (nI n))) (by rw [et1, et3]; exact fnd_S hGt.2) ?_
              refine V_if_eq (tgt := 103) e_X8_copy_94 (by decide) (fun c7 => ?_) (fun c7 => ?_)
              · have d7 : fndS ((aR (A, T)).1 t) ((aR (A, T)).2.1 t) w (nI n) = 0 := nq_eq (by first | omega | (split <;> omega) | (have hz9 := fndS_le ((aR (A, T)).1 r) ((aR (A, T)).2.1 r) y v; omega) | (have hz9 := fndS_le ((aR (A, T)).1 t) ((aR (A, T)).2.1 t) w (nI n); omega)) (by first | omega | (split <;> omega) | (have hz9 := fndS_le ((aR (A, T)).1 r) ((aR (A, T)).2.1 r) y v; omega) | (have hz9 := fndS_le ((aR (A, T)).1 t) ((aR (A, T)).2.1 t) w (nI n); omega)) c7
                obtain ⟨-, hpl2⟩ := fndS_0 d7
                obtain ⟨j, n2, rfl, hnn2, hjn, hj31, hn231⟩ := hpl2.nat
                obtain rfl : n = n2 := nq_eq hn31 hn231 hnn2
                refine V_aload e_X8_copy_103 rfl ?_
                refine V_getr (r := 258 + 2 * r + 1) e_X8_copy_105 F_X3_items f_X8_100 (kd_row r (by have q : ln 1 = 8 := rfl; omega)) (rf3_0 (kd_row r (by have q : ln 1 = 8 := rfl; omega))) ?_
                refine V_iload_n e_X8_copy_108 rfl rfl ?_
                refine V_aload e_X8_copy_109 rfl ?_
                refine V_getr (r := 258 + 2 * t + 1) e_X8_copy_111 F_X3_items f_X8_100 (kd_row t (by have q : ln 1 = 8 := rfl; omega)) (rf3_0 (kd_row t (by have q : ln 1 = 8 := rfl; omega))) ?_
                refine V_iload e_X8_copy_114 rfl ?_
                refine V_iload e_X8_copy_116 rfl ?_
                rw [show 258 + 2 * r + 1 = 259 + 2 * r by omega, show 258 + 2 * t + 1 = 259 + 2 * t by omega]
                refine V_acopy (n0 := 259 + 2 * r) (n1 := 259 + 2 * t) (sp := i) (dp := j) (nn := n) e_X8_copy_118 l_X8_104 (by have hz9 := kd3_1 (kd_row r (by have q : ln 1 = 8 := rfl; omega)); rw [show 258 + 2 * r + 1 = 259 + 2 * r by omega] at hz9; exact hz9) (by have hz9 := kd3_1 (kd_row t (by have q : ln 1 = 8 := rfl; omega)); rw [show 258 + 2 * t + 1 = 259 + 2 * t by omega] at hz9; exact hz9) (by have hz9 := ln3_1 (kd_row r (by have q : ln 1 = 8 := rfl; omega)); rw [show 258 + 2 * r + 1 = 259 + 2 * r by omega] at hz9; exact hz9) (by have hz9 := ln3_1 (kd_row t (by have q : ln 1 = 8 := rfl; omega)); rw [show 258 + 2 * t + 1 = 259 + 2 * t by omega] at hz9; exact hz9) (by omega) (by omega) (Nat.le_of_ble_eq_true rfl) (Nat.le_of_ble_eq_true (by rfl)) ?_
                refine V_aload_n e_X8_copy_121 rfl rfl ?_
                refine V_iload e_X8_copy_122 rfl ?_
                refine V_cvIe (av := [.int (nI n)]) (st := []) e_X8_copy_124 (c_X8_sound E (nI n) (cpS σ (259 + 2 * r) i (259 + 2 * t) j n)) l_X8_82 S_X8_sound rfl (rm_ok (by decide) (by decide)) rfl rfl (Nat.le_of_ble_eq_true rfl) ?_
                exact V_iret e_X8_copy_127 rfl (by rw [show oCopy (A, T) (nI r) (nI i) (nI t) (nI j) (nI n) = (wS (wR (A, T) (cpyR (aR (A, T)) r i t j n)) 0, nI n) from (by unfold oCopy; (try unfold gIn); (try dsimp only); (try (repeat rw [ixN (by omega)])); (first | rw [if_pos c1] | rw [if_neg c1] | skip); (first | rw [if_pos c2] | rw [if_neg c2] | skip); (first | rw [if_pos hlr] | rw [if_neg hlr] | skip); (first | rw [if_pos hlt] | rw [if_neg hlt] | skip); (first | rw [if_pos hll] | rw [if_neg hll] | skip); (first | rw [if_pos d6] | rw [if_neg d6] | skip); (first | rw [if_pos d7] | rw [if_neg d7] | skip); try rfl)]; exact ⟨(show Fb 0 292 σ (up2 (cpS σ (259 + 2 * r) i (259 + 2 * t) j n) 0 11 (nI 0)) from (cp_fb (by omega)).up (by decide) (by decide)), (show IC (up2 (cpS σ (259 + 2 * r) i (259 + 2 * t) j n) 0 11 (nI 0)) (wS (wR (A, T) (cpyR (aR (A, T)) r i t j n)) 0) from (IC.wR (R := cpyR (aR (A, T)) r i t j n) hI hG.rows (hCR.cpy (by omega) (by omega)) (cp_fr (by omega))).wS (by omega)), rfl⟩)
              · have d7 : ¬ fndS ((aR (A, T)).1 t) ((aR (A, T)).2.1 t) w (nI n) = 0 := nq_ne (by first | omega | (split <;> omega) | (have hz9 := fndS_le ((aR (A, T)).1 r) ((aR (A, T)).2.1 r) y v; omega) | (have hz9 := fndS_le ((aR (A, T)).1 t) ((aR (A, T)).2.1 t) w (nI n); omega)) (by first | omega | (split <;> omega) | (have hz9 := fndS_le ((aR (A, T)).1 r) ((aR (A, T)).2.1 r) y v; omega) | (have hz9 := fndS_le ((aR (A, T)).1 t) ((aR (A, T)).2.1 t) w (nI n); omega)) c7
                refine V_aload_n e_X8_copy_97 rfl rfl ?_
                refine V_iconst (v := nI 2) e_X8_copy_98 (by decide) ?_
                refine V_cvIe (av := [.int (nI 2)]) (st := []) e_X8_copy_99 (c_X8_found E (nI 2) σ) l_X8_74 S_X8_found rfl (rm_ok (by decide) (by decide)) rfl rfl (Nat.le_of_ble_eq_true rfl) ?_
                exact V_iret e_X8_copy_102 rfl (by rw [show oCopy (A, T) (nI r) (nI i) (nI t) w (nI n) = (wS (A, T) 2, (-1000010) - nI 2) from (by unfold oCopy; (try unfold gIn); (try dsimp only); (try (repeat rw [ixN (by omega)])); (first | rw [if_pos c1] | rw [if_neg c1] | skip); (first | rw [if_pos c2] | rw [if_neg c2] | skip); (first | rw [if_pos hlr] | rw [if_neg hlr] | skip); (first | rw [if_pos hlt] | rw [if_neg hlt] | skip); (first | rw [if_pos hll] | rw [if_neg hll] | skip); (first | rw [if_pos d6] | rw [if_neg d6] | skip); (first | rw [if_pos d7] | rw [if_neg d7] | skip); try rfl)]; exact ⟨Fb.rf.up (by decide) (by decide), hI.wS (by omega), rfl⟩)
          · have d5 : ¬ (aR (A, T)).1 r - 1 = (aR (A, T)).1 t - 1 := nq_ne (by first | omega | (split <;> omega) | (have hz9 := fndS_le ((aR (A, T)).1 r) ((aR (A, T)).2.1 r) y v; omega) | (have hz9 := fndS_le ((aR (A, T)).1 t) ((aR (A, T)).2.1 t) w (nI n); omega)) (by first | omega | (split <;> omega) | (have hz9 := fndS_le ((aR (A, T)).1 r) ((aR (A, T)).2.1 r) y v; omega) | (have hz9 := fndS_le ((aR (A, T)).1 t) ((aR (A, T)).2.1 t) w (nI n); omega)) c5
            have hll : ¬ (aR (A, T)).1 r = (aR (A, T)).1 t := by omega
            refine V_aload_n e_X8_copy_68 rfl rfl ?_
            refine V_iconst (v := nI 5) e_X8_copy_69 (by decide) ?_
            refine V_cvIe (av := [.int (nI 5)]) (st := []) e_X8_copy_70 (c_X8_found E (nI 5) σ) l_X8_74 S_X8_found rfl (rm_ok (by decide) (by decide)) rfl rfl (Nat.le_of_ble_eq_true rfl) ?_
            exact V_iret e_X8_copy_73 rfl (by rw [show oCopy (A, T) (nI r) y (nI t) w v = (wS (A, T) 5, (-1000010) - nI 5) from (by unfold oCopy; (try unfold gIn); (try dsimp only); (try (repeat rw [ixN (by omega)])); (first | rw [if_pos c1] | rw [if_neg c1] | skip); (first | rw [if_pos c2] | rw [if_neg c2] | skip); (first | rw [if_pos hlr] | rw [if_neg hlr] | skip); (first | rw [if_pos hlt] | rw [if_neg hlt] | skip); (first | rw [if_pos hll] | rw [if_neg hll] | skip); try rfl)]; exact ⟨Fb.rf.up (by decide) (by decide), hI.wS (by omega), rfl⟩)
        · have d4 : ¬ (if (aR (A, T)).1 t = 0 then 1 else 0) = 0 := nq_ne (by first | omega | (split <;> omega) | (have hz9 := fndS_le ((aR (A, T)).1 r) ((aR (A, T)).2.1 r) y v; omega) | (have hz9 := fndS_le ((aR (A, T)).1 t) ((aR (A, T)).2.1 t) w (nI n); omega)) (by first | omega | (split <;> omega) | (have hz9 := fndS_le ((aR (A, T)).1 r) ((aR (A, T)).2.1 r) y v; omega) | (have hz9 := fndS_le ((aR (A, T)).1 t) ((aR (A, T)).2.1 t) w (nI n); omega)) c4
          have hlt : (aR (A, T)).1 t = 0 := Decidable.byContradiction (fun q => by rw [if_neg q] at d4; omega)
          refine V_aload_n e_X8_copy_49 rfl rfl ?_
          refine V_iconst (v := nI 1) e_X8_copy_50 (by decide) ?_
          refine V_cvIe (av := [.int (nI 1)]) (st := []) e_X8_copy_51 (c_X8_found E (nI 1) σ) l_X8_74 S_X8_found rfl (rm_ok (by decide) (by decide)) rfl rfl (Nat.le_of_ble_eq_true rfl) ?_
          exact V_iret e_X8_copy_54 rfl (by rw [show oCopy (A, T) (nI r) y (nI t) w v = (wS (A, T) 1, (-1000010) - nI 1) from (by unfold oCopy; (try unfold gIn); (try dsimp only); (try (repeat rw [ixN (by omega)])); (first | rw [if_pos c1] | rw [if_neg c1] | skip); (first | rw [if_pos c2] | rw [if_neg c2] | skip); (first | rw [if_pos hlr] | rw [if_neg hlr] | skip); (first | rw [if_pos hlt] | rw [if_neg hlt] | skip); try rfl)]; exact ⟨Fb.rf.up (by decide) (by decide), hI.wS (by omega), rfl⟩)
    · refine V_ldc (v := (-1000001)) e_X8_copy_14 k_X8_73 ?_
      exact V_iret e_X8_copy_16 rfl (by rw [show oCopy (A, T) (nI r) y z w v = ((A, T), (-1000001)) from (by unfold oCopy; (try unfold gIn); (try dsimp only); (try (repeat rw [ixN (by omega)])); (first | rw [if_pos c1] | rw [if_neg c1] | skip); (first | rw [if_pos c2] | rw [if_neg c2] | skip); try rfl)]; exact ⟨Fb.rf, hI, rfl⟩)

set_option maxRecDepth 100000 in
set_option maxHeartbeats 4000000 in
theorem c_X8_within (E : En) (x lo hi : Int32) (σ : Sg) : Cn E m_X8_within 1 [.int x, .int lo, .int hi] σ (pI (fun σ' r => σ' = σ ∧ r = wi x lo hi)) := by
  refine Cn.of [some (.int x), some (.int lo), some (.int hi)] (by decide) (Nat.le_of_ble_eq_true rfl) rfl ?_
  refine V_iload_n e_X8_within_0 rfl rfl ?_
  refine V_iload_n e_X8_within_1 rfl rfl ?_
  refine V_icmp_lt (tgt := 14) e_X8_within_2 (by decide) (fun c1 => ?_) (fun c1 => ?_)
  · refine V_iconst (v := nI 0) e_X8_within_14 (by decide) ?_
    exact V_zret e_X8_within_15 rfl (by first | exact Or.inl nI_0 | exact Or.inr rfl | assumption) (⟨rfl, by unfold wi; (first | rw [if_pos c1] | rw [if_neg c1] | skip); (try rfl)⟩)
  · refine V_iload_n e_X8_within_5 rfl rfl ?_
    refine V_iload_n e_X8_within_6 rfl rfl ?_
    refine V_icmp_gt (tgt := 14) e_X8_within_7 (by decide) (fun c2 => ?_) (fun c2 => ?_)
    · refine V_iconst (v := nI 0) e_X8_within_14 (by decide) ?_
      exact V_zret e_X8_within_15 rfl (by first | exact Or.inl nI_0 | exact Or.inr rfl | assumption) (⟨rfl, by unfold wi; (first | rw [if_pos c1] | rw [if_neg c1] | skip); (first | rw [if_pos c2] | rw [if_neg c2] | skip); (try rfl)⟩)
    · refine V_iconst (v := nI 1) e_X8_within_10 (by decide) ?_
      refine V_goto (tgt := 15) e_X8_within_11 (by decide) ?_
      exact V_zret e_X8_within_15 rfl (by first | exact Or.inl nI_0 | exact Or.inr rfl | assumption) (⟨rfl, by unfold wi; (first | rw [if_pos c1] | rw [if_neg c1] | skip); (first | rw [if_pos c2] | rw [if_neg c2] | skip); (try rfl)⟩)
set_option maxRecDepth 100000 in
set_option maxHeartbeats 4000000 in
theorem c_X8_bit (E : En) (x y : Int32) (σ : Sg) : Cn E m_X8_bit 1 [.int x, .int y] σ (pI (fun σ' r => σ' = σ ∧ r = bt x y)) := by
  refine Cn.of [some (.int x), some (.int y)] (by decide) (Nat.le_of_ble_eq_true rfl) rfl ?_
  refine V_iload_n e_X8_bit_0 rfl rfl ?_
  refine V_iload_n e_X8_bit_1 rfl rfl ?_
  refine V_ishr e_X8_bit_2 ?_
  refine V_iconst (v := nI 1) e_X8_bit_3 (by decide) ?_
  refine V_iand e_X8_bit_4 ?_
  exact V_iret e_X8_bit_5 rfl (⟨rfl, rfl⟩)
theorem c_X8_bitN (E : En) (x y : Nat) (σ : Sg) (hx : x < 2 ^ 31) (hy : y < 31) : Cn E m_X8_bit 1 [.int (nI x), .int (nI y)] σ (pI (fun σ' r => σ' = σ ∧ r = nI (bitN x y))) := by
  rw [← btN hx hy]
  exact c_X8_bit E _ _ σ
set_option maxRecDepth 100000 in
set_option maxHeartbeats 4000000 in
theorem c_X8_isRow (E : En) (x : Int32) (σ : Sg) : Cn E m_X8_isRow 2 [.int x] σ (pI (fun σ' r => σ' = σ ∧ r = wi x (nI 0) (nI 7))) := by
  refine Cn.of [some (.int x)] (by decide) (Nat.le_of_ble_eq_true rfl) rfl ?_
  refine V_iload_n e_X8_isRow_0 rfl rfl ?_
  refine V_iconst (v := nI 0) e_X8_isRow_1 (by decide) ?_
  refine V_bipush (v := nI 7) e_X8_isRow_2 (by decide) ?_
  refine V_csIe (av := [.int x, .int (nI 0), .int (nI 7)]) (st := []) e_X8_isRow_4 (c_X8_within E x (nI 0) (nI 7) σ) l_X8_69 S_X8_within (rm_ok (by decide) (by decide)) rfl rfl (Nat.le_of_ble_eq_true rfl) ?_
  exact V_zret e_X8_isRow_7 rfl (wi01 _ _ _) (⟨rfl, rfl⟩)
def ctd (x n : Int32) : Int32 := if wi x (nI 0) (nI 7) = 0 then nI 0 else if wi n (nI 1) (nI 12) = 0 then nI 0 else nI 1
theorem ctd01 (x n : Int32) : b01 (ctd x n) := b01_if b01_0 (b01_if b01_0 b01_1)
set_option maxRecDepth 100000 in
set_option maxHeartbeats 4000000 in
theorem c_X8_canTellDinners (E : En) (x n : Int32) (σ : Sg) : Cn E m_X8_canTellDinners 3 [.int x, .int n] σ (pI (fun σ' r => σ' = σ ∧ r = ctd x n)) := by
  refine Cn.of [some (.int x), some (.int n)] (by decide) (Nat.le_of_ble_eq_true rfl) rfl ?_
  refine V_iload_n e_X8_canTellDinners_0 rfl rfl ?_
  refine V_csIe (av := [.int x]) (st := []) e_X8_canTellDinners_1 (c_X8_isRow E x σ) l_X8_65 S_X8_isRow (rm_ok (by decide) (by decide)) rfl rfl (Nat.le_of_ble_eq_true rfl) ?_
  refine V_if_eq (tgt := 21) e_X8_canTellDinners_4 (by decide) (fun c1 => ?_) (fun c1 => ?_)
  · refine V_iconst (v := nI 0) e_X8_canTellDinners_21 (by decide) ?_
    exact V_zret e_X8_canTellDinners_22 rfl (by first | exact Or.inl nI_0 | exact Or.inr rfl | assumption) (⟨rfl, by unfold ctd; (first | rw [if_pos c1] | rw [if_neg c1] | skip); (try rfl)⟩)
  · refine V_iload_n e_X8_canTellDinners_7 rfl rfl ?_
    refine V_iconst (v := nI 1) e_X8_canTellDinners_8 (by decide) ?_
    refine V_bipush (v := nI 12) e_X8_canTellDinners_9 (by decide) ?_
    refine V_csIe (av := [.int n, .int (nI 1), .int (nI 12)]) (st := []) e_X8_canTellDinners_11 (c_X8_within E n (nI 1) (nI 12) σ) l_X8_69 S_X8_within (rm_ok (by decide) (by decide)) rfl rfl (Nat.le_of_ble_eq_true rfl) ?_
    refine V_if_eq (tgt := 21) e_X8_canTellDinners_14 (by decide) (fun c2 => ?_) (fun c2 => ?_)
    · refine V_iconst (v := nI 0) e_X8_canTellDinners_21 (by decide) ?_
      exact V_zret e_X8_canTellDinners_22 rfl (by first | exact Or.inl nI_0 | exact Or.inr rfl | assumption) (⟨rfl, by unfold ctd; (first | rw [if_pos c1] | rw [if_neg c1] | skip); (first | rw [if_pos c2] | rw [if_neg c2] | skip); (try rfl)⟩)
    · refine V_iconst (v := nI 1) e_X8_canTellDinners_17 (by decide) ?_
      refine V_goto (tgt := 22) e_X8_canTellDinners_18 (by decide) ?_
      exact V_zret e_X8_canTellDinners_22 rfl (by first | exact Or.inl nI_0 | exact Or.inr rfl | assumption) (⟨rfl, by unfold ctd; (first | rw [if_pos c1] | rw [if_neg c1] | skip); (first | rw [if_pos c2] | rw [if_neg c2] | skip); (try rfl)⟩)
def bc (x0 : Int32) : Int32 :=
  let x1 := x0 - (ush x0 (nI 1) &&& nI 1431655765)
  let x2 := (x1 &&& nI 858993459) + (ush x1 (nI 2) &&& nI 858993459)
  let x3 := (x2 + ush x2 (nI 4)) &&& nI 252645135
  let x4 := x3 + ush x3 (nI 8)
  let x5 := x4 + ush x4 (nI 16)
  x5 &&& nI 63
set_option maxRecDepth 100000 in
set_option maxHeartbeats 4000000 in
theorem c_J6_bitCount_0f7a4 (E : En) (x : Int32) (σ : Sg) : Cn E m_J6_bitCount_0f7a4 1 [.int x] σ (pI (fun σ' r => σ' = σ ∧ r = bc x)) := by
  refine Cn.of [some (.int x)] (by decide) (Nat.le_of_ble_eq_true rfl) rfl ?_
  refine V_iload_n e_J6_bitCount_0f7a4_0 rfl rfl ?_
  refine V_iload_n e_J6_bitCount_0f7a4_1 rfl rfl ?_
  refine V_iconst (v := nI 1) e_J6_bitCount_0f7a4_2 (by decide) ?_
  refine V_iushr e_J6_bitCount_0f7a4_3 rfl ?_
  refine V_ldc_w (v := nI 1431655765) e_J6_bitCount_0f7a4_4 k_J6_265 ?_
  refine V_iand e_J6_bitCount_0f7a4_7 ?_
  refine V_isub e_J6_bitCount_0f7a4_8 ?_
  refine V_istore_n (L' := [some (.int (x - ((ush x (nI 1)) &&& (nI 1431655765))))]) e_J6_bitCount_0f7a4_9 rfl rfl ?_
  refine V_iload_n e_J6_bitCount_0f7a4_10 rfl rfl ?_
  refine V_ldc_w (v := nI 858993459) e_J6_bitCount_0f7a4_11 k_J6_266 ?_
  refine V_iand e_J6_bitCount_0f7a4_14 ?_
  refine V_iload_n e_J6_bitCount_0f7a4_15 rfl rfl ?_
  refine V_iconst (v := nI 2) e_J6_bitCount_0f7a4_16 (by decide) ?_
  refine V_iushr e_J6_bitCount_0f7a4_17 rfl ?_
  refine V_ldc_w (v := nI 858993459) e_J6_bitCount_0f7a4_18 k_J6_266 ?_
  refine V_iand e_J6_bitCount_0f7a4_21 ?_
  refine V_iadd e_J6_bitCount_0f7a4_22 ?_
  refine V_istore_n (L' := [some (.int (((x - ((ush x (nI 1)) &&& (nI 1431655765))) &&& (nI 858993459)) + ((ush (x - ((ush x (nI 1)) &&& (nI 1431655765))) (nI 2)) &&& (nI 858993459))))]) e_J6_bitCount_0f7a4_23 rfl rfl ?_
  refine V_iload_n e_J6_bitCount_0f7a4_24 rfl rfl ?_
  refine V_iload_n e_J6_bitCount_0f7a4_25 rfl rfl ?_
  refine V_iconst (v := nI 4) e_J6_bitCount_0f7a4_26 (by decide) ?_
  refine V_iushr e_J6_bitCount_0f7a4_27 rfl ?_
  refine V_iadd e_J6_bitCount_0f7a4_28 ?_
  refine V_ldc_w (v := nI 252645135) e_J6_bitCount_0f7a4_29 k_J6_267 ?_
  refine V_iand e_J6_bitCount_0f7a4_32 ?_
  refine V_istore_n (L' := [some (.int (((((x - ((ush x (nI 1)) &&& (nI 1431655765))) &&& (nI 858993459)) + ((ush (x - ((ush x (nI 1)) &&& (nI 1431655765))) (nI 2)) &&& (nI 858993459))) + (ush (((x - ((ush x (nI 1)) &&& (nI 1431655765))) &&& (nI 858993459)) + ((ush (x - ((ush x (nI 1)) &&& (nI 1431655765))) (nI 2)) &&& (nI 858993459))) (nI 4))) &&& (nI 252645135)))]) e_J6_bitCount_0f7a4_33 rfl rfl ?_
  refine V_iload_n e_J6_bitCount_0f7a4_34 rfl rfl ?_
  refine V_iload_n e_J6_bitCount_0f7a4_35 rfl rfl ?_
  refine V_bipush (v := nI 8) e_J6_bitCount_0f7a4_36 (by decide) ?_
  refine V_iushr e_J6_bitCount_0f7a4_38 rfl ?_
  refine V_iadd e_J6_bitCount_0f7a4_39 ?_
  refine V_istore_n (L' := [some (.int ((((((x - ((ush x (nI 1)) &&& (nI 1431655765))) &&& (nI 858993459)) + ((ush (x - ((ush x (nI 1)) &&& (nI 1431655765))) (nI 2)) &&& (nI 858993459))) + (ush (((x - ((ush x (nI 1)) &&& (nI 1431655765))) &&& (nI 858993459)) + ((ush (x - ((ush x (nI 1)) &&& (nI 1431655765))) (nI 2)) &&& (nI 858993459))) (nI 4))) &&& (nI 252645135)) + (ush (((((x - ((ush x (nI 1)) &&& (nI 1431655765))) &&& (nI 858993459)) + ((ush (x - ((ush x (nI 1)) &&& (nI 1431655765))) (nI 2)) &&& (nI 858993459))) + (ush (((x - ((ush x (nI 1)) &&& (nI 1431655765))) &&& (nI 858993459)) + ((ush (x - ((ush x (nI 1)) &&& (nI 1431655765))) (nI 2)) &&& (nI 858993459))) (nI 4))) &&& (nI 252645135)) (nI 8))))]) e_J6_bitCount_0f7a4_40 rfl rfl ?_
  refine V_iload_n e_J6_bitCount_0f7a4_41 rfl rfl ?_
  refine V_iload_n e_J6_bitCount_0f7a4_42 rfl rfl ?_
  refine V_bipush (v := nI 16) e_J6_bitCount_0f7a4_43 (by decide) ?_
  refine V_iushr e_J6_bitCount_0f7a4_45 rfl ?_
  refine V_iadd e_J6_bitCount_0f7a4_46 ?_
  refine V_istore_n (L' := [some (.int (((((((x - ((ush x (nI 1)) &&& (nI 1431655765))) &&& (nI 858993459)) + ((ush (x - ((ush x (nI 1)) &&& (nI 1431655765))) (nI 2)) &&& (nI 858993459))) + (ush (((x - ((ush x (nI 1)) &&& (nI 1431655765))) &&& (nI 858993459)) + ((ush (x - ((ush x (nI 1)) &&& (nI 1431655765))) (nI 2)) &&& (nI 858993459))) (nI 4))) &&& (nI 252645135)) + (ush (((((x - ((ush x (nI 1)) &&& (nI 1431655765))) &&& (nI 858993459)) + ((ush (x - ((ush x (nI 1)) &&& (nI 1431655765))) (nI 2)) &&& (nI 858993459))) + (ush (((x - ((ush x (nI 1)) &&& (nI 1431655765))) &&& (nI 858993459)) + ((ush (x - ((ush x (nI 1)) &&& (nI 1431655765))) (nI 2)) &&& (nI 858993459))) (nI 4))) &&& (nI 252645135)) (nI 8))) + (ush ((((((x - ((ush x (nI 1)) &&& (nI 1431655765))) &&& (nI 858993459)) + ((ush (x - ((ush x (nI 1)) &&& (nI 1431655765))) (nI 2)) &&& (nI 858993459))) + (ush (((x - ((ush x (nI 1)) &&& (nI 1431655765))) &&& (nI 858993459)) + ((ush (x - ((ush x (nI 1)) &&& (nI 1431655765))) (nI 2)) &&& (nI 858993459))) (nI 4))) &&& (nI 252645135)) + (ush (((((x - ((ush x (nI 1)) &&& (nI 1431655765))) &&& (nI 858993459)) + ((ush (x - ((ush x (nI 1)) &&& (nI 1431655765))) (nI 2)) &&& (nI 858993459))) + (ush (((x - ((ush x (nI 1)) &&& (nI 1431655765))) &&& (nI 858993459)) + ((ush (x - ((ush x (nI 1)) &&& (nI 1431655765))) (nI 2)) &&& (nI 858993459))) (nI 4))) &&& (nI 252645135)) (nI 8))) (nI 16))))]) e_J6_bitCount_0f7a4_47 rfl rfl ?_
  refine V_iload_n e_J6_bitCount_0f7a4_48 rfl rfl ?_
  refine V_bipush (v := nI 63) e_J6_bitCount_0f7a4_49 (by decide) ?_
  refine V_iand e_J6_bitCount_0f7a4_51 ?_
  exact V_iret e_J6_bitCount_0f7a4_52 rfl (⟨rfl, rfl⟩)
def szs (x w : Int32) : Int32 := if x = (-1000000) then x else if w = nI 1 then x else bc x
set_option maxRecDepth 100000 in
set_option maxHeartbeats 4000000 in
theorem c_X8_sizeOrSet (E : En) (x w : Int32) (σ : Sg) : Cn E m_X8_sizeOrSet 2 [.int x, .int w] σ (pI (fun σ' r => σ' = σ ∧ r = szs x w)) := by
  refine Cn.of [some (.int x), some (.int w)] (by decide) (Nat.le_of_ble_eq_true rfl) rfl ?_
  refine V_iload_n e_X8_sizeOrSet_0 rfl rfl ?_
  refine V_ldc_w (v := (-1000000)) e_X8_sizeOrSet_1 k_X8_316 ?_
  refine V_icmp_eq (tgt := 12) e_X8_sizeOrSet_4 (by decide) (fun c1 => ?_) (fun c1 => ?_)
  · refine V_iload_n e_X8_sizeOrSet_12 rfl rfl ?_
    refine V_goto (tgt := 20) e_X8_sizeOrSet_13 (by decide) ?_
    exact V_iret e_X8_sizeOrSet_20 rfl (⟨rfl, by unfold szs; (first | rw [if_pos c1] | rw [if_neg c1] | skip); (try rfl)⟩)
  · refine V_iload_n e_X8_sizeOrSet_7 rfl rfl ?_
    refine V_iconst (v := nI 1) e_X8_sizeOrSet_8 (by decide) ?_
    refine V_icmp_ne (tgt := 16) e_X8_sizeOrSet_9 (by decide) (fun c2 => ?_) (fun c2 => ?_)
    · refine V_iload_n e_X8_sizeOrSet_16 rfl rfl ?_
      refine V_csIe (av := [.int x]) (st := []) e_X8_sizeOrSet_17 (c_J6_bitCount_0f7a4 E x σ) l_X8_326 S_J6_bitCount_0f7a4 (rm_ok (by decide) (by decide)) rfl rfl (Nat.le_of_ble_eq_true rfl) ?_
      exact V_iret e_X8_sizeOrSet_20 rfl (⟨rfl, by unfold szs; (first | rw [if_pos c1] | rw [if_neg c1] | skip); (first | rw [if_pos c2] | rw [if_neg c2] | skip); (try rfl)⟩)
    · refine V_iload_n e_X8_sizeOrSet_12 rfl rfl ?_
      refine V_goto (tgt := 20) e_X8_sizeOrSet_13 (by decide) ?_
      exact V_iret e_X8_sizeOrSet_20 rfl (⟨rfl, by unfold szs; (first | rw [if_pos c1] | rw [if_neg c1] | skip); (first | rw [if_pos c2] | rw [if_neg c2] | skip); (try rfl)⟩)
set_option maxRecDepth 100000 in
set_option maxHeartbeats 4000000 in
theorem c_X8_found (E : En) (x : Int32) (σ : Sg) : Cn E m_X8_found 1 [.ref (eB E + 0), .int x] σ (pI (fun σ' r => σ' = up2 σ 0 11 x ∧ r = (-1000010) - x)) := by
  refine Cn.of [some (.ref (eB E + 0)), some (.int x)] (by decide) (Nat.le_of_ble_eq_true rfl) rfl ?_
  refine V_aload_n e_X8_found_0 rfl rfl ?_
  refine V_iload_n e_X8_found_1 rfl rfl ?_
  refine V_puti e_X8_found_2 F_X8_latestFinding f_X8_323 rfl ?_
  refine V_ldc_w (v := (-1000010)) e_X8_found_5 k_X8_331 ?_
  refine V_iload_n e_X8_found_8 rfl rfl ?_
  refine V_isub e_X8_found_9 ?_
  exact V_iret e_X8_found_10 rfl (⟨rfl, rfl⟩)
set_option maxRecDepth 100000 in
set_option maxHeartbeats 4000000 in
theorem c_X8_sound (E : En) (x : Int32) (σ : Sg) : Cn E m_X8_sound 1 [.ref (eB E + 0), .int x] σ (pI (fun σ' r => σ' = up2 σ 0 11 (nI 0) ∧ r = x)) := by
  refine Cn.of [some (.ref (eB E + 0)), some (.int x)] (by decide) (Nat.le_of_ble_eq_true rfl) rfl ?_
  refine V_aload_n e_X8_sound_0 rfl rfl ?_
  refine V_iconst (v := nI 0) e_X8_sound_1 (by decide) ?_
  refine V_puti e_X8_sound_2 F_X8_latestFinding f_X8_323 rfl ?_
  refine V_iload_n e_X8_sound_5 rfl rfl ?_
  exact V_iret e_X8_sound_6 rfl (⟨rfl, rfl⟩)
def put3 (lane v : Int32) : Int32 := if lane = 0 then v.toInt8.toInt32 else if lane = nI 1 then v.toInt16.toInt32 else v
set_option maxRecDepth 100000 in
set_option maxHeartbeats 4000000 in
theorem c_X3_put (E : En) (n j : Nat) (v : Int32) (σ : Sg) (hn : kd n = 3) (hj : j < 40) : Cn E m_X3_put 1 [.ref (eB E + n), .int (nI j), .int v] σ (pI (fun σ' r => σ' = up2 σ (n + 1) j (put3 (σ n 2) v) ∧ r = put3 (σ n 2) v)) := by
  refine Cn.of [some (.ref (eB E + n)), some (.int (nI j)), some (.int v)] (by decide) (Nat.le_of_ble_eq_true rfl) rfl ?_
  refine V_aload_n e_X3_put_0 rfl rfl ?_
  refine V_getr (r := n + 1) e_X3_put_1 F_X3_items f_X3_9 hn (rf3_0 hn) ?_
  refine V_iload_n e_X3_put_4 rfl rfl ?_
  refine V_aload_n e_X3_put_5 rfl rfl ?_
  refine V_geti e_X3_put_6 F_X3_lane f_X3_19 hn ?_
  refine V_if_ne (tgt := 17) e_X3_put_9 (by decide) (fun c1 => ?_) (fun c1 => ?_)
  · refine V_aload_n e_X3_put_17 rfl rfl ?_
    refine V_geti e_X3_put_18 F_X3_lane f_X3_19 hn ?_
    refine V_iconst (v := nI 1) e_X3_put_21 (by decide) ?_
    refine V_icmp_ne (tgt := 30) e_X3_put_22 (by decide) (fun c2 => ?_) (fun c2 => ?_)
    · refine V_iload_n e_X3_put_30 rfl rfl ?_
      refine V_iast (j := j) e_X3_put_31 (kd3_1 hn) rfl (by have q := ln3_1  hn; omega) ?_
      refine V_aload_n e_X3_put_32 rfl rfl ?_
      refine V_getr (r := n + 1) e_X3_put_33 F_X3_items f_X3_9 hn (rf3_0 hn) ?_
      refine V_iload_n e_X3_put_36 rfl rfl ?_
      refine V_iald (j := j) e_X3_put_37 (kd3_1 hn) rfl (by have q := ln3_1  hn; omega) ?_
      exact V_iret e_X3_put_38 rfl (⟨by unfold put3; (first | rw [if_pos c1] | rw [if_neg c1] | skip); (first | rw [if_pos c2] | rw [if_neg c2] | skip); (try rfl), by rw [up2_at]; unfold put3; (first | rw [if_pos c1] | rw [if_neg c1] | skip); (first | rw [if_pos c2] | rw [if_neg c2] | skip); (try rfl)⟩)
    · refine V_iload_n e_X3_put_25 rfl rfl ?_
      refine V_i2s e_X3_put_26 ?_
      refine V_goto (tgt := 31) e_X3_put_27 (by decide) ?_
      refine V_iast (j := j) e_X3_put_31 (kd3_1 hn) rfl (by have q := ln3_1  hn; omega) ?_
      refine V_aload_n e_X3_put_32 rfl rfl ?_
      refine V_getr (r := n + 1) e_X3_put_33 F_X3_items f_X3_9 hn (rf3_0 hn) ?_
      refine V_iload_n e_X3_put_36 rfl rfl ?_
      refine V_iald (j := j) e_X3_put_37 (kd3_1 hn) rfl (by have q := ln3_1  hn; omega) ?_
      exact V_iret e_X3_put_38 rfl (⟨by unfold put3; (first | rw [if_pos c1] | rw [if_neg c1] | skip); (first | rw [if_pos c2] | rw [if_neg c2] | skip); (try rfl), by rw [up2_at]; unfold put3; (first | rw [if_pos c1] | rw [if_neg c1] | skip); (first | rw [if_pos c2] | rw [if_neg c2] | skip); (try rfl)⟩)
  · refine V_iload_n e_X3_put_12 rfl rfl ?_
    refine V_i2b e_X3_put_13 ?_
    refine V_goto (tgt := 31) e_X3_put_14 (by decide) ?_
    refine V_iast (j := j) e_X3_put_31 (kd3_1 hn) rfl (by have q := ln3_1  hn; omega) ?_
    refine V_aload_n e_X3_put_32 rfl rfl ?_
    refine V_getr (r := n + 1) e_X3_put_33 F_X3_items f_X3_9 hn (rf3_0 hn) ?_
    refine V_iload_n e_X3_put_36 rfl rfl ?_
    refine V_iald (j := j) e_X3_put_37 (kd3_1 hn) rfl (by have q := ln3_1  hn; omega) ?_
    exact V_iret e_X3_put_38 rfl (⟨by unfold put3; (first | rw [if_pos c1] | rw [if_neg c1] | skip); (try rfl), by rw [up2_at]; unfold put3; (first | rw [if_pos c1] | rw [if_neg c1] | skip); (try rfl)⟩)
def fnd (mi sz i n : Int32) : Int32 := if mi = 0 then (if n < 0 then nI 2 else if sz < n then nI 2 else if i < 0 then nI 2 else if sz - n < i then nI 2 else nI 0) else nI 1
set_option maxRecDepth 100000 in
set_option maxHeartbeats 4000000 in
theorem c_X3_findingAt (E : En) (n : Nat) (i m : Int32) (σ : Sg) (hn : kd n = 3) : Cn E m_X3_findingAt 1 [.ref (eB E + n), .int i, .int m] σ (pI (fun σ' r => σ' = σ ∧ r = fnd (σ n 1) (σ n 3) i m)) := by
  refine Cn.of [some (.ref (eB E + n)), some (.int i), some (.int m), none] (by decide) (Nat.le_of_ble_eq_true rfl) rfl ?_
  refine V_aload_n e_X3_findingAt_0 rfl rfl ?_
  refine V_geti e_X3_findingAt_1 F_X3_missing f_X3_15 hn ?_
  refine V_if_eq (tgt := 9) e_X3_findingAt_4 (by decide) (fun c1 => ?_) (fun c1 => ?_)
  · refine V_iload_n e_X3_findingAt_9 rfl rfl ?_
    refine V_if_lt (tgt := 39) e_X3_findingAt_10 (by decide) (fun c2 => ?_) (fun c2 => ?_)
    · refine V_iconst (v := nI 0) e_X3_findingAt_39 (by decide) ?_
      refine V_istore_n (L' := [some (.ref (eB E + n)), some (.int i), some (.int m), some (.int (nI 0))]) e_X3_findingAt_40 rfl rfl ?_
      refine V_iload_n e_X3_findingAt_41 rfl rfl ?_
      refine V_if_eq (tgt := 49) e_X3_findingAt_42 (by decide) (fun c3 => ?_) (fun c3 => absurd c3 (by decide))
      refine V_iconst (v := nI 2) e_X3_findingAt_49 (by decide) ?_
      exact V_iret e_X3_findingAt_50 rfl (⟨rfl, by unfold fnd; (first | rw [if_pos c1] | rw [if_neg c1] | skip); (first | rw [if_pos c2] | rw [if_neg c2] | skip); (first | rw [if_pos c3] | rw [if_neg c3] | skip); (try rfl)⟩)
    · refine V_iload_n e_X3_findingAt_13 rfl rfl ?_
      refine V_aload_n e_X3_findingAt_14 rfl rfl ?_
      refine V_geti e_X3_findingAt_15 F_X3_size f_X3_23 hn ?_
      refine V_icmp_gt (tgt := 39) e_X3_findingAt_18 (by decide) (fun c4 => ?_) (fun c4 => ?_)
      · refine V_iconst (v := nI 0) e_X3_findingAt_39 (by decide) ?_
        refine V_istore_n (L' := [some (.ref (eB E + n)), some (.int i), some (.int m), some (.int (nI 0))]) e_X3_findingAt_40 rfl rfl ?_
        refine V_iload_n e_X3_findingAt_41 rfl rfl ?_
        refine V_if_eq (tgt := 49) e_X3_findingAt_42 (by decide) (fun c5 => ?_) (fun c5 => absurd c5 (by decide))
        refine V_iconst (v := nI 2) e_X3_findingAt_49 (by decide) ?_
        exact V_iret e_X3_findingAt_50 rfl (⟨rfl, by unfold fnd; (first | rw [if_pos c1] | rw [if_neg c1] | skip); (first | rw [if_pos c2] | rw [if_neg c2] | skip); (first | rw [if_pos c4] | rw [if_neg c4] | skip); (first | rw [if_pos c5] | rw [if_neg c5] | skip); (try rfl)⟩)
      · refine V_iload_n e_X3_findingAt_21 rfl rfl ?_
        refine V_if_lt (tgt := 39) e_X3_findingAt_22 (by decide) (fun c6 => ?_) (fun c6 => ?_)
        · refine V_iconst (v := nI 0) e_X3_findingAt_39 (by decide) ?_
          refine V_istore_n (L' := [some (.ref (eB E + n)), some (.int i), some (.int m), some (.int (nI 0))]) e_X3_findingAt_40 rfl rfl ?_
          refine V_iload_n e_X3_findingAt_41 rfl rfl ?_
          refine V_if_eq (tgt := 49) e_X3_findingAt_42 (by decide) (fun c7 => ?_) (fun c7 => absurd c7 (by decide))
          refine V_iconst (v := nI 2) e_X3_findingAt_49 (by decide) ?_
          exact V_iret e_X3_findingAt_50 rfl (⟨rfl, by unfold fnd; (first | rw [if_pos c1] | rw [if_neg c1] | skip); (first | rw [if_pos c2] | rw [if_neg c2] | skip); (first | rw [if_pos c4] | rw [if_neg c4] | skip); (first | rw [if_pos c6] | rw [if_neg c6] | skip); (first | rw [if_pos c7] | rw [if_neg c7] | skip); (try rfl)⟩)
        · refine V_iload_n e_X3_findingAt_25 rfl rfl ?_
          refine V_aload_n e_X3_findingAt_26 rfl rfl ?_
          refine V_geti e_X3_findingAt_27 F_X3_size f_X3_23 hn ?_
          refine V_iload_n e_X3_findingAt_30 rfl rfl ?_
          refine V_isub e_X3_findingAt_31 ?_
          refine V_icmp_gt (tgt := 39) e_X3_findingAt_32 (by decide) (fun c8 => ?_) (fun c8 => ?_)
          · refine V_iconst (v := nI 0) e_X3_findingAt_39 (by decide) ?_
            refine V_istore_n (L' := [some (.ref (eB E + n)), some (.int i), some (.int m), some (.int (nI 0))]) e_X3_findingAt_40 rfl rfl ?_
            refine V_iload_n e_X3_findingAt_41 rfl rfl ?_
            refine V_if_eq (tgt := 49) e_X3_findingAt_42 (by decide) (fun c9 => ?_) (fun c9 => absurd c9 (by decide))
            refine V_iconst (v := nI 2) e_X3_findingAt_49 (by decide) ?_
            exact V_iret e_X3_findingAt_50 rfl (⟨rfl, by unfold fnd; (first | rw [if_pos c1] | rw [if_neg c1] | skip); (first | rw [if_pos c2] | rw [if_neg c2] | skip); (first | rw [if_pos c4] | rw [if_neg c4] | skip); (first | rw [if_pos c6] | rw [if_neg c6] | skip); (first | rw [if_pos c8] | rw [if_neg c8] | skip); (first | rw [if_pos c9] | rw [if_neg c9] | skip); (try rfl)⟩)
          · refine V_iconst (v := nI 1) e_X3_findingAt_35 (by decide) ?_
            refine V_goto (tgt := 40) e_X3_findingAt_36 (by decide) ?_
            refine V_istore_n (L' := [some (.ref (eB E + n)), some (.int i), some (.int m), some (.int (nI 1))]) e_X3_findingAt_40 rfl rfl ?_
            refine V_iload_n e_X3_findingAt_41 rfl rfl ?_
            refine V_if_eq (tgt := 49) e_X3_findingAt_42 (by decide) (fun c10 => absurd c10 (by decide)) (fun c10 => ?_)
            refine V_iconst (v := nI 0) e_X3_findingAt_45 (by decide) ?_
            refine V_goto (tgt := 50) e_X3_findingAt_46 (by decide) ?_
            exact V_iret e_X3_findingAt_50 rfl (⟨rfl, by unfold fnd; (first | rw [if_pos c1] | rw [if_neg c1] | skip); (first | rw [if_pos c2] | rw [if_neg c2] | skip); (first | rw [if_pos c4] | rw [if_neg c4] | skip); (first | rw [if_pos c6] | rw [if_neg c6] | skip); (first | rw [if_pos c8] | rw [if_neg c8] | skip); (first | rw [if_pos c10] | rw [if_neg c10] | skip); (try rfl)⟩)
  · refine V_iconst (v := nI 1) e_X3_findingAt_7 (by decide) ?_
    exact V_iret e_X3_findingAt_8 rfl (⟨rfl, by unfold fnd; (first | rw [if_pos c1] | rw [if_neg c1] | skip); (try rfl)⟩)
def wbec (n m : Nat) (σ : Sg) : Sg := up2 (up2 (up2 (up2 (up2 (up2 (up2 σ n 0 (σ m 0)) n 1 (σ m 1)) n 2 (σ m 2)) n 3 (σ m 3)) n 4 (σ m 4)) n 5 (σ m 5)) n 6 (σ m 6)
set_option maxRecDepth 100000 in
set_option maxHeartbeats 4000000 in
theorem c_X7_become (E : En) (n m : Nat) (σ : Sg) (hn : kd n = 7) (hm : kd m = 7) (hne : m ≠ n) : Cn E m_X7_become 1 [.ref (eB E + n), .ref (eB E + m)] σ (pV (fun σ' => σ' = wbec n m σ)) := by
  refine Cn.of [some (.ref (eB E + n)), some (.ref (eB E + m))] (by decide) (Nat.le_of_ble_eq_true rfl) rfl ?_
  refine V_bz (fun hbz => ?_)
  refine V_aload_n e_X7_become_0 rfl rfl ?_
  refine V_aload_n e_X7_become_1 rfl rfl ?_
  refine V_geti e_X7_become_2 F_X7_at f_X7_7 hm ?_
  refine V_puti e_X7_become_5 F_X7_at f_X7_7 hn ?_
  refine V_aload_n e_X7_become_8 rfl rfl ?_
  refine V_aload_n e_X7_become_9 rfl rfl ?_
  refine V_getiv (v := σ m 1) e_X7_become_10 F_X7_of f_X7_13 hm (by simp only [up2_ne hne]) ?_
  refine V_puti e_X7_become_13 F_X7_of f_X7_13 hn ?_
  refine V_aload_n e_X7_become_16 rfl rfl ?_
  refine V_aload_n e_X7_become_17 rfl rfl ?_
  refine V_getiv (v := σ m 2) e_X7_become_18 F_X7_heading f_X7_16 hm (by simp only [up2_ne hne]) ?_
  refine V_puti e_X7_become_21 F_X7_heading f_X7_16 hn ?_
  refine V_aload_n e_X7_become_24 rfl rfl ?_
  refine V_aload_n e_X7_become_25 rfl rfl ?_
  refine V_getiv (v := σ m 3) e_X7_become_26 F_X7_fish f_X7_19 hm (by simp only [up2_ne hne]) ?_
  refine V_puti e_X7_become_29 F_X7_fish f_X7_19 hn ?_
  refine V_aload_n e_X7_become_32 rfl rfl ?_
  refine V_aload_n e_X7_become_33 rfl rfl ?_
  refine V_getiv (v := σ m 4) e_X7_become_34 F_X7_hunger f_X7_22 hm (by simp only [up2_ne hne]) ?_
  refine V_puti e_X7_become_37 F_X7_hunger f_X7_22 hn ?_
  refine V_aload_n e_X7_become_40 rfl rfl ?_
  refine V_aload_n e_X7_become_41 rfl rfl ?_
  refine V_getiv (v := σ m 5) e_X7_become_42 F_X7_inside f_X7_25 hm (by simp only [up2_ne hne]) ?_
  refine V_putz e_X7_become_45 F_X7_inside f_X7_25 hn (by first | exact (hbz.wk hm).1 | exact (hbz.wk hm).2) ?_
  refine V_aload_n e_X7_become_48 rfl rfl ?_
  refine V_aload_n e_X7_become_49 rfl rfl ?_
  refine V_getiv (v := σ m 6) e_X7_become_50 F_X7_stays f_X7_29 hm (by simp only [up2_ne hne]) ?_
  refine V_putz e_X7_become_53 F_X7_stays f_X7_29 hn (by first | exact (hbz.wk hm).1 | exact (hbz.wk hm).2) ?_
  exact V_vret e_X7_become_56 rfl (rfl)

theorem rG0 {E : En} {b L : Nat} {xs : Nat → Int32} {n : Nat} (h : n ≤ 307) : rmG (kL0 E b L xs) n := ⟨by show n - 0 ≤ 600000; omega, by show 2000 * (n - 0) ≤ 7302250; omega⟩
theorem law_start (E : En) (b L : Nat) (xs : Nat → Int32) (hL : L ≤ 3584) : VG E m_L_law (kL0 E b L xs) 0 [some (.ref b), none, none, none] [] (0, [], σz) := by
  refine VG_new e_L_law_0 nd_8 cl_L_7 rfl (rG0 (by decide)) ?_
  refine VG_dup e_L_law_3 rfl ?_
  refine VG_init e_L_law_4 (i_X8 E) l_L_9 sI_X8 (by decide) ⟨Nat.le_of_ble_eq_true rfl, Nat.le_of_ble_eq_true rfl, rG0 (by decide)⟩ (Nat.le_of_ble_eq_true rfl) ?_
  refine VG_astore_n (L' := [some (.ref b), some (.ref (eB E + 0)), none, none]) e_L_law_7 rfl rfl ?_
  refine VG_new e_L_law_8 nd_9 cl_L_10 rfl (rG0 (by decide)) ?_
  refine VG_dup e_L_law_11 rfl ?_
  refine VG_init e_L_law_12 (i_X9 E (rwS 8)) l_L_12 sI_X9 (by decide) ⟨Nat.le_of_ble_eq_true rfl, Nat.le_of_ble_eq_true rfl, rG0 (by decide)⟩ (Nat.le_of_ble_eq_true rfl) ?_
  refine VG_astore_n (L' := [some (.ref b), some (.ref (eB E + 0)), some (.ref (eB E + 292)), none]) e_L_law_15 rfl rfl ?_
  refine VG_iconst (v := nI 0) e_L_law_16 (by decide) ?_
  refine VG_istore_n (L' := [some (.ref b), some (.ref (eB E + 0)), some (.ref (eB E + 292)), some (.int (nI 0))]) e_L_law_17 rfl rfl ?_
  exact V_grown rfl (law_loop E b L xs hL L 0 (by omega) (by omega) S1 σ1 IC1 IM1)
theorem st_0 {args : Array Value} {s : State} (hgv : (Jvm.Cond.and given_1 narrow_1).before args s = true) (hts : ∀ w ∈ gw, w.before args s = true) (hl : (Cond.laysStatic RX1 "SIZE_BODIES" "[I").before args s = true) : ∃ t : Nat, va_Z RX1 (sN 0) "[I" (.ref t) (fun q => s.heap.size ≤ q) s s.heap ∧ va_T .int t 6 (fun j => .int (sT 0 j)) (fun q => s.heap.size ≤ q) s s.heap := by
  have hs := flat_of_before _ hgv
  obtain ⟨t, h1, h2⟩ := va_Tof (tm := (.static RX1 "SIZE_BODIES" "[I")) (ty := .int) (N := 6) (f := fun j => .int (sT 0 j)) (A := fun q => s.heap.size ≤ q) (by decide) (hs (.arrayOf (.static RX1 "SIZE_BODIES" "[I") .int) (by decide +kernel)) (va_eqt (hs (.eq (.length (.static RX1 "SIZE_BODIES" "[I")) (.int 6)) (by decide +kernel))) (fun j hj => by
    rcases (show j = 0 ∨ j = 1 ∨ j = 2 ∨ j = 3 ∨ j = 4 ∨ j = 5 by omega) with rfl | rfl | rfl | rfl | rfl | rfl
    · exact va_eqt (hs (.eq (.elem (.static RX1 "SIZE_BODIES" "[I") (.int 0)) (.int 10)) (by decide +kernel))
    · exact va_eqt (hs (.eq (.elem (.static RX1 "SIZE_BODIES" "[I") (.int 1)) (.int 11)) (by decide +kernel))
    · exact va_eqt (hs (.eq (.elem (.static RX1 "SIZE_BODIES" "[I") (.int 2)) (.int 12)) (by decide +kernel))
    · exact va_eqt (hs (.eq (.elem (.static RX1 "SIZE_BODIES" "[I") (.int 3)) (.int 11)) (by decide +kernel))
    · exact va_eqt (hs (.eq (.elem (.static RX1 "SIZE_BODIES" "[I") (.int 4)) (.int 13)) (by decide +kernel))
    · exact va_eqt (hs (.eq (.elem (.static RX1 "SIZE_BODIES" "[I") (.int 5)) (.int 14)) (by decide +kernel))) (fun a h1 h2 => absurd h1 (Nat.not_lt.mpr h2))
  exact ⟨t, va_Zof hl (hts _ in_X1_i) h1 (fun a h1 h2 => absurd h1 (Nat.not_lt.mpr h2)), h2⟩
theorem st_1 {args : Array Value} {s : State} (hgv : (Jvm.Cond.and given_1 narrow_1).before args s = true) (hts : ∀ w ∈ gw, w.before args s = true) (hl : (Cond.laysStatic RX1 "MARK_BODIES" "[I").before args s = true) : ∃ t : Nat, va_Z RX1 (sN 1) "[I" (.ref t) (fun q => s.heap.size ≤ q) s s.heap ∧ va_T .int t 6 (fun j => .int (sT 1 j)) (fun q => s.heap.size ≤ q) s s.heap := by
  have hs := flat_of_before _ hgv
  obtain ⟨t, h1, h2⟩ := va_Tof (tm := (.static RX1 "MARK_BODIES" "[I")) (ty := .int) (N := 6) (f := fun j => .int (sT 1 j)) (A := fun q => s.heap.size ≤ q) (by decide) (hs (.arrayOf (.static RX1 "MARK_BODIES" "[I") .int) (by decide +kernel)) (va_eqt (hs (.eq (.length (.static RX1 "MARK_BODIES" "[I")) (.int 6)) (by decide +kernel))) (fun j hj => by
    rcases (show j = 0 ∨ j = 1 ∨ j = 2 ∨ j = 3 ∨ j = 4 ∨ j = 5 by omega) with rfl | rfl | rfl | rfl | rfl | rfl
    · exact va_eqt (hs (.eq (.elem (.static RX1 "MARK_BODIES" "[I") (.int 0)) (.int 20)) (by decide +kernel))
    · exact va_eqt (hs (.eq (.elem (.static RX1 "MARK_BODIES" "[I") (.int 1)) (.int 21)) (by decide +kernel))
    · exact va_eqt (hs (.eq (.elem (.static RX1 "MARK_BODIES" "[I") (.int 2)) (.int 24)) (by decide +kernel))
    · exact va_eqt (hs (.eq (.elem (.static RX1 "MARK_BODIES" "[I") (.int 3)) (.int 22)) (by decide +kernel))
    · exact va_eqt (hs (.eq (.elem (.static RX1 "MARK_BODIES" "[I") (.int 4)) (.int 23)) (by decide +kernel))
    · exact va_eqt (hs (.eq (.elem (.static RX1 "MARK_BODIES" "[I") (.int 5)) (.int 23)) (by decide +kernel))) (fun a h1 h2 => absurd h1 (Nat.not_lt.mpr h2))
  exact ⟨t, va_Zof hl (hts _ in_X1_i) h1 (fun a h1 h2 => absurd h1 (Nat.not_lt.mpr h2)), h2⟩
theorem st_2 {args : Array Value} {s : State} (hgv : (Jvm.Cond.and given_1 narrow_1).before args s = true) (hts : ∀ w ∈ gw, w.before args s = true) (hl : (Cond.laysStatic RX1 "KINDS_IT_IS" "[I").before args s = true) : ∃ t : Nat, va_Z RX1 (sN 2) "[I" (.ref t) (fun q => s.heap.size ≤ q) s s.heap ∧ va_T .int t 6 (fun j => .int (sT 2 j)) (fun q => s.heap.size ≤ q) s s.heap := by
  have hs := flat_of_before _ hgv
  obtain ⟨t, h1, h2⟩ := va_Tof (tm := (.static RX1 "KINDS_IT_IS" "[I")) (ty := .int) (N := 6) (f := fun j => .int (sT 2 j)) (A := fun q => s.heap.size ≤ q) (by decide) (hs (.arrayOf (.static RX1 "KINDS_IT_IS" "[I") .int) (by decide +kernel)) (va_eqt (hs (.eq (.length (.static RX1 "KINDS_IT_IS" "[I")) (.int 6)) (by decide +kernel))) (fun j hj => by
    rcases (show j = 0 ∨ j = 1 ∨ j = 2 ∨ j = 3 ∨ j = 4 ∨ j = 5 by omega) with rfl | rfl | rfl | rfl | rfl | rfl
    · exact va_eqt (hs (.eq (.elem (.static RX1 "KINDS_IT_IS" "[I") (.int 0)) (.int 1)) (by decide +kernel))
    · exact va_eqt (hs (.eq (.elem (.static RX1 "KINDS_IT_IS" "[I") (.int 1)) (.int 3)) (by decide +kernel))
    · exact va_eqt (hs (.eq (.elem (.static RX1 "KINDS_IT_IS" "[I") (.int 2)) (.int 7)) (by decide +kernel))
    · exact va_eqt (hs (.eq (.elem (.static RX1 "KINDS_IT_IS" "[I") (.int 3)) (.int 11)) (by decide +kernel))
    · exact va_eqt (hs (.eq (.elem (.static RX1 "KINDS_IT_IS" "[I") (.int 4)) (.int 17)) (by decide +kernel))
    · exact va_eqt (hs (.eq (.elem (.static RX1 "KINDS_IT_IS" "[I") (.int 5)) (.int 49)) (by decide +kernel))) (fun a h1 h2 => absurd h1 (Nat.not_lt.mpr h2))
  exact ⟨t, va_Zof hl (hts _ in_X1_i) h1 (fun a h1 h2 => absurd h1 (Nat.not_lt.mpr h2)), h2⟩
theorem ls_0 : Cond.laysStatic RX1 "SIZE_BODIES" "[I" ∈ lw_tbl := tb_in 809 (by decide +kernel)
theorem ls_1 : Cond.laysStatic RX1 "MARK_BODIES" "[I" ∈ lw_tbl := tb_in 811 (by decide +kernel)
theorem ls_2 : Cond.laysStatic RX1 "KINDS_IT_IS" "[I" ∈ lw_tbl := tb_in 798 (by decide +kernel)
theorem ao_3 : Cond.arrayOver (.object RX3) ∈ lw_tbl := tb_in 23 (by decide +kernel)
theorem ao_5 : Cond.arrayOver (.object RX5) ∈ lw_tbl := tb_in 170 (by decide +kernel)
theorem ao_7 : Cond.arrayOver (.object RX7) ∈ lw_tbl := tb_in 69 (by decide +kernel)
theorem arr_i {args : Array Value} {s : State} {ty : FieldType} (h : (Cond.arrayClass ty).before args s = true) : ∃ cA, ArrOfT s cA ty ∧ s.vm.findClass ("[" ++ ty.toString) = some cA := by
  obtain ⟨cA, kA, comp, h1, h2, h3⟩ := Cond.arrayClass_spec h
  exact ⟨cA, fun n z => ⟨fun k h => (by cases h), kA, h2, comp, h3⟩, h1⟩
theorem arr_q {args : Array Value} {s : State} {C : String} (h : (Cond.arrayOver (.object C)).before args s = true) : ∃ cA, ArrOfT s cA (.object C) ∧ va_RA s cA (.object C) := by
  obtain ⟨comp, cA, kA, h1, -, h2, h3, h4⟩ := Cond.arrayOver_spec h
  exact ⟨cA, fun n z => ⟨fun k h => (by cases h), kA, h2, comp, h3⟩, kA, comp, h2, h3, h1, h4⟩
/-- the fixed things of a start -/
theorem en_of {b : Nat} {s : State} (hts : ∀ w ∈ lw_tbl, w.before #[Value.ref b] s = true) (hgv : (Jvm.Cond.and given_1 narrow_1).before #[Value.ref b] s = true) : ∃ E : En, eB E = s.heap.size ∧ cx E s ∧ aoG s := by
  have htg : ∀ w ∈ gw, w.before #[Value.ref b] s = true := fun w hw => hts w (List.mem_filter.mp hw).1
  obtain ⟨c0, s0, k0⟩ := u_known (C := RX0) (T := TX0) (N := 3) (n := 3) htg in_X0 (htg (.instantiable RX0 3) (tg_in 172 (by decide +kernel) rfl))
  obtain ⟨c1, s1, k1⟩ := u_known (C := RX1) (T := TX1) (N := 2) (n := 2) htg in_X1 (htg (.instantiable RX1 2) (tg_in 231 (by decide +kernel) rfl))
  obtain ⟨c2, s2, k2⟩ := u_known (C := RX2) (T := TX2) (N := 5) (n := 5) htg in_X2 (htg (.instantiable RX2 5) (tg_in 209 (by decide +kernel) rfl))
  obtain ⟨c3, s3, k3⟩ := u_known (C := RX3) (T := TX3) (N := 4) (n := 4) htg in_X3 (htg (.instantiable RX3 4) (tg_in 245 (by decide +kernel) rfl))
  obtain ⟨c4, s4, k4⟩ := u_known (C := RX4) (T := TX4) (N := 3) (n := 3) htg in_X4 (htg (.instantiable RX4 3) (tg_in 191 (by decide +kernel) rfl))
  obtain ⟨c5, s5, k5⟩ := u_known (C := RX5) (T := TX5) (N := 10) (n := 10) htg in_X5 (htg (.instantiable RX5 10) (tg_in 63 (by decide +kernel) rfl))
  obtain ⟨c6, s6, k6⟩ := u_known (C := RX6) (T := TX6) (N := 9) (n := 9) htg in_X6 (htg (.instantiable RX6 9) (tg_in 25 (by decide +kernel) rfl))
  obtain ⟨c7, s7, k7⟩ := u_known (C := RX7) (T := TX7) (N := 7) (n := 7) htg in_X7 (htg (.instantiable RX7 7) (tg_in 70 (by decide +kernel) rfl))
  obtain ⟨c8, s8, k8⟩ := u_known (C := RX8) (T := TX8) (N := 12) (n := 12) htg in_X8 (htg (.instantiable RX8 12) (tg_in 15 (by decide +kernel) rfl))
  obtain ⟨c9, s9, k9⟩ := u_known (C := RX9) (T := TX9) (N := 26) (n := 26) htg in_X9 (htg (.instantiable RX9 26) (tg_in 839 (by decide +kernel) rfl))
  obtain ⟨a0, p0, q0⟩ := arr_i (htg _ ac_i)
  obtain ⟨a1, p1, q1⟩ := arr_i (htg _ ac_z)
  obtain ⟨a2, p2, q2⟩ := arr_q (hts _ ao_3)
  obtain ⟨a3, p3, q3⟩ := arr_q (hts _ ao_5)
  obtain ⟨a4, p4, q4⟩ := arr_q (hts _ ao_7)
  obtain ⟨t0, z0, y0⟩ := st_0 hgv htg (hts _ ls_0)
  obtain ⟨t1, z1, y1⟩ := st_1 hgv htg (hts _ ls_1)
  obtain ⟨t2, z2, y2⟩ := st_2 hgv htg (hts _ ls_2)
  refine ⟨(s.heap.size, (fun k => [c0, c1, c2, c3, c4, c5, c6, c7, c8, c9].getD k c0, fun k => [s0, s1, s2, s3, s4, s5, s6, s7, s8, s9].getD k s0), fun k => [a0, a1, a2, a3, a4].getD (k - 10) a0, fun i => [t0, t1, t2].getD i t0), rfl, ⟨⟨fun k q hq => ?_, fun k q hq => ?_⟩, fun a i x h hm => va_Nw.of rfl (hts _ hm), fun i hi => ?_⟩, hts _ ao_3, hts _ ao_5, hts _ ao_7⟩
  · match k, hq with
    | 0, hq => cases hq; exact k0
    | 1, hq => cases hq; exact k1
    | 2, hq => cases hq; exact k2
    | 3, hq => cases hq; exact k3
    | 4, hq => cases hq; exact k4
    | 5, hq => cases hq; exact k5
    | 6, hq => cases hq; exact k6
    | 7, hq => cases hq; exact k7
    | 8, hq => cases hq; exact k8
    | 9, hq => cases hq; exact k9
    | k + 10, hq => simp [vwCl] at hq
  · match k, hq with
    | 0, hq => cases hq; exact ⟨p0, q0⟩
    | 1, hq => cases hq; exact ⟨p1, q1⟩
    | 2, hq => cases hq; exact ⟨p2, q2⟩
    | 3, hq => cases hq; exact ⟨p3, q3⟩
    | 4, hq => cases hq; exact ⟨p4, q4⟩
    | k + 5, hq => simp [tys] at hq
  · rcases (show i = 0 ∨ i = 1 ∨ i = 2 by omega) with rfl | rfl | rfl
    · exact ⟨z0, y0⟩
    · exact ⟨z1, y1⟩
    · exact ⟨z2, y2⟩
/-- from the entry, for every script of at most 3584 ints, the law comes to its end with true -/
theorem whole_start {p : Program} {e : Env} {s : State} {m : MethodId} {below : List Frame} {meth : Method} {c : Code} (l : Launch) {b L : Nat} {xs : Nat → Int32} (hL : L ≤ 3584) (C0 : lw_At p s m meth c b L xs) : W p l e room_1 s m #[Value.ref b] below meth c s.heap [] 0 0 (lw_Z below #[Value.ref b] s) (entryFrame m ([Value.ref b] : List Value).toArray 4) := by
  obtain ⟨hx, hb, hr, hml, hown, hts, hX, hbl, hlocks, hgv⟩ := id C0
  obtain ⟨E, hE, hcx, hao⟩ := en_of hts hgv
  have hV := law_start E b L xs hL p l e s m #[Value.ref b] below meth c s.heap [] _ ⟨hx, hb, hml, hown, fun w hw => hts w (List.mem_filter.mp hw).1, hr, hlocks, hcx, ⟨rfl, hE, hX, hbl⟩⟩ ⟨fun h => absurd h (by decide), hao⟩ (Nat.le_of_eq hE) ⟨Nat.le_refl _, Nat.zero_le _, fun _ _ _ => rfl⟩ hE.symm (fun k q h => by simp [wg] at h) va_S.rf (lo.of (lv_entry [.ref b] (n := 4) (Nat.le_of_ble_eq_true rfl)) rfl)
  rw [lg_entry_eq]
  exact hV

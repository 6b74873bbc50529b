def fd (ci k : Nat) (C nm ds : String) (r fin : Bool) : Prop := ∃ (T : u_T) (N : Nat) (ty0 : Nat → FieldType), vwCl[ci]? = some (C, T, N) ∧ (∀ w ∈ u_ws C T N, w ∈ gw) ∧ T k = (C, nm, ds, fin) ∧ k < N ∧ isR ci k = r ∧ (∀ k, k < N → parseFieldDescriptor (T k).2.2.1 = some (ty0 k)) ∧ (∀ a, a < N → ∀ b, b < N → a ≠ b → (T a).2.1 ≠ (T b).2.1) ∧ nf ci = N ∧ ci < 10 ∧ (ds = "I" → isZ ci k = false)
theorem F_X0_kept : fd 0 0 RX0 "kept" "[LJawShores$Shore;" true true := ⟨TX0, 3, tyX0, rfl, in_X0, rfl, by decide, rfl, tyX0_ok, nmX0, rfl, by decide, by decide⟩
theorem F_X0_oldest : fd 0 1 RX0 "oldest" "I" false false := ⟨TX0, 3, tyX0, rfl, in_X0, rfl, by decide, rfl, tyX0_ok, nmX0, rfl, by decide, by decide⟩
theorem F_X0_size : fd 0 2 RX0 "size" "I" false false := ⟨TX0, 3, tyX0, rfl, in_X0, rfl, by decide, rfl, tyX0_ok, nmX0, rfl, by decide, by decide⟩
theorem F_X1_traced : fd 1 0 RX1 "traced" "[I" true true := ⟨TX1, 2, tyX1, rfl, in_X1, rfl, by decide, rfl, tyX1_ok, nmX1, rfl, by decide, by decide⟩
theorem F_X1_traceSize : fd 1 1 RX1 "traceSize" "I" false false := ⟨TX1, 2, tyX1, rfl, in_X1, rfl, by decide, rfl, tyX1_ok, nmX1, rfl, by decide, by decide⟩
theorem F_X2_hours : fd 2 0 RX2 "hours" "[I" true true := ⟨TX2, 5, tyX2, rfl, in_X2, rfl, by decide, rfl, tyX2_ok, nmX2, rfl, by decide, by decide⟩
theorem F_X2_firstMoves : fd 2 1 RX2 "firstMoves" "[I" true true := ⟨TX2, 5, tyX2, rfl, in_X2, rfl, by decide, rfl, tyX2_ok, nmX2, rfl, by decide, by decide⟩
theorem F_X2_reached : fd 2 2 RX2 "reached" "[I" true true := ⟨TX2, 5, tyX2, rfl, in_X2, rfl, by decide, rfl, tyX2_ok, nmX2, rfl, by decide, by decide⟩
theorem F_X2_reachedCount : fd 2 3 RX2 "reachedCount" "I" false false := ⟨TX2, 5, tyX2, rfl, in_X2, rfl, by decide, rfl, tyX2_ok, nmX2, rfl, by decide, by decide⟩
theorem F_X2_farthest : fd 2 4 RX2 "farthest" "I" false false := ⟨TX2, 5, tyX2, rfl, in_X2, rfl, by decide, rfl, tyX2_ok, nmX2, rfl, by decide, by decide⟩
theorem F_X3_items : fd 3 0 RX3 "items" "[I" true true := ⟨TX3, 4, tyX3, rfl, in_X3, rfl, by decide, rfl, tyX3_ok, nmX3, rfl, by decide, by decide⟩
theorem F_X3_missing : fd 3 1 RX3 "missing" "Z" false false := ⟨TX3, 4, tyX3, rfl, in_X3, rfl, by decide, rfl, tyX3_ok, nmX3, rfl, by decide, by decide⟩
theorem F_X3_lane : fd 3 2 RX3 "lane" "I" false false := ⟨TX3, 4, tyX3, rfl, in_X3, rfl, by decide, rfl, tyX3_ok, nmX3, rfl, by decide, by decide⟩
theorem F_X3_size : fd 3 3 RX3 "size" "I" false false := ⟨TX3, 4, tyX3, rfl, in_X3, rfl, by decide, rfl, tyX3_ok, nmX3, rfl, by decide, by decide⟩
theorem F_X4_trial : fd 4 0 RX4 "trial" "LJawShores$Shore;" true true := ⟨TX4, 3, tyX4, rfl, in_X4, rfl, by decide, rfl, tyX4_ok, nmX4, rfl, by decide, by decide⟩
theorem F_X4_dinners : fd 4 1 RX4 "dinners" "[I" true true := ⟨TX4, 3, tyX4, rfl, in_X4, rfl, by decide, rfl, tyX4_ok, nmX4, rfl, by decide, by decide⟩
theorem F_X4_dinnersTold : fd 4 2 RX4 "dinnersTold" "I" false false := ⟨TX4, 3, tyX4, rfl, in_X4, rfl, by decide, rfl, tyX4_ok, nmX4, rfl, by decide, by decide⟩
theorem F_X5_dinner : fd 5 0 RX5 "dinner" "I" false false := ⟨TX5, 10, tyX5, rfl, in_X5, rfl, by decide, rfl, tyX5_ok, nmX5, rfl, by decide, by decide⟩
theorem F_X5_toll : fd 5 1 RX5 "toll" "I" false false := ⟨TX5, 10, tyX5, rfl, in_X5, rfl, by decide, rfl, tyX5_ok, nmX5, rfl, by decide, by decide⟩
theorem F_X5_day : fd 5 2 RX5 "day" "I" false false := ⟨TX5, 10, tyX5, rfl, in_X5, rfl, by decide, rfl, tyX5_ok, nmX5, rfl, by decide, by decide⟩
theorem F_X5_gates : fd 5 3 RX5 "gates" "I" false false := ⟨TX5, 10, tyX5, rfl, in_X5, rfl, by decide, rfl, tyX5_ok, nmX5, rfl, by decide, by decide⟩
theorem F_X5_people : fd 5 4 RX5 "people" "I" false false := ⟨TX5, 10, tyX5, rfl, in_X5, rfl, by decide, rfl, tyX5_ok, nmX5, rfl, by decide, by decide⟩
theorem F_X5_facing : fd 5 5 RX5 "facing" "I" false false := ⟨TX5, 10, tyX5, rfl, in_X5, rfl, by decide, rfl, tyX5_ok, nmX5, rfl, by decide, by decide⟩
theorem F_X5_fallen : fd 5 6 RX5 "fallen" "I" false false := ⟨TX5, 10, tyX5, rfl, in_X5, rfl, by decide, rfl, tyX5_ok, nmX5, rfl, by decide, by decide⟩
theorem F_X5_sorts : fd 5 7 RX5 "sorts" "[I" true true := ⟨TX5, 10, tyX5, rfl, in_X5, rfl, by decide, rfl, tyX5_ok, nmX5, rfl, by decide, by decide⟩
theorem F_X5_lengths : fd 5 8 RX5 "lengths" "[I" true true := ⟨TX5, 10, tyX5, rfl, in_X5, rfl, by decide, rfl, tyX5_ok, nmX5, rfl, by decide, by decide⟩
theorem F_X5_walkers : fd 5 9 RX5 "walkers" "[LJawShores$Walker;" true true := ⟨TX5, 10, tyX5, rfl, in_X5, rfl, by decide, rfl, tyX5_ok, nmX5, rfl, by decide, by decide⟩
theorem F_X6_bytes : fd 6 0 RX6 "bytes" "[I" true true := ⟨TX6, 9, tyX6, rfl, in_X6, rfl, by decide, rfl, tyX6_ok, nmX6, rfl, by decide, by decide⟩
theorem F_X6_size : fd 6 1 RX6 "size" "I" false false := ⟨TX6, 9, tyX6, rfl, in_X6, rfl, by decide, rfl, tyX6_ok, nmX6, rfl, by decide, by decide⟩
theorem F_X6_faultNumber : fd 6 2 RX6 "faultNumber" "I" false false := ⟨TX6, 9, tyX6, rfl, in_X6, rfl, by decide, rfl, tyX6_ok, nmX6, rfl, by decide, by decide⟩
theorem F_X6_faultPlace : fd 6 3 RX6 "faultPlace" "I" false false := ⟨TX6, 9, tyX6, rfl, in_X6, rfl, by decide, rfl, tyX6_ok, nmX6, rfl, by decide, by decide⟩
theorem F_X6_place : fd 6 4 RX6 "place" "I" false false := ⟨TX6, 9, tyX6, rfl, in_X6, rfl, by decide, rfl, tyX6_ok, nmX6, rfl, by decide, by decide⟩
theorem F_X6_behind : fd 6 5 RX6 "behind" "I" false false := ⟨TX6, 9, tyX6, rfl, in_X6, rfl, by decide, rfl, tyX6_ok, nmX6, rfl, by decide, by decide⟩
theorem F_X6_token : fd 6 6 RX6 "token" "I" false false := ⟨TX6, 9, tyX6, rfl, in_X6, rfl, by decide, rfl, tyX6_ok, nmX6, rfl, by decide, by decide⟩
theorem F_X6_value : fd 6 7 RX6 "value" "I" false false := ⟨TX6, 9, tyX6, rfl, in_X6, rfl, by decide, rfl, tyX6_ok, nmX6, rfl, by decide, by decide⟩
theorem F_X6_taken : fd 6 8 RX6 "taken" "I" false false := ⟨TX6, 9, tyX6, rfl, in_X6, rfl, by decide, rfl, tyX6_ok, nmX6, rfl, by decide, by decide⟩
theorem F_X7_at : fd 7 0 RX7 "at" "I" false false := ⟨TX7, 7, tyX7, rfl, in_X7, rfl, by decide, rfl, tyX7_ok, nmX7, rfl, by decide, by decide⟩
theorem F_X7_of : fd 7 1 RX7 "of" "I" false false := ⟨TX7, 7, tyX7, rfl, in_X7, rfl, by decide, rfl, tyX7_ok, nmX7, rfl, by decide, by decide⟩
theorem F_X7_heading : fd 7 2 RX7 "heading" "I" false false := ⟨TX7, 7, tyX7, rfl, in_X7, rfl, by decide, rfl, tyX7_ok, nmX7, rfl, by decide, by decide⟩
theorem F_X7_fish : fd 7 3 RX7 "fish" "I" false false := ⟨TX7, 7, tyX7, rfl, in_X7, rfl, by decide, rfl, tyX7_ok, nmX7, rfl, by decide, by decide⟩
theorem F_X7_hunger : fd 7 4 RX7 "hunger" "I" false false := ⟨TX7, 7, tyX7, rfl, in_X7, rfl, by decide, rfl, tyX7_ok, nmX7, rfl, by decide, by decide⟩
theorem F_X7_inside : fd 7 5 RX7 "inside" "Z" false false := ⟨TX7, 7, tyX7, rfl, in_X7, rfl, by decide, rfl, tyX7_ok, nmX7, rfl, by decide, by decide⟩
theorem F_X7_stays : fd 7 6 RX7 "stays" "Z" false false := ⟨TX7, 7, tyX7, rfl, in_X7, rfl, by decide, rfl, tyX7_ok, nmX7, rfl, by decide, by decide⟩
theorem F_X8_rows : fd 8 0 RX8 "rows" "[LJawShores$Row;" true true := ⟨TX8, 12, tyX8, rfl, in_X8, rfl, by decide, rfl, tyX8_ok, nmX8, rfl, by decide, by decide⟩
theorem F_X8_tape : fd 8 1 RX8 "tape" "LJawShores$Tape;" true true := ⟨TX8, 12, tyX8, rfl, in_X8, rfl, by decide, rfl, tyX8_ok, nmX8, rfl, by decide, by decide⟩
theorem F_X8_now : fd 8 2 RX8 "now" "LJawShores$Shore;" true true := ⟨TX8, 12, tyX8, rfl, in_X8, rfl, by decide, rfl, tyX8_ok, nmX8, rfl, by decide, by decide⟩
theorem F_X8_draft : fd 8 3 RX8 "draft" "LJawShores$Shore;" true true := ⟨TX8, 12, tyX8, rfl, in_X8, rfl, by decide, rfl, tyX8_ok, nmX8, rfl, by decide, by decide⟩
theorem F_X8_images : fd 8 4 RX8 "images" "[LJawShores$Shore;" true true := ⟨TX8, 12, tyX8, rfl, in_X8, rfl, by decide, rfl, tyX8_ok, nmX8, rfl, by decide, by decide⟩
theorem F_X8_acts : fd 8 5 RX8 "acts" "LJawShores$Acts;" true true := ⟨TX8, 12, tyX8, rfl, in_X8, rfl, by decide, rfl, tyX8_ok, nmX8, rfl, by decide, by decide⟩
theorem F_X8_seer : fd 8 6 RX8 "seer" "LJawShores$Seer;" true true := ⟨TX8, 12, tyX8, rfl, in_X8, rfl, by decide, rfl, tyX8_ok, nmX8, rfl, by decide, by decide⟩
theorem F_X8_paths : fd 8 7 RX8 "paths" "LJawShores$Paths;" true true := ⟨TX8, 12, tyX8, rfl, in_X8, rfl, by decide, rfl, tyX8_ok, nmX8, rfl, by decide, by decide⟩
theorem F_X8_asks : fd 8 8 RX8 "asks" "LJawShores$Asks;" true true := ⟨TX8, 12, tyX8, rfl, in_X8, rfl, by decide, rfl, tyX8_ok, nmX8, rfl, by decide, by decide⟩
theorem F_X8_imagesKept : fd 8 9 RX8 "imagesKept" "I" false false := ⟨TX8, 12, tyX8, rfl, in_X8, rfl, by decide, rfl, tyX8_ok, nmX8, rfl, by decide, by decide⟩
theorem F_X8_latestFault : fd 8 10 RX8 "latestFault" "I" false false := ⟨TX8, 12, tyX8, rfl, in_X8, rfl, by decide, rfl, tyX8_ok, nmX8, rfl, by decide, by decide⟩
theorem F_X8_latestFinding : fd 8 11 RX8 "latestFinding" "I" false false := ⟨TX8, 12, tyX8, rfl, in_X8, rfl, by decide, rfl, tyX8_ok, nmX8, rfl, by decide, by decide⟩
theorem F_X9_thrown : fd 9 0 RX9 "thrown" "I" false false := ⟨TX9, 26, tyX9, rfl, in_X9, rfl, by decide, rfl, tyX9_ok, nmX9, rfl, by decide, by decide⟩
theorem F_X9_status : fd 9 1 RX9 "status" "I" false false := ⟨TX9, 26, tyX9, rfl, in_X9, rfl, by decide, rfl, tyX9_ok, nmX9, rfl, by decide, by decide⟩
theorem F_X9_lane : fd 9 2 RX9 "lane" "[I" true true := ⟨TX9, 26, tyX9, rfl, in_X9, rfl, by decide, rfl, tyX9_ok, nmX9, rfl, by decide, by decide⟩
theorem F_X9_many : fd 9 3 RX9 "many" "[I" true true := ⟨TX9, 26, tyX9, rfl, in_X9, rfl, by decide, rfl, tyX9_ok, nmX9, rfl, by decide, by decide⟩
theorem F_X9_item : fd 9 4 RX9 "item" "[I" true true := ⟨TX9, 26, tyX9, rfl, in_X9, rfl, by decide, rfl, tyX9_ok, nmX9, rfl, by decide, by decide⟩
theorem F_X9_shore : fd 9 5 RX9 "shore" "[I" true true := ⟨TX9, 26, tyX9, rfl, in_X9, rfl, by decide, rfl, tyX9_ok, nmX9, rfl, by decide, by decide⟩
theorem F_X9_fresh : fd 9 6 RX9 "fresh" "[I" true true := ⟨TX9, 26, tyX9, rfl, in_X9, rfl, by decide, rfl, tyX9_ok, nmX9, rfl, by decide, by decide⟩
theorem F_X9_then : fd 9 7 RX9 "then" "[I" true true := ⟨TX9, 26, tyX9, rfl, in_X9, rfl, by decide, rfl, tyX9_ok, nmX9, rfl, by decide, by decide⟩
theorem F_X9_was : fd 9 8 RX9 "was" "[I" true true := ⟨TX9, 26, tyX9, rfl, in_X9, rfl, by decide, rfl, tyX9_ok, nmX9, rfl, by decide, by decide⟩
theorem F_X9_acts : fd 9 9 RX9 "acts" "I" false false := ⟨TX9, 26, tyX9, rfl, in_X9, rfl, by decide, rfl, tyX9_ok, nmX9, rfl, by decide, by decide⟩
theorem F_X9_tape : fd 9 10 RX9 "tape" "[I" true true := ⟨TX9, 26, tyX9, rfl, in_X9, rfl, by decide, rfl, tyX9_ok, nmX9, rfl, by decide, by decide⟩
theorem F_X9_taped : fd 9 11 RX9 "taped" "I" false false := ⟨TX9, 26, tyX9, rfl, in_X9, rfl, by decide, rfl, tyX9_ok, nmX9, rfl, by decide, by decide⟩
theorem F_X9_cursor : fd 9 12 RX9 "cursor" "I" false false := ⟨TX9, 26, tyX9, rfl, in_X9, rfl, by decide, rfl, tyX9_ok, nmX9, rfl, by decide, by decide⟩
theorem F_X9_start : fd 9 13 RX9 "start" "I" false false := ⟨TX9, 26, tyX9, rfl, in_X9, rfl, by decide, rfl, tyX9_ok, nmX9, rfl, by decide, by decide⟩
theorem F_X9_token : fd 9 14 RX9 "token" "I" false false := ⟨TX9, 26, tyX9, rfl, in_X9, rfl, by decide, rfl, tyX9_ok, nmX9, rfl, by decide, by decide⟩
theorem F_X9_value : fd 9 15 RX9 "value" "I" false false := ⟨TX9, 26, tyX9, rfl, in_X9, rfl, by decide, rfl, tyX9_ok, nmX9, rfl, by decide, by decide⟩
theorem F_X9_fault : fd 9 16 RX9 "fault" "I" false false := ⟨TX9, 26, tyX9, rfl, in_X9, rfl, by decide, rfl, tyX9_ok, nmX9, rfl, by decide, by decide⟩
theorem F_X9_faultAt : fd 9 17 RX9 "faultAt" "I" false false := ⟨TX9, 26, tyX9, rfl, in_X9, rfl, by decide, rfl, tyX9_ok, nmX9, rfl, by decide, by decide⟩
theorem F_X9_latest : fd 9 18 RX9 "latest" "I" false false := ⟨TX9, 26, tyX9, rfl, in_X9, rfl, by decide, rfl, tyX9_ok, nmX9, rfl, by decide, by decide⟩
theorem F_X9_hours : fd 9 19 RX9 "hours" "[I" true true := ⟨TX9, 26, tyX9, rfl, in_X9, rfl, by decide, rfl, tyX9_ok, nmX9, rfl, by decide, by decide⟩
theorem F_X9_rowsTo : fd 9 20 RX9 "rowsTo" "[I" true true := ⟨TX9, 26, tyX9, rfl, in_X9, rfl, by decide, rfl, tyX9_ok, nmX9, rfl, by decide, by decide⟩
theorem F_X9_rowsNext : fd 9 21 RX9 "rowsNext" "[I" true true := ⟨TX9, 26, tyX9, rfl, in_X9, rfl, by decide, rfl, tyX9_ok, nmX9, rfl, by decide, by decide⟩
theorem F_X9_isKept : fd 9 22 RX9 "isKept" "[Z" true true := ⟨TX9, 26, tyX9, rfl, in_X9, rfl, by decide, rfl, tyX9_ok, nmX9, rfl, by decide, by decide⟩
theorem F_X9_kept : fd 9 23 RX9 "kept" "[I" true true := ⟨TX9, 26, tyX9, rfl, in_X9, rfl, by decide, rfl, tyX9_ok, nmX9, rfl, by decide, by decide⟩
theorem F_X9_trace : fd 9 24 RX9 "trace" "[I" true true := ⟨TX9, 26, tyX9, rfl, in_X9, rfl, by decide, rfl, tyX9_ok, nmX9, rfl, by decide, by decide⟩
theorem F_X9_traced : fd 9 25 RX9 "traced" "I" false false := ⟨TX9, 26, tyX9, rfl, in_X9, rfl, by decide, rfl, tyX9_ok, nmX9, rfl, by decide, by decide⟩
theorem cell_obj {E : En} {σ : Sg} {n ci : Nat} (hn : kd n = ci) (h : ci < 10) : cell E σ n = .inr (ci, (List.range (nf ci)).map (fv E σ n)) := by
  unfold cell
  rw [hn, if_pos h]
theorem cell_arr {E : En} {σ : Sg} {n ci : Nat} (hn : kd n = ci) (h1 : 10 ≤ ci) (h2 : ci < 12) : cell E σ n = .inl (eA E ci, ln n, .inl (σ n)) := by
  unfold cell
  rw [hn, if_neg (by omega), if_pos h2]
theorem cell_ref {E : En} {σ : Sg} {n ci : Nat} (hn : kd n = ci) (h1 : 12 ≤ ci) : cell E σ n = .inl (eA E ci, ln n, .inr (.inr (.inr (.inr (fun j => some (eB E + rf n j)))))) := by
  unfold cell
  rw [hn, if_neg (by omega), if_neg (by omega)]
theorem cell_put {E : En} {σ : Sg} {n ci k : Nat} {x : Int32} (hn : kd n = ci) (h : ci < 10) (hk : k < nf ci) (hr : isR ci k = false) : cell E (up2 σ n k x) n = .inr (ci, ((List.range (nf ci)).map (fv E σ n)).set k (.int x)) := by
  rw [cell_obj hn h]
  congr 2
  apply List.ext_getElem?
  intro j
  rw [List.getElem?_set, List.getElem?_map, List.length_map, List.length_range]
  by_cases hj : k = j
  · subst hj
    rw [if_pos rfl, if_pos hk, List.getElem?_range hk]
    simp [fv, hn, hr, up2_at]
  · rw [if_neg hj, List.getElem?_map]
    rcases Nat.lt_or_ge j (nf ci) with q | q
    · rw [List.getElem?_range q]
      simp [fv, up2_k (fun e => hj (Eq.symm e))]
    · rw [List.getElem?_eq_none (by rw [List.length_range]; exact q)]
      rfl
theorem nI_cl {j n : Nat} (hj : j < ln n) : (nI j).toNatClampNeg = j := nI_clamp (Nat.lt_trans hj (ln_lt n))
section VH
variable {E : En} {M : Mi} {K : Kk} {pc nx : Nat} {L L' : List (Option Value)} {st : List Value} {σ : Sg}
theorem V_geti {n k idx ci : Nat} {C nm ds : String} {fin : Bool} (h : dq M pc (.getfield idx) 3 nx) (hF : fd ci k C nm ds false fin) (hf : Cond.fieldLink M.1.cls idx C nm ds ∈ gw) (hn : kd n = ci) (k : V E M K nx L (.int (σ n k) :: st) σ) : V E M K pc L (.ref (eB E + n) :: st) σ := by
  obtain ⟨h1, rfl⟩ := h
  obtain ⟨T, N, ty0, hc, hin, hT, hkN, hr, hty, hnm, hnf, h10, hzf⟩ := hF
  intro p l e s m args below meth c H locs ls C hZ hP hS hl
  have he : (ws E σ)[n]? = some (eB E + n, .inr (ci, (List.range N).map (fv E σ n))) := by rw [ws_at (kd_lt (by omega)), cell_obj hn h10, hnf]
  refine va_get C.1 C.2.1 (own := M.1.cls) C.2.2.2.2.1 hin C.2.2.2.1 C.2.2.2.2.2.2.2.1.1 hP n he hc _ hkN (ref := (T _).1) (by rw [hT]; exact C.2.2.2.2.1 _ hf) (fun x hx => hx) ?_ h1 (k p l e s m args below meth c H locs ls C hZ hP hS hl)
  rw [List.getElem?_map, List.getElem?_range hkN]
  simp [fv, hn, hr]
theorem V_getr {n k idx ci r : Nat} {C nm ds : String} {fin : Bool} (h : dq M pc (.getfield idx) 3 nx) (hF : fd ci k C nm ds true fin) (hf : Cond.fieldLink M.1.cls idx C nm ds ∈ gw) (hn : kd n = ci) (hr2 : rf n k = r) (k : V E M K nx L (.ref (eB E + r) :: st) σ) : V E M K pc L (.ref (eB E + n) :: st) σ := by
  obtain ⟨h1, rfl⟩ := h
  obtain ⟨T, N, ty0, hc, hin, hT, hkN, hr, hty, hnm, hnf, h10, hzf⟩ := hF
  intro p l e s m args below meth c H locs ls C hZ hP hS hl
  have he : (ws E σ)[n]? = some (eB E + n, .inr (ci, (List.range N).map (fv E σ n))) := by rw [ws_at (kd_lt (by omega)), cell_obj hn h10, hnf]
  refine va_get C.1 C.2.1 (own := M.1.cls) C.2.2.2.2.1 hin C.2.2.2.1 C.2.2.2.2.2.2.2.1.1 hP n he hc _ hkN (ref := (T _).1) (by rw [hT]; exact C.2.2.2.2.1 _ hf) (fun x hx => hx) ?_ h1 (k p l e s m args below meth c H locs ls C hZ hP hS hl)
  rw [List.getElem?_map, List.getElem?_range hkN]
  simp [fv, hn, hr, hr2]
theorem V_putx {n k idx ci : Nat} {C nm ds : String} {x : Int32} {ty : FieldType} (h : dq M pc (.putfield idx) 3 nx) (hF : fd ci k C nm ds false false) (hf : Cond.fieldLink M.1.cls idx C nm ds ∈ gw) (hn : kd n = ci) (hd : parseFieldDescriptor ds = some ty) (hna : narrow ty (.int x) = .int x) (hfi : fits ty (.int x) = true) (hz : (ds = "I" → isZ ci k = false) → isZ ci k = true → b01 x) (k : V E M K nx L st (up2 σ n k x)) : V E M K pc L (.int x :: .ref (eB E + n) :: st) σ := by
  obtain ⟨h1, rfl⟩ := h
  obtain ⟨T, N, ty0, hc, hin, hT, hkN, hr, hty, hnm, hnf, h10, hzf⟩ := hF
  intro p l e s m args below meth c H locs ls C hZ hP hS hl
  have hlt : n < 307 := kd_lt (by omega)
  have he : (ws E σ)[n]? = some (eB E + n, .inr (ci, (List.range N).map (fv E σ n))) := by rw [ws_at hlt, cell_obj hn h10, hnf]
  refine va_put C.1 C.2.1 (own := M.1.cls) C.2.2.2.2.1 hin ty0 hty hnm C.2.2.2.1 C.2.2.2.2.2.2.2.1.1 hP (ws_D E σ) hS n he hc _ hkN (ref := (T _).1) (by rw [hT]; exact C.2.2.2.2.1 _ hf) (fun x hx => hx) (by rw [hT]) (ty := ty) (by rw [hT]; exact hd) hna hfi (by rw [List.length_map, List.length_range]; exact hkN) h1 (fun H1 locs1 hP1 hD1 hS1 => ?_)
  subst hnf
  rw [ws_set hlt (fun m hm => cell_ne hm) (cell_put hn h10 hkN hr)] at hP1
  exact k p l e s m args below meth c H1 locs1 ls C (hZ.up (by rw [hn]; exact hz hzf)) hP1 hS1 hl
theorem V_puti {n k idx ci : Nat} {C nm : String} {x : Int32} (h : dq M pc (.putfield idx) 3 nx) (hF : fd ci k C nm "I" false false) (hf : Cond.fieldLink M.1.cls idx C nm "I" ∈ gw) (hn : kd n = ci) (k : V E M K nx L st (up2 σ n k x)) : V E M K pc L (.int x :: .ref (eB E + n) :: st) σ :=
  V_putx h hF hf hn (ty := .int) (by decide +kernel) rfl rfl (fun h1 h2 => absurd ((h1 rfl).symm.trans h2) (by decide)) k
theorem V_putz {n k idx ci : Nat} {C nm : String} {x : Int32} (h : dq M pc (.putfield idx) 3 nx) (hF : fd ci k C nm "Z" false false) (hf : Cond.fieldLink M.1.cls idx C nm "Z" ∈ gw) (hn : kd n = ci) (hx : x = 0 ∨ x = 1) (k : V E M K nx L st (up2 σ n k x)) : V E M K pc L (.int x :: .ref (eB E + n) :: st) σ :=
  V_putx h hF hf hn (ty := .boolean) (by decide +kernel) (by rcases hx with rfl | rfl <;> rfl) (by rcases hx with rfl | rfl <;> rfl) (fun _ _ => hx) k
theorem V_iald {n j : Nat} {x : Int32} (h : dq M pc .iaload 1 nx) (hn : kd n = 10) (hx : x = nI j) (hj : j < ln n) (k : V E M K nx L (.int (σ n j) :: st) σ) : V E M K pc L (.int x :: .ref (eB E + n) :: st) σ := by
  obtain ⟨h1, rfl⟩ := h
  subst hx
  intro p l e s m args below meth c H locs ls C hZ hP hS hl
  have he : (ws E σ)[n]? = some (eB E + n, .inl (eA E 10, ln n, .inl (σ n))) := by rw [ws_at (kd_lt (by omega)), cell_arr hn (by omega) (by omega)]
  refine va_iald C.1 C.2.1 C.2.2.2.2.2.2.2.1.1 hP n 0 he rfl (vp_in_nI hj (ln_lt n)) h1 ?_
  rw [nI_cl hj]
  exact (k p l e s m args below meth c H locs ls C hZ hP hS hl)
theorem V_iast {n j : Nat} {x v : Int32} (h : dq M pc .iastore 1 nx) (hn : kd n = 10) (hx : x = nI j) (hj : j < ln n) (k : V E M K nx L st (up2 σ n j v)) : V E M K pc L (.int v :: .int x :: .ref (eB E + n) :: st) σ := by
  obtain ⟨h1, rfl⟩ := h
  subst hx
  intro p l e s m args below meth c H locs ls C hZ hP hS hl
  have hlt : n < 307 := kd_lt (by omega)
  have he : (ws E σ)[n]? = some (eB E + n, .inl (eA E 10, ln n, .inl (σ n))) := by rw [ws_at hlt, cell_arr hn (by omega) (by omega)]
  refine va_iast C.1 C.2.1 C.2.2.2.2.2.2.2.1.1 hP (ws_D E σ) hS n 0 he rfl (vp_in_nI hj (ln_lt n)) h1 (fun H1 locs1 hP1 hD1 hS1 => ?_)
  rw [nI_cl hj, ws_set hlt (fun m hm => cell_ne hm) (by rw [cell_arr hn (by omega) (by omega), up2_self])] at hP1
  exact k p l e s m args below meth c H1 locs1 ls C (hZ.up (by rw [hn]; intro q; simp [isZ] at q)) hP1 hS1 hl
theorem V_zald {n j : Nat} {x : Int32} (h : dq M pc .baload 1 nx) (hn : kd n = 11) (hx : x = nI j) (hj : j < ln n) (k : V E M K nx L (.int (σ n j) :: st) σ) : V E M K pc L (.int x :: .ref (eB E + n) :: st) σ := by
  obtain ⟨h1, rfl⟩ := h
  subst hx
  intro p l e s m args below meth c H locs ls C hZ hP hS hl
  have he : (ws E σ)[n]? = some (eB E + n, .inl (eA E 11, ln n, .inl (σ n))) := by rw [ws_at (kd_lt (by omega)), cell_arr hn (by omega) (by omega)]
  refine va_zald C.1 C.2.1 C.2.2.2.2.2.2.2.1.1 hP n 1 he rfl (vp_in_nI hj (ln_lt n)) h1 ?_
  rw [nI_cl hj]
  exact (k p l e s m args below meth c H locs ls C hZ hP hS hl)
theorem V_zast {n j : Nat} {x v : Int32} (h : dq M pc .bastore 1 nx) (hn : kd n = 11) (hx : x = nI j) (hj : j < ln n) (hv : v = 0 ∨ v = 1) (k : V E M K nx L st (up2 σ n j v)) : V E M K pc L (.int v :: .int x :: .ref (eB E + n) :: st) σ := by
  obtain ⟨h1, rfl⟩ := h
  subst hx
  intro p l e s m args below meth c H locs ls C hZ hP hS hl
  have hlt : n < 307 := kd_lt (by omega)
  have he : (ws E σ)[n]? = some (eB E + n, .inl (eA E 11, ln n, .inl (σ n))) := by rw [ws_at hlt, cell_arr hn (by omega) (by omega)]
  refine va_zast C.1 C.2.1 C.2.2.2.2.2.2.2.1.1 hP (ws_D E σ) hS n 1 he rfl (vp_in_nI hj (ln_lt n)) h1 (fun H1 locs1 hP1 hD1 hS1 => ?_)
  have hv2 : vp_nar .boolean v = v := by rcases hv with rfl | rfl <;> rfl
  rw [nI_cl hj, hv2, ws_set hlt (fun m hm => cell_ne hm) (by rw [cell_arr hn (by omega) (by omega), up2_self])] at hP1
  exact k p l e s m args below meth c H1 locs1 ls C (hZ.up (fun _ => hv)) hP1 hS1 hl
theorem V_aald {n j r : Nat} {x : Int32} (h : dq M pc .aaload 1 nx) (hn : 12 ≤ kd n) (hn2 : kd n ≤ 14) (hx : x = nI j) (hj : j < ln n) (hr : rf n j = r) (k : V E M K nx L (.ref (eB E + r) :: st) σ) : V E M K pc L (.int x :: .ref (eB E + n) :: st) σ := by
  obtain ⟨h1, rfl⟩ := h
  subst hx; subst hr
  intro p l e s m args below meth c H locs ls C hZ hP hS hl
  have he : (ws E σ)[n]? = some (eB E + n, .inl (eA E (kd n), ln n, .inr (.inr (.inr (.inr (fun j => some (eB E + rf n j))))))) := by rw [ws_at (kd_lt (by omega)), cell_ref rfl hn]
  have hk2 : va_rf ((fun j => some (eB E + rf n j)) (nI j).toNatClampNeg) = .ref (eB E + rf n j) := by rw [nI_cl hj]; rfl
  have hc : kd n = 12 ∨ kd n = 13 ∨ kd n = 14 := by omega
  rcases hc with hc | hc | hc
  · rw [hc] at he
    refine va_aldq C.1 C.2.1 C.2.2.2.2.2.2.2.1.1 hP n 2 (C := RX3) he rfl (vp_in_nI hj (ln_lt n)) h1 ?_
    rw [hk2]
    exact (k p l e s m args below meth c H locs ls C hZ hP hS hl)
  · rw [hc] at he
    refine va_aldq C.1 C.2.1 C.2.2.2.2.2.2.2.1.1 hP n 3 (C := RX5) he rfl (vp_in_nI hj (ln_lt n)) h1 ?_
    rw [hk2]
    exact (k p l e s m args below meth c H locs ls C hZ hP hS hl)
  · rw [hc] at he
    refine va_aldq C.1 C.2.1 C.2.2.2.2.2.2.2.1.1 hP n 4 (C := RX7) he rfl (vp_in_nI hj (ln_lt n)) h1 ?_
    rw [hk2]
    exact (k p l e s m args below meth c H locs ls C hZ hP hS hl)
theorem V_getst {i idx : Nat} (h : dq M pc (.getstatic idx) 3 nx) (hi : i < 3) (hf : Cond.fieldLink M.1.cls idx RX1 (sN i) "[I" ∈ gw) (k : V E M K nx L (.ref (eS E i) :: st) σ) : V E M K pc L st σ := by
  obtain ⟨h1, rfl⟩ := h
  intro p l e s m args below meth c H locs ls C hZ hP hS hl
  exact va_gets C.1 C.2.1 ((C.2.2.2.2.2.2.2.1.2.2 i hi).1) hS C.2.2.2.1 (C.2.2.2.2.1 _ hf) (fun x hx => hx) h1 (k p l e s m args below meth c H locs ls C hZ hP hS hl)
theorem V_iads {i j : Nat} {x : Int32} (h : dq M pc .iaload 1 nx) (hi : i < 3) (hx : x = nI j) (hj : j < 6) (k : V E M K nx L (.int (sT i j) :: st) σ) : V E M K pc L (.int x :: .ref (eS E i) :: st) σ := by
  obtain ⟨h1, rfl⟩ := h
  subst hx
  intro p l e s m args below meth c H locs ls C hZ hP hS hl
  refine va_ti C.1 C.2.1 ((C.2.2.2.2.2.2.2.1.2.2 i hi).2) hS (vp_in_nI hj (by decide)) (v := .int (sT i j)) ?_ h1 (k p l e s m args below meth c H locs ls C hZ hP hS hl)
  rw [nI_clamp (by omega)]
/-! calls -/
def sS (M' : Mi) (n : Nat) : Prop := Cond.code M'.1 M'.2.1 M'.2.2.1 M'.2.2.2 ∈ gw ∧ Cond.static M'.1 ∈ gw ∧ Cond.initialized M'.1.cls ∈ gw ∧ (M'.1.cls ≠ "java/lang/invoke/MethodHandle" ∧ M'.1.cls ≠ "java/lang/invoke/VarHandle" ∧ (parseMethodDescriptor M'.1.desc).map (fun d => d.parameters.length) = some n)
def sV (M' : Mi) (n ci : Nat) : Prop := Cond.code M'.1 M'.2.1 M'.2.2.1 M'.2.2.2 ∈ gw ∧ Cond.instanceMethod M'.1 ∈ gw ∧ Cond.selects M'.1.cls M'.1 M'.1 ∈ gw ∧ Cond.initialized M'.1.cls ∈ gw ∧ (M'.1.cls ≠ "java/lang/invoke/MethodHandle" ∧ M'.1.cls ≠ "java/lang/invoke/VarHandle" ∧ (parseMethodDescriptor M'.1.desc).map (fun d => d.parameters.length) = some n) ∧ ci < 10 ∧ ∃ q : vw_C, vwCl[ci]? = some q ∧ q.1 = M'.1.cls
def rmok (K : Kk) (nL d : Nat) : Prop := (rmD d).frames + 1 ≤ K.1.frames ∧ 8 + (nL + 11) + (rmD d).locals ≤ K.1.locals ∧ K.2.1 + 0 ≤ K.1.cells ∧ K.2.2.1 + 0 ≤ K.1.slots
theorem rm_ok {E : En} {P : Sg → Option Value → Prop} {nL d d' : Nat} (h : d + 1 ≤ d') (hn : nL ≤ 40) : rmok (kM E d' P) nL d := by
  refine ⟨h, ?_, Nat.le_refl _, Nat.le_refl _⟩
  show 8 + (nL + 11) + 64 * d ≤ 64 * d'
  omega
theorem cx_same {E : En} {u U : State} (hv : u.vm = U.vm) (hh : U.heap = u.heap) (h : cx E u) : cx E U := by
  obtain ⟨h1, h2, h3⟩ := h
  have ha : u.vm.Alike U.vm := by rw [hv]; exact Vm.Alike.refl _
  refine ⟨h1.moved ha, fun a i x z hm => va_Nw.same rfl hv (h2 a i x z hm), fun i hi => ?_⟩
  rw [hh]
  exact ⟨(h3 i hi).1.moved ha, (h3 i hi).2.moved ha⟩
theorem blindW {E : En} {av : List Value} {σ : Sg} : FrameBlind (va_Pc av (fun U => wdU E σ U)) := fun a U g mk h => ⟨h.1, h.2.1, h.2.2.1, cx_same rfl rfl h.2.2.2⟩
theorem gw_code {M' : Mi} (h : Cond.code M'.1 M'.2.1 M'.2.2.1 M'.2.2.2 ∈ gw) : GoodIn gw (Cond.code M'.1 M'.2.1 M'.2.2.1 M'.2.2.2 :: gw) := fun w hw => by
  rcases List.mem_cons.mp hw with rfl | hw
  · exact gw_good _ h
  · exact gw_good w hw
theorem V_run {st0 av : List Value} {P : Sg → Option Value → Prop}
    (hr : ∀ (p : Program) (l : Launch) (e : Env) (s : State) (m : MethodId) (args : Array Value) (below : List Frame) (meth : Method) (c : Code) (H : Heap) (locs : List Loc) (ls : Array Slot), Cx E M K p s m args meth c → BZ σ → va_P (eD E) vwCl (ws E σ) H → va_S (fun q => eB E ≤ q) s.heap H locs → lo ls M.2.2.1 L →
      va_Run p l e K.1 s m args below meth c H locs K.2.1 K.2.2.1 0 0 (F0 m pc ls st0) st (Qc E P av.toArray) (fun q => eB E ≤ q))
    (k : ∀ (σ' : Sg) (v : Option Value), P σ' v → V E M K (pc + 3) L (v.toList ++ st) σ') : V E M K pc L st0 σ := by
  intro p l e s m args below meth c H locs ls C hZ hP hS hl
  intro T hT X
  obtain ⟨v, st₀, t, T', Ll, h0, X', hL, e1, e2, ⟨⟨σ', v', hv, hPo, hw⟩, hz, hk⟩, sg⟩ := hr p l e s m args below meth c H locs ls C hZ hP hS hl T hT X
  cases hv
  rw [h0] at hz hk
  have hS' : va_S (fun q => eB E ≤ q) s.heap T'.heap (locs ++ Ll) := by
    refine ⟨Nat.le_trans hS.1 (by rw [e1]; exact hz), fun q h1 h2 => ?_, fun q hq => ?_⟩
    · rw [e1, hk q (Nat.lt_of_lt_of_le h1 hS.1) h2]
      exact hS.2.1 q h1 h2
    · rcases List.mem_append.mp hq with h | h
      · exact hS.2.2 q h
      · exact hL q h
  obtain ⟨t2, a1, b1⟩ := k σ' v hPo p l e s m args below meth c T'.heap (locs ++ Ll) ls C hw.1 (by rw [e1]; exact hw.2.1) hS' hl T' rfl X'
  exact ⟨t2, sg t2 a1, b1⟩
theorem V_calls {M' : Mi} {d idx n : Nat} {av st0 : List Value} {P : Sg → Option Value → Prop} (h : dq M pc (.invokestatic idx) 3 nx) (hC : Cn E M' d av σ P) (hL : Cond.methodLink M.1.cls idx M'.1 ∈ gw) (hs : sS M' n) (hR : rmok K M'.2.2.1 d) (hn : av.length = n) (hst : st0 = av.reverse ++ st) (hw : (st.map fun v => v.category).sum ≤ 8)
    (k : ∀ (σ' : Sg) (v : Option Value), P σ' v → V E M K nx L (v.toList ++ st) σ') : V E M K pc L st0 σ := by
  obtain ⟨h1, rfl⟩ := h
  obtain ⟨s1, s2, s3, s4⟩ := hs
  refine V_run (av := av) (P := P) ?_ k
  intro p l e s m args below meth c H locs ls C hZ hP hS hl
  exact va_runS (Ts := gw) (own := M.1.cls) ⟨C.1, C.2.1, C.2.2.1, C.2.2.2.1, C.2.2.2.2.1⟩ (hC l) ⟨callB_of n C.2.2.2.2.1 (gw_code s1) rfl rfl rfl (C.2.2.2.2.1 _ s3) (C.2.2.2.2.1 _ hL) s4 ⟨hR.1, hR.2.1⟩, C.2.2.2.2.1 _ s2⟩
    ⟨blindW, fun U hU hW => ⟨rfl, hZ, by rw [hU]; exact hP, cx_moved hW (by rw [hU]; exact hS) C.2.2.2.2.2.2.2.1⟩⟩ rfl hn hl.1 hst (lv_room hw) h1 hR.2.2
theorem V_callsN {M' : Mi} {d idx n : Nat} {host : String} {av st0 : List Value} {P : Sg → Option Value → Prop} (h : dq M pc (.invokestatic idx) 3 nx) (hC : Cn E M' d av σ P) (hL : Cond.methodLinkNest M.1.cls idx M'.1 host ∈ lw_tbl) (hs : sS M' n) (hR : rmok K M'.2.2.1 d) (hn : av.length = n) (hst : st0 = av.reverse ++ st) (hw : (st.map fun v => v.category).sum ≤ 8)
    (k : ∀ (σ' : Sg) (v : Option Value), P σ' v → V E M K nx L (v.toList ++ st) σ') : V E M K pc L st0 σ := by
  obtain ⟨h1, rfl⟩ := h
  obtain ⟨s1, s2, s3, s4⟩ := hs
  refine V_run (av := av) (P := P) ?_ k
  intro p l e s m args below meth c H locs ls C hZ hP hS hl
  exact va_runSN (Ts := gw) (own := M.1.cls) ⟨C.1, C.2.1, C.2.2.1, C.2.2.2.1, C.2.2.2.2.1⟩ (hC l) ⟨va_cnB n C.2.2.2.2.1 (gw_code s1) rfl rfl rfl (C.2.2.2.2.2.2.2.1.2.1 _ _ _ _ hL) (C.2.2.2.2.1 _ s3) s4 ⟨hR.1, hR.2.1⟩, C.2.2.2.2.1 _ s2, trivial⟩
    ⟨blindW, fun U hU hW => ⟨rfl, hZ, by rw [hU]; exact hP, cx_moved hW (by rw [hU]; exact hS) C.2.2.2.2.2.2.2.1⟩⟩ rfl hn hl.1 hst (lv_room hw) h1 hR.2.2
theorem V_callv {M' : Mi} {d idx n ci a : Nat} {av st0 : List Value} {P : Sg → Option Value → Prop} (h : dq M pc (.invokevirtual idx) 3 nx) (hC : Cn E M' d (.ref (eB E + a) :: av) σ P) (hL : Cond.methodLink M.1.cls idx M'.1 ∈ gw) (hs : sV M' n ci) (ha : kd a = ci) (hR : rmok K M'.2.2.1 d) (hn : av.length = n) (hst : st0 = av.reverse ++ .ref (eB E + a) :: st) (hw : (st.map fun v => v.category).sum ≤ 8)
    (k : ∀ (σ' : Sg) (v : Option Value), P σ' v → V E M K nx L (v.toList ++ st) σ') : V E M K pc L st0 σ := by
  obtain ⟨h1, rfl⟩ := h
  obtain ⟨s1, s2, s2', s3, s4, s5, q, s6, s7⟩ := hs
  refine V_run (av := .ref (eB E + a) :: av) (P := P) ?_ k
  intro p l e s m args below meth c H locs ls C hZ hP hS hl
  have he : (ws E σ)[a]? = some (eB E + a, .inr (ci, (List.range (nf ci)).map (fv E σ a))) := by rw [ws_at (kd_lt (by omega)), cell_obj ha s5]
  exact va_runV (Ts := gw) (own := M.1.cls) (C := M'.1.cls) ⟨C.1, C.2.1, C.2.2.1, C.2.2.2.1, C.2.2.2.2.1⟩ (hC l) ⟨callB_of n C.2.2.2.2.1 (gw_code s1) rfl rfl rfl (C.2.2.2.2.1 _ s3) (C.2.2.2.2.1 _ hL) s4 ⟨hR.1, hR.2.1⟩, C.2.2.2.2.1 _ s2, C.2.2.2.2.1 _ s2'⟩
    ⟨blindW, by rw [← s7]; exact va_recv C.2.2.2.2.2.2.2.1.1 hP s6 he, fun U hU hW => ⟨rfl, hZ, by rw [hU]; exact hP, cx_moved hW (by rw [hU]; exact hS) C.2.2.2.2.2.2.2.1⟩⟩ rfl hn hl.1 hst (lv_room hw) h1 hR.2.2
end VH
section VE
variable {E : En} {M : Mi} {pc nx d : Nat} {L : List (Option Value)} {σ : Sg}
theorem V_iret {Q : Sg → Int32 → Prop} {x : Int32} (h : dq M pc .ireturn 1 nx) (hr : M.2.2.2 = some .int) (hq : Q σ x) : V E M (kM E d (pI Q)) pc L [.int x] σ := by
  obtain ⟨h1, rfl⟩ := h
  intro p l e s m args below meth c H locs ls C hZ hP hS hl
  exact W.iret C.1 C.2.1 (C.2.2.2.2.2.1.trans hr) (fun t ht hW => ⟨⟨σ, _, rfl, ⟨x, rfl, hq⟩, hZ, by rw [ht]; exact hP, cx_moved hW (by rw [ht]; exact hS) C.2.2.2.2.2.2.2.1⟩, hS.F ht⟩) hS.2.2 h1 (hlocks := C.2.2.2.2.2.2.1)
theorem V_zret {Q : Sg → Int32 → Prop} {x : Int32} (h : dq M pc .ireturn 1 nx) (hr : M.2.2.2 = some .boolean) (hx : x = 0 ∨ x = 1) (hq : Q σ x) : V E M (kM E d (pI Q)) pc L [.int x] σ := by
  obtain ⟨h1, rfl⟩ := h
  intro p l e s m args below meth c H locs ls C hZ hP hS hl
  exact W.zret C.1 C.2.1 (C.2.2.2.2.2.1.trans hr) (by rcases hx with rfl | rfl <;> rfl) (fun t ht hW => ⟨⟨σ, _, rfl, ⟨x, rfl, hq⟩, hZ, by rw [ht]; exact hP, cx_moved hW (by rw [ht]; exact hS) C.2.2.2.2.2.2.2.1⟩, hS.F ht⟩) hS.2.2 h1 (hlocks := C.2.2.2.2.2.2.1)
theorem V_vret {Q : Sg → Prop} (h : dq M pc .return_ 1 nx) (hr : M.2.2.2 = none) (hq : Q σ) : V E M (kM E d (pV Q)) pc L [] σ := by
  obtain ⟨h1, rfl⟩ := h
  intro p l e s m args below meth c H locs ls C hZ hP hS hl
  exact W.vret C.1 C.2.1 (C.2.2.2.2.2.1.trans hr) (fun t ht hW => ⟨⟨σ, _, rfl, ⟨rfl, hq⟩, hZ, by rw [ht]; exact hP, cx_moved hW (by rw [ht]; exact hS) C.2.2.2.2.2.2.2.1⟩, hS.F ht⟩) hS.2.2 h1 (hlocks := C.2.2.2.2.2.2.1)
theorem V_lret {Q : Sg → Int64 → Prop} {x : Int64} (h : dq M pc .lreturn 1 nx) (hr : M.2.2.2 = some .long) (hq : Q σ x) : V E M (kM E d (pJ Q)) pc L [.long x] σ := by
  obtain ⟨h1, rfl⟩ := h
  intro p l e s m args below meth c H locs ls C hZ hP hS hl
  exact W.lret C.1 C.2.1 (C.2.2.2.2.2.1.trans hr) (fun t ht hW => ⟨⟨σ, _, rfl, ⟨x, rfl, hq⟩, hZ, by rw [ht]; exact hP, cx_moved hW (by rw [ht]; exact hS) C.2.2.2.2.2.2.2.1⟩, hS.F ht⟩) hS.2.2 h1 (hlocks := C.2.2.2.2.2.2.1)
theorem V_aret {Q : Sg → Nat → Prop} {x : Nat} {nm : String} (h : dq M pc .areturn 1 nx) (hr : M.2.2.2 = some (.object nm)) (hq : Q σ x) : V E M (kM E d (pR E Q)) pc L [.ref (eB E + x)] σ := by
  obtain ⟨h1, rfl⟩ := h
  intro p l e s m args below meth c H locs ls C hZ hP hS hl
  exact W.aret C.1 C.2.1 (C.2.2.2.2.2.1.trans hr) (Or.inl ⟨_, rfl⟩) (Or.inr ⟨_, rfl⟩) (fun t ht hW => ⟨⟨σ, _, rfl, ⟨x, rfl, hq⟩, hZ, by rw [ht]; exact hP, cx_moved hW (by rw [ht]; exact hS) C.2.2.2.2.2.2.2.1⟩, hS.F ht⟩) hS.2.2 h1 (hlocks := C.2.2.2.2.2.2.1)
theorem Cn.of {av : List Value} {P : Sg → Option Value → Prop} (L : List (Option Value)) (hp : plainName M.1.cls = true) (hn : (lg_sl av).length ≤ M.2.2.1) (hL : lvl 0 L = lv_args 0 av) (h : V E M (kM E d P) 0 L [] σ) : Cn E M d av σ P := by
  intro l
  refine Met.ofW (cc := M.2.1) (maxL := M.2.2.1) (ret := M.2.2.2) hp rfl ?_
  intro p e s m args below meth c s₁ B hml hv
  obtain ⟨rfl, hw⟩ := hv
  have hts := atoms_spec (ws := Cond.code M.1 M.2.1 M.2.2.1 M.2.2.2 :: gw) B.pre
  rw [lg_entry_eq]
  exact h p l e s m _ below meth c s.heap [] _ ⟨B.exec, B.bytes, hml, findClass_of_methodNamed B.named, fun w hw => hts w (List.mem_cons_of_mem _ hw), B.returns, B.notSynchronized, hw.2.2, trivial⟩ hw.1 hw.2.1 va_S.rf (lo.of (lv_entry av hn) hL)
end VE
theorem V_bz {E : En} {M : Mi} {K : Kk} {pc : Nat} {L : List (Option Value)} {st : List Value} {σ : Sg} (k : BZ σ → V E M K pc L st σ) : V E M K pc L st σ := by
  intro p l e s m args below meth c H locs ls C hZ hP hS hl
  exact k hZ p l e s m args below meth c H locs ls C hZ hP hS hl
section VC
variable {E : En} {M : Mi} {K : Kk} {pc nx : Nat} {L : List (Option Value)} {st : List Value} {σ : Sg}
theorem V_csI {M' : Mi} {d idx n : Nat} {av st0 : List Value} {Q : Sg → Int32 → Prop} (h : dq M pc (.invokestatic idx) 3 nx) (hC : Cn E M' d (av) σ (pI Q)) (hL : Cond.methodLink M.1.cls idx M'.1 ∈ gw) (hs : sS M' n) (hR : rmok K M'.2.2.1 d) (hn : av.length = n) (hst : st0 = av.reverse ++ st) (hw : (st.map fun v => v.category).sum ≤ 8) (k : ∀ (σ' : Sg) (r : Int32), Q σ' r → V E M K nx L (.int r :: st) σ') : V E M K pc L st0 σ :=
  V_calls h hC hL hs hR hn hst hw (fun σ' v hv => by
    obtain ⟨r, rfl, hq⟩ := hv
    exact k σ' r hq)
theorem V_csJ {M' : Mi} {d idx n : Nat} {av st0 : List Value} {Q : Sg → Int64 → Prop} (h : dq M pc (.invokestatic idx) 3 nx) (hC : Cn E M' d (av) σ (pJ Q)) (hL : Cond.methodLink M.1.cls idx M'.1 ∈ gw) (hs : sS M' n) (hR : rmok K M'.2.2.1 d) (hn : av.length = n) (hst : st0 = av.reverse ++ st) (hw : (st.map fun v => v.category).sum ≤ 8) (k : ∀ (σ' : Sg) (r : Int64), Q σ' r → V E M K nx L (.long r :: st) σ') : V E M K pc L st0 σ :=
  V_calls h hC hL hs hR hn hst hw (fun σ' v hv => by
    obtain ⟨r, rfl, hq⟩ := hv
    exact k σ' r hq)
theorem V_csR {M' : Mi} {d idx n : Nat} {av st0 : List Value} {Q : Sg → Nat → Prop} (h : dq M pc (.invokestatic idx) 3 nx) (hC : Cn E M' d (av) σ (pR E Q)) (hL : Cond.methodLink M.1.cls idx M'.1 ∈ gw) (hs : sS M' n) (hR : rmok K M'.2.2.1 d) (hn : av.length = n) (hst : st0 = av.reverse ++ st) (hw : (st.map fun v => v.category).sum ≤ 8) (k : ∀ (σ' : Sg) (r : Nat), Q σ' r → V E M K nx L (.ref (eB E + r) :: st) σ') : V E M K pc L st0 σ :=
  V_calls h hC hL hs hR hn hst hw (fun σ' v hv => by
    obtain ⟨r, rfl, hq⟩ := hv
    exact k σ' r hq)
theorem V_csV {M' : Mi} {d idx n : Nat} {av st0 : List Value} {Q : Sg → Prop} (h : dq M pc (.invokestatic idx) 3 nx) (hC : Cn E M' d (av) σ (pV Q)) (hL : Cond.methodLink M.1.cls idx M'.1 ∈ gw) (hs : sS M' n) (hR : rmok K M'.2.2.1 d) (hn : av.length = n) (hst : st0 = av.reverse ++ st) (hw : (st.map fun v => v.category).sum ≤ 8) (k : ∀ σ' : Sg, Q σ' → V E M K nx L (st) σ') : V E M K pc L st0 σ :=
  V_calls h hC hL hs hR hn hst hw (fun σ' v hv => by
    obtain ⟨rfl, hq⟩ := hv
    exact k σ' hq)
theorem V_csNI {M' : Mi} {d idx n : Nat} {host : String} {av st0 : List Value} {Q : Sg → Int32 → Prop} (h : dq M pc (.invokestatic idx) 3 nx) (hC : Cn E M' d (av) σ (pI Q)) (hL : Cond.methodLinkNest M.1.cls idx M'.1 host ∈ lw_tbl) (hs : sS M' n) (hR : rmok K M'.2.2.1 d) (hn : av.length = n) (hst : st0 = av.reverse ++ st) (hw : (st.map fun v => v.category).sum ≤ 8) (k : ∀ (σ' : Sg) (r : Int32), Q σ' r → V E M K nx L (.int r :: st) σ') : V E M K pc L st0 σ :=
  V_callsN h hC hL hs hR hn hst hw (fun σ' v hv => by
    obtain ⟨r, rfl, hq⟩ := hv
    exact k σ' r hq)
theorem V_csNJ {M' : Mi} {d idx n : Nat} {host : String} {av st0 : List Value} {Q : Sg → Int64 → Prop} (h : dq M pc (.invokestatic idx) 3 nx) (hC : Cn E M' d (av) σ (pJ Q)) (hL : Cond.methodLinkNest M.1.cls idx M'.1 host ∈ lw_tbl) (hs : sS M' n) (hR : rmok K M'.2.2.1 d) (hn : av.length = n) (hst : st0 = av.reverse ++ st) (hw : (st.map fun v => v.category).sum ≤ 8) (k : ∀ (σ' : Sg) (r : Int64), Q σ' r → V E M K nx L (.long r :: st) σ') : V E M K pc L st0 σ :=
  V_callsN h hC hL hs hR hn hst hw (fun σ' v hv => by
    obtain ⟨r, rfl, hq⟩ := hv
    exact k σ' r hq)
theorem V_csNR {M' : Mi} {d idx n : Nat} {host : String} {av st0 : List Value} {Q : Sg → Nat → Prop} (h : dq M pc (.invokestatic idx) 3 nx) (hC : Cn E M' d (av) σ (pR E Q)) (hL : Cond.methodLinkNest M.1.cls idx M'.1 host ∈ lw_tbl) (hs : sS M' n) (hR : rmok K M'.2.2.1 d) (hn : av.length = n) (hst : st0 = av.reverse ++ st) (hw : (st.map fun v => v.category).sum ≤ 8) (k : ∀ (σ' : Sg) (r : Nat), Q σ' r → V E M K nx L (.ref (eB E + r) :: st) σ') : V E M K pc L st0 σ :=
  V_callsN h hC hL hs hR hn hst hw (fun σ' v hv => by
    obtain ⟨r, rfl, hq⟩ := hv
    exact k σ' r hq)
theorem V_csNV {M' : Mi} {d idx n : Nat} {host : String} {av st0 : List Value} {Q : Sg → Prop} (h : dq M pc (.invokestatic idx) 3 nx) (hC : Cn E M' d (av) σ (pV Q)) (hL : Cond.methodLinkNest M.1.cls idx M'.1 host ∈ lw_tbl) (hs : sS M' n) (hR : rmok K M'.2.2.1 d) (hn : av.length = n) (hst : st0 = av.reverse ++ st) (hw : (st.map fun v => v.category).sum ≤ 8) (k : ∀ σ' : Sg, Q σ' → V E M K nx L (st) σ') : V E M K pc L st0 σ :=
  V_callsN h hC hL hs hR hn hst hw (fun σ' v hv => by
    obtain ⟨rfl, hq⟩ := hv
    exact k σ' hq)
theorem V_cvI {M' : Mi} {d idx n ci a : Nat} {av st0 : List Value} {Q : Sg → Int32 → Prop} (h : dq M pc (.invokevirtual idx) 3 nx) (hC : Cn E M' d (.ref (eB E + a) :: av) σ (pI Q)) (hL : Cond.methodLink M.1.cls idx M'.1 ∈ gw) (hs : sV M' n ci) (ha : kd a = ci) (hR : rmok K M'.2.2.1 d) (hn : av.length = n) (hst : st0 = av.reverse ++ .ref (eB E + a) :: st) (hw : (st.map fun v => v.category).sum ≤ 8) (k : ∀ (σ' : Sg) (r : Int32), Q σ' r → V E M K nx L (.int r :: st) σ') : V E M K pc L st0 σ :=
  V_callv h hC hL hs ha hR hn hst hw (fun σ' v hv => by
    obtain ⟨r, rfl, hq⟩ := hv
    exact k σ' r hq)
theorem V_cvJ {M' : Mi} {d idx n ci a : Nat} {av st0 : List Value} {Q : Sg → Int64 → Prop} (h : dq M pc (.invokevirtual idx) 3 nx) (hC : Cn E M' d (.ref (eB E + a) :: av) σ (pJ Q)) (hL : Cond.methodLink M.1.cls idx M'.1 ∈ gw) (hs : sV M' n ci) (ha : kd a = ci) (hR : rmok K M'.2.2.1 d) (hn : av.length = n) (hst : st0 = av.reverse ++ .ref (eB E + a) :: st) (hw : (st.map fun v => v.category).sum ≤ 8) (k : ∀ (σ' : Sg) (r : Int64), Q σ' r → V E M K nx L (.long r :: st) σ') : V E M K pc L st0 σ :=
  V_callv h hC hL hs ha hR hn hst hw (fun σ' v hv => by
    obtain ⟨r, rfl, hq⟩ := hv
    exact k σ' r hq)
theorem V_cvR {M' : Mi} {d idx n ci a : Nat} {av st0 : List Value} {Q : Sg → Nat → Prop} (h : dq M pc (.invokevirtual idx) 3 nx) (hC : Cn E M' d (.ref (eB E + a) :: av) σ (pR E Q)) (hL : Cond.methodLink M.1.cls idx M'.1 ∈ gw) (hs : sV M' n ci) (ha : kd a = ci) (hR : rmok K M'.2.2.1 d) (hn : av.length = n) (hst : st0 = av.reverse ++ .ref (eB E + a) :: st) (hw : (st.map fun v => v.category).sum ≤ 8) (k : ∀ (σ' : Sg) (r : Nat), Q σ' r → V E M K nx L (.ref (eB E + r) :: st) σ') : V E M K pc L st0 σ :=
  V_callv h hC hL hs ha hR hn hst hw (fun σ' v hv => by
    obtain ⟨r, rfl, hq⟩ := hv
    exact k σ' r hq)
theorem V_cvV {M' : Mi} {d idx n ci a : Nat} {av st0 : List Value} {Q : Sg → Prop} (h : dq M pc (.invokevirtual idx) 3 nx) (hC : Cn E M' d (.ref (eB E + a) :: av) σ (pV Q)) (hL : Cond.methodLink M.1.cls idx M'.1 ∈ gw) (hs : sV M' n ci) (ha : kd a = ci) (hR : rmok K M'.2.2.1 d) (hn : av.length = n) (hst : st0 = av.reverse ++ .ref (eB E + a) :: st) (hw : (st.map fun v => v.category).sum ≤ 8) (k : ∀ σ' : Sg, Q σ' → V E M K nx L (st) σ') : V E M K pc L st0 σ :=
  V_callv h hC hL hs ha hR hn hst hw (fun σ' v hv => by
    obtain ⟨rfl, hq⟩ := hv
    exact k σ' hq)
theorem V_csIe {M' : Mi} {d idx n : Nat} {av st0 : List Value} {fs : Sg} {g : Int32} (h : dq M pc (.invokestatic idx) 3 nx) (hC : Cn E M' d (av) σ (pI (fun σ' r => σ' = fs ∧ r = g))) (hL : Cond.methodLink M.1.cls idx M'.1 ∈ gw) (hs : sS M' n) (hR : rmok K M'.2.2.1 d) (hn : av.length = n) (hst : st0 = av.reverse ++ st) (hw : (st.map fun v => v.category).sum ≤ 8) (k : V E M K nx L (.int g :: st) fs) : V E M K pc L st0 σ :=
  V_csI h hC hL hs hR hn hst hw (fun _ _ h2 => by rw [h2.1, h2.2]; exact k)
theorem V_csJe {M' : Mi} {d idx n : Nat} {av st0 : List Value} {fs : Sg} {g : Int64} (h : dq M pc (.invokestatic idx) 3 nx) (hC : Cn E M' d (av) σ (pJ (fun σ' r => σ' = fs ∧ r = g))) (hL : Cond.methodLink M.1.cls idx M'.1 ∈ gw) (hs : sS M' n) (hR : rmok K M'.2.2.1 d) (hn : av.length = n) (hst : st0 = av.reverse ++ st) (hw : (st.map fun v => v.category).sum ≤ 8) (k : V E M K nx L (.long g :: st) fs) : V E M K pc L st0 σ :=
  V_csJ h hC hL hs hR hn hst hw (fun _ _ h2 => by rw [h2.1, h2.2]; exact k)
theorem V_csRe {M' : Mi} {d idx n : Nat} {av st0 : List Value} {fs : Sg} {g : Nat} (h : dq M pc (.invokestatic idx) 3 nx) (hC : Cn E M' d (av) σ (pR E (fun σ' r => σ' = fs ∧ r = g))) (hL : Cond.methodLink M.1.cls idx M'.1 ∈ gw) (hs : sS M' n) (hR : rmok K M'.2.2.1 d) (hn : av.length = n) (hst : st0 = av.reverse ++ st) (hw : (st.map fun v => v.category).sum ≤ 8) (k : V E M K nx L (.ref (eB E + g) :: st) fs) : V E M K pc L st0 σ :=
  V_csR h hC hL hs hR hn hst hw (fun _ _ h2 => by rw [h2.1, h2.2]; exact k)
theorem V_csVe {M' : Mi} {d idx n : Nat} {av st0 : List Value} {fs : Sg} (h : dq M pc (.invokestatic idx) 3 nx) (hC : Cn E M' d (av) σ (pV (fun σ' => σ' = fs))) (hL : Cond.methodLink M.1.cls idx M'.1 ∈ gw) (hs : sS M' n) (hR : rmok K M'.2.2.1 d) (hn : av.length = n) (hst : st0 = av.reverse ++ st) (hw : (st.map fun v => v.category).sum ≤ 8) (k : V E M K nx L (st) fs) : V E M K pc L st0 σ :=
  V_csV h hC hL hs hR hn hst hw (fun _ h2 => h2 ▸ k)
theorem V_csNIe {M' : Mi} {d idx n : Nat} {host : String} {av st0 : List Value} {fs : Sg} {g : Int32} (h : dq M pc (.invokestatic idx) 3 nx) (hC : Cn E M' d (av) σ (pI (fun σ' r => σ' = fs ∧ r = g))) (hL : Cond.methodLinkNest M.1.cls idx M'.1 host ∈ lw_tbl) (hs : sS M' n) (hR : rmok K M'.2.2.1 d) (hn : av.length = n) (hst : st0 = av.reverse ++ st) (hw : (st.map fun v => v.category).sum ≤ 8) (k : V E M K nx L (.int g :: st) fs) : V E M K pc L st0 σ :=
  V_csNI h hC hL hs hR hn hst hw (fun _ _ h2 => by rw [h2.1, h2.2]; exact k)
theorem V_csNJe {M' : Mi} {d idx n : Nat} {host : String} {av st0 : List Value} {fs : Sg} {g : Int64} (h : dq M pc (.invokestatic idx) 3 nx) (hC : Cn E M' d (av) σ (pJ (fun σ' r => σ' = fs ∧ r = g))) (hL : Cond.methodLinkNest M.1.cls idx M'.1 host ∈ lw_tbl) (hs : sS M' n) (hR : rmok K M'.2.2.1 d) (hn : av.length = n) (hst : st0 = av.reverse ++ st) (hw : (st.map fun v => v.category).sum ≤ 8) (k : V E M K nx L (.long g :: st) fs) : V E M K pc L st0 σ :=
  V_csNJ h hC hL hs hR hn hst hw (fun _ _ h2 => by rw [h2.1, h2.2]; exact k)
theorem V_csNRe {M' : Mi} {d idx n : Nat} {host : String} {av st0 : List Value} {fs : Sg} {g : Nat} (h : dq M pc (.invokestatic idx) 3 nx) (hC : Cn E M' d (av) σ (pR E (fun σ' r => σ' = fs ∧ r = g))) (hL : Cond.methodLinkNest M.1.cls idx M'.1 host ∈ lw_tbl) (hs : sS M' n) (hR : rmok K M'.2.2.1 d) (hn : av.length = n) (hst : st0 = av.reverse ++ st) (hw : (st.map fun v => v.category).sum ≤ 8) (k : V E M K nx L (.ref (eB E + g) :: st) fs) : V E M K pc L st0 σ :=
  V_csNR h hC hL hs hR hn hst hw (fun _ _ h2 => by rw [h2.1, h2.2]; exact k)
theorem V_csNVe {M' : Mi} {d idx n : Nat} {host : String} {av st0 : List Value} {fs : Sg} (h : dq M pc (.invokestatic idx) 3 nx) (hC : Cn E M' d (av) σ (pV (fun σ' => σ' = fs))) (hL : Cond.methodLinkNest M.1.cls idx M'.1 host ∈ lw_tbl) (hs : sS M' n) (hR : rmok K M'.2.2.1 d) (hn : av.length = n) (hst : st0 = av.reverse ++ st) (hw : (st.map fun v => v.category).sum ≤ 8) (k : V E M K nx L (st) fs) : V E M K pc L st0 σ :=
  V_csNV h hC hL hs hR hn hst hw (fun _ h2 => h2 ▸ k)
theorem V_cvIe {M' : Mi} {d idx n ci a : Nat} {av st0 : List Value} {fs : Sg} {g : Int32} (h : dq M pc (.invokevirtual idx) 3 nx) (hC : Cn E M' d (.ref (eB E + a) :: av) σ (pI (fun σ' r => σ' = fs ∧ r = g))) (hL : Cond.methodLink M.1.cls idx M'.1 ∈ gw) (hs : sV M' n ci) (ha : kd a = ci) (hR : rmok K M'.2.2.1 d) (hn : av.length = n) (hst : st0 = av.reverse ++ .ref (eB E + a) :: st) (hw : (st.map fun v => v.category).sum ≤ 8) (k : V E M K nx L (.int g :: st) fs) : V E M K pc L st0 σ :=
  V_cvI h hC hL hs ha hR hn hst hw (fun _ _ h2 => by rw [h2.1, h2.2]; exact k)
theorem V_cvJe {M' : Mi} {d idx n ci a : Nat} {av st0 : List Value} {fs : Sg} {g : Int64} (h : dq M pc (.invokevirtual idx) 3 nx) (hC : Cn E M' d (.ref (eB E + a) :: av) σ (pJ (fun σ' r => σ' = fs ∧ r = g))) (hL : Cond.methodLink M.1.cls idx M'.1 ∈ gw) (hs : sV M' n ci) (ha : kd a = ci) (hR : rmok K M'.2.2.1 d) (hn : av.length = n) (hst : st0 = av.reverse ++ .ref (eB E + a) :: st) (hw : (st.map fun v => v.category).sum ≤ 8) (k : V E M K nx L (.long g :: st) fs) : V E M K pc L st0 σ :=
  V_cvJ h hC hL hs ha hR hn hst hw (fun _ _ h2 => by rw [h2.1, h2.2]; exact k)
theorem V_cvRe {M' : Mi} {d idx n ci a : Nat} {av st0 : List Value} {fs : Sg} {g : Nat} (h : dq M pc (.invokevirtual idx) 3 nx) (hC : Cn E M' d (.ref (eB E + a) :: av) σ (pR E (fun σ' r => σ' = fs ∧ r = g))) (hL : Cond.methodLink M.1.cls idx M'.1 ∈ gw) (hs : sV M' n ci) (ha : kd a = ci) (hR : rmok K M'.2.2.1 d) (hn : av.length = n) (hst : st0 = av.reverse ++ .ref (eB E + a) :: st) (hw : (st.map fun v => v.category).sum ≤ 8) (k : V E M K nx L (.ref (eB E + g) :: st) fs) : V E M K pc L st0 σ :=
  V_cvR h hC hL hs ha hR hn hst hw (fun _ _ h2 => by rw [h2.1, h2.2]; exact k)
theorem V_cvVe {M' : Mi} {d idx n ci a : Nat} {av st0 : List Value} {fs : Sg} (h : dq M pc (.invokevirtual idx) 3 nx) (hC : Cn E M' d (.ref (eB E + a) :: av) σ (pV (fun σ' => σ' = fs))) (hL : Cond.methodLink M.1.cls idx M'.1 ∈ gw) (hs : sV M' n ci) (ha : kd a = ci) (hR : rmok K M'.2.2.1 d) (hn : av.length = n) (hst : st0 = av.reverse ++ .ref (eB E + a) :: st) (hw : (st.map fun v => v.category).sum ≤ 8) (k : V E M K nx L (st) fs) : V E M K pc L st0 σ :=
  V_cvV h hC hL hs ha hR hn hst hw (fun _ h2 => h2 ▸ k)
end VC
theorem S_X0_keep : sV m_X0_keep 1 0 := ⟨w_X0_keep_c, w_X0_keep_n, w_X0_keep_v, in_X0_i, by decide +kernel, by decide, _, rfl, rfl⟩
theorem S_X0_takeBack : sV m_X0_takeBack 1 0 := ⟨w_X0_takeBack_c, w_X0_takeBack_n, w_X0_takeBack_v, in_X0_i, by decide +kernel, by decide, _, rfl, rfl⟩
theorem S_X0_forgetAll : sV m_X0_forgetAll 0 0 := ⟨w_X0_forgetAll_c, w_X0_forgetAll_n, w_X0_forgetAll_v, in_X0_i, by decide +kernel, by decide, _, rfl, rfl⟩
theorem S_X1_isKind : sS m_X1_isKind 2 := ⟨w_X1_isKind_c, w_X1_isKind_s, in_X1_i, by decide +kernel⟩
theorem S_X1_answer : sV m_X1_answer 3 1 := ⟨w_X1_answer_c, w_X1_answer_n, w_X1_answer_v, in_X1_i, by decide +kernel, by decide, _, rfl, rfl⟩
theorem S_X1_runBody : sV m_X1_runBody 4 1 := ⟨w_X1_runBody_c, w_X1_runBody_n, w_X1_runBody_v, in_X1_i, by decide +kernel, by decide, _, rfl, rfl⟩
theorem S_X1_leaveTrace : sV m_X1_leaveTrace 1 1 := ⟨w_X1_leaveTrace_c, w_X1_leaveTrace_n, w_X1_leaveTrace_v, in_X1_i, by decide +kernel, by decide, _, rfl, rfl⟩
theorem S_X2_stateOf : sS m_X2_stateOf 1 := ⟨w_X2_stateOf_c, w_X2_stateOf_s, in_X2_i, by decide +kernel⟩
theorem S_X2_waysFrom : sS m_X2_waysFrom 4 := ⟨w_X2_waysFrom_c, w_X2_waysFrom_s, in_X2_i, by decide +kernel⟩
theorem S_X2_fewestHours : sV m_X2_fewestHours 4 2 := ⟨w_X2_fewestHours_c, w_X2_fewestHours_n, w_X2_fewestHours_v, in_X2_i, by decide +kernel, by decide, _, rfl, rfl⟩
theorem S_X2_begin : sV m_X2_begin 1 2 := ⟨w_X2_begin_c, w_X2_begin_n, w_X2_begin_v, in_X2_i, by decide +kernel, by decide, _, rfl, rfl⟩
theorem S_X2_goOnFrom : sV m_X2_goOnFrom 2 2 := ⟨w_X2_goOnFrom_c, w_X2_goOnFrom_n, w_X2_goOnFrom_v, in_X2_i, by decide +kernel, by decide, _, rfl, rfl⟩
theorem S_X2_reach : sV m_X2_reach 3 2 := ⟨w_X2_reach_c, w_X2_reach_n, w_X2_reach_v, in_X2_i, by decide +kernel, by decide, _, rfl, rfl⟩
theorem S_X2_behind : sS m_X2_behind 3 := ⟨w_X2_behind_c, w_X2_behind_s, in_X2_i, by decide +kernel⟩
theorem S_X2_hoursOf : sS m_X2_hoursOf 3 := ⟨w_X2_hoursOf_c, w_X2_hoursOf_s, in_X2_i, by decide +kernel⟩
theorem S_X3_begin : sV m_X3_begin 2 3 := ⟨w_X3_begin_c, w_X3_begin_n, w_X3_begin_v, in_X3_i, by decide +kernel, by decide, _, rfl, rfl⟩
theorem S_X3_put : sV m_X3_put 2 3 := ⟨w_X3_put_c, w_X3_put_n, w_X3_put_v, in_X3_i, by decide +kernel, by decide, _, rfl, rfl⟩
theorem S_X3_findingAt : sV m_X3_findingAt 2 3 := ⟨w_X3_findingAt_c, w_X3_findingAt_n, w_X3_findingAt_v, in_X3_i, by decide +kernel, by decide, _, rfl, rfl⟩
theorem S_X4_walkAhead : sV m_X4_walkAhead 3 4 := ⟨w_X4_walkAhead_c, w_X4_walkAhead_n, w_X4_walkAhead_v, in_X4_i, by decide +kernel, by decide, _, rfl, rfl⟩
theorem S_X4_daysUntilOf : sV m_X4_daysUntilOf 3 4 := ⟨w_X4_daysUntilOf_c, w_X4_daysUntilOf_n, w_X4_daysUntilOf_v, in_X4_i, by decide +kernel, by decide, _, rfl, rfl⟩
theorem S_X4_hungryFirst : sV m_X4_hungryFirst 2 4 := ⟨w_X4_hungryFirst_c, w_X4_hungryFirst_n, w_X4_hungryFirst_v, in_X4_i, by decide +kernel, by decide, _, rfl, rfl⟩
theorem S_X4_fewestTurned : sV m_X4_fewestTurned 4 4 := ⟨w_X4_fewestTurned_c, w_X4_fewestTurned_n, w_X4_fewestTurned_v, in_X4_i, by decide +kernel, by decide, _, rfl, rfl⟩
theorem S_X4_fewestFallen : sV m_X4_fewestFallen 2 4 := ⟨w_X4_fewestFallen_c, w_X4_fewestFallen_n, w_X4_fewestFallen_v, in_X4_i, by decide +kernel, by decide, _, rfl, rfl⟩
theorem S_X4_hearDinners : sV m_X4_hearDinners 3 4 := ⟨w_X4_hearDinners_c, w_X4_hearDinners_n, w_X4_hearDinners_v, in_X4_i, by decide +kernel, by decide, _, rfl, rfl⟩
theorem S_X4_kindsThatFit : sV m_X4_kindsThatFit 3 4 := ⟨w_X4_kindsThatFit_c, w_X4_kindsThatFit_n, w_X4_kindsThatFit_v, in_X4_i, by decide +kernel, by decide, _, rfl, rfl⟩
theorem S_X4_facingsThatFit : sV m_X4_facingsThatFit 3 4 := ⟨w_X4_facingsThatFit_c, w_X4_facingsThatFit_n, w_X4_facingsThatFit_v, in_X4_i, by decide +kernel, by decide, _, rfl, rfl⟩
theorem S_X4_headingsThatFit : sV m_X4_headingsThatFit 2 4 := ⟨w_X4_headingsThatFit_c, w_X4_headingsThatFit_n, w_X4_headingsThatFit_v, in_X4_i, by decide +kernel, by decide, _, rfl, rfl⟩
theorem S_X4_fishesThatFit : sV m_X4_fishesThatFit 2 4 := ⟨w_X4_fishesThatFit_c, w_X4_fishesThatFit_n, w_X4_fishesThatFit_v, in_X4_i, by decide +kernel, by decide, _, rfl, rfl⟩
theorem S_X4_fallsThatFit : sV m_X4_fallsThatFit 2 4 := ⟨w_X4_fallsThatFit_c, w_X4_fallsThatFit_n, w_X4_fallsThatFit_v, in_X4_i, by decide +kernel, by decide, _, rfl, rfl⟩
theorem S_X4_likelyFed : sV m_X4_likelyFed 5 4 := ⟨w_X4_likelyFed_c, w_X4_likelyFed_n, w_X4_likelyFed_v, in_X4_i, by decide +kernel, by decide, _, rfl, rfl⟩
theorem S_X4_yearsDrawn : sV m_X4_yearsDrawn 4 4 := ⟨w_X4_yearsDrawn_c, w_X4_yearsDrawn_n, w_X4_yearsDrawn_v, in_X4_i, by decide +kernel, by decide, _, rfl, rfl⟩
theorem S_X4_isFewer : sS m_X4_isFewer 2 := ⟨w_X4_isFewer_c, w_X4_isFewer_s, in_X4_i, by decide +kernel⟩
theorem S_X4_isOfIfTurned : sV m_X4_isOfIfTurned 5 4 := ⟨w_X4_isOfIfTurned_c, w_X4_isOfIfTurned_n, w_X4_isOfIfTurned_v, in_X4_i, by decide +kernel, by decide, _, rfl, rfl⟩
theorem S_X4_areAllFedIfFallen : sV m_X4_areAllFedIfFallen 3 4 := ⟨w_X4_areAllFedIfFallen_c, w_X4_areAllFedIfFallen_n, w_X4_areAllFedIfFallen_v, in_X4_i, by decide +kernel, by decide, _, rfl, rfl⟩
theorem S_X4_isFedIfFallen : sV m_X4_isFedIfFallen 4 4 := ⟨w_X4_isFedIfFallen_c, w_X4_isFedIfFallen_n, w_X4_isFedIfFallen_v, in_X4_i, by decide +kernel, by decide, _, rfl, rfl⟩
theorem S_X4_isAsTold : sV m_X4_isAsTold 1 4 := ⟨w_X4_isAsTold_c, w_X4_isAsTold_n, w_X4_isAsTold_v, in_X4_i, by decide +kernel, by decide, _, rfl, rfl⟩
theorem S_X4_power : sS m_X4_power 2 := ⟨w_X4_power_c, w_X4_power_s, in_X4_i, by decide +kernel⟩
theorem S_X4_commonDivisor : sS m_X4_commonDivisor 2 := ⟨w_X4_commonDivisor_c, w_X4_commonDivisor_s, in_X4_i, by decide +kernel⟩
theorem S_X5_clear : sV m_X5_clear 0 5 := ⟨w_X5_clear_c, w_X5_clear_n, w_X5_clear_v, in_X5_i, by decide +kernel, by decide, _, rfl, rfl⟩
theorem S_X5_become : sV m_X5_become 1 5 := ⟨w_X5_become_c, w_X5_become_n, w_X5_become_v, in_X5_i, by decide +kernel, by decide, _, rfl, rfl⟩
theorem S_X5_isNone : sV m_X5_isNone 0 5 := ⟨w_X5_isNone_c, w_X5_isNone_n, w_X5_isNone_v, in_X5_i, by decide +kernel, by decide, _, rfl, rfl⟩
theorem S_X5_hasGate : sV m_X5_hasGate 1 5 := ⟨w_X5_hasGate_c, w_X5_hasGate_n, w_X5_hasGate_v, in_X5_i, by decide +kernel, by decide, _, rfl, rfl⟩
theorem S_X5_hasPerson : sV m_X5_hasPerson 1 5 := ⟨w_X5_hasPerson_c, w_X5_hasPerson_n, w_X5_hasPerson_v, in_X5_i, by decide +kernel, by decide, _, rfl, rfl⟩
theorem S_X5_hasSet : sV m_X5_hasSet 1 5 := ⟨w_X5_hasSet_c, w_X5_hasSet_n, w_X5_hasSet_v, in_X5_i, by decide +kernel, by decide, _, rfl, rfl⟩
theorem S_X5_addGate : sV m_X5_addGate 3 5 := ⟨w_X5_addGate_c, w_X5_addGate_n, w_X5_addGate_v, in_X5_i, by decide +kernel, by decide, _, rfl, rfl⟩
theorem S_X5_addWalker : sV m_X5_addWalker 3 5 := ⟨w_X5_addWalker_c, w_X5_addWalker_n, w_X5_addWalker_v, in_X5_i, by decide +kernel, by decide, _, rfl, rfl⟩
theorem S_X5_ofBehind : sV m_X5_ofBehind 3 5 := ⟨w_X5_ofBehind_c, w_X5_ofBehind_n, w_X5_ofBehind_v, in_X5_i, by decide +kernel, by decide, _, rfl, rfl⟩
theorem S_X5_feedsFreely : sV m_X5_feedsFreely 2 5 := ⟨w_X5_feedsFreely_c, w_X5_feedsFreely_n, w_X5_feedsFreely_v, in_X5_i, by decide +kernel, by decide, _, rfl, rfl⟩
theorem S_X5_passGate : sV m_X5_passGate 1 5 := ⟨w_X5_passGate_c, w_X5_passGate_n, w_X5_passGate_v, in_X5_i, by decide +kernel, by decide, _, rfl, rfl⟩
theorem S_X5_passDay : sV m_X5_passDay 0 5 := ⟨w_X5_passDay_c, w_X5_passDay_n, w_X5_passDay_v, in_X5_i, by decide +kernel, by decide, _, rfl, rfl⟩
theorem S_X5_liveDay : sV m_X5_liveDay 1 5 := ⟨w_X5_liveDay_c, w_X5_liveDay_n, w_X5_liveDay_v, in_X5_i, by decide +kernel, by decide, _, rfl, rfl⟩
theorem S_X5_walkOn : sV m_X5_walkOn 1 5 := ⟨w_X5_walkOn_c, w_X5_walkOn_n, w_X5_walkOn_v, in_X5_i, by decide +kernel, by decide, _, rfl, rfl⟩
theorem S_X5_dine : sV m_X5_dine 1 5 := ⟨w_X5_dine_c, w_X5_dine_n, w_X5_dine_v, in_X5_i, by decide +kernel, by decide, _, rfl, rfl⟩
theorem S_X5_hungerOfAll : sV m_X5_hungerOfAll 0 5 := ⟨w_X5_hungerOfAll_c, w_X5_hungerOfAll_n, w_X5_hungerOfAll_v, in_X5_i, by decide +kernel, by decide, _, rfl, rfl⟩
theorem S_X5_fishOfAll : sV m_X5_fishOfAll 0 5 := ⟨w_X5_fishOfAll_c, w_X5_fishOfAll_n, w_X5_fishOfAll_v, in_X5_i, by decide +kernel, by decide, _, rfl, rfl⟩
theorem S_X5_whoStays : sV m_X5_whoStays 0 5 := ⟨w_X5_whoStays_c, w_X5_whoStays_n, w_X5_whoStays_v, in_X5_i, by decide +kernel, by decide, _, rfl, rfl⟩
theorem S_X5_whoIsAt : sV m_X5_whoIsAt 2 5 := ⟨w_X5_whoIsAt_c, w_X5_whoIsAt_n, w_X5_whoIsAt_v, in_X5_i, by decide +kernel, by decide, _, rfl, rfl⟩
theorem S_X5_whoIsOf : sV m_X5_whoIsOf 1 5 := ⟨w_X5_whoIsOf_c, w_X5_whoIsOf_n, w_X5_whoIsOf_v, in_X5_i, by decide +kernel, by decide, _, rfl, rfl⟩
theorem S_X5_fellowsOf : sV m_X5_fellowsOf 1 5 := ⟨w_X5_fellowsOf_c, w_X5_fellowsOf_n, w_X5_fellowsOf_v, in_X5_i, by decide +kernel, by decide, _, rfl, rfl⟩
theorem S_X5_shareOf : sV m_X5_shareOf 2 5 := ⟨w_X5_shareOf_c, w_X5_shareOf_n, w_X5_shareOf_v, in_X5_i, by decide +kernel, by decide, _, rfl, rfl⟩
theorem S_X6_append : sV m_X6_append 1 6 := ⟨w_X6_append_c, w_X6_append_n, w_X6_append_v, in_X6_i, by decide +kernel, by decide, _, rfl, rfl⟩
theorem S_X6_readInto : sV m_X6_readInto 1 6 := ⟨w_X6_readInto_c, w_X6_readInto_n, w_X6_readInto_v, in_X6_i, by decide +kernel, by decide, _, rfl, rfl⟩
theorem S_X6_readLaw : sV m_X6_readLaw 1 6 := ⟨w_X6_readLaw_c, w_X6_readLaw_n, w_X6_readLaw_v, in_X6_i, by decide +kernel, by decide, _, rfl, rfl⟩
theorem S_X6_readGates : sV m_X6_readGates 1 6 := ⟨w_X6_readGates_c, w_X6_readGates_n, w_X6_readGates_v, in_X6_i, by decide +kernel, by decide, _, rfl, rfl⟩
theorem S_X6_readGate : sV m_X6_readGate 1 6 := ⟨w_X6_readGate_c, w_X6_readGate_n, w_X6_readGate_v, in_X6_i, by decide +kernel, by decide, _, rfl, rfl⟩
theorem S_X6_readPeople : sV m_X6_readPeople 1 6 := ⟨w_X6_readPeople_c, w_X6_readPeople_n, w_X6_readPeople_v, in_X6_i, by decide +kernel, by decide, _, rfl, rfl⟩
theorem S_X6_readPerson : sV m_X6_readPerson 1 6 := ⟨w_X6_readPerson_c, w_X6_readPerson_n, w_X6_readPerson_v, in_X6_i, by decide +kernel, by decide, _, rfl, rfl⟩
theorem S_X6_sortInView : sV m_X6_sortInView 0 6 := ⟨w_X6_sortInView_c, w_X6_sortInView_n, w_X6_sortInView_v, in_X6_i, by decide +kernel, by decide, _, rfl, rfl⟩
theorem S_X6_take : sV m_X6_take 1 6 := ⟨w_X6_take_c, w_X6_take_n, w_X6_take_v, in_X6_i, by decide +kernel, by decide, _, rfl, rfl⟩
theorem S_X6_takeNumber : sV m_X6_takeNumber 2 6 := ⟨w_X6_takeNumber_c, w_X6_takeNumber_n, w_X6_takeNumber_v, in_X6_i, by decide +kernel, by decide, _, rfl, rfl⟩
theorem S_X6_refuse : sV m_X6_refuse 1 6 := ⟨w_X6_refuse_c, w_X6_refuse_n, w_X6_refuse_v, in_X6_i, by decide +kernel, by decide, _, rfl, rfl⟩
theorem S_X6_advance : sV m_X6_advance 0 6 := ⟨w_X6_advance_c, w_X6_advance_n, w_X6_advance_v, in_X6_i, by decide +kernel, by decide, _, rfl, rfl⟩
theorem S_X6_advanceOverFigures : sV m_X6_advanceOverFigures 0 6 := ⟨w_X6_advanceOverFigures_c, w_X6_advanceOverFigures_n, w_X6_advanceOverFigures_v, in_X6_i, by decide +kernel, by decide, _, rfl, rfl⟩
theorem S_X6_isFigure : sS m_X6_isFigure 1 := ⟨w_X6_isFigure_c, w_X6_isFigure_s, in_X6_i, by decide +kernel⟩
theorem S_X7_become : sV m_X7_become 1 7 := ⟨w_X7_become_c, w_X7_become_n, w_X7_become_v, in_X7_i, by decide +kernel, by decide, _, rfl, rfl⟩
theorem S_X8_row : sV m_X8_row 3 8 := ⟨w_X8_row_c, w_X8_row_n, w_X8_row_v, in_X8_i, by decide +kernel, by decide, _, rfl, rfl⟩
theorem S_X8_set : sV m_X8_set 3 8 := ⟨w_X8_set_c, w_X8_set_n, w_X8_set_v, in_X8_i, by decide +kernel, by decide, _, rfl, rfl⟩
theorem S_X8_copy : sV m_X8_copy 5 8 := ⟨w_X8_copy_c, w_X8_copy_n, w_X8_copy_v, in_X8_i, by decide +kernel, by decide, _, rfl, rfl⟩
theorem S_X8_drop : sV m_X8_drop 1 8 := ⟨w_X8_drop_c, w_X8_drop_n, w_X8_drop_v, in_X8_i, by decide +kernel, by decide, _, rfl, rfl⟩
theorem S_X8_feed : sV m_X8_feed 1 8 := ⟨w_X8_feed_c, w_X8_feed_n, w_X8_feed_v, in_X8_i, by decide +kernel, by decide, _, rfl, rfl⟩
theorem S_X8_shore : sV m_X8_shore 0 8 := ⟨w_X8_shore_c, w_X8_shore_n, w_X8_shore_v, in_X8_i, by decide +kernel, by decide, _, rfl, rfl⟩
theorem S_X8_fault : sV m_X8_fault 0 8 := ⟨w_X8_fault_c, w_X8_fault_n, w_X8_fault_v, in_X8_i, by decide +kernel, by decide, _, rfl, rfl⟩
theorem S_X8_undo : sV m_X8_undo 0 8 := ⟨w_X8_undo_c, w_X8_undo_n, w_X8_undo_v, in_X8_i, by decide +kernel, by decide, _, rfl, rfl⟩
theorem S_X8_days : sV m_X8_days 1 8 := ⟨w_X8_days_c, w_X8_days_n, w_X8_days_v, in_X8_i, by decide +kernel, by decide, _, rfl, rfl⟩
theorem S_X8_cross : sV m_X8_cross 1 8 := ⟨w_X8_cross_c, w_X8_cross_n, w_X8_cross_v, in_X8_i, by decide +kernel, by decide, _, rfl, rfl⟩
theorem S_X8_turn : sV m_X8_turn 1 8 := ⟨w_X8_turn_c, w_X8_turn_n, w_X8_turn_v, in_X8_i, by decide +kernel, by decide, _, rfl, rfl⟩
theorem S_X8_stay : sV m_X8_stay 2 8 := ⟨w_X8_stay_c, w_X8_stay_n, w_X8_stay_v, in_X8_i, by decide +kernel, by decide, _, rfl, rfl⟩
theorem S_X8_round : sV m_X8_round 1 8 := ⟨w_X8_round_c, w_X8_round_n, w_X8_round_v, in_X8_i, by decide +kernel, by decide, _, rfl, rfl⟩
theorem S_X8_fall : sV m_X8_fall 1 8 := ⟨w_X8_fall_c, w_X8_fall_n, w_X8_fall_v, in_X8_i, by decide +kernel, by decide, _, rfl, rfl⟩
theorem S_X8_setUp : sV m_X8_setUp 1 8 := ⟨w_X8_setUp_c, w_X8_setUp_n, w_X8_setUp_v, in_X8_i, by decide +kernel, by decide, _, rfl, rfl⟩
theorem S_X8_gate : sV m_X8_gate 2 8 := ⟨w_X8_gate_c, w_X8_gate_n, w_X8_gate_v, in_X8_i, by decide +kernel, by decide, _, rfl, rfl⟩
theorem S_X8_person : sV m_X8_person 2 8 := ⟨w_X8_person_c, w_X8_person_n, w_X8_person_v, in_X8_i, by decide +kernel, by decide, _, rfl, rfl⟩
theorem S_X8_ahead : sV m_X8_ahead 3 8 := ⟨w_X8_ahead_c, w_X8_ahead_n, w_X8_ahead_v, in_X8_i, by decide +kernel, by decide, _, rfl, rfl⟩
theorem S_X8_when : sV m_X8_when 2 8 := ⟨w_X8_when_c, w_X8_when_n, w_X8_when_v, in_X8_i, by decide +kernel, by decide, _, rfl, rfl⟩
theorem S_X8_first : sV m_X8_first 1 8 := ⟨w_X8_first_c, w_X8_first_n, w_X8_first_v, in_X8_i, by decide +kernel, by decide, _, rfl, rfl⟩
theorem S_X8_least : sV m_X8_least 3 8 := ⟨w_X8_least_c, w_X8_least_n, w_X8_least_v, in_X8_i, by decide +kernel, by decide, _, rfl, rfl⟩
theorem S_X8_ways : sV m_X8_ways 3 8 := ⟨w_X8_ways_c, w_X8_ways_n, w_X8_ways_v, in_X8_i, by decide +kernel, by decide, _, rfl, rfl⟩
theorem S_X8_rounds : sV m_X8_rounds 4 8 := ⟨w_X8_rounds_c, w_X8_rounds_n, w_X8_rounds_v, in_X8_i, by decide +kernel, by decide, _, rfl, rfl⟩
theorem S_X8_falls : sV m_X8_falls 2 8 := ⟨w_X8_falls_c, w_X8_falls_n, w_X8_falls_v, in_X8_i, by decide +kernel, by decide, _, rfl, rfl⟩
theorem S_X8_fellows : sV m_X8_fellows 1 8 := ⟨w_X8_fellows_c, w_X8_fellows_n, w_X8_fellows_v, in_X8_i, by decide +kernel, by decide, _, rfl, rfl⟩
theorem S_X8_homes : sV m_X8_homes 1 8 := ⟨w_X8_homes_c, w_X8_homes_n, w_X8_homes_v, in_X8_i, by decide +kernel, by decide, _, rfl, rfl⟩
theorem S_X8_share : sV m_X8_share 2 8 := ⟨w_X8_share_c, w_X8_share_n, w_X8_share_v, in_X8_i, by decide +kernel, by decide, _, rfl, rfl⟩
theorem S_X8_what : sV m_X8_what 6 8 := ⟨w_X8_what_c, w_X8_what_n, w_X8_what_v, in_X8_i, by decide +kernel, by decide, _, rfl, rfl⟩
theorem S_X8_who : sV m_X8_who 5 8 := ⟨w_X8_who_c, w_X8_who_n, w_X8_who_v, in_X8_i, by decide +kernel, by decide, _, rfl, rfl⟩
theorem S_X8_fed : sV m_X8_fed 4 8 := ⟨w_X8_fed_c, w_X8_fed_n, w_X8_fed_v, in_X8_i, by decide +kernel, by decide, _, rfl, rfl⟩
theorem S_X8_drawn : sV m_X8_drawn 3 8 := ⟨w_X8_drawn_c, w_X8_drawn_n, w_X8_drawn_v, in_X8_i, by decide +kernel, by decide, _, rfl, rfl⟩
theorem S_X8_image : sV m_X8_image 1 8 := ⟨w_X8_image_c, w_X8_image_n, w_X8_image_v, in_X8_i, by decide +kernel, by decide, _, rfl, rfl⟩
theorem S_X8_restore : sV m_X8_restore 1 8 := ⟨w_X8_restore_c, w_X8_restore_n, w_X8_restore_v, in_X8_i, by decide +kernel, by decide, _, rfl, rfl⟩
theorem S_X8_kind : sV m_X8_kind 1 8 := ⟨w_X8_kind_c, w_X8_kind_n, w_X8_kind_v, in_X8_i, by decide +kernel, by decide, _, rfl, rfl⟩
theorem S_X8_as : sV m_X8_as 2 8 := ⟨w_X8_as_c, w_X8_as_n, w_X8_as_v, in_X8_i, by decide +kernel, by decide, _, rfl, rfl⟩
theorem S_X8_ask : sV m_X8_ask 2 8 := ⟨w_X8_ask_c, w_X8_ask_n, w_X8_ask_v, in_X8_i, by decide +kernel, by decide, _, rfl, rfl⟩
theorem S_X8_trace : sV m_X8_trace 1 8 := ⟨w_X8_trace_c, w_X8_trace_n, w_X8_trace_v, in_X8_i, by decide +kernel, by decide, _, rfl, rfl⟩
theorem S_X8_count : sV m_X8_count 1 8 := ⟨w_X8_count_c, w_X8_count_n, w_X8_count_v, in_X8_i, by decide +kernel, by decide, _, rfl, rfl⟩
theorem S_X8_status : sV m_X8_status 0 8 := ⟨w_X8_status_c, w_X8_status_n, w_X8_status_v, in_X8_i, by decide +kernel, by decide, _, rfl, rfl⟩
theorem S_X8_within : sS m_X8_within 3 := ⟨w_X8_within_c, w_X8_within_s, in_X8_i, by decide +kernel⟩
theorem S_X8_bit : sS m_X8_bit 2 := ⟨w_X8_bit_c, w_X8_bit_s, in_X8_i, by decide +kernel⟩
theorem S_X8_isRow : sS m_X8_isRow 1 := ⟨w_X8_isRow_c, w_X8_isRow_s, in_X8_i, by decide +kernel⟩
theorem S_X8_canTellDinners : sS m_X8_canTellDinners 2 := ⟨w_X8_canTellDinners_c, w_X8_canTellDinners_s, in_X8_i, by decide +kernel⟩
theorem S_X8_sizeOrSet : sS m_X8_sizeOrSet 2 := ⟨w_X8_sizeOrSet_c, w_X8_sizeOrSet_s, in_X8_i, by decide +kernel⟩
theorem S_X8_rowsThatAre : sV m_X8_rowsThatAre 0 8 := ⟨w_X8_rowsThatAre_c, w_X8_rowsThatAre_n, w_X8_rowsThatAre_v, in_X8_i, by decide +kernel, by decide, _, rfl, rfl⟩
theorem S_X8_found : sV m_X8_found 1 8 := ⟨w_X8_found_c, w_X8_found_n, w_X8_found_v, in_X8_i, by decide +kernel, by decide, _, rfl, rfl⟩
theorem S_X8_sound : sV m_X8_sound 1 8 := ⟨w_X8_sound_c, w_X8_sound_n, w_X8_sound_v, in_X8_i, by decide +kernel, by decide, _, rfl, rfl⟩
theorem S_X9_in : sS m_X9_in 3 := ⟨w_X9_in_c, w_X9_in_s, in_X9_i, by decide +kernel⟩
theorem S_X9_finding : sV m_X9_finding 1 9 := ⟨w_X9_finding_c, w_X9_finding_n, w_X9_finding_v, in_X9_i, by decide +kernel, by decide, _, rfl, rfl⟩
theorem S_X9_isRow : sS m_X9_isRow 1 := ⟨w_X9_isRow_c, w_X9_isRow_s, in_X9_i, by decide +kernel⟩
theorem S_X9_row : sV m_X9_row 3 9 := ⟨w_X9_row_c, w_X9_row_n, w_X9_row_v, in_X9_i, by decide +kernel, by decide, _, rfl, rfl⟩
theorem S_X9_set : sV m_X9_set 3 9 := ⟨w_X9_set_c, w_X9_set_n, w_X9_set_v, in_X9_i, by decide +kernel, by decide, _, rfl, rfl⟩
theorem S_X9_copy : sV m_X9_copy 5 9 := ⟨w_X9_copy_c, w_X9_copy_n, w_X9_copy_v, in_X9_i, by decide +kernel, by decide, _, rfl, rfl⟩
theorem S_X9_drop : sV m_X9_drop 1 9 := ⟨w_X9_drop_c, w_X9_drop_n, w_X9_drop_v, in_X9_i, by decide +kernel, by decide, _, rfl, rfl⟩
theorem S_X9_feed : sV m_X9_feed 1 9 := ⟨w_X9_feed_c, w_X9_feed_n, w_X9_feed_v, in_X9_i, by decide +kernel, by decide, _, rfl, rfl⟩
theorem S_X9_bad : sV m_X9_bad 1 9 := ⟨w_X9_bad_c, w_X9_bad_n, w_X9_bad_v, in_X9_i, by decide +kernel, by decide, _, rfl, rfl⟩
theorem S_X9_nextToken : sV m_X9_nextToken 0 9 := ⟨w_X9_nextToken_c, w_X9_nextToken_n, w_X9_nextToken_v, in_X9_i, by decide +kernel, by decide, _, rfl, rfl⟩
theorem S_X9_must : sV m_X9_must 1 9 := ⟨w_X9_must_c, w_X9_must_n, w_X9_must_v, in_X9_i, by decide +kernel, by decide, _, rfl, rfl⟩
theorem S_X9_isLetter : sV m_X9_isLetter 1 9 := ⟨w_X9_isLetter_c, w_X9_isLetter_n, w_X9_isLetter_v, in_X9_i, by decide +kernel, by decide, _, rfl, rfl⟩
theorem S_X9_number : sV m_X9_number 2 9 := ⟨w_X9_number_c, w_X9_number_n, w_X9_number_v, in_X9_i, by decide +kernel, by decide, _, rfl, rfl⟩
theorem S_X9_mustSign : sV m_X9_mustSign 1 9 := ⟨w_X9_mustSign_c, w_X9_mustSign_n, w_X9_mustSign_v, in_X9_i, by decide +kernel, by decide, _, rfl, rfl⟩
theorem S_X9_begin : sV m_X9_begin 0 9 := ⟨w_X9_begin_c, w_X9_begin_n, w_X9_begin_v, in_X9_i, by decide +kernel, by decide, _, rfl, rfl⟩
theorem S_X9_failed : sV m_X9_failed 0 9 := ⟨w_X9_failed_c, w_X9_failed_n, w_X9_failed_v, in_X9_i, by decide +kernel, by decide, _, rfl, rfl⟩
theorem S_X9_fault : sV m_X9_fault 0 9 := ⟨w_X9_fault_c, w_X9_fault_n, w_X9_fault_v, in_X9_i, by decide +kernel, by decide, _, rfl, rfl⟩
theorem S_X9_kindBy : sS m_X9_kindBy 1 := ⟨w_X9_kindBy_c, w_X9_kindBy_s, in_X9_i, by decide +kernel⟩
theorem S_X9_isSort : sV m_X9_isSort 0 9 := ⟨w_X9_isSort_c, w_X9_isSort_n, w_X9_isSort_v, in_X9_i, by decide +kernel, by decide, _, rfl, rfl⟩
theorem S_X9_readGate : sV m_X9_readGate 0 9 := ⟨w_X9_readGate_c, w_X9_readGate_n, w_X9_readGate_v, in_X9_i, by decide +kernel, by decide, _, rfl, rfl⟩
theorem S_X9_readMan : sV m_X9_readMan 0 9 := ⟨w_X9_readMan_c, w_X9_readMan_n, w_X9_readMan_v, in_X9_i, by decide +kernel, by decide, _, rfl, rfl⟩
theorem S_X9_shore : sV m_X9_shore 0 9 := ⟨w_X9_shore_c, w_X9_shore_n, w_X9_shore_v, in_X9_i, by decide +kernel, by decide, _, rfl, rfl⟩
theorem S_X9_isThere : sV m_X9_isThere 0 9 := ⟨w_X9_isThere_c, w_X9_isThere_n, w_X9_isThere_v, in_X9_i, by decide +kernel, by decide, _, rfl, rfl⟩
theorem S_X9_isGate : sV m_X9_isGate 1 9 := ⟨w_X9_isGate_c, w_X9_isGate_n, w_X9_isGate_v, in_X9_i, by decide +kernel, by decide, _, rfl, rfl⟩
theorem S_X9_isMan : sV m_X9_isMan 1 9 := ⟨w_X9_isMan_c, w_X9_isMan_n, w_X9_isMan_v, in_X9_i, by decide +kernel, by decide, _, rfl, rfl⟩
theorem S_X9_bits : sS m_X9_bits 1 := ⟨w_X9_bits_c, w_X9_bits_s, in_X9_i, by decide +kernel⟩
theorem S_X9_has : sS m_X9_has 2 := ⟨w_X9_has_c, w_X9_has_s, in_X9_i, by decide +kernel⟩
theorem S_X9_of : sS m_X9_of 3 := ⟨w_X9_of_c, w_X9_of_s, in_X9_i, by decide +kernel⟩
theorem S_X9_his : sS m_X9_his 3 := ⟨w_X9_his_c, w_X9_his_s, in_X9_i, by decide +kernel⟩
theorem S_X9_be : sS m_X9_be 4 := ⟨w_X9_be_c, w_X9_be_s, in_X9_i, by decide +kernel⟩
theorem S_X9_through : sS m_X9_through 4 := ⟨w_X9_through_c, w_X9_through_s, in_X9_i, by decide +kernel⟩
theorem S_X9_crosses : sS m_X9_crosses 2 := ⟨w_X9_crosses_c, w_X9_crosses_s, in_X9_i, by decide +kernel⟩
theorem S_X9_walks : sS m_X9_walks 2 := ⟨w_X9_walks_c, w_X9_walks_s, in_X9_i, by decide +kernel⟩
theorem S_X9_eats : sS m_X9_eats 2 := ⟨w_X9_eats_c, w_X9_eats_s, in_X9_i, by decide +kernel⟩
theorem S_X9_day : sS m_X9_day 1 := ⟨w_X9_day_c, w_X9_day_s, in_X9_i, by decide +kernel⟩
theorem S_X9_daysOf : sS m_X9_daysOf 2 := ⟨w_X9_daysOf_c, w_X9_daysOf_s, in_X9_i, by decide +kernel⟩
theorem S_X9_hungry : sS m_X9_hungry 1 := ⟨w_X9_hungry_c, w_X9_hungry_s, in_X9_i, by decide +kernel⟩
theorem S_X9_layThen : sV m_X9_layThen 0 9 := ⟨w_X9_layThen_c, w_X9_layThen_n, w_X9_layThen_v, in_X9_i, by decide +kernel, by decide, _, rfl, rfl⟩
theorem S_X9_keep : sV m_X9_keep 0 9 := ⟨w_X9_keep_c, w_X9_keep_n, w_X9_keep_v, in_X9_i, by decide +kernel, by decide, _, rfl, rfl⟩
theorem S_X9_days : sV m_X9_days 1 9 := ⟨w_X9_days_c, w_X9_days_n, w_X9_days_v, in_X9_i, by decide +kernel, by decide, _, rfl, rfl⟩
theorem S_X9_cross : sV m_X9_cross 1 9 := ⟨w_X9_cross_c, w_X9_cross_n, w_X9_cross_v, in_X9_i, by decide +kernel, by decide, _, rfl, rfl⟩
theorem S_X9_turn : sV m_X9_turn 1 9 := ⟨w_X9_turn_c, w_X9_turn_n, w_X9_turn_v, in_X9_i, by decide +kernel, by decide, _, rfl, rfl⟩
theorem S_X9_stay : sV m_X9_stay 2 9 := ⟨w_X9_stay_c, w_X9_stay_n, w_X9_stay_v, in_X9_i, by decide +kernel, by decide, _, rfl, rfl⟩
theorem S_X9_round : sV m_X9_round 1 9 := ⟨w_X9_round_c, w_X9_round_n, w_X9_round_v, in_X9_i, by decide +kernel, by decide, _, rfl, rfl⟩
theorem S_X9_fallen : sV m_X9_fallen 2 9 := ⟨w_X9_fallen_c, w_X9_fallen_n, w_X9_fallen_v, in_X9_i, by decide +kernel, by decide, _, rfl, rfl⟩
theorem S_X9_fall : sV m_X9_fall 1 9 := ⟨w_X9_fall_c, w_X9_fall_n, w_X9_fall_v, in_X9_i, by decide +kernel, by decide, _, rfl, rfl⟩
theorem S_X9_setUp : sV m_X9_setUp 1 9 := ⟨w_X9_setUp_c, w_X9_setUp_n, w_X9_setUp_v, in_X9_i, by decide +kernel, by decide, _, rfl, rfl⟩
theorem S_X9_undo : sV m_X9_undo 0 9 := ⟨w_X9_undo_c, w_X9_undo_n, w_X9_undo_v, in_X9_i, by decide +kernel, by decide, _, rfl, rfl⟩
theorem S_X9_those : sV m_X9_those 2 9 := ⟨w_X9_those_c, w_X9_those_n, w_X9_those_v, in_X9_i, by decide +kernel, by decide, _, rfl, rfl⟩
theorem S_X9_gate : sV m_X9_gate 2 9 := ⟨w_X9_gate_c, w_X9_gate_n, w_X9_gate_v, in_X9_i, by decide +kernel, by decide, _, rfl, rfl⟩
theorem S_X9_person : sV m_X9_person 2 9 := ⟨w_X9_person_c, w_X9_person_n, w_X9_person_v, in_X9_i, by decide +kernel, by decide, _, rfl, rfl⟩
theorem S_X9_ahead : sV m_X9_ahead 3 9 := ⟨w_X9_ahead_c, w_X9_ahead_n, w_X9_ahead_v, in_X9_i, by decide +kernel, by decide, _, rfl, rfl⟩
theorem S_X9_when : sV m_X9_when 2 9 := ⟨w_X9_when_c, w_X9_when_n, w_X9_when_v, in_X9_i, by decide +kernel, by decide, _, rfl, rfl⟩
theorem S_X9_first : sV m_X9_first 1 9 := ⟨w_X9_first_c, w_X9_first_n, w_X9_first_v, in_X9_i, by decide +kernel, by decide, _, rfl, rfl⟩
theorem S_X9_leads : sV m_X9_leads 2 9 := ⟨w_X9_leads_c, w_X9_leads_n, w_X9_leads_v, in_X9_i, by decide +kernel, by decide, _, rfl, rfl⟩
theorem S_X9_costs : sV m_X9_costs 2 9 := ⟨w_X9_costs_c, w_X9_costs_n, w_X9_costs_v, in_X9_i, by decide +kernel, by decide, _, rfl, rfl⟩
theorem S_X9_placeOf : sV m_X9_placeOf 1 9 := ⟨w_X9_placeOf_c, w_X9_placeOf_n, w_X9_placeOf_v, in_X9_i, by decide +kernel, by decide, _, rfl, rfl⟩
theorem S_X9_measure : sV m_X9_measure 1 9 := ⟨w_X9_measure_c, w_X9_measure_n, w_X9_measure_v, in_X9_i, by decide +kernel, by decide, _, rfl, rfl⟩
theorem S_X9_areGates : sV m_X9_areGates 1 9 := ⟨w_X9_areGates_c, w_X9_areGates_n, w_X9_areGates_v, in_X9_i, by decide +kernel, by decide, _, rfl, rfl⟩
theorem S_X9_least : sV m_X9_least 3 9 := ⟨w_X9_least_c, w_X9_least_n, w_X9_least_v, in_X9_i, by decide +kernel, by decide, _, rfl, rfl⟩
theorem S_X9_ways : sV m_X9_ways 3 9 := ⟨w_X9_ways_c, w_X9_ways_n, w_X9_ways_v, in_X9_i, by decide +kernel, by decide, _, rfl, rfl⟩
theorem S_X9_rounds : sV m_X9_rounds 4 9 := ⟨w_X9_rounds_c, w_X9_rounds_n, w_X9_rounds_v, in_X9_i, by decide +kernel, by decide, _, rfl, rfl⟩
theorem S_X9_falls : sV m_X9_falls 2 9 := ⟨w_X9_falls_c, w_X9_falls_n, w_X9_falls_v, in_X9_i, by decide +kernel, by decide, _, rfl, rfl⟩
theorem S_X9_fellows : sV m_X9_fellows 1 9 := ⟨w_X9_fellows_c, w_X9_fellows_n, w_X9_fellows_v, in_X9_i, by decide +kernel, by decide, _, rfl, rfl⟩
theorem S_X9_homesOf : sV m_X9_homesOf 1 9 := ⟨w_X9_homesOf_c, w_X9_homesOf_n, w_X9_homesOf_v, in_X9_i, by decide +kernel, by decide, _, rfl, rfl⟩
theorem S_X9_homes : sV m_X9_homes 1 9 := ⟨w_X9_homes_c, w_X9_homes_n, w_X9_homes_v, in_X9_i, by decide +kernel, by decide, _, rfl, rfl⟩
theorem S_X9_share : sV m_X9_share 2 9 := ⟨w_X9_share_c, w_X9_share_n, w_X9_share_v, in_X9_i, by decide +kernel, by decide, _, rfl, rfl⟩
theorem S_X9_eatsSo : sV m_X9_eatsSo 3 9 := ⟨w_X9_eatsSo_c, w_X9_eatsSo_n, w_X9_eatsSo_v, in_X9_i, by decide +kernel, by decide, _, rfl, rfl⟩
theorem S_X9_rowFound : sV m_X9_rowFound 3 9 := ⟨w_X9_rowFound_c, w_X9_rowFound_n, w_X9_rowFound_v, in_X9_i, by decide +kernel, by decide, _, rfl, rfl⟩
theorem S_X9_what : sV m_X9_what 6 9 := ⟨w_X9_what_c, w_X9_what_n, w_X9_what_v, in_X9_i, by decide +kernel, by decide, _, rfl, rfl⟩
theorem S_X9_who : sV m_X9_who 5 9 := ⟨w_X9_who_c, w_X9_who_n, w_X9_who_v, in_X9_i, by decide +kernel, by decide, _, rfl, rfl⟩
theorem S_X9_fed : sV m_X9_fed 4 9 := ⟨w_X9_fed_c, w_X9_fed_n, w_X9_fed_v, in_X9_i, by decide +kernel, by decide, _, rfl, rfl⟩
theorem S_X9_drawn : sV m_X9_drawn 3 9 := ⟨w_X9_drawn_c, w_X9_drawn_n, w_X9_drawn_v, in_X9_i, by decide +kernel, by decide, _, rfl, rfl⟩
theorem S_X9_image : sV m_X9_image 1 9 := ⟨w_X9_image_c, w_X9_image_n, w_X9_image_v, in_X9_i, by decide +kernel, by decide, _, rfl, rfl⟩
theorem S_X9_restore : sV m_X9_restore 1 9 := ⟨w_X9_restore_c, w_X9_restore_n, w_X9_restore_v, in_X9_i, by decide +kernel, by decide, _, rfl, rfl⟩
theorem S_X9_isOf : sS m_X9_isOf 2 := ⟨w_X9_isOf_c, w_X9_isOf_s, in_X9_i, by decide +kernel⟩
theorem S_X9_kind : sV m_X9_kind 1 9 := ⟨w_X9_kind_c, w_X9_kind_n, w_X9_kind_v, in_X9_i, by decide +kernel, by decide, _, rfl, rfl⟩
theorem S_X9_as : sV m_X9_as 2 9 := ⟨w_X9_as_c, w_X9_as_n, w_X9_as_v, in_X9_i, by decide +kernel, by decide, _, rfl, rfl⟩
theorem S_X9_began : sV m_X9_began 1 9 := ⟨w_X9_began_c, w_X9_began_n, w_X9_began_v, in_X9_i, by decide +kernel, by decide, _, rfl, rfl⟩
theorem S_X9_plainSize : sV m_X9_plainSize 1 9 := ⟨w_X9_plainSize_c, w_X9_plainSize_n, w_X9_plainSize_v, in_X9_i, by decide +kernel, by decide, _, rfl, rfl⟩
theorem S_X9_openSize : sV m_X9_openSize 1 9 := ⟨w_X9_openSize_c, w_X9_openSize_n, w_X9_openSize_v, in_X9_i, by decide +kernel, by decide, _, rfl, rfl⟩
theorem S_X9_markOf : sV m_X9_markOf 1 9 := ⟨w_X9_markOf_c, w_X9_markOf_n, w_X9_markOf_v, in_X9_i, by decide +kernel, by decide, _, rfl, rfl⟩
theorem S_X9_sizeOf : sV m_X9_sizeOf 1 9 := ⟨w_X9_sizeOf_c, w_X9_sizeOf_n, w_X9_sizeOf_v, in_X9_i, by decide +kernel, by decide, _, rfl, rfl⟩
theorem S_X9_ask : sV m_X9_ask 2 9 := ⟨w_X9_ask_c, w_X9_ask_n, w_X9_ask_v, in_X9_i, by decide +kernel, by decide, _, rfl, rfl⟩
theorem S_X9_trace : sV m_X9_trace 1 9 := ⟨w_X9_trace_c, w_X9_trace_n, w_X9_trace_v, in_X9_i, by decide +kernel, by decide, _, rfl, rfl⟩
theorem S_X9_count : sV m_X9_count 1 9 := ⟨w_X9_count_c, w_X9_count_n, w_X9_count_v, in_X9_i, by decide +kernel, by decide, _, rfl, rfl⟩
theorem S_X9_status : sV m_X9_status 0 9 := ⟨w_X9_status_c, w_X9_status_n, w_X9_status_v, in_X9_i, by decide +kernel, by decide, _, rfl, rfl⟩
theorem S_J6_bitCount_0f7a4 : sS m_J6_bitCount_0f7a4 1 := ⟨w_J6_bitCount_0f7a4_c, w_J6_bitCount_0f7a4_s, in_J6_i, by decide +kernel⟩
theorem S_J9_max_7cf53 : sS m_J9_max_7cf53 2 := ⟨w_J9_max_7cf53_c, w_J9_max_7cf53_s, in_J9_i, by decide +kernel⟩
theorem S_J9_min_7cf53 : sS m_J9_min_7cf53 2 := ⟨w_J9_min_7cf53_c, w_J9_min_7cf53_s, in_J9_i, by decide +kernel⟩

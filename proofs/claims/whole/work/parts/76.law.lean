def kL (E : En) (b L : Nat) (xs : Nat → Int32) : Kk := (room_1, 307, 614000, fun below args s => lw_Z below args s, fun args s => args = #[.ref b] ∧ eB E = s.heap.size ∧ va_X b L xs s s.heap ∧ b < s.heap.size)
def kL0 (E : En) (b L : Nat) (xs : Nat → Int32) : Kk := (room_1, 0, 0, fun below args s => lw_Z below args s, fun args s => args = #[.ref b] ∧ eB E = s.heap.size ∧ va_X b L xs s s.heap ∧ b < s.heap.size)
theorem x63 (x : Int32) : ∃ j : Nat, j < 64 ∧ x &&& nI 63 = nI j := by
  refine ⟨(x &&& nI 63).toBitVec.toNat, ?_, Int32.toBitVec_inj.mp ?_⟩
  · rw [Int32.toBitVec_and, BitVec.toNat_and]
    exact Nat.lt_succ_of_le (Nat.le_trans Nat.and_le_right (by decide))
  · rw [nI_bv, BitVec.ofNat_toNat, BitVec.setWidth_eq]
theorem lg_same (x : Int64) : lg_cmp x x = 0 := by
  unfold lg_cmp
  simp
section LW
variable {E : En} {b L : Nat} {xs : Nat → Int32} {pc nx : Nat} {Lo : List (Option Value)} {st : List Value} {σ : Sg}
theorem V_sld {j : Nat} {x : Int32} (h : dq m_L_law pc .iaload 1 nx) (hx : x = nI j) (hj : j < L) (hL : L ≤ 3584) (k : V E m_L_law (kL E b L xs) nx Lo (.int (xs j) :: st) σ) : V E m_L_law (kL E b L xs) pc Lo (.int x :: .ref b :: st) σ := by
  obtain ⟨h1, rfl⟩ := h
  subst hx
  intro p l e s m args below meth c H locs ls C hZ hP hS hl
  obtain ⟨ha, hB, hX, hb⟩ := C.2.2.2.2.2.2.2.2
  refine va_sld C.1 C.2.1 hX hb (by show ¬ eB E ≤ b; omega) hS (vp_in_nI hj (by omega)) h1 ?_
  rw [nI_clamp (by omega)]
  exact k p l e s m args below meth c H locs ls C hZ hP hS hl
theorem V_slen (h : dq m_L_law pc .arraylength 1 nx) (k : V E m_L_law (kL E b L xs) nx Lo (.int (nI L) :: st) σ) : V E m_L_law (kL E b L xs) pc Lo (.ref b :: st) σ := by
  obtain ⟨h1, rfl⟩ := h
  intro p l e s m args below meth c H locs ls C hZ hP hS hl
  obtain ⟨ha, hB, hX, hb⟩ := C.2.2.2.2.2.2.2.2
  exact va_slen C.1 C.2.1 hX hb (by show ¬ eB E ≤ b; omega) hS h1 (k p l e s m args below meth c H locs ls C hZ hP hS hl)
theorem V_lend (h : dq m_L_law pc .ireturn 1 nx) : V E m_L_law (kL E b L xs) pc Lo [.int 1] σ := by
  obtain ⟨h1, rfl⟩ := h
  intro p l e s m args below meth c H locs ls C hZ hP hS hl
  obtain ⟨ha, hB, hX, hb⟩ := C.2.2.2.2.2.2.2.2
  subst ha
  refine W.widen (k := 600000) (n := 7302250) (Nat.le_of_ble_eq_true rfl) (Nat.le_of_ble_eq_true rfl) ?_
  refine va_forget (fun q hq => by have := hS.2.2 q hq; rw [hB] at this; exact this) ?_
  exact lw_ret C.1 C.2.1 C.2.2.2.2.2.1 C.2.2.2.2.2.2.1 h1
theorem V_grown (hP0 : pc = pc) (k : V E m_L_law (kL E b L xs) pc Lo st σ1) : VG E m_L_law (kL0 E b L xs) pc Lo st (307, [292, 0], σ1) := by
  intro p l e s m args below meth c H locs ls C hN hB hG hz hP hS hl
  exact k p l e s m args below meth c H locs ls C BZ1 (wg_full hP) hS hl
end LW
def NX (E : En) (b L : Nat) (xs : Nat → Int32) (i pc : Nat) : Prop := ∀ (S : Ab) (σ : Sg), IC σ S → IM σ S → V E m_L_law (kL E b L xs) pc [some (.ref b), some (.ref (eB E + 0)), some (.ref (eB E + 292)), some (.int (nI i))] [] σ
theorem rL {E : En} {b L : Nat} {xs : Nat → Int32} {nL : Nat} (h : nL ≤ 40) : rmok (kL E b L xs) nL 12 := ⟨Nat.le_of_ble_eq_true rfl, by show 8 + (nL + 11) + 64 * 12 ≤ 84000; omega, Nat.le_of_ble_eq_true rfl, Nat.le_of_ble_eq_true rfl⟩
theorem law_0 (E : En) (b L : Nat) (xs : Nat → Int32) (i : Nat) (hi : i + 7 ≤ L) (hL : L ≤ 3584) (hN : NX E b L xs i 1454) : NX E b L xs i 204 := by
  intro S σ hC hM
  obtain ⟨A, T⟩ := S
  obtain ⟨R, h8, h9⟩ : ∃ R : Ab × Int32, Cn E m_X8_row 12 [.ref (eB E + 0), .int (xs (i + 1)), .int (xs (i + 2)), .int (xs (i + 3))] σ (pC σ R) ∧ ∀ σ2, IM σ2 (A, T) → Cn E m_X9_row 12 [.ref (eB E + 292), .int (xs (i + 1)), .int (xs (i + 2)), .int (xs (i + 3))] σ2 (pM σ2 R) := ⟨_, c8_row E (xs (i + 1)) (xs (i + 2)) (xs (i + 3)) A T σ hC, fun σ2 hM2 => c9_row E (xs (i + 1)) (xs (i + 2)) (xs (i + 3)) A T σ2 hM2⟩
  refine V_aload_n e_L_law_204 rfl rfl ?_
  refine V_aload_n e_L_law_205 rfl rfl ?_
  refine V_iload_n e_L_law_206 rfl rfl ?_
  refine V_iconst (v := nI 1) e_L_law_207 (by decide) ?_
  refine V_iadd e_L_law_208 ?_
  refine V_sld (j := i + 1) e_L_law_209 (nI_add _ _) (by omega) hL ?_
  refine V_aload_n e_L_law_210 rfl rfl ?_
  refine V_iload_n e_L_law_211 rfl rfl ?_
  refine V_iconst (v := nI 2) e_L_law_212 (by decide) ?_
  refine V_iadd e_L_law_213 ?_
  refine V_sld (j := i + 2) e_L_law_214 (nI_add _ _) (by omega) hL ?_
  refine V_aload_n e_L_law_215 rfl rfl ?_
  refine V_iload_n e_L_law_216 rfl rfl ?_
  refine V_iconst (v := nI 3) e_L_law_217 (by decide) ?_
  refine V_iadd e_L_law_218 ?_
  refine V_sld (j := i + 3) e_L_law_219 (nI_add _ _) (by omega) hL ?_
  refine V_cvI (av := [.int (xs (i + 1)), .int (xs (i + 2)), .int (xs (i + 3))]) e_L_law_220 h8 l_L_13 S_X8_row rfl (rL (by decide)) rfl rfl (Nat.le_of_ble_eq_true rfl) (fun σ2 r hq => ?_)
  obtain ⟨hf, hC2, rfl⟩ := hq
  have hM2 := hM.c hf
  refine V_aload_n e_L_law_223 rfl rfl ?_
  refine V_aload_n e_L_law_224 rfl rfl ?_
  refine V_iload_n e_L_law_225 rfl rfl ?_
  refine V_iconst (v := nI 1) e_L_law_226 (by decide) ?_
  refine V_iadd e_L_law_227 ?_
  refine V_sld (j := i + 1) e_L_law_228 (nI_add _ _) (by omega) hL ?_
  refine V_aload_n e_L_law_229 rfl rfl ?_
  refine V_iload_n e_L_law_230 rfl rfl ?_
  refine V_iconst (v := nI 2) e_L_law_231 (by decide) ?_
  refine V_iadd e_L_law_232 ?_
  refine V_sld (j := i + 2) e_L_law_233 (nI_add _ _) (by omega) hL ?_
  refine V_aload_n e_L_law_234 rfl rfl ?_
  refine V_iload_n e_L_law_235 rfl rfl ?_
  refine V_iconst (v := nI 3) e_L_law_236 (by decide) ?_
  refine V_iadd e_L_law_237 ?_
  refine V_sld (j := i + 3) e_L_law_238 (nI_add _ _) (by omega) hL ?_
  refine V_cvI (av := [.int (xs (i + 1)), .int (xs (i + 2)), .int (xs (i + 3))]) e_L_law_239 (h9 σ2 hM2) l_L_17 S_X9_row rfl (rL (by decide)) rfl rfl (Nat.le_of_ble_eq_true rfl) (fun σ3 r3 hq => ?_)
  obtain ⟨hf3, hM3, rfl⟩ := hq
  exact V_icmp_eq (tgt := 1454) e_L_law_242 (by decide) (fun _ => hN _ σ3 (hC2.m hf3) hM3) (fun h => absurd rfl h)
theorem law_1 (E : En) (b L : Nat) (xs : Nat → Int32) (i : Nat) (hi : i + 7 ≤ L) (hL : L ≤ 3584) (hN : NX E b L xs i 1454) : NX E b L xs i 247 := by
  intro S σ hC hM
  obtain ⟨A, T⟩ := S
  obtain ⟨R, h8, h9⟩ : ∃ R : Ab × Int32, Cn E m_X8_set 12 [.ref (eB E + 0), .int (xs (i + 1)), .int (xs (i + 2)), .int (xs (i + 3))] σ (pC σ R) ∧ ∀ σ2, IM σ2 (A, T) → Cn E m_X9_set 12 [.ref (eB E + 292), .int (xs (i + 1)), .int (xs (i + 2)), .int (xs (i + 3))] σ2 (pM σ2 R) := ⟨_, c8_set E (xs (i + 1)) (xs (i + 2)) (xs (i + 3)) A T σ hC, fun σ2 hM2 => c9_set E (xs (i + 1)) (xs (i + 2)) (xs (i + 3)) A T σ2 hM2⟩
  refine V_aload_n e_L_law_247 rfl rfl ?_
  refine V_aload_n e_L_law_248 rfl rfl ?_
  refine V_iload_n e_L_law_249 rfl rfl ?_
  refine V_iconst (v := nI 1) e_L_law_250 (by decide) ?_
  refine V_iadd e_L_law_251 ?_
  refine V_sld (j := i + 1) e_L_law_252 (nI_add _ _) (by omega) hL ?_
  refine V_aload_n e_L_law_253 rfl rfl ?_
  refine V_iload_n e_L_law_254 rfl rfl ?_
  refine V_iconst (v := nI 2) e_L_law_255 (by decide) ?_
  refine V_iadd e_L_law_256 ?_
  refine V_sld (j := i + 2) e_L_law_257 (nI_add _ _) (by omega) hL ?_
  refine V_aload_n e_L_law_258 rfl rfl ?_
  refine V_iload_n e_L_law_259 rfl rfl ?_
  refine V_iconst (v := nI 3) e_L_law_260 (by decide) ?_
  refine V_iadd e_L_law_261 ?_
  refine V_sld (j := i + 3) e_L_law_262 (nI_add _ _) (by omega) hL ?_
  refine V_cvI (av := [.int (xs (i + 1)), .int (xs (i + 2)), .int (xs (i + 3))]) e_L_law_263 h8 l_L_18 S_X8_set rfl (rL (by decide)) rfl rfl (Nat.le_of_ble_eq_true rfl) (fun σ2 r hq => ?_)
  obtain ⟨hf, hC2, rfl⟩ := hq
  have hM2 := hM.c hf
  refine V_aload_n e_L_law_266 rfl rfl ?_
  refine V_aload_n e_L_law_267 rfl rfl ?_
  refine V_iload_n e_L_law_268 rfl rfl ?_
  refine V_iconst (v := nI 1) e_L_law_269 (by decide) ?_
  refine V_iadd e_L_law_270 ?_
  refine V_sld (j := i + 1) e_L_law_271 (nI_add _ _) (by omega) hL ?_
  refine V_aload_n e_L_law_272 rfl rfl ?_
  refine V_iload_n e_L_law_273 rfl rfl ?_
  refine V_iconst (v := nI 2) e_L_law_274 (by decide) ?_
  refine V_iadd e_L_law_275 ?_
  refine V_sld (j := i + 2) e_L_law_276 (nI_add _ _) (by omega) hL ?_
  refine V_aload_n e_L_law_277 rfl rfl ?_
  refine V_iload_n e_L_law_278 rfl rfl ?_
  refine V_iconst (v := nI 3) e_L_law_279 (by decide) ?_
  refine V_iadd e_L_law_280 ?_
  refine V_sld (j := i + 3) e_L_law_281 (nI_add _ _) (by omega) hL ?_
  refine V_cvI (av := [.int (xs (i + 1)), .int (xs (i + 2)), .int (xs (i + 3))]) e_L_law_282 (h9 σ2 hM2) l_L_21 S_X9_set rfl (rL (by decide)) rfl rfl (Nat.le_of_ble_eq_true rfl) (fun σ3 r3 hq => ?_)
  obtain ⟨hf3, hM3, rfl⟩ := hq
  exact V_icmp_eq (tgt := 1454) e_L_law_285 (by decide) (fun _ => hN _ σ3 (hC2.m hf3) hM3) (fun h => absurd rfl h)
theorem law_2 (E : En) (b L : Nat) (xs : Nat → Int32) (i : Nat) (hi : i + 7 ≤ L) (hL : L ≤ 3584) (hN : NX E b L xs i 1454) : NX E b L xs i 290 := by
  intro S σ hC hM
  obtain ⟨A, T⟩ := S
  obtain ⟨R, h8, h9⟩ : ∃ R : Ab × Int32, Cn E m_X8_copy 12 [.ref (eB E + 0), .int (xs (i + 1)), .int (xs (i + 2)), .int (xs (i + 3)), .int (xs (i + 4)), .int (xs (i + 5))] σ (pC σ R) ∧ ∀ σ2, IM σ2 (A, T) → Cn E m_X9_copy 12 [.ref (eB E + 292), .int (xs (i + 1)), .int (xs (i + 2)), .int (xs (i + 3)), .int (xs (i + 4)), .int (xs (i + 5))] σ2 (pM σ2 R) := ⟨_, c8_copy E (xs (i + 1)) (xs (i + 2)) (xs (i + 3)) (xs (i + 4)) (xs (i + 5)) A T σ hC, fun σ2 hM2 => c9_copy E (xs (i + 1)) (xs (i + 2)) (xs (i + 3)) (xs (i + 4)) (xs (i + 5)) A T σ2 hM2⟩
  refine V_aload_n e_L_law_290 rfl rfl ?_
  refine V_aload_n e_L_law_291 rfl rfl ?_
  refine V_iload_n e_L_law_292 rfl rfl ?_
  refine V_iconst (v := nI 1) e_L_law_293 (by decide) ?_
  refine V_iadd e_L_law_294 ?_
  refine V_sld (j := i + 1) e_L_law_295 (nI_add _ _) (by omega) hL ?_
  refine V_aload_n e_L_law_296 rfl rfl ?_
  refine V_iload_n e_L_law_297 rfl rfl ?_
  refine V_iconst (v := nI 2) e_L_law_298 (by decide) ?_
  refine V_iadd e_L_law_299 ?_
  refine V_sld (j := i + 2) e_L_law_300 (nI_add _ _) (by omega) hL ?_
  refine V_aload_n e_L_law_301 rfl rfl ?_
  refine V_iload_n e_L_law_302 rfl rfl ?_
  refine V_iconst (v := nI 3) e_L_law_303 (by decide) ?_
  refine V_iadd e_L_law_304 ?_
  refine V_sld (j := i + 3) e_L_law_305 (nI_add _ _) (by omega) hL ?_
  refine V_aload_n e_L_law_306 rfl rfl ?_
  refine V_iload_n e_L_law_307 rfl rfl ?_
  refine V_iconst (v := nI 4) e_L_law_308 (by decide) ?_
  refine V_iadd e_L_law_309 ?_
  refine V_sld (j := i + 4) e_L_law_310 (nI_add _ _) (by omega) hL ?_
  refine V_aload_n e_L_law_311 rfl rfl ?_
  refine V_iload_n e_L_law_312 rfl rfl ?_
  refine V_iconst (v := nI 5) e_L_law_313 (by decide) ?_
  refine V_iadd e_L_law_314 ?_
  refine V_sld (j := i + 5) e_L_law_315 (nI_add _ _) (by omega) hL ?_
  refine V_cvI (av := [.int (xs (i + 1)), .int (xs (i + 2)), .int (xs (i + 3)), .int (xs (i + 4)), .int (xs (i + 5))]) e_L_law_316 h8 l_L_22 S_X8_copy rfl (rL (by decide)) rfl rfl (Nat.le_of_ble_eq_true rfl) (fun σ2 r hq => ?_)
  obtain ⟨hf, hC2, rfl⟩ := hq
  have hM2 := hM.c hf
  refine V_aload_n e_L_law_319 rfl rfl ?_
  refine V_aload_n e_L_law_320 rfl rfl ?_
  refine V_iload_n e_L_law_321 rfl rfl ?_
  refine V_iconst (v := nI 1) e_L_law_322 (by decide) ?_
  refine V_iadd e_L_law_323 ?_
  refine V_sld (j := i + 1) e_L_law_324 (nI_add _ _) (by omega) hL ?_
  refine V_aload_n e_L_law_325 rfl rfl ?_
  refine V_iload_n e_L_law_326 rfl rfl ?_
  refine V_iconst (v := nI 2) e_L_law_327 (by decide) ?_
  refine V_iadd e_L_law_328 ?_
  refine V_sld (j := i + 2) e_L_law_329 (nI_add _ _) (by omega) hL ?_
  refine V_aload_n e_L_law_330 rfl rfl ?_
  refine V_iload_n e_L_law_331 rfl rfl ?_
  refine V_iconst (v := nI 3) e_L_law_332 (by decide) ?_
  refine V_iadd e_L_law_333 ?_
  refine V_sld (j := i + 3) e_L_law_334 (nI_add _ _) (by omega) hL ?_
  refine V_aload_n e_L_law_335 rfl rfl ?_
  refine V_iload_n e_L_law_336 rfl rfl ?_
  refine V_iconst (v := nI 4) e_L_law_337 (by decide) ?_
  refine V_iadd e_L_law_338 ?_
  refine V_sld (j := i + 4) e_L_law_339 (nI_add _ _) (by omega) hL ?_
  refine V_aload_n e_L_law_340 rfl rfl ?_
  refine V_iload_n e_L_law_341 rfl rfl ?_
  refine V_iconst (v := nI 5) e_L_law_342 (by decide) ?_
  refine V_iadd e_L_law_343 ?_
  refine V_sld (j := i + 5) e_L_law_344 (nI_add _ _) (by omega) hL ?_
  refine V_cvI (av := [.int (xs (i + 1)), .int (xs (i + 2)), .int (xs (i + 3)), .int (xs (i + 4)), .int (xs (i + 5))]) e_L_law_345 (h9 σ2 hM2) l_L_26 S_X9_copy rfl (rL (by decide)) rfl rfl (Nat.le_of_ble_eq_true rfl) (fun σ3 r3 hq => ?_)
  obtain ⟨hf3, hM3, rfl⟩ := hq
  exact V_icmp_eq (tgt := 1454) e_L_law_348 (by decide) (fun _ => hN _ σ3 (hC2.m hf3) hM3) (fun h => absurd rfl h)
theorem law_3 (E : En) (b L : Nat) (xs : Nat → Int32) (i : Nat) (hi : i + 7 ≤ L) (hL : L ≤ 3584) (hN : NX E b L xs i 1454) : NX E b L xs i 353 := by
  intro S σ hC hM
  obtain ⟨A, T⟩ := S
  obtain ⟨R, h8, h9⟩ : ∃ R : Ab × Int32, Cn E m_X8_drop 12 [.ref (eB E + 0), .int (xs (i + 1))] σ (pC σ R) ∧ ∀ σ2, IM σ2 (A, T) → Cn E m_X9_drop 12 [.ref (eB E + 292), .int (xs (i + 1))] σ2 (pM σ2 R) := ⟨_, c8_drop E (xs (i + 1)) A T σ hC, fun σ2 hM2 => c9_drop E (xs (i + 1)) A T σ2 hM2⟩
  refine V_aload_n e_L_law_353 rfl rfl ?_
  refine V_aload_n e_L_law_354 rfl rfl ?_
  refine V_iload_n e_L_law_355 rfl rfl ?_
  refine V_iconst (v := nI 1) e_L_law_356 (by decide) ?_
  refine V_iadd e_L_law_357 ?_
  refine V_sld (j := i + 1) e_L_law_358 (nI_add _ _) (by omega) hL ?_
  refine V_cvI (av := [.int (xs (i + 1))]) e_L_law_359 h8 l_L_27 S_X8_drop rfl (rL (by decide)) rfl rfl (Nat.le_of_ble_eq_true rfl) (fun σ2 r hq => ?_)
  obtain ⟨hf, hC2, rfl⟩ := hq
  have hM2 := hM.c hf
  refine V_aload_n e_L_law_362 rfl rfl ?_
  refine V_aload_n e_L_law_363 rfl rfl ?_
  refine V_iload_n e_L_law_364 rfl rfl ?_
  refine V_iconst (v := nI 1) e_L_law_365 (by decide) ?_
  refine V_iadd e_L_law_366 ?_
  refine V_sld (j := i + 1) e_L_law_367 (nI_add _ _) (by omega) hL ?_
  refine V_cvI (av := [.int (xs (i + 1))]) e_L_law_368 (h9 σ2 hM2) l_L_31 S_X9_drop rfl (rL (by decide)) rfl rfl (Nat.le_of_ble_eq_true rfl) (fun σ3 r3 hq => ?_)
  obtain ⟨hf3, hM3, rfl⟩ := hq
  exact V_icmp_eq (tgt := 1454) e_L_law_371 (by decide) (fun _ => hN _ σ3 (hC2.m hf3) hM3) (fun h => absurd rfl h)
theorem law_4 (E : En) (b L : Nat) (xs : Nat → Int32) (i : Nat) (hi : i + 7 ≤ L) (hL : L ≤ 3584) (hN : NX E b L xs i 1454) : NX E b L xs i 376 := by
  intro S σ hC hM
  obtain ⟨A, T⟩ := S
  obtain ⟨R, h8, h9⟩ : ∃ R : Ab × Int32, Cn E m_X8_feed 12 [.ref (eB E + 0), .int (xs (i + 1))] σ (pC σ R) ∧ ∀ σ2, IM σ2 (A, T) → Cn E m_X9_feed 12 [.ref (eB E + 292), .int (xs (i + 1))] σ2 (pM σ2 R) := ⟨_, c8_feed E (xs (i + 1)) A T σ hC, fun σ2 hM2 => c9_feed E (xs (i + 1)) A T σ2 hM2⟩
  refine V_aload_n e_L_law_376 rfl rfl ?_
  refine V_aload_n e_L_law_377 rfl rfl ?_
  refine V_iload_n e_L_law_378 rfl rfl ?_
  refine V_iconst (v := nI 1) e_L_law_379 (by decide) ?_
  refine V_iadd e_L_law_380 ?_
  refine V_sld (j := i + 1) e_L_law_381 (nI_add _ _) (by omega) hL ?_
  refine V_cvI (av := [.int (xs (i + 1))]) e_L_law_382 h8 l_L_32 S_X8_feed rfl (rL (by decide)) rfl rfl (Nat.le_of_ble_eq_true rfl) (fun σ2 r hq => ?_)
  obtain ⟨hf, hC2, rfl⟩ := hq
  have hM2 := hM.c hf
  refine V_aload_n e_L_law_385 rfl rfl ?_
  refine V_aload_n e_L_law_386 rfl rfl ?_
  refine V_iload_n e_L_law_387 rfl rfl ?_
  refine V_iconst (v := nI 1) e_L_law_388 (by decide) ?_
  refine V_iadd e_L_law_389 ?_
  refine V_sld (j := i + 1) e_L_law_390 (nI_add _ _) (by omega) hL ?_
  refine V_cvI (av := [.int (xs (i + 1))]) e_L_law_391 (h9 σ2 hM2) l_L_35 S_X9_feed rfl (rL (by decide)) rfl rfl (Nat.le_of_ble_eq_true rfl) (fun σ3 r3 hq => ?_)
  obtain ⟨hf3, hM3, rfl⟩ := hq
  exact V_icmp_eq (tgt := 1454) e_L_law_394 (by decide) (fun _ => hN _ σ3 (hC2.m hf3) hM3) (fun h => absurd rfl h)
theorem law_5 (E : En) (b L : Nat) (xs : Nat → Int32) (i : Nat) (hi : i + 7 ≤ L) (hL : L ≤ 3584) (hN : NX E b L xs i 1454) : NX E b L xs i 399 := by
  intro S σ hC hM
  obtain ⟨A, T⟩ := S
  obtain ⟨R, h8, h9⟩ : ∃ R : Ab × Int32, Cn E m_X8_shore 12 [.ref (eB E + 0)] σ (pC σ R) ∧ ∀ σ2, IM σ2 (A, T) → Cn E m_X9_shore 12 [.ref (eB E + 292)] σ2 (pM σ2 R) := ⟨_, c8_shore E  A T σ hC, fun σ2 hM2 => c9_shore E  A T σ2 hM2⟩
  refine V_aload_n e_L_law_399 rfl rfl ?_
  refine V_cvI (av := []) e_L_law_400 h8 l_L_36 S_X8_shore rfl (rL (by decide)) rfl rfl (Nat.le_of_ble_eq_true rfl) (fun σ2 r hq => ?_)
  obtain ⟨hf, hC2, rfl⟩ := hq
  have hM2 := hM.c hf
  refine V_aload_n e_L_law_403 rfl rfl ?_
  refine V_cvI (av := []) e_L_law_404 (h9 σ2 hM2) l_L_40 S_X9_shore rfl (rL (by decide)) rfl rfl (Nat.le_of_ble_eq_true rfl) (fun σ3 r3 hq => ?_)
  obtain ⟨hf3, hM3, rfl⟩ := hq
  exact V_icmp_eq (tgt := 1454) e_L_law_407 (by decide) (fun _ => hN _ σ3 (hC2.m hf3) hM3) (fun h => absurd rfl h)
theorem law_6 (E : En) (b L : Nat) (xs : Nat → Int32) (i : Nat) (hi : i + 7 ≤ L) (hL : L ≤ 3584) (hN : NX E b L xs i 1454) : NX E b L xs i 412 := by
  intro S σ hC hM
  obtain ⟨A, T⟩ := S
  obtain ⟨R, h8, h9⟩ : ∃ R : Ab × Int32, Cn E m_X8_fault 12 [.ref (eB E + 0)] σ (pC σ R) ∧ ∀ σ2, IM σ2 (A, T) → Cn E m_X9_fault 12 [.ref (eB E + 292)] σ2 (pM σ2 R) := ⟨_, c8_fault E  A T σ hC, fun σ2 hM2 => c9_fault E  A T σ2 hM2⟩
  refine V_aload_n e_L_law_412 rfl rfl ?_
  refine V_cvI (av := []) e_L_law_413 h8 l_L_41 S_X8_fault rfl (rL (by decide)) rfl rfl (Nat.le_of_ble_eq_true rfl) (fun σ2 r hq => ?_)
  obtain ⟨hf, hC2, rfl⟩ := hq
  have hM2 := hM.c hf
  refine V_aload_n e_L_law_416 rfl rfl ?_
  refine V_cvI (av := []) e_L_law_417 (h9 σ2 hM2) l_L_44 S_X9_fault rfl (rL (by decide)) rfl rfl (Nat.le_of_ble_eq_true rfl) (fun σ3 r3 hq => ?_)
  obtain ⟨hf3, hM3, rfl⟩ := hq
  exact V_icmp_eq (tgt := 1454) e_L_law_420 (by decide) (fun _ => hN _ σ3 (hC2.m hf3) hM3) (fun h => absurd rfl h)
theorem law_7 (E : En) (b L : Nat) (xs : Nat → Int32) (i : Nat) (hi : i + 7 ≤ L) (hL : L ≤ 3584) (hN : NX E b L xs i 1454) : NX E b L xs i 425 := by
  intro S σ hC hM
  obtain ⟨A, T⟩ := S
  obtain ⟨R, h8, h9⟩ : ∃ R : Ab × Int32, Cn E m_X8_undo 12 [.ref (eB E + 0)] σ (pC σ R) ∧ ∀ σ2, IM σ2 (A, T) → Cn E m_X9_undo 12 [.ref (eB E + 292)] σ2 (pM σ2 R) := ⟨_, c8_undo E (A, T) σ hC, fun σ2 hM2 => c9_undo E A T.1 T.2 σ2 hM2⟩
  refine V_aload_n e_L_law_425 rfl rfl ?_
  refine V_cvI (av := []) e_L_law_426 h8 l_L_45 S_X8_undo rfl (rL (by decide)) rfl rfl (Nat.le_of_ble_eq_true rfl) (fun σ2 r hq => ?_)
  obtain ⟨hf, hC2, rfl⟩ := hq
  have hM2 := hM.c hf
  refine V_aload_n e_L_law_429 rfl rfl ?_
  refine V_cvI (av := []) e_L_law_430 (h9 σ2 hM2) l_L_48 S_X9_undo rfl (rL (by decide)) rfl rfl (Nat.le_of_ble_eq_true rfl) (fun σ3 r3 hq => ?_)
  obtain ⟨hf3, hM3, rfl⟩ := hq
  exact V_icmp_eq (tgt := 1454) e_L_law_433 (by decide) (fun _ => hN _ σ3 (hC2.m hf3) hM3) (fun h => absurd rfl h)
theorem law_8 (E : En) (b L : Nat) (xs : Nat → Int32) (i : Nat) (hi : i + 7 ≤ L) (hL : L ≤ 3584) (hN : NX E b L xs i 1454) : NX E b L xs i 438 := by
  intro S σ hC hM
  obtain ⟨A, T⟩ := S
  obtain ⟨R, h8, h9⟩ : ∃ R : Ab × Int32, Cn E m_X8_days 12 [.ref (eB E + 0), .int (xs (i + 1))] σ (pC σ R) ∧ ∀ σ2, IM σ2 (A, T) → Cn E m_X9_days 12 [.ref (eB E + 292), .int (xs (i + 1))] σ2 (pM σ2 R) := ⟨_, c8_days E (xs (i + 1)) A T σ hC, fun σ2 hM2 => c9_days E (xs (i + 1)) A T σ2 hM2⟩
  refine V_aload_n e_L_law_438 rfl rfl ?_
  refine V_aload_n e_L_law_439 rfl rfl ?_
  refine V_iload_n e_L_law_440 rfl rfl ?_
  refine V_iconst (v := nI 1) e_L_law_441 (by decide) ?_
  refine V_iadd e_L_law_442 ?_
  refine V_sld (j := i + 1) e_L_law_443 (nI_add _ _) (by omega) hL ?_
  refine V_cvI (av := [.int (xs (i + 1))]) e_L_law_444 h8 l_L_49 S_X8_days rfl (rL (by decide)) rfl rfl (Nat.le_of_ble_eq_true rfl) (fun σ2 r hq => ?_)
  obtain ⟨hf, hC2, rfl⟩ := hq
  have hM2 := hM.c hf
  refine V_aload_n e_L_law_447 rfl rfl ?_
  refine V_aload_n e_L_law_448 rfl rfl ?_
  refine V_iload_n e_L_law_449 rfl rfl ?_
  refine V_iconst (v := nI 1) e_L_law_450 (by decide) ?_
  refine V_iadd e_L_law_451 ?_
  refine V_sld (j := i + 1) e_L_law_452 (nI_add _ _) (by omega) hL ?_
  refine V_cvI (av := [.int (xs (i + 1))]) e_L_law_453 (h9 σ2 hM2) l_L_52 S_X9_days rfl (rL (by decide)) rfl rfl (Nat.le_of_ble_eq_true rfl) (fun σ3 r3 hq => ?_)
  obtain ⟨hf3, hM3, rfl⟩ := hq
  exact V_icmp_eq (tgt := 1454) e_L_law_456 (by decide) (fun _ => hN _ σ3 (hC2.m hf3) hM3) (fun h => absurd rfl h)
theorem law_9 (E : En) (b L : Nat) (xs : Nat → Int32) (i : Nat) (hi : i + 7 ≤ L) (hL : L ≤ 3584) (hN : NX E b L xs i 1454) : NX E b L xs i 461 := by
  intro S σ hC hM
  obtain ⟨A, T⟩ := S
  obtain ⟨R, h8, h9⟩ : ∃ R : Ab × Int32, Cn E m_X8_cross 12 [.ref (eB E + 0), .int (xs (i + 1))] σ (pC σ R) ∧ ∀ σ2, IM σ2 (A, T) → Cn E m_X9_cross 12 [.ref (eB E + 292), .int (xs (i + 1))] σ2 (pM σ2 R) := ⟨_, c8_cross E (xs (i + 1)) A T σ hC, fun σ2 hM2 => c9_cross E (xs (i + 1)) A T σ2 hM2⟩
  refine V_aload_n e_L_law_461 rfl rfl ?_
  refine V_aload_n e_L_law_462 rfl rfl ?_
  refine V_iload_n e_L_law_463 rfl rfl ?_
  refine V_iconst (v := nI 1) e_L_law_464 (by decide) ?_
  refine V_iadd e_L_law_465 ?_
  refine V_sld (j := i + 1) e_L_law_466 (nI_add _ _) (by omega) hL ?_
  refine V_cvI (av := [.int (xs (i + 1))]) e_L_law_467 h8 l_L_53 S_X8_cross rfl (rL (by decide)) rfl rfl (Nat.le_of_ble_eq_true rfl) (fun σ2 r hq => ?_)
  obtain ⟨hf, hC2, rfl⟩ := hq
  have hM2 := hM.c hf
  refine V_aload_n e_L_law_470 rfl rfl ?_
  refine V_aload_n e_L_law_471 rfl rfl ?_
  refine V_iload_n e_L_law_472 rfl rfl ?_
  refine V_iconst (v := nI 1) e_L_law_473 (by decide) ?_
  refine V_iadd e_L_law_474 ?_
  refine V_sld (j := i + 1) e_L_law_475 (nI_add _ _) (by omega) hL ?_
  refine V_cvI (av := [.int (xs (i + 1))]) e_L_law_476 (h9 σ2 hM2) l_L_56 S_X9_cross rfl (rL (by decide)) rfl rfl (Nat.le_of_ble_eq_true rfl) (fun σ3 r3 hq => ?_)
  obtain ⟨hf3, hM3, rfl⟩ := hq
  exact V_icmp_eq (tgt := 1454) e_L_law_479 (by decide) (fun _ => hN _ σ3 (hC2.m hf3) hM3) (fun h => absurd rfl h)
theorem law_10 (E : En) (b L : Nat) (xs : Nat → Int32) (i : Nat) (hi : i + 7 ≤ L) (hL : L ≤ 3584) (hN : NX E b L xs i 1454) : NX E b L xs i 484 := by
  intro S σ hC hM
  obtain ⟨A, T⟩ := S
  obtain ⟨R, h8, h9⟩ : ∃ R : Ab × Int32, Cn E m_X8_turn 12 [.ref (eB E + 0), .int (xs (i + 1))] σ (pC σ R) ∧ ∀ σ2, IM σ2 (A, T) → Cn E m_X9_turn 12 [.ref (eB E + 292), .int (xs (i + 1))] σ2 (pM σ2 R) := ⟨_, c8_turn E (xs (i + 1)) A T σ hC, fun σ2 hM2 => c9_turn E (xs (i + 1)) A T σ2 hM2⟩
  refine V_aload_n e_L_law_484 rfl rfl ?_
  refine V_aload_n e_L_law_485 rfl rfl ?_
  refine V_iload_n e_L_law_486 rfl rfl ?_
  refine V_iconst (v := nI 1) e_L_law_487 (by decide) ?_
  refine V_iadd e_L_law_488 ?_
  refine V_sld (j := i + 1) e_L_law_489 (nI_add _ _) (by omega) hL ?_
  refine V_cvI (av := [.int (xs (i + 1))]) e_L_law_490 h8 l_L_57 S_X8_turn rfl (rL (by decide)) rfl rfl (Nat.le_of_ble_eq_true rfl) (fun σ2 r hq => ?_)
  obtain ⟨hf, hC2, rfl⟩ := hq
  have hM2 := hM.c hf
  refine V_aload_n e_L_law_493 rfl rfl ?_
  refine V_aload_n e_L_law_494 rfl rfl ?_
  refine V_iload_n e_L_law_495 rfl rfl ?_
  refine V_iconst (v := nI 1) e_L_law_496 (by decide) ?_
  refine V_iadd e_L_law_497 ?_
  refine V_sld (j := i + 1) e_L_law_498 (nI_add _ _) (by omega) hL ?_
  refine V_cvI (av := [.int (xs (i + 1))]) e_L_law_499 (h9 σ2 hM2) l_L_60 S_X9_turn rfl (rL (by decide)) rfl rfl (Nat.le_of_ble_eq_true rfl) (fun σ3 r3 hq => ?_)
  obtain ⟨hf3, hM3, rfl⟩ := hq
  exact V_icmp_eq (tgt := 1454) e_L_law_502 (by decide) (fun _ => hN _ σ3 (hC2.m hf3) hM3) (fun h => absurd rfl h)
theorem law_11 (E : En) (b L : Nat) (xs : Nat → Int32) (i : Nat) (hi : i + 7 ≤ L) (hL : L ≤ 3584) (hN : NX E b L xs i 1454) : NX E b L xs i 507 := by
  intro S σ hC hM
  obtain ⟨A, T⟩ := S
  obtain ⟨R, h8, h9⟩ : ∃ R : Ab × Int32, Cn E m_X8_stay 12 [.ref (eB E + 0), .int (xs (i + 1)), .int (xs (i + 2))] σ (pC σ R) ∧ ∀ σ2, IM σ2 (A, T) → Cn E m_X9_stay 12 [.ref (eB E + 292), .int (xs (i + 1)), .int (xs (i + 2))] σ2 (pM σ2 R) := ⟨_, c8_stay E (xs (i + 1)) (xs (i + 2)) A T σ hC, fun σ2 hM2 => c9_stay E (xs (i + 1)) (xs (i + 2)) A T σ2 hM2⟩
  refine V_aload_n e_L_law_507 rfl rfl ?_
  refine V_aload_n e_L_law_508 rfl rfl ?_
  refine V_iload_n e_L_law_509 rfl rfl ?_
  refine V_iconst (v := nI 1) e_L_law_510 (by decide) ?_
  refine V_iadd e_L_law_511 ?_
  refine V_sld (j := i + 1) e_L_law_512 (nI_add _ _) (by omega) hL ?_
  refine V_aload_n e_L_law_513 rfl rfl ?_
  refine V_iload_n e_L_law_514 rfl rfl ?_
  refine V_iconst (v := nI 2) e_L_law_515 (by decide) ?_
  refine V_iadd e_L_law_516 ?_
  refine V_sld (j := i + 2) e_L_law_517 (nI_add _ _) (by omega) hL ?_
  refine V_cvI (av := [.int (xs (i + 1)), .int (xs (i + 2))]) e_L_law_518 h8 l_L_61 S_X8_stay rfl (rL (by decide)) rfl rfl (Nat.le_of_ble_eq_true rfl) (fun σ2 r hq => ?_)
  obtain ⟨hf, hC2, rfl⟩ := hq
  have hM2 := hM.c hf
  refine V_aload_n e_L_law_521 rfl rfl ?_
  refine V_aload_n e_L_law_522 rfl rfl ?_
  refine V_iload_n e_L_law_523 rfl rfl ?_
  refine V_iconst (v := nI 1) e_L_law_524 (by decide) ?_
  refine V_iadd e_L_law_525 ?_
  refine V_sld (j := i + 1) e_L_law_526 (nI_add _ _) (by omega) hL ?_
  refine V_aload_n e_L_law_527 rfl rfl ?_
  refine V_iload_n e_L_law_528 rfl rfl ?_
  refine V_iconst (v := nI 2) e_L_law_529 (by decide) ?_
  refine V_iadd e_L_law_530 ?_
  refine V_sld (j := i + 2) e_L_law_531 (nI_add _ _) (by omega) hL ?_
  refine V_cvI (av := [.int (xs (i + 1)), .int (xs (i + 2))]) e_L_law_532 (h9 σ2 hM2) l_L_65 S_X9_stay rfl (rL (by decide)) rfl rfl (Nat.le_of_ble_eq_true rfl) (fun σ3 r3 hq => ?_)
  obtain ⟨hf3, hM3, rfl⟩ := hq
  exact V_icmp_eq (tgt := 1454) e_L_law_535 (by decide) (fun _ => hN _ σ3 (hC2.m hf3) hM3) (fun h => absurd rfl h)
theorem law_12 (E : En) (b L : Nat) (xs : Nat → Int32) (i : Nat) (hi : i + 7 ≤ L) (hL : L ≤ 3584) (hN : NX E b L xs i 1454) : NX E b L xs i 540 := by
  intro S σ hC hM
  obtain ⟨A, T⟩ := S
  obtain ⟨R, h8, h9⟩ : ∃ R : Ab × Int32, Cn E m_X8_round 12 [.ref (eB E + 0), .int (xs (i + 1))] σ (pC σ R) ∧ ∀ σ2, IM σ2 (A, T) → Cn E m_X9_round 12 [.ref (eB E + 292), .int (xs (i + 1))] σ2 (pM σ2 R) := ⟨_, c8_round E (xs (i + 1)) A T σ hC, fun σ2 hM2 => c9_round E (xs (i + 1)) A T σ2 hM2⟩
  refine V_aload_n e_L_law_540 rfl rfl ?_
  refine V_aload_n e_L_law_541 rfl rfl ?_
  refine V_iload_n e_L_law_542 rfl rfl ?_
  refine V_iconst (v := nI 1) e_L_law_543 (by decide) ?_
  refine V_iadd e_L_law_544 ?_
  refine V_sld (j := i + 1) e_L_law_545 (nI_add _ _) (by omega) hL ?_
  refine V_cvI (av := [.int (xs (i + 1))]) e_L_law_546 h8 l_L_66 S_X8_round rfl (rL (by decide)) rfl rfl (Nat.le_of_ble_eq_true rfl) (fun σ2 r hq => ?_)
  obtain ⟨hf, hC2, rfl⟩ := hq
  have hM2 := hM.c hf
  refine V_aload_n e_L_law_549 rfl rfl ?_
  refine V_aload_n e_L_law_550 rfl rfl ?_
  refine V_iload_n e_L_law_551 rfl rfl ?_
  refine V_iconst (v := nI 1) e_L_law_552 (by decide) ?_
  refine V_iadd e_L_law_553 ?_
  refine V_sld (j := i + 1) e_L_law_554 (nI_add _ _) (by omega) hL ?_
  refine V_cvI (av := [.int (xs (i + 1))]) e_L_law_555 (h9 σ2 hM2) l_L_69 S_X9_round rfl (rL (by decide)) rfl rfl (Nat.le_of_ble_eq_true rfl) (fun σ3 r3 hq => ?_)
  obtain ⟨hf3, hM3, rfl⟩ := hq
  exact V_icmp_eq (tgt := 1454) e_L_law_558 (by decide) (fun _ => hN _ σ3 (hC2.m hf3) hM3) (fun h => absurd rfl h)
theorem law_13 (E : En) (b L : Nat) (xs : Nat → Int32) (i : Nat) (hi : i + 7 ≤ L) (hL : L ≤ 3584) (hN : NX E b L xs i 1454) : NX E b L xs i 563 := by
  intro S σ hC hM
  obtain ⟨A, T⟩ := S
  obtain ⟨R, h8, h9⟩ : ∃ R : Ab × Int32, Cn E m_X8_fall 12 [.ref (eB E + 0), .int (xs (i + 1))] σ (pC σ R) ∧ ∀ σ2, IM σ2 (A, T) → Cn E m_X9_fall 12 [.ref (eB E + 292), .int (xs (i + 1))] σ2 (pM σ2 R) := ⟨_, c8_fall E (xs (i + 1)) A T σ hC, fun σ2 hM2 => c9_fall E (xs (i + 1)) A T σ2 hM2⟩
  refine V_aload_n e_L_law_563 rfl rfl ?_
  refine V_aload_n e_L_law_564 rfl rfl ?_
  refine V_iload_n e_L_law_565 rfl rfl ?_
  refine V_iconst (v := nI 1) e_L_law_566 (by decide) ?_
  refine V_iadd e_L_law_567 ?_
  refine V_sld (j := i + 1) e_L_law_568 (nI_add _ _) (by omega) hL ?_
  refine V_cvI (av := [.int (xs (i + 1))]) e_L_law_569 h8 l_L_70 S_X8_fall rfl (rL (by decide)) rfl rfl (Nat.le_of_ble_eq_true rfl) (fun σ2 r hq => ?_)
  obtain ⟨hf, hC2, rfl⟩ := hq
  have hM2 := hM.c hf
  refine V_aload_n e_L_law_572 rfl rfl ?_
  refine V_aload_n e_L_law_573 rfl rfl ?_
  refine V_iload_n e_L_law_574 rfl rfl ?_
  refine V_iconst (v := nI 1) e_L_law_575 (by decide) ?_
  refine V_iadd e_L_law_576 ?_
  refine V_sld (j := i + 1) e_L_law_577 (nI_add _ _) (by omega) hL ?_
  refine V_cvI (av := [.int (xs (i + 1))]) e_L_law_578 (h9 σ2 hM2) l_L_73 S_X9_fall rfl (rL (by decide)) rfl rfl (Nat.le_of_ble_eq_true rfl) (fun σ3 r3 hq => ?_)
  obtain ⟨hf3, hM3, rfl⟩ := hq
  exact V_icmp_eq (tgt := 1454) e_L_law_581 (by decide) (fun _ => hN _ σ3 (hC2.m hf3) hM3) (fun h => absurd rfl h)
theorem law_14 (E : En) (b L : Nat) (xs : Nat → Int32) (i : Nat) (hi : i + 7 ≤ L) (hL : L ≤ 3584) (hN : NX E b L xs i 1454) : NX E b L xs i 586 := by
  intro S σ hC hM
  obtain ⟨A, T⟩ := S
  obtain ⟨R, h8, h9⟩ : ∃ R : Ab × Int32, Cn E m_X8_setUp 12 [.ref (eB E + 0), .int (xs (i + 1))] σ (pC σ R) ∧ ∀ σ2, IM σ2 (A, T) → Cn E m_X9_setUp 12 [.ref (eB E + 292), .int (xs (i + 1))] σ2 (pM σ2 R) := ⟨_, c8_setUp E (xs (i + 1)) A T σ hC, fun σ2 hM2 => c9_setUp E (xs (i + 1)) A T σ2 hM2⟩
  refine V_aload_n e_L_law_586 rfl rfl ?_
  refine V_aload_n e_L_law_587 rfl rfl ?_
  refine V_iload_n e_L_law_588 rfl rfl ?_
  refine V_iconst (v := nI 1) e_L_law_589 (by decide) ?_
  refine V_iadd e_L_law_590 ?_
  refine V_sld (j := i + 1) e_L_law_591 (nI_add _ _) (by omega) hL ?_
  refine V_cvI (av := [.int (xs (i + 1))]) e_L_law_592 h8 l_L_74 S_X8_setUp rfl (rL (by decide)) rfl rfl (Nat.le_of_ble_eq_true rfl) (fun σ2 r hq => ?_)
  obtain ⟨hf, hC2, rfl⟩ := hq
  have hM2 := hM.c hf
  refine V_aload_n e_L_law_595 rfl rfl ?_
  refine V_aload_n e_L_law_596 rfl rfl ?_
  refine V_iload_n e_L_law_597 rfl rfl ?_
  refine V_iconst (v := nI 1) e_L_law_598 (by decide) ?_
  refine V_iadd e_L_law_599 ?_
  refine V_sld (j := i + 1) e_L_law_600 (nI_add _ _) (by omega) hL ?_
  refine V_cvI (av := [.int (xs (i + 1))]) e_L_law_601 (h9 σ2 hM2) l_L_77 S_X9_setUp rfl (rL (by decide)) rfl rfl (Nat.le_of_ble_eq_true rfl) (fun σ3 r3 hq => ?_)
  obtain ⟨hf3, hM3, rfl⟩ := hq
  exact V_icmp_eq (tgt := 1454) e_L_law_604 (by decide) (fun _ => hN _ σ3 (hC2.m hf3) hM3) (fun h => absurd rfl h)
theorem law_15 (E : En) (b L : Nat) (xs : Nat → Int32) (i : Nat) (hi : i + 7 ≤ L) (hL : L ≤ 3584) (hN : NX E b L xs i 1454) : NX E b L xs i 609 := by
  intro S σ hC hM
  obtain ⟨A, T⟩ := S
  obtain ⟨R, h8, h9⟩ : ∃ R : Ab × Int32, Cn E m_X8_gate 12 [.ref (eB E + 0), .int (xs (i + 1)), .int (xs (i + 2))] σ (pC σ R) ∧ ∀ σ2, IM σ2 (A, T) → Cn E m_X9_gate 12 [.ref (eB E + 292), .int (xs (i + 1)), .int (xs (i + 2))] σ2 (pM σ2 R) := ⟨_, c8_gate E (xs (i + 1)) (xs (i + 2)) (A, T) σ hC, fun σ2 hM2 => c9_gate E (xs (i + 1)) (xs (i + 2)) (A, T) σ2 hM2⟩
  refine V_aload_n e_L_law_609 rfl rfl ?_
  refine V_aload_n e_L_law_610 rfl rfl ?_
  refine V_iload_n e_L_law_611 rfl rfl ?_
  refine V_iconst (v := nI 1) e_L_law_612 (by decide) ?_
  refine V_iadd e_L_law_613 ?_
  refine V_sld (j := i + 1) e_L_law_614 (nI_add _ _) (by omega) hL ?_
  refine V_aload_n e_L_law_615 rfl rfl ?_
  refine V_iload_n e_L_law_616 rfl rfl ?_
  refine V_iconst (v := nI 2) e_L_law_617 (by decide) ?_
  refine V_iadd e_L_law_618 ?_
  refine V_sld (j := i + 2) e_L_law_619 (nI_add _ _) (by omega) hL ?_
  refine V_cvI (av := [.int (xs (i + 1)), .int (xs (i + 2))]) e_L_law_620 h8 l_L_78 S_X8_gate rfl (rL (by decide)) rfl rfl (Nat.le_of_ble_eq_true rfl) (fun σ2 r hq => ?_)
  obtain ⟨hf, hC2, rfl⟩ := hq
  have hM2 := hM.c hf
  refine V_aload_n e_L_law_623 rfl rfl ?_
  refine V_aload_n e_L_law_624 rfl rfl ?_
  refine V_iload_n e_L_law_625 rfl rfl ?_
  refine V_iconst (v := nI 1) e_L_law_626 (by decide) ?_
  refine V_iadd e_L_law_627 ?_
  refine V_sld (j := i + 1) e_L_law_628 (nI_add _ _) (by omega) hL ?_
  refine V_aload_n e_L_law_629 rfl rfl ?_
  refine V_iload_n e_L_law_630 rfl rfl ?_
  refine V_iconst (v := nI 2) e_L_law_631 (by decide) ?_
  refine V_iadd e_L_law_632 ?_
  refine V_sld (j := i + 2) e_L_law_633 (nI_add _ _) (by omega) hL ?_
  refine V_cvI (av := [.int (xs (i + 1)), .int (xs (i + 2))]) e_L_law_634 (h9 σ2 hM2) l_L_81 S_X9_gate rfl (rL (by decide)) rfl rfl (Nat.le_of_ble_eq_true rfl) (fun σ3 r3 hq => ?_)
  obtain ⟨hf3, hM3, rfl⟩ := hq
  exact V_icmp_eq (tgt := 1454) e_L_law_637 (by decide) (fun _ => hN _ σ3 (hC2.m hf3) hM3) (fun h => absurd rfl h)
theorem law_16 (E : En) (b L : Nat) (xs : Nat → Int32) (i : Nat) (hi : i + 7 ≤ L) (hL : L ≤ 3584) (hN : NX E b L xs i 1454) : NX E b L xs i 642 := by
  intro S σ hC hM
  obtain ⟨A, T⟩ := S
  obtain ⟨R, h8, h9⟩ : ∃ R : Ab × Int32, Cn E m_X8_person 12 [.ref (eB E + 0), .int (xs (i + 1)), .int (xs (i + 2))] σ (pC σ R) ∧ ∀ σ2, IM σ2 (A, T) → Cn E m_X9_person 12 [.ref (eB E + 292), .int (xs (i + 1)), .int (xs (i + 2))] σ2 (pM σ2 R) := ⟨_, c8_person E (xs (i + 1)) (xs (i + 2)) (A, T) σ hC, fun σ2 hM2 => c9_person E (xs (i + 1)) (xs (i + 2)) (A, T) σ2 hM2⟩
  refine V_aload_n e_L_law_642 rfl rfl ?_
  refine V_aload_n e_L_law_643 rfl rfl ?_
  refine V_iload_n e_L_law_644 rfl rfl ?_
  refine V_iconst (v := nI 1) e_L_law_645 (by decide) ?_
  refine V_iadd e_L_law_646 ?_
  refine V_sld (j := i + 1) e_L_law_647 (nI_add _ _) (by omega) hL ?_
  refine V_aload_n e_L_law_648 rfl rfl ?_
  refine V_iload_n e_L_law_649 rfl rfl ?_
  refine V_iconst (v := nI 2) e_L_law_650 (by decide) ?_
  refine V_iadd e_L_law_651 ?_
  refine V_sld (j := i + 2) e_L_law_652 (nI_add _ _) (by omega) hL ?_
  refine V_cvI (av := [.int (xs (i + 1)), .int (xs (i + 2))]) e_L_law_653 h8 l_L_82 S_X8_person rfl (rL (by decide)) rfl rfl (Nat.le_of_ble_eq_true rfl) (fun σ2 r hq => ?_)
  obtain ⟨hf, hC2, rfl⟩ := hq
  have hM2 := hM.c hf
  refine V_aload_n e_L_law_656 rfl rfl ?_
  refine V_aload_n e_L_law_657 rfl rfl ?_
  refine V_iload_n e_L_law_658 rfl rfl ?_
  refine V_iconst (v := nI 1) e_L_law_659 (by decide) ?_
  refine V_iadd e_L_law_660 ?_
  refine V_sld (j := i + 1) e_L_law_661 (nI_add _ _) (by omega) hL ?_
  refine V_aload_n e_L_law_662 rfl rfl ?_
  refine V_iload_n e_L_law_663 rfl rfl ?_
  refine V_iconst (v := nI 2) e_L_law_664 (by decide) ?_
  refine V_iadd e_L_law_665 ?_
  refine V_sld (j := i + 2) e_L_law_666 (nI_add _ _) (by omega) hL ?_
  refine V_cvI (av := [.int (xs (i + 1)), .int (xs (i + 2))]) e_L_law_667 (h9 σ2 hM2) l_L_85 S_X9_person rfl (rL (by decide)) rfl rfl (Nat.le_of_ble_eq_true rfl) (fun σ3 r3 hq => ?_)
  obtain ⟨hf3, hM3, rfl⟩ := hq
  exact V_icmp_eq (tgt := 1454) e_L_law_670 (by decide) (fun _ => hN _ σ3 (hC2.m hf3) hM3) (fun h => absurd rfl h)
theorem law_17 (E : En) (b L : Nat) (xs : Nat → Int32) (i : Nat) (hi : i + 7 ≤ L) (hL : L ≤ 3584) (hN : NX E b L xs i 1454) : NX E b L xs i 675 := by
  intro S σ hC hM
  obtain ⟨A, T⟩ := S
  obtain ⟨R, h8, h9⟩ : ∃ R : Ab × Int32, Cn E m_X8_ahead 12 [.ref (eB E + 0), .int (xs (i + 1)), .int (xs (i + 2)), .int (xs (i + 3))] σ (pC σ R) ∧ ∀ σ2, IM σ2 (A, T) → Cn E m_X9_ahead 12 [.ref (eB E + 292), .int (xs (i + 1)), .int (xs (i + 2)), .int (xs (i + 3))] σ2 (pM σ2 R) := ⟨_, c8_ahead E (xs (i + 1)) (xs (i + 2)) (xs (i + 3)) (A, T) σ hC, fun σ2 hM2 => c9_ahead E (xs (i + 1)) (xs (i + 2)) (xs (i + 3)) (A, T) σ2 hM2⟩
  refine V_aload_n e_L_law_675 rfl rfl ?_
  refine V_aload_n e_L_law_676 rfl rfl ?_
  refine V_iload_n e_L_law_677 rfl rfl ?_
  refine V_iconst (v := nI 1) e_L_law_678 (by decide) ?_
  refine V_iadd e_L_law_679 ?_
  refine V_sld (j := i + 1) e_L_law_680 (nI_add _ _) (by omega) hL ?_
  refine V_aload_n e_L_law_681 rfl rfl ?_
  refine V_iload_n e_L_law_682 rfl rfl ?_
  refine V_iconst (v := nI 2) e_L_law_683 (by decide) ?_
  refine V_iadd e_L_law_684 ?_
  refine V_sld (j := i + 2) e_L_law_685 (nI_add _ _) (by omega) hL ?_
  refine V_aload_n e_L_law_686 rfl rfl ?_
  refine V_iload_n e_L_law_687 rfl rfl ?_
  refine V_iconst (v := nI 3) e_L_law_688 (by decide) ?_
  refine V_iadd e_L_law_689 ?_
  refine V_sld (j := i + 3) e_L_law_690 (nI_add _ _) (by omega) hL ?_
  refine V_cvI (av := [.int (xs (i + 1)), .int (xs (i + 2)), .int (xs (i + 3))]) e_L_law_691 h8 l_L_86 S_X8_ahead rfl (rL (by decide)) rfl rfl (Nat.le_of_ble_eq_true rfl) (fun σ2 r hq => ?_)
  obtain ⟨hf, hC2, rfl⟩ := hq
  have hM2 := hM.c hf
  refine V_aload_n e_L_law_694 rfl rfl ?_
  refine V_aload_n e_L_law_695 rfl rfl ?_
  refine V_iload_n e_L_law_696 rfl rfl ?_
  refine V_iconst (v := nI 1) e_L_law_697 (by decide) ?_
  refine V_iadd e_L_law_698 ?_
  refine V_sld (j := i + 1) e_L_law_699 (nI_add _ _) (by omega) hL ?_
  refine V_aload_n e_L_law_700 rfl rfl ?_
  refine V_iload_n e_L_law_701 rfl rfl ?_
  refine V_iconst (v := nI 2) e_L_law_702 (by decide) ?_
  refine V_iadd e_L_law_703 ?_
  refine V_sld (j := i + 2) e_L_law_704 (nI_add _ _) (by omega) hL ?_
  refine V_aload_n e_L_law_705 rfl rfl ?_
  refine V_iload_n e_L_law_706 rfl rfl ?_
  refine V_iconst (v := nI 3) e_L_law_707 (by decide) ?_
  refine V_iadd e_L_law_708 ?_
  refine V_sld (j := i + 3) e_L_law_709 (nI_add _ _) (by omega) hL ?_
  refine V_cvI (av := [.int (xs (i + 1)), .int (xs (i + 2)), .int (xs (i + 3))]) e_L_law_710 (h9 σ2 hM2) l_L_89 S_X9_ahead rfl (rL (by decide)) rfl rfl (Nat.le_of_ble_eq_true rfl) (fun σ3 r3 hq => ?_)
  obtain ⟨hf3, hM3, rfl⟩ := hq
  exact V_icmp_eq (tgt := 1454) e_L_law_713 (by decide) (fun _ => hN _ σ3 (hC2.m hf3) hM3) (fun h => absurd rfl h)
theorem law_18 (E : En) (b L : Nat) (xs : Nat → Int32) (i : Nat) (hi : i + 7 ≤ L) (hL : L ≤ 3584) (hN : NX E b L xs i 1454) : NX E b L xs i 718 := by
  intro S σ hC hM
  obtain ⟨A, T⟩ := S
  obtain ⟨R, h8, h9⟩ : ∃ R : Ab × Int32, Cn E m_X8_when 12 [.ref (eB E + 0), .int (xs (i + 1)), .int (xs (i + 2))] σ (pC σ R) ∧ ∀ σ2, IM σ2 (A, T) → Cn E m_X9_when 12 [.ref (eB E + 292), .int (xs (i + 1)), .int (xs (i + 2))] σ2 (pM σ2 R) := ⟨_, c8_when E (xs (i + 1)) (xs (i + 2)) (A, T) σ hC, fun σ2 hM2 => c9_when E (xs (i + 1)) (xs (i + 2)) (A, T) σ2 hM2⟩
  refine V_aload_n e_L_law_718 rfl rfl ?_
  refine V_aload_n e_L_law_719 rfl rfl ?_
  refine V_iload_n e_L_law_720 rfl rfl ?_
  refine V_iconst (v := nI 1) e_L_law_721 (by decide) ?_
  refine V_iadd e_L_law_722 ?_
  refine V_sld (j := i + 1) e_L_law_723 (nI_add _ _) (by omega) hL ?_
  refine V_aload_n e_L_law_724 rfl rfl ?_
  refine V_iload_n e_L_law_725 rfl rfl ?_
  refine V_iconst (v := nI 2) e_L_law_726 (by decide) ?_
  refine V_iadd e_L_law_727 ?_
  refine V_sld (j := i + 2) e_L_law_728 (nI_add _ _) (by omega) hL ?_
  refine V_cvI (av := [.int (xs (i + 1)), .int (xs (i + 2))]) e_L_law_729 h8 l_L_90 S_X8_when rfl (rL (by decide)) rfl rfl (Nat.le_of_ble_eq_true rfl) (fun σ2 r hq => ?_)
  obtain ⟨hf, hC2, rfl⟩ := hq
  have hM2 := hM.c hf
  refine V_aload_n e_L_law_732 rfl rfl ?_
  refine V_aload_n e_L_law_733 rfl rfl ?_
  refine V_iload_n e_L_law_734 rfl rfl ?_
  refine V_iconst (v := nI 1) e_L_law_735 (by decide) ?_
  refine V_iadd e_L_law_736 ?_
  refine V_sld (j := i + 1) e_L_law_737 (nI_add _ _) (by omega) hL ?_
  refine V_aload_n e_L_law_738 rfl rfl ?_
  refine V_iload_n e_L_law_739 rfl rfl ?_
  refine V_iconst (v := nI 2) e_L_law_740 (by decide) ?_
  refine V_iadd e_L_law_741 ?_
  refine V_sld (j := i + 2) e_L_law_742 (nI_add _ _) (by omega) hL ?_
  refine V_cvI (av := [.int (xs (i + 1)), .int (xs (i + 2))]) e_L_law_743 (h9 σ2 hM2) l_L_93 S_X9_when rfl (rL (by decide)) rfl rfl (Nat.le_of_ble_eq_true rfl) (fun σ3 r3 hq => ?_)
  obtain ⟨hf3, hM3, rfl⟩ := hq
  exact V_icmp_eq (tgt := 1454) e_L_law_746 (by decide) (fun _ => hN _ σ3 (hC2.m hf3) hM3) (fun h => absurd rfl h)
theorem law_19 (E : En) (b L : Nat) (xs : Nat → Int32) (i : Nat) (hi : i + 7 ≤ L) (hL : L ≤ 3584) (hN : NX E b L xs i 1454) : NX E b L xs i 751 := by
  intro S σ hC hM
  obtain ⟨A, T⟩ := S
  obtain ⟨R, h8, h9⟩ : ∃ R : Ab × Int32, Cn E m_X8_first 12 [.ref (eB E + 0), .int (xs (i + 1))] σ (pC σ R) ∧ ∀ σ2, IM σ2 (A, T) → Cn E m_X9_first 12 [.ref (eB E + 292), .int (xs (i + 1))] σ2 (pM σ2 R) := ⟨_, c8_first E (xs (i + 1)) (A, T) σ hC, fun σ2 hM2 => c9_first E (xs (i + 1)) (A, T) σ2 hM2⟩
  refine V_aload_n e_L_law_751 rfl rfl ?_
  refine V_aload_n e_L_law_752 rfl rfl ?_
  refine V_iload_n e_L_law_753 rfl rfl ?_
  refine V_iconst (v := nI 1) e_L_law_754 (by decide) ?_
  refine V_iadd e_L_law_755 ?_
  refine V_sld (j := i + 1) e_L_law_756 (nI_add _ _) (by omega) hL ?_
  refine V_cvI (av := [.int (xs (i + 1))]) e_L_law_757 h8 l_L_94 S_X8_first rfl (rL (by decide)) rfl rfl (Nat.le_of_ble_eq_true rfl) (fun σ2 r hq => ?_)
  obtain ⟨hf, hC2, rfl⟩ := hq
  have hM2 := hM.c hf
  refine V_aload_n e_L_law_760 rfl rfl ?_
  refine V_aload_n e_L_law_761 rfl rfl ?_
  refine V_iload_n e_L_law_762 rfl rfl ?_
  refine V_iconst (v := nI 1) e_L_law_763 (by decide) ?_
  refine V_iadd e_L_law_764 ?_
  refine V_sld (j := i + 1) e_L_law_765 (nI_add _ _) (by omega) hL ?_
  refine V_cvI (av := [.int (xs (i + 1))]) e_L_law_766 (h9 σ2 hM2) l_L_97 S_X9_first rfl (rL (by decide)) rfl rfl (Nat.le_of_ble_eq_true rfl) (fun σ3 r3 hq => ?_)
  obtain ⟨hf3, hM3, rfl⟩ := hq
  exact V_icmp_eq (tgt := 1454) e_L_law_769 (by decide) (fun _ => hN _ σ3 (hC2.m hf3) hM3) (fun h => absurd rfl h)
theorem law_20 (E : En) (b L : Nat) (xs : Nat → Int32) (i : Nat) (hi : i + 7 ≤ L) (hL : L ≤ 3584) (hN : NX E b L xs i 1454) : NX E b L xs i 774 := by
  intro S σ hC hM
  obtain ⟨A, T⟩ := S
  obtain ⟨R, h8, h9⟩ : ∃ R : Ab × Int32, Cn E m_X8_least 12 [.ref (eB E + 0), .int (xs (i + 1)), .int (xs (i + 2)), .int (xs (i + 3))] σ (pC σ R) ∧ ∀ σ2, IM σ2 (A, T) → Cn E m_X9_least 12 [.ref (eB E + 292), .int (xs (i + 1)), .int (xs (i + 2)), .int (xs (i + 3))] σ2 (pM σ2 R) := ⟨_, c8_least E (xs (i + 1)) (xs (i + 2)) (xs (i + 3)) A T σ hC, fun σ2 hM2 => c9_least E (xs (i + 1)) (xs (i + 2)) (xs (i + 3)) A T σ2 hM2⟩
  refine V_aload_n e_L_law_774 rfl rfl ?_
  refine V_aload_n e_L_law_775 rfl rfl ?_
  refine V_iload_n e_L_law_776 rfl rfl ?_
  refine V_iconst (v := nI 1) e_L_law_777 (by decide) ?_
  refine V_iadd e_L_law_778 ?_
  refine V_sld (j := i + 1) e_L_law_779 (nI_add _ _) (by omega) hL ?_
  refine V_aload_n e_L_law_780 rfl rfl ?_
  refine V_iload_n e_L_law_781 rfl rfl ?_
  refine V_iconst (v := nI 2) e_L_law_782 (by decide) ?_
  refine V_iadd e_L_law_783 ?_
  refine V_sld (j := i + 2) e_L_law_784 (nI_add _ _) (by omega) hL ?_
  refine V_aload_n e_L_law_785 rfl rfl ?_
  refine V_iload_n e_L_law_786 rfl rfl ?_
  refine V_iconst (v := nI 3) e_L_law_787 (by decide) ?_
  refine V_iadd e_L_law_788 ?_
  refine V_sld (j := i + 3) e_L_law_789 (nI_add _ _) (by omega) hL ?_
  refine V_cvI (av := [.int (xs (i + 1)), .int (xs (i + 2)), .int (xs (i + 3))]) e_L_law_790 h8 l_L_98 S_X8_least rfl (rL (by decide)) rfl rfl (Nat.le_of_ble_eq_true rfl) (fun σ2 r hq => ?_)
  obtain ⟨hf, hC2, rfl⟩ := hq
  have hM2 := hM.c hf
  refine V_aload_n e_L_law_793 rfl rfl ?_
  refine V_aload_n e_L_law_794 rfl rfl ?_
  refine V_iload_n e_L_law_795 rfl rfl ?_
  refine V_iconst (v := nI 1) e_L_law_796 (by decide) ?_
  refine V_iadd e_L_law_797 ?_
  refine V_sld (j := i + 1) e_L_law_798 (nI_add _ _) (by omega) hL ?_
  refine V_aload_n e_L_law_799 rfl rfl ?_
  refine V_iload_n e_L_law_800 rfl rfl ?_
  refine V_iconst (v := nI 2) e_L_law_801 (by decide) ?_
  refine V_iadd e_L_law_802 ?_
  refine V_sld (j := i + 2) e_L_law_803 (nI_add _ _) (by omega) hL ?_
  refine V_aload_n e_L_law_804 rfl rfl ?_
  refine V_iload_n e_L_law_805 rfl rfl ?_
  refine V_iconst (v := nI 3) e_L_law_806 (by decide) ?_
  refine V_iadd e_L_law_807 ?_
  refine V_sld (j := i + 3) e_L_law_808 (nI_add _ _) (by omega) hL ?_
  refine V_cvI (av := [.int (xs (i + 1)), .int (xs (i + 2)), .int (xs (i + 3))]) e_L_law_809 (h9 σ2 hM2) l_L_101 S_X9_least rfl (rL (by decide)) rfl rfl (Nat.le_of_ble_eq_true rfl) (fun σ3 r3 hq => ?_)
  obtain ⟨hf3, hM3, rfl⟩ := hq
  exact V_icmp_eq (tgt := 1454) e_L_law_812 (by decide) (fun _ => hN _ σ3 (hC2.m hf3) hM3) (fun h => absurd rfl h)
theorem law_21 (E : En) (b L : Nat) (xs : Nat → Int32) (i : Nat) (hi : i + 7 ≤ L) (hL : L ≤ 3584) (hN : NX E b L xs i 1454) : NX E b L xs i 817 := by
  intro S σ hC hM
  obtain ⟨A, T⟩ := S
  obtain ⟨R, h8, h9⟩ : ∃ R : Ab × Int32, Cn E m_X8_ways 12 [.ref (eB E + 0), .int (xs (i + 1)), .int (xs (i + 2)), .int (xs (i + 3))] σ (pC σ R) ∧ ∀ σ2, IM σ2 (A, T) → Cn E m_X9_ways 12 [.ref (eB E + 292), .int (xs (i + 1)), .int (xs (i + 2)), .int (xs (i + 3))] σ2 (pM σ2 R) := ⟨_, c8_ways E (xs (i + 1)) (xs (i + 2)) (xs (i + 3)) A T σ hC, fun σ2 hM2 => c9_ways E (xs (i + 1)) (xs (i + 2)) (xs (i + 3)) A T σ2 hM2⟩
  refine V_aload_n e_L_law_817 rfl rfl ?_
  refine V_aload_n e_L_law_818 rfl rfl ?_
  refine V_iload_n e_L_law_819 rfl rfl ?_
  refine V_iconst (v := nI 1) e_L_law_820 (by decide) ?_
  refine V_iadd e_L_law_821 ?_
  refine V_sld (j := i + 1) e_L_law_822 (nI_add _ _) (by omega) hL ?_
  refine V_aload_n e_L_law_823 rfl rfl ?_
  refine V_iload_n e_L_law_824 rfl rfl ?_
  refine V_iconst (v := nI 2) e_L_law_825 (by decide) ?_
  refine V_iadd e_L_law_826 ?_
  refine V_sld (j := i + 2) e_L_law_827 (nI_add _ _) (by omega) hL ?_
  refine V_aload_n e_L_law_828 rfl rfl ?_
  refine V_iload_n e_L_law_829 rfl rfl ?_
  refine V_iconst (v := nI 3) e_L_law_830 (by decide) ?_
  refine V_iadd e_L_law_831 ?_
  refine V_sld (j := i + 3) e_L_law_832 (nI_add _ _) (by omega) hL ?_
  refine V_cvI (av := [.int (xs (i + 1)), .int (xs (i + 2)), .int (xs (i + 3))]) e_L_law_833 h8 l_L_102 S_X8_ways rfl (rL (by decide)) rfl rfl (Nat.le_of_ble_eq_true rfl) (fun σ2 r hq => ?_)
  obtain ⟨hf, hC2, rfl⟩ := hq
  have hM2 := hM.c hf
  refine V_aload_n e_L_law_836 rfl rfl ?_
  refine V_aload_n e_L_law_837 rfl rfl ?_
  refine V_iload_n e_L_law_838 rfl rfl ?_
  refine V_iconst (v := nI 1) e_L_law_839 (by decide) ?_
  refine V_iadd e_L_law_840 ?_
  refine V_sld (j := i + 1) e_L_law_841 (nI_add _ _) (by omega) hL ?_
  refine V_aload_n e_L_law_842 rfl rfl ?_
  refine V_iload_n e_L_law_843 rfl rfl ?_
  refine V_iconst (v := nI 2) e_L_law_844 (by decide) ?_
  refine V_iadd e_L_law_845 ?_
  refine V_sld (j := i + 2) e_L_law_846 (nI_add _ _) (by omega) hL ?_
  refine V_aload_n e_L_law_847 rfl rfl ?_
  refine V_iload_n e_L_law_848 rfl rfl ?_
  refine V_iconst (v := nI 3) e_L_law_849 (by decide) ?_
  refine V_iadd e_L_law_850 ?_
  refine V_sld (j := i + 3) e_L_law_851 (nI_add _ _) (by omega) hL ?_
  refine V_cvI (av := [.int (xs (i + 1)), .int (xs (i + 2)), .int (xs (i + 3))]) e_L_law_852 (h9 σ2 hM2) l_L_105 S_X9_ways rfl (rL (by decide)) rfl rfl (Nat.le_of_ble_eq_true rfl) (fun σ3 r3 hq => ?_)
  obtain ⟨hf3, hM3, rfl⟩ := hq
  exact V_icmp_eq (tgt := 1454) e_L_law_855 (by decide) (fun _ => hN _ σ3 (hC2.m hf3) hM3) (fun h => absurd rfl h)
theorem law_22 (E : En) (b L : Nat) (xs : Nat → Int32) (i : Nat) (hi : i + 7 ≤ L) (hL : L ≤ 3584) (hN : NX E b L xs i 1454) : NX E b L xs i 860 := by
  intro S σ hC hM
  obtain ⟨A, T⟩ := S
  obtain ⟨R, h8, h9⟩ : ∃ R : Ab × Int32, Cn E m_X8_rounds 12 [.ref (eB E + 0), .int (xs (i + 1)), .int (xs (i + 2)), .int (xs (i + 3)), .int (xs (i + 4))] σ (pC σ R) ∧ ∀ σ2, IM σ2 (A, T) → Cn E m_X9_rounds 12 [.ref (eB E + 292), .int (xs (i + 1)), .int (xs (i + 2)), .int (xs (i + 3)), .int (xs (i + 4))] σ2 (pM σ2 R) := ⟨_, c8_rounds E (xs (i + 1)) (xs (i + 2)) (xs (i + 3)) (xs (i + 4)) (A, T) σ hC, fun σ2 hM2 => c9_rounds E (xs (i + 1)) (xs (i + 2)) (xs (i + 3)) (xs (i + 4)) (A, T) σ2 hM2⟩
  refine V_aload_n e_L_law_860 rfl rfl ?_
  refine V_aload_n e_L_law_861 rfl rfl ?_
  refine V_iload_n e_L_law_862 rfl rfl ?_
  refine V_iconst (v := nI 1) e_L_law_863 (by decide) ?_
  refine V_iadd e_L_law_864 ?_
  refine V_sld (j := i + 1) e_L_law_865 (nI_add _ _) (by omega) hL ?_
  refine V_aload_n e_L_law_866 rfl rfl ?_
  refine V_iload_n e_L_law_867 rfl rfl ?_
  refine V_iconst (v := nI 2) e_L_law_868 (by decide) ?_
  refine V_iadd e_L_law_869 ?_
  refine V_sld (j := i + 2) e_L_law_870 (nI_add _ _) (by omega) hL ?_
  refine V_aload_n e_L_law_871 rfl rfl ?_
  refine V_iload_n e_L_law_872 rfl rfl ?_
  refine V_iconst (v := nI 3) e_L_law_873 (by decide) ?_
  refine V_iadd e_L_law_874 ?_
  refine V_sld (j := i + 3) e_L_law_875 (nI_add _ _) (by omega) hL ?_
  refine V_aload_n e_L_law_876 rfl rfl ?_
  refine V_iload_n e_L_law_877 rfl rfl ?_
  refine V_iconst (v := nI 4) e_L_law_878 (by decide) ?_
  refine V_iadd e_L_law_879 ?_
  refine V_sld (j := i + 4) e_L_law_880 (nI_add _ _) (by omega) hL ?_
  refine V_cvI (av := [.int (xs (i + 1)), .int (xs (i + 2)), .int (xs (i + 3)), .int (xs (i + 4))]) e_L_law_881 h8 l_L_106 S_X8_rounds rfl (rL (by decide)) rfl rfl (Nat.le_of_ble_eq_true rfl) (fun σ2 r hq => ?_)
  obtain ⟨hf, hC2, rfl⟩ := hq
  have hM2 := hM.c hf
  refine V_aload_n e_L_law_884 rfl rfl ?_
  refine V_aload_n e_L_law_885 rfl rfl ?_
  refine V_iload_n e_L_law_886 rfl rfl ?_
  refine V_iconst (v := nI 1) e_L_law_887 (by decide) ?_
  refine V_iadd e_L_law_888 ?_
  refine V_sld (j := i + 1) e_L_law_889 (nI_add _ _) (by omega) hL ?_
  refine V_aload_n e_L_law_890 rfl rfl ?_
  refine V_iload_n e_L_law_891 rfl rfl ?_
  refine V_iconst (v := nI 2) e_L_law_892 (by decide) ?_
  refine V_iadd e_L_law_893 ?_
  refine V_sld (j := i + 2) e_L_law_894 (nI_add _ _) (by omega) hL ?_
  refine V_aload_n e_L_law_895 rfl rfl ?_
  refine V_iload_n e_L_law_896 rfl rfl ?_
  refine V_iconst (v := nI 3) e_L_law_897 (by decide) ?_
  refine V_iadd e_L_law_898 ?_
  refine V_sld (j := i + 3) e_L_law_899 (nI_add _ _) (by omega) hL ?_
  refine V_aload_n e_L_law_900 rfl rfl ?_
  refine V_iload_n e_L_law_901 rfl rfl ?_
  refine V_iconst (v := nI 4) e_L_law_902 (by decide) ?_
  refine V_iadd e_L_law_903 ?_
  refine V_sld (j := i + 4) e_L_law_904 (nI_add _ _) (by omega) hL ?_
  refine V_cvI (av := [.int (xs (i + 1)), .int (xs (i + 2)), .int (xs (i + 3)), .int (xs (i + 4))]) e_L_law_905 (h9 σ2 hM2) l_L_110 S_X9_rounds rfl (rL (by decide)) rfl rfl (Nat.le_of_ble_eq_true rfl) (fun σ3 r3 hq => ?_)
  obtain ⟨hf3, hM3, rfl⟩ := hq
  exact V_icmp_eq (tgt := 1454) e_L_law_908 (by decide) (fun _ => hN _ σ3 (hC2.m hf3) hM3) (fun h => absurd rfl h)
theorem law_23 (E : En) (b L : Nat) (xs : Nat → Int32) (i : Nat) (hi : i + 7 ≤ L) (hL : L ≤ 3584) (hN : NX E b L xs i 1454) : NX E b L xs i 913 := by
  intro S σ hC hM
  obtain ⟨A, T⟩ := S
  obtain ⟨R, h8, h9⟩ : ∃ R : Ab × Int32, Cn E m_X8_falls 12 [.ref (eB E + 0), .int (xs (i + 1)), .int (xs (i + 2))] σ (pC σ R) ∧ ∀ σ2, IM σ2 (A, T) → Cn E m_X9_falls 12 [.ref (eB E + 292), .int (xs (i + 1)), .int (xs (i + 2))] σ2 (pM σ2 R) := ⟨_, c8_falls E (xs (i + 1)) (xs (i + 2)) (A, T) σ hC, fun σ2 hM2 => c9_falls E (xs (i + 1)) (xs (i + 2)) (A, T) σ2 hM2⟩
  refine V_aload_n e_L_law_913 rfl rfl ?_
  refine V_aload_n e_L_law_914 rfl rfl ?_
  refine V_iload_n e_L_law_915 rfl rfl ?_
  refine V_iconst (v := nI 1) e_L_law_916 (by decide) ?_
  refine V_iadd e_L_law_917 ?_
  refine V_sld (j := i + 1) e_L_law_918 (nI_add _ _) (by omega) hL ?_
  refine V_aload_n e_L_law_919 rfl rfl ?_
  refine V_iload_n e_L_law_920 rfl rfl ?_
  refine V_iconst (v := nI 2) e_L_law_921 (by decide) ?_
  refine V_iadd e_L_law_922 ?_
  refine V_sld (j := i + 2) e_L_law_923 (nI_add _ _) (by omega) hL ?_
  refine V_cvI (av := [.int (xs (i + 1)), .int (xs (i + 2))]) e_L_law_924 h8 l_L_111 S_X8_falls rfl (rL (by decide)) rfl rfl (Nat.le_of_ble_eq_true rfl) (fun σ2 r hq => ?_)
  obtain ⟨hf, hC2, rfl⟩ := hq
  have hM2 := hM.c hf
  refine V_aload_n e_L_law_927 rfl rfl ?_
  refine V_aload_n e_L_law_928 rfl rfl ?_
  refine V_iload_n e_L_law_929 rfl rfl ?_
  refine V_iconst (v := nI 1) e_L_law_930 (by decide) ?_
  refine V_iadd e_L_law_931 ?_
  refine V_sld (j := i + 1) e_L_law_932 (nI_add _ _) (by omega) hL ?_
  refine V_aload_n e_L_law_933 rfl rfl ?_
  refine V_iload_n e_L_law_934 rfl rfl ?_
  refine V_iconst (v := nI 2) e_L_law_935 (by decide) ?_
  refine V_iadd e_L_law_936 ?_
  refine V_sld (j := i + 2) e_L_law_937 (nI_add _ _) (by omega) hL ?_
  refine V_cvI (av := [.int (xs (i + 1)), .int (xs (i + 2))]) e_L_law_938 (h9 σ2 hM2) l_L_114 S_X9_falls rfl (rL (by decide)) rfl rfl (Nat.le_of_ble_eq_true rfl) (fun σ3 r3 hq => ?_)
  obtain ⟨hf3, hM3, rfl⟩ := hq
  exact V_icmp_eq (tgt := 1454) e_L_law_941 (by decide) (fun _ => hN _ σ3 (hC2.m hf3) hM3) (fun h => absurd rfl h)
theorem law_24 (E : En) (b L : Nat) (xs : Nat → Int32) (i : Nat) (hi : i + 7 ≤ L) (hL : L ≤ 3584) (hN : NX E b L xs i 1454) : NX E b L xs i 946 := by
  intro S σ hC hM
  obtain ⟨A, T⟩ := S
  obtain ⟨R, h8, h9⟩ : ∃ R : Ab × Int32, Cn E m_X8_fellows 12 [.ref (eB E + 0), .int (xs (i + 1))] σ (pC σ R) ∧ ∀ σ2, IM σ2 (A, T) → Cn E m_X9_fellows 12 [.ref (eB E + 292), .int (xs (i + 1))] σ2 (pM σ2 R) := ⟨_, c8_fellows E (xs (i + 1)) (A, T) σ hC, fun σ2 hM2 => c9_fellows E (xs (i + 1)) (A, T) σ2 hM2⟩
  refine V_aload_n e_L_law_946 rfl rfl ?_
  refine V_aload_n e_L_law_947 rfl rfl ?_
  refine V_iload_n e_L_law_948 rfl rfl ?_
  refine V_iconst (v := nI 1) e_L_law_949 (by decide) ?_
  refine V_iadd e_L_law_950 ?_
  refine V_sld (j := i + 1) e_L_law_951 (nI_add _ _) (by omega) hL ?_
  refine V_cvI (av := [.int (xs (i + 1))]) e_L_law_952 h8 l_L_115 S_X8_fellows rfl (rL (by decide)) rfl rfl (Nat.le_of_ble_eq_true rfl) (fun σ2 r hq => ?_)
  obtain ⟨hf, hC2, rfl⟩ := hq
  have hM2 := hM.c hf
  refine V_aload_n e_L_law_955 rfl rfl ?_
  refine V_aload_n e_L_law_956 rfl rfl ?_
  refine V_iload_n e_L_law_957 rfl rfl ?_
  refine V_iconst (v := nI 1) e_L_law_958 (by decide) ?_
  refine V_iadd e_L_law_959 ?_
  refine V_sld (j := i + 1) e_L_law_960 (nI_add _ _) (by omega) hL ?_
  refine V_cvI (av := [.int (xs (i + 1))]) e_L_law_961 (h9 σ2 hM2) l_L_118 S_X9_fellows rfl (rL (by decide)) rfl rfl (Nat.le_of_ble_eq_true rfl) (fun σ3 r3 hq => ?_)
  obtain ⟨hf3, hM3, rfl⟩ := hq
  exact V_icmp_eq (tgt := 1454) e_L_law_964 (by decide) (fun _ => hN _ σ3 (hC2.m hf3) hM3) (fun h => absurd rfl h)
theorem law_25 (E : En) (b L : Nat) (xs : Nat → Int32) (i : Nat) (hi : i + 7 ≤ L) (hL : L ≤ 3584) (hN : NX E b L xs i 1454) : NX E b L xs i 969 := by
  intro S σ hC hM
  obtain ⟨A, T⟩ := S
  obtain ⟨R, h8, h9⟩ : ∃ R : Ab × Int32, Cn E m_X8_homes 12 [.ref (eB E + 0), .int (xs (i + 1))] σ (pC σ R) ∧ ∀ σ2, IM σ2 (A, T) → Cn E m_X9_homes 12 [.ref (eB E + 292), .int (xs (i + 1))] σ2 (pM σ2 R) := ⟨_, c8_homes E (xs (i + 1)) (A, T) σ hC, fun σ2 hM2 => c9_homes E (xs (i + 1)) (A, T) σ2 hM2⟩
  refine V_aload_n e_L_law_969 rfl rfl ?_
  refine V_aload_n e_L_law_970 rfl rfl ?_
  refine V_iload_n e_L_law_971 rfl rfl ?_
  refine V_iconst (v := nI 1) e_L_law_972 (by decide) ?_
  refine V_iadd e_L_law_973 ?_
  refine V_sld (j := i + 1) e_L_law_974 (nI_add _ _) (by omega) hL ?_
  refine V_cvI (av := [.int (xs (i + 1))]) e_L_law_975 h8 l_L_119 S_X8_homes rfl (rL (by decide)) rfl rfl (Nat.le_of_ble_eq_true rfl) (fun σ2 r hq => ?_)
  obtain ⟨hf, hC2, rfl⟩ := hq
  have hM2 := hM.c hf
  refine V_aload_n e_L_law_978 rfl rfl ?_
  refine V_aload_n e_L_law_979 rfl rfl ?_
  refine V_iload_n e_L_law_980 rfl rfl ?_
  refine V_iconst (v := nI 1) e_L_law_981 (by decide) ?_
  refine V_iadd e_L_law_982 ?_
  refine V_sld (j := i + 1) e_L_law_983 (nI_add _ _) (by omega) hL ?_
  refine V_cvI (av := [.int (xs (i + 1))]) e_L_law_984 (h9 σ2 hM2) l_L_122 S_X9_homes rfl (rL (by decide)) rfl rfl (Nat.le_of_ble_eq_true rfl) (fun σ3 r3 hq => ?_)
  obtain ⟨hf3, hM3, rfl⟩ := hq
  exact V_icmp_eq (tgt := 1454) e_L_law_987 (by decide) (fun _ => hN _ σ3 (hC2.m hf3) hM3) (fun h => absurd rfl h)
theorem law_26 (E : En) (b L : Nat) (xs : Nat → Int32) (i : Nat) (hi : i + 7 ≤ L) (hL : L ≤ 3584) (hN : NX E b L xs i 1454) : NX E b L xs i 992 := by
  intro S σ hC hM
  obtain ⟨A, T⟩ := S
  obtain ⟨R, h8, h9⟩ : ∃ R : Ab × Int32, Cn E m_X8_share 12 [.ref (eB E + 0), .int (xs (i + 1)), .int (xs (i + 2))] σ (pC σ R) ∧ ∀ σ2, IM σ2 (A, T) → Cn E m_X9_share 12 [.ref (eB E + 292), .int (xs (i + 1)), .int (xs (i + 2))] σ2 (pM σ2 R) := ⟨_, c8_share E (xs (i + 1)) (xs (i + 2)) (A, T) σ hC, fun σ2 hM2 => c9_share E (xs (i + 1)) (xs (i + 2)) (A, T) σ2 hM2⟩
  refine V_aload_n e_L_law_992 rfl rfl ?_
  refine V_aload_n e_L_law_993 rfl rfl ?_
  refine V_iload_n e_L_law_994 rfl rfl ?_
  refine V_iconst (v := nI 1) e_L_law_995 (by decide) ?_
  refine V_iadd e_L_law_996 ?_
  refine V_sld (j := i + 1) e_L_law_997 (nI_add _ _) (by omega) hL ?_
  refine V_aload_n e_L_law_998 rfl rfl ?_
  refine V_iload_n e_L_law_999 rfl rfl ?_
  refine V_iconst (v := nI 2) e_L_law_1000 (by decide) ?_
  refine V_iadd e_L_law_1001 ?_
  refine V_sld (j := i + 2) e_L_law_1002 (nI_add _ _) (by omega) hL ?_
  refine V_cvI (av := [.int (xs (i + 1)), .int (xs (i + 2))]) e_L_law_1003 h8 l_L_123 S_X8_share rfl (rL (by decide)) rfl rfl (Nat.le_of_ble_eq_true rfl) (fun σ2 r hq => ?_)
  obtain ⟨hf, hC2, rfl⟩ := hq
  have hM2 := hM.c hf
  refine V_aload_n e_L_law_1006 rfl rfl ?_
  refine V_aload_n e_L_law_1007 rfl rfl ?_
  refine V_iload_n e_L_law_1008 rfl rfl ?_
  refine V_iconst (v := nI 1) e_L_law_1009 (by decide) ?_
  refine V_iadd e_L_law_1010 ?_
  refine V_sld (j := i + 1) e_L_law_1011 (nI_add _ _) (by omega) hL ?_
  refine V_aload_n e_L_law_1012 rfl rfl ?_
  refine V_iload_n e_L_law_1013 rfl rfl ?_
  refine V_iconst (v := nI 2) e_L_law_1014 (by decide) ?_
  refine V_iadd e_L_law_1015 ?_
  refine V_sld (j := i + 2) e_L_law_1016 (nI_add _ _) (by omega) hL ?_
  refine V_cvI (av := [.int (xs (i + 1)), .int (xs (i + 2))]) e_L_law_1017 (h9 σ2 hM2) l_L_126 S_X9_share rfl (rL (by decide)) rfl rfl (Nat.le_of_ble_eq_true rfl) (fun σ3 r3 hq => ?_)
  obtain ⟨hf3, hM3, rfl⟩ := hq
  exact V_icmp_eq (tgt := 1454) e_L_law_1020 (by decide) (fun _ => hN _ σ3 (hC2.m hf3) hM3) (fun h => absurd rfl h)
theorem law_27 (E : En) (b L : Nat) (xs : Nat → Int32) (i : Nat) (hi : i + 7 ≤ L) (hL : L ≤ 3584) (hN : NX E b L xs i 1454) : NX E b L xs i 1025 := by
  intro S σ hC hM
  obtain ⟨A, T⟩ := S
  obtain ⟨R, h8, h9⟩ : ∃ R : Ab × Int32, Cn E m_X8_what 12 [.ref (eB E + 0), .int (xs (i + 1)), .int (xs (i + 2)), .int (xs (i + 3)), .int (xs (i + 4)), .int (xs (i + 5)), .int (xs (i + 6))] σ (pC σ R) ∧ ∀ σ2, IM σ2 (A, T) → Cn E m_X9_what 12 [.ref (eB E + 292), .int (xs (i + 1)), .int (xs (i + 2)), .int (xs (i + 3)), .int (xs (i + 4)), .int (xs (i + 5)), .int (xs (i + 6))] σ2 (pM σ2 R) := ⟨_, c8_what E (xs (i + 1)) (xs (i + 2)) (xs (i + 3)) (xs (i + 4)) (xs (i + 5)) (xs (i + 6)) A T σ hC, fun σ2 hM2 => c9_what E (xs (i + 1)) (xs (i + 2)) (xs (i + 3)) (xs (i + 4)) (xs (i + 5)) (xs (i + 6)) A T σ2 hM2⟩
  refine V_aload_n e_L_law_1025 rfl rfl ?_
  refine V_aload_n e_L_law_1026 rfl rfl ?_
  refine V_iload_n e_L_law_1027 rfl rfl ?_
  refine V_iconst (v := nI 1) e_L_law_1028 (by decide) ?_
  refine V_iadd e_L_law_1029 ?_
  refine V_sld (j := i + 1) e_L_law_1030 (nI_add _ _) (by omega) hL ?_
  refine V_aload_n e_L_law_1031 rfl rfl ?_
  refine V_iload_n e_L_law_1032 rfl rfl ?_
  refine V_iconst (v := nI 2) e_L_law_1033 (by decide) ?_
  refine V_iadd e_L_law_1034 ?_
  refine V_sld (j := i + 2) e_L_law_1035 (nI_add _ _) (by omega) hL ?_
  refine V_aload_n e_L_law_1036 rfl rfl ?_
  refine V_iload_n e_L_law_1037 rfl rfl ?_
  refine V_iconst (v := nI 3) e_L_law_1038 (by decide) ?_
  refine V_iadd e_L_law_1039 ?_
  refine V_sld (j := i + 3) e_L_law_1040 (nI_add _ _) (by omega) hL ?_
  refine V_aload_n e_L_law_1041 rfl rfl ?_
  refine V_iload_n e_L_law_1042 rfl rfl ?_
  refine V_iconst (v := nI 4) e_L_law_1043 (by decide) ?_
  refine V_iadd e_L_law_1044 ?_
  refine V_sld (j := i + 4) e_L_law_1045 (nI_add _ _) (by omega) hL ?_
  refine V_aload_n e_L_law_1046 rfl rfl ?_
  refine V_iload_n e_L_law_1047 rfl rfl ?_
  refine V_iconst (v := nI 5) e_L_law_1048 (by decide) ?_
  refine V_iadd e_L_law_1049 ?_
  refine V_sld (j := i + 5) e_L_law_1050 (nI_add _ _) (by omega) hL ?_
  refine V_aload_n e_L_law_1051 rfl rfl ?_
  refine V_iload_n e_L_law_1052 rfl rfl ?_
  refine V_bipush (v := nI 6) e_L_law_1053 (by decide) ?_
  refine V_iadd e_L_law_1055 ?_
  refine V_sld (j := i + 6) e_L_law_1056 (nI_add _ _) (by omega) hL ?_
  refine V_cvI (av := [.int (xs (i + 1)), .int (xs (i + 2)), .int (xs (i + 3)), .int (xs (i + 4)), .int (xs (i + 5)), .int (xs (i + 6))]) e_L_law_1057 h8 l_L_127 S_X8_what rfl (rL (by decide)) rfl rfl (Nat.le_of_ble_eq_true rfl) (fun σ2 r hq => ?_)
  obtain ⟨hf, hC2, rfl⟩ := hq
  have hM2 := hM.c hf
  refine V_aload_n e_L_law_1060 rfl rfl ?_
  refine V_aload_n e_L_law_1061 rfl rfl ?_
  refine V_iload_n e_L_law_1062 rfl rfl ?_
  refine V_iconst (v := nI 1) e_L_law_1063 (by decide) ?_
  refine V_iadd e_L_law_1064 ?_
  refine V_sld (j := i + 1) e_L_law_1065 (nI_add _ _) (by omega) hL ?_
  refine V_aload_n e_L_law_1066 rfl rfl ?_
  refine V_iload_n e_L_law_1067 rfl rfl ?_
  refine V_iconst (v := nI 2) e_L_law_1068 (by decide) ?_
  refine V_iadd e_L_law_1069 ?_
  refine V_sld (j := i + 2) e_L_law_1070 (nI_add _ _) (by omega) hL ?_
  refine V_aload_n e_L_law_1071 rfl rfl ?_
  refine V_iload_n e_L_law_1072 rfl rfl ?_
  refine V_iconst (v := nI 3) e_L_law_1073 (by decide) ?_
  refine V_iadd e_L_law_1074 ?_
  refine V_sld (j := i + 3) e_L_law_1075 (nI_add _ _) (by omega) hL ?_
  refine V_aload_n e_L_law_1076 rfl rfl ?_
  refine V_iload_n e_L_law_1077 rfl rfl ?_
  refine V_iconst (v := nI 4) e_L_law_1078 (by decide) ?_
  refine V_iadd e_L_law_1079 ?_
  refine V_sld (j := i + 4) e_L_law_1080 (nI_add _ _) (by omega) hL ?_
  refine V_aload_n e_L_law_1081 rfl rfl ?_
  refine V_iload_n e_L_law_1082 rfl rfl ?_
  refine V_iconst (v := nI 5) e_L_law_1083 (by decide) ?_
  refine V_iadd e_L_law_1084 ?_
  refine V_sld (j := i + 5) e_L_law_1085 (nI_add _ _) (by omega) hL ?_
  refine V_aload_n e_L_law_1086 rfl rfl ?_
  refine V_iload_n e_L_law_1087 rfl rfl ?_
  refine V_bipush (v := nI 6) e_L_law_1088 (by decide) ?_
  refine V_iadd e_L_law_1090 ?_
  refine V_sld (j := i + 6) e_L_law_1091 (nI_add _ _) (by omega) hL ?_
  refine V_cvI (av := [.int (xs (i + 1)), .int (xs (i + 2)), .int (xs (i + 3)), .int (xs (i + 4)), .int (xs (i + 5)), .int (xs (i + 6))]) e_L_law_1092 (h9 σ2 hM2) l_L_131 S_X9_what rfl (rL (by decide)) rfl rfl (Nat.le_of_ble_eq_true rfl) (fun σ3 r3 hq => ?_)
  obtain ⟨hf3, hM3, rfl⟩ := hq
  exact V_icmp_eq (tgt := 1454) e_L_law_1095 (by decide) (fun _ => hN _ σ3 (hC2.m hf3) hM3) (fun h => absurd rfl h)
theorem law_28 (E : En) (b L : Nat) (xs : Nat → Int32) (i : Nat) (hi : i + 7 ≤ L) (hL : L ≤ 3584) (hN : NX E b L xs i 1454) : NX E b L xs i 1100 := by
  intro S σ hC hM
  obtain ⟨A, T⟩ := S
  obtain ⟨R, h8, h9⟩ : ∃ R : Ab × Int32, Cn E m_X8_who 12 [.ref (eB E + 0), .int (xs (i + 1)), .int (xs (i + 2)), .int (xs (i + 3)), .int (xs (i + 4)), .int (xs (i + 5))] σ (pC σ R) ∧ ∀ σ2, IM σ2 (A, T) → Cn E m_X9_who 12 [.ref (eB E + 292), .int (xs (i + 1)), .int (xs (i + 2)), .int (xs (i + 3)), .int (xs (i + 4)), .int (xs (i + 5))] σ2 (pM σ2 R) := ⟨_, c8_who E (xs (i + 1)) (xs (i + 2)) (xs (i + 3)) (xs (i + 4)) (xs (i + 5)) A T σ hC, fun σ2 hM2 => c9_who E (xs (i + 1)) (xs (i + 2)) (xs (i + 3)) (xs (i + 4)) (xs (i + 5)) A T σ2 hM2⟩
  refine V_aload_n e_L_law_1100 rfl rfl ?_
  refine V_aload_n e_L_law_1101 rfl rfl ?_
  refine V_iload_n e_L_law_1102 rfl rfl ?_
  refine V_iconst (v := nI 1) e_L_law_1103 (by decide) ?_
  refine V_iadd e_L_law_1104 ?_
  refine V_sld (j := i + 1) e_L_law_1105 (nI_add _ _) (by omega) hL ?_
  refine V_aload_n e_L_law_1106 rfl rfl ?_
  refine V_iload_n e_L_law_1107 rfl rfl ?_
  refine V_iconst (v := nI 2) e_L_law_1108 (by decide) ?_
  refine V_iadd e_L_law_1109 ?_
  refine V_sld (j := i + 2) e_L_law_1110 (nI_add _ _) (by omega) hL ?_
  refine V_aload_n e_L_law_1111 rfl rfl ?_
  refine V_iload_n e_L_law_1112 rfl rfl ?_
  refine V_iconst (v := nI 3) e_L_law_1113 (by decide) ?_
  refine V_iadd e_L_law_1114 ?_
  refine V_sld (j := i + 3) e_L_law_1115 (nI_add _ _) (by omega) hL ?_
  refine V_aload_n e_L_law_1116 rfl rfl ?_
  refine V_iload_n e_L_law_1117 rfl rfl ?_
  refine V_iconst (v := nI 4) e_L_law_1118 (by decide) ?_
  refine V_iadd e_L_law_1119 ?_
  refine V_sld (j := i + 4) e_L_law_1120 (nI_add _ _) (by omega) hL ?_
  refine V_aload_n e_L_law_1121 rfl rfl ?_
  refine V_iload_n e_L_law_1122 rfl rfl ?_
  refine V_iconst (v := nI 5) e_L_law_1123 (by decide) ?_
  refine V_iadd e_L_law_1124 ?_
  refine V_sld (j := i + 5) e_L_law_1125 (nI_add _ _) (by omega) hL ?_
  refine V_cvI (av := [.int (xs (i + 1)), .int (xs (i + 2)), .int (xs (i + 3)), .int (xs (i + 4)), .int (xs (i + 5))]) e_L_law_1126 h8 l_L_132 S_X8_who rfl (rL (by decide)) rfl rfl (Nat.le_of_ble_eq_true rfl) (fun σ2 r hq => ?_)
  obtain ⟨hf, hC2, rfl⟩ := hq
  have hM2 := hM.c hf
  refine V_aload_n e_L_law_1129 rfl rfl ?_
  refine V_aload_n e_L_law_1130 rfl rfl ?_
  refine V_iload_n e_L_law_1131 rfl rfl ?_
  refine V_iconst (v := nI 1) e_L_law_1132 (by decide) ?_
  refine V_iadd e_L_law_1133 ?_
  refine V_sld (j := i + 1) e_L_law_1134 (nI_add _ _) (by omega) hL ?_
  refine V_aload_n e_L_law_1135 rfl rfl ?_
  refine V_iload_n e_L_law_1136 rfl rfl ?_
  refine V_iconst (v := nI 2) e_L_law_1137 (by decide) ?_
  refine V_iadd e_L_law_1138 ?_
  refine V_sld (j := i + 2) e_L_law_1139 (nI_add _ _) (by omega) hL ?_
  refine V_aload_n e_L_law_1140 rfl rfl ?_
  refine V_iload_n e_L_law_1141 rfl rfl ?_
  refine V_iconst (v := nI 3) e_L_law_1142 (by decide) ?_
  refine V_iadd e_L_law_1143 ?_
  refine V_sld (j := i + 3) e_L_law_1144 (nI_add _ _) (by omega) hL ?_
  refine V_aload_n e_L_law_1145 rfl rfl ?_
  refine V_iload_n e_L_law_1146 rfl rfl ?_
  refine V_iconst (v := nI 4) e_L_law_1147 (by decide) ?_
  refine V_iadd e_L_law_1148 ?_
  refine V_sld (j := i + 4) e_L_law_1149 (nI_add _ _) (by omega) hL ?_
  refine V_aload_n e_L_law_1150 rfl rfl ?_
  refine V_iload_n e_L_law_1151 rfl rfl ?_
  refine V_iconst (v := nI 5) e_L_law_1152 (by decide) ?_
  refine V_iadd e_L_law_1153 ?_
  refine V_sld (j := i + 5) e_L_law_1154 (nI_add _ _) (by omega) hL ?_
  refine V_cvI (av := [.int (xs (i + 1)), .int (xs (i + 2)), .int (xs (i + 3)), .int (xs (i + 4)), .int (xs (i + 5))]) e_L_law_1155 (h9 σ2 hM2) l_L_135 S_X9_who rfl (rL (by decide)) rfl rfl (Nat.le_of_ble_eq_true rfl) (fun σ3 r3 hq => ?_)
  obtain ⟨hf3, hM3, rfl⟩ := hq
  exact V_icmp_eq (tgt := 1454) e_L_law_1158 (by decide) (fun _ => hN _ σ3 (hC2.m hf3) hM3) (fun h => absurd rfl h)
theorem law_29 (E : En) (b L : Nat) (xs : Nat → Int32) (i : Nat) (hi : i + 7 ≤ L) (hL : L ≤ 3584) (hN : NX E b L xs i 1454) : NX E b L xs i 1163 := by
  intro S σ hC hM
  obtain ⟨A, T⟩ := S
  obtain ⟨R, h8, h9⟩ : ∃ R : Ab × Int64, Cn E m_X8_fed 12 [.ref (eB E + 0), .int (xs (i + 1)), .int (xs (i + 2)), .int (xs (i + 3)), .int (xs (i + 4))] σ (pCJ σ R) ∧ ∀ σ2, IM σ2 (A, T) → Cn E m_X9_fed 12 [.ref (eB E + 292), .int (xs (i + 1)), .int (xs (i + 2)), .int (xs (i + 3)), .int (xs (i + 4))] σ2 (pMJ σ2 R) := ⟨_, c8_fed E (xs (i + 1)) (xs (i + 2)) (xs (i + 3)) (xs (i + 4)) (A, T) σ hC, fun σ2 hM2 => c9_fed E (xs (i + 1)) (xs (i + 2)) (xs (i + 3)) (xs (i + 4)) (A, T) σ2 hM2⟩
  refine V_aload_n e_L_law_1163 rfl rfl ?_
  refine V_aload_n e_L_law_1164 rfl rfl ?_
  refine V_iload_n e_L_law_1165 rfl rfl ?_
  refine V_iconst (v := nI 1) e_L_law_1166 (by decide) ?_
  refine V_iadd e_L_law_1167 ?_
  refine V_sld (j := i + 1) e_L_law_1168 (nI_add _ _) (by omega) hL ?_
  refine V_aload_n e_L_law_1169 rfl rfl ?_
  refine V_iload_n e_L_law_1170 rfl rfl ?_
  refine V_iconst (v := nI 2) e_L_law_1171 (by decide) ?_
  refine V_iadd e_L_law_1172 ?_
  refine V_sld (j := i + 2) e_L_law_1173 (nI_add _ _) (by omega) hL ?_
  refine V_aload_n e_L_law_1174 rfl rfl ?_
  refine V_iload_n e_L_law_1175 rfl rfl ?_
  refine V_iconst (v := nI 3) e_L_law_1176 (by decide) ?_
  refine V_iadd e_L_law_1177 ?_
  refine V_sld (j := i + 3) e_L_law_1178 (nI_add _ _) (by omega) hL ?_
  refine V_aload_n e_L_law_1179 rfl rfl ?_
  refine V_iload_n e_L_law_1180 rfl rfl ?_
  refine V_iconst (v := nI 4) e_L_law_1181 (by decide) ?_
  refine V_iadd e_L_law_1182 ?_
  refine V_sld (j := i + 4) e_L_law_1183 (nI_add _ _) (by omega) hL ?_
  refine V_cvJ (av := [.int (xs (i + 1)), .int (xs (i + 2)), .int (xs (i + 3)), .int (xs (i + 4))]) e_L_law_1184 h8 l_L_136 S_X8_fed rfl (rL (by decide)) rfl rfl (Nat.le_of_ble_eq_true rfl) (fun σ2 r hq => ?_)
  obtain ⟨hf, hC2, rfl⟩ := hq
  have hM2 := hM.c hf
  refine V_aload_n e_L_law_1187 rfl rfl ?_
  refine V_aload_n e_L_law_1188 rfl rfl ?_
  refine V_iload_n e_L_law_1189 rfl rfl ?_
  refine V_iconst (v := nI 1) e_L_law_1190 (by decide) ?_
  refine V_iadd e_L_law_1191 ?_
  refine V_sld (j := i + 1) e_L_law_1192 (nI_add _ _) (by omega) hL ?_
  refine V_aload_n e_L_law_1193 rfl rfl ?_
  refine V_iload_n e_L_law_1194 rfl rfl ?_
  refine V_iconst (v := nI 2) e_L_law_1195 (by decide) ?_
  refine V_iadd e_L_law_1196 ?_
  refine V_sld (j := i + 2) e_L_law_1197 (nI_add _ _) (by omega) hL ?_
  refine V_aload_n e_L_law_1198 rfl rfl ?_
  refine V_iload_n e_L_law_1199 rfl rfl ?_
  refine V_iconst (v := nI 3) e_L_law_1200 (by decide) ?_
  refine V_iadd e_L_law_1201 ?_
  refine V_sld (j := i + 3) e_L_law_1202 (nI_add _ _) (by omega) hL ?_
  refine V_aload_n e_L_law_1203 rfl rfl ?_
  refine V_iload_n e_L_law_1204 rfl rfl ?_
  refine V_iconst (v := nI 4) e_L_law_1205 (by decide) ?_
  refine V_iadd e_L_law_1206 ?_
  refine V_sld (j := i + 4) e_L_law_1207 (nI_add _ _) (by omega) hL ?_
  refine V_cvJ (av := [.int (xs (i + 1)), .int (xs (i + 2)), .int (xs (i + 3)), .int (xs (i + 4))]) e_L_law_1208 (h9 σ2 hM2) l_L_140 S_X9_fed rfl (rL (by decide)) rfl rfl (Nat.le_of_ble_eq_true rfl) (fun σ3 r3 hq => ?_)
  obtain ⟨hf3, hM3, rfl⟩ := hq
  refine V_lcmp e_L_law_1211 ?_
  exact V_if_eq (tgt := 1454) e_L_law_1212 (by decide) (fun _ => hN _ σ3 (hC2.m hf3) hM3) (fun h => absurd (lg_same _) h)
theorem law_30 (E : En) (b L : Nat) (xs : Nat → Int32) (i : Nat) (hi : i + 7 ≤ L) (hL : L ≤ 3584) (hN : NX E b L xs i 1454) : NX E b L xs i 1217 := by
  intro S σ hC hM
  obtain ⟨A, T⟩ := S
  obtain ⟨R, h8, h9⟩ : ∃ R : Ab × Int32, Cn E m_X8_drawn 12 [.ref (eB E + 0), .int (xs (i + 1)), .int (xs (i + 2)), .int (xs (i + 3))] σ (pC σ R) ∧ ∀ σ2, IM σ2 (A, T) → Cn E m_X9_drawn 12 [.ref (eB E + 292), .int (xs (i + 1)), .int (xs (i + 2)), .int (xs (i + 3))] σ2 (pM σ2 R) := ⟨_, c8_drawn E (xs (i + 1)) (xs (i + 2)) (xs (i + 3)) (A, T) σ hC, fun σ2 hM2 => c9_drawn E (xs (i + 1)) (xs (i + 2)) (xs (i + 3)) (A, T) σ2 hM2⟩
  refine V_aload_n e_L_law_1217 rfl rfl ?_
  refine V_aload_n e_L_law_1218 rfl rfl ?_
  refine V_iload_n e_L_law_1219 rfl rfl ?_
  refine V_iconst (v := nI 1) e_L_law_1220 (by decide) ?_
  refine V_iadd e_L_law_1221 ?_
  refine V_sld (j := i + 1) e_L_law_1222 (nI_add _ _) (by omega) hL ?_
  refine V_aload_n e_L_law_1223 rfl rfl ?_
  refine V_iload_n e_L_law_1224 rfl rfl ?_
  refine V_iconst (v := nI 2) e_L_law_1225 (by decide) ?_
  refine V_iadd e_L_law_1226 ?_
  refine V_sld (j := i + 2) e_L_law_1227 (nI_add _ _) (by omega) hL ?_
  refine V_aload_n e_L_law_1228 rfl rfl ?_
  refine V_iload_n e_L_law_1229 rfl rfl ?_
  refine V_iconst (v := nI 3) e_L_law_1230 (by decide) ?_
  refine V_iadd e_L_law_1231 ?_
  refine V_sld (j := i + 3) e_L_law_1232 (nI_add _ _) (by omega) hL ?_
  refine V_cvI (av := [.int (xs (i + 1)), .int (xs (i + 2)), .int (xs (i + 3))]) e_L_law_1233 h8 l_L_141 S_X8_drawn rfl (rL (by decide)) rfl rfl (Nat.le_of_ble_eq_true rfl) (fun σ2 r hq => ?_)
  obtain ⟨hf, hC2, rfl⟩ := hq
  have hM2 := hM.c hf
  refine V_aload_n e_L_law_1236 rfl rfl ?_
  refine V_aload_n e_L_law_1237 rfl rfl ?_
  refine V_iload_n e_L_law_1238 rfl rfl ?_
  refine V_iconst (v := nI 1) e_L_law_1239 (by decide) ?_
  refine V_iadd e_L_law_1240 ?_
  refine V_sld (j := i + 1) e_L_law_1241 (nI_add _ _) (by omega) hL ?_
  refine V_aload_n e_L_law_1242 rfl rfl ?_
  refine V_iload_n e_L_law_1243 rfl rfl ?_
  refine V_iconst (v := nI 2) e_L_law_1244 (by decide) ?_
  refine V_iadd e_L_law_1245 ?_
  refine V_sld (j := i + 2) e_L_law_1246 (nI_add _ _) (by omega) hL ?_
  refine V_aload_n e_L_law_1247 rfl rfl ?_
  refine V_iload_n e_L_law_1248 rfl rfl ?_
  refine V_iconst (v := nI 3) e_L_law_1249 (by decide) ?_
  refine V_iadd e_L_law_1250 ?_
  refine V_sld (j := i + 3) e_L_law_1251 (nI_add _ _) (by omega) hL ?_
  refine V_cvI (av := [.int (xs (i + 1)), .int (xs (i + 2)), .int (xs (i + 3))]) e_L_law_1252 (h9 σ2 hM2) l_L_144 S_X9_drawn rfl (rL (by decide)) rfl rfl (Nat.le_of_ble_eq_true rfl) (fun σ3 r3 hq => ?_)
  obtain ⟨hf3, hM3, rfl⟩ := hq
  exact V_icmp_eq (tgt := 1454) e_L_law_1255 (by decide) (fun _ => hN _ σ3 (hC2.m hf3) hM3) (fun h => absurd rfl h)
theorem law_31 (E : En) (b L : Nat) (xs : Nat → Int32) (i : Nat) (hi : i + 7 ≤ L) (hL : L ≤ 3584) (hN : NX E b L xs i 1454) : NX E b L xs i 1260 := by
  intro S σ hC hM
  obtain ⟨A, T⟩ := S
  obtain ⟨R, h8, h9⟩ : ∃ R : Ab × Int32, Cn E m_X8_image 12 [.ref (eB E + 0), .int (xs (i + 1))] σ (pC σ R) ∧ ∀ σ2, IM σ2 (A, T) → Cn E m_X9_image 12 [.ref (eB E + 292), .int (xs (i + 1))] σ2 (pM σ2 R) := ⟨_, c8_image E (xs (i + 1)) A T σ hC, fun σ2 hM2 => c9_image E (xs (i + 1)) A T σ2 hM2⟩
  refine V_aload_n e_L_law_1260 rfl rfl ?_
  refine V_aload_n e_L_law_1261 rfl rfl ?_
  refine V_iload_n e_L_law_1262 rfl rfl ?_
  refine V_iconst (v := nI 1) e_L_law_1263 (by decide) ?_
  refine V_iadd e_L_law_1264 ?_
  refine V_sld (j := i + 1) e_L_law_1265 (nI_add _ _) (by omega) hL ?_
  refine V_cvI (av := [.int (xs (i + 1))]) e_L_law_1266 h8 l_L_145 S_X8_image rfl (rL (by decide)) rfl rfl (Nat.le_of_ble_eq_true rfl) (fun σ2 r hq => ?_)
  obtain ⟨hf, hC2, rfl⟩ := hq
  have hM2 := hM.c hf
  refine V_aload_n e_L_law_1269 rfl rfl ?_
  refine V_aload_n e_L_law_1270 rfl rfl ?_
  refine V_iload_n e_L_law_1271 rfl rfl ?_
  refine V_iconst (v := nI 1) e_L_law_1272 (by decide) ?_
  refine V_iadd e_L_law_1273 ?_
  refine V_sld (j := i + 1) e_L_law_1274 (nI_add _ _) (by omega) hL ?_
  refine V_cvI (av := [.int (xs (i + 1))]) e_L_law_1275 (h9 σ2 hM2) l_L_148 S_X9_image rfl (rL (by decide)) rfl rfl (Nat.le_of_ble_eq_true rfl) (fun σ3 r3 hq => ?_)
  obtain ⟨hf3, hM3, rfl⟩ := hq
  exact V_icmp_eq (tgt := 1454) e_L_law_1278 (by decide) (fun _ => hN _ σ3 (hC2.m hf3) hM3) (fun h => absurd rfl h)
theorem law_32 (E : En) (b L : Nat) (xs : Nat → Int32) (i : Nat) (hi : i + 7 ≤ L) (hL : L ≤ 3584) (hN : NX E b L xs i 1454) : NX E b L xs i 1283 := by
  intro S σ hC hM
  obtain ⟨A, T⟩ := S
  obtain ⟨R, h8, h9⟩ : ∃ R : Ab × Int32, Cn E m_X8_restore 12 [.ref (eB E + 0), .int (xs (i + 1))] σ (pC σ R) ∧ ∀ σ2, IM σ2 (A, T) → Cn E m_X9_restore 12 [.ref (eB E + 292), .int (xs (i + 1))] σ2 (pM σ2 R) := ⟨_, c8_restore E (xs (i + 1)) A T σ hC, fun σ2 hM2 => c9_restore E (xs (i + 1)) A T σ2 hM2⟩
  refine V_aload_n e_L_law_1283 rfl rfl ?_
  refine V_aload_n e_L_law_1284 rfl rfl ?_
  refine V_iload_n e_L_law_1285 rfl rfl ?_
  refine V_iconst (v := nI 1) e_L_law_1286 (by decide) ?_
  refine V_iadd e_L_law_1287 ?_
  refine V_sld (j := i + 1) e_L_law_1288 (nI_add _ _) (by omega) hL ?_
  refine V_cvI (av := [.int (xs (i + 1))]) e_L_law_1289 h8 l_L_149 S_X8_restore rfl (rL (by decide)) rfl rfl (Nat.le_of_ble_eq_true rfl) (fun σ2 r hq => ?_)
  obtain ⟨hf, hC2, rfl⟩ := hq
  have hM2 := hM.c hf
  refine V_aload_n e_L_law_1292 rfl rfl ?_
  refine V_aload_n e_L_law_1293 rfl rfl ?_
  refine V_iload_n e_L_law_1294 rfl rfl ?_
  refine V_iconst (v := nI 1) e_L_law_1295 (by decide) ?_
  refine V_iadd e_L_law_1296 ?_
  refine V_sld (j := i + 1) e_L_law_1297 (nI_add _ _) (by omega) hL ?_
  refine V_cvI (av := [.int (xs (i + 1))]) e_L_law_1298 (h9 σ2 hM2) l_L_152 S_X9_restore rfl (rL (by decide)) rfl rfl (Nat.le_of_ble_eq_true rfl) (fun σ3 r3 hq => ?_)
  obtain ⟨hf3, hM3, rfl⟩ := hq
  exact V_icmp_eq (tgt := 1454) e_L_law_1301 (by decide) (fun _ => hN _ σ3 (hC2.m hf3) hM3) (fun h => absurd rfl h)
theorem law_33 (E : En) (b L : Nat) (xs : Nat → Int32) (i : Nat) (hi : i + 7 ≤ L) (hL : L ≤ 3584) (hN : NX E b L xs i 1454) : NX E b L xs i 1306 := by
  intro S σ hC hM
  obtain ⟨A, T⟩ := S
  obtain ⟨R, h8, h9⟩ : ∃ R : Ab × Int32, Cn E m_X8_kind 12 [.ref (eB E + 0), .int (xs (i + 1))] σ (pC σ R) ∧ ∀ σ2, IM σ2 (A, T) → Cn E m_X9_kind 12 [.ref (eB E + 292), .int (xs (i + 1))] σ2 (pM σ2 R) := ⟨_, c8_kind E (xs (i + 1)) (A, T) σ hC, fun σ2 hM2 => c9_kind E (xs (i + 1)) (A, T) σ2 hM2⟩
  refine V_aload_n e_L_law_1306 rfl rfl ?_
  refine V_aload_n e_L_law_1307 rfl rfl ?_
  refine V_iload_n e_L_law_1308 rfl rfl ?_
  refine V_iconst (v := nI 1) e_L_law_1309 (by decide) ?_
  refine V_iadd e_L_law_1310 ?_
  refine V_sld (j := i + 1) e_L_law_1311 (nI_add _ _) (by omega) hL ?_
  refine V_cvI (av := [.int (xs (i + 1))]) e_L_law_1312 h8 l_L_153 S_X8_kind rfl (rL (by decide)) rfl rfl (Nat.le_of_ble_eq_true rfl) (fun σ2 r hq => ?_)
  obtain ⟨hf, hC2, rfl⟩ := hq
  have hM2 := hM.c hf
  refine V_aload_n e_L_law_1315 rfl rfl ?_
  refine V_aload_n e_L_law_1316 rfl rfl ?_
  refine V_iload_n e_L_law_1317 rfl rfl ?_
  refine V_iconst (v := nI 1) e_L_law_1318 (by decide) ?_
  refine V_iadd e_L_law_1319 ?_
  refine V_sld (j := i + 1) e_L_law_1320 (nI_add _ _) (by omega) hL ?_
  refine V_cvI (av := [.int (xs (i + 1))]) e_L_law_1321 (h9 σ2 hM2) l_L_156 S_X9_kind rfl (rL (by decide)) rfl rfl (Nat.le_of_ble_eq_true rfl) (fun σ3 r3 hq => ?_)
  obtain ⟨hf3, hM3, rfl⟩ := hq
  exact V_icmp_eq (tgt := 1454) e_L_law_1324 (by decide) (fun _ => hN _ σ3 (hC2.m hf3) hM3) (fun h => absurd rfl h)
theorem law_34 (E : En) (b L : Nat) (xs : Nat → Int32) (i : Nat) (hi : i + 7 ≤ L) (hL : L ≤ 3584) (hN : NX E b L xs i 1454) : NX E b L xs i 1329 := by
  intro S σ hC hM
  obtain ⟨A, T⟩ := S
  obtain ⟨R, h8, h9⟩ : ∃ R : Ab × Int32, Cn E m_X8_as 12 [.ref (eB E + 0), .int (xs (i + 1)), .int (xs (i + 2))] σ (pC σ R) ∧ ∀ σ2, IM σ2 (A, T) → Cn E m_X9_as 12 [.ref (eB E + 292), .int (xs (i + 1)), .int (xs (i + 2))] σ2 (pM σ2 R) := ⟨_, c8_as E (xs (i + 1)) (xs (i + 2)) A T σ hC, fun σ2 hM2 => c9_as E (xs (i + 1)) (xs (i + 2)) A T σ2 hM2⟩
  refine V_aload_n e_L_law_1329 rfl rfl ?_
  refine V_aload_n e_L_law_1330 rfl rfl ?_
  refine V_iload_n e_L_law_1331 rfl rfl ?_
  refine V_iconst (v := nI 1) e_L_law_1332 (by decide) ?_
  refine V_iadd e_L_law_1333 ?_
  refine V_sld (j := i + 1) e_L_law_1334 (nI_add _ _) (by omega) hL ?_
  refine V_aload_n e_L_law_1335 rfl rfl ?_
  refine V_iload_n e_L_law_1336 rfl rfl ?_
  refine V_iconst (v := nI 2) e_L_law_1337 (by decide) ?_
  refine V_iadd e_L_law_1338 ?_
  refine V_sld (j := i + 2) e_L_law_1339 (nI_add _ _) (by omega) hL ?_
  refine V_cvI (av := [.int (xs (i + 1)), .int (xs (i + 2))]) e_L_law_1340 h8 l_L_157 S_X8_as rfl (rL (by decide)) rfl rfl (Nat.le_of_ble_eq_true rfl) (fun σ2 r hq => ?_)
  obtain ⟨hf, hC2, rfl⟩ := hq
  have hM2 := hM.c hf
  refine V_aload_n e_L_law_1343 rfl rfl ?_
  refine V_aload_n e_L_law_1344 rfl rfl ?_
  refine V_iload_n e_L_law_1345 rfl rfl ?_
  refine V_iconst (v := nI 1) e_L_law_1346 (by decide) ?_
  refine V_iadd e_L_law_1347 ?_
  refine V_sld (j := i + 1) e_L_law_1348 (nI_add _ _) (by omega) hL ?_
  refine V_aload_n e_L_law_1349 rfl rfl ?_
  refine V_iload_n e_L_law_1350 rfl rfl ?_
  refine V_iconst (v := nI 2) e_L_law_1351 (by decide) ?_
  refine V_iadd e_L_law_1352 ?_
  refine V_sld (j := i + 2) e_L_law_1353 (nI_add _ _) (by omega) hL ?_
  refine V_cvI (av := [.int (xs (i + 1)), .int (xs (i + 2))]) e_L_law_1354 (h9 σ2 hM2) l_L_160 S_X9_as rfl (rL (by decide)) rfl rfl (Nat.le_of_ble_eq_true rfl) (fun σ3 r3 hq => ?_)
  obtain ⟨hf3, hM3, rfl⟩ := hq
  exact V_icmp_eq (tgt := 1454) e_L_law_1357 (by decide) (fun _ => hN _ σ3 (hC2.m hf3) hM3) (fun h => absurd rfl h)
theorem law_35 (E : En) (b L : Nat) (xs : Nat → Int32) (i : Nat) (hi : i + 7 ≤ L) (hL : L ≤ 3584) (hN : NX E b L xs i 1454) : NX E b L xs i 1362 := by
  intro S σ hC hM
  obtain ⟨A, T⟩ := S
  obtain ⟨R, h8, h9⟩ : ∃ R : Ab × Int32, Cn E m_X8_ask 12 [.ref (eB E + 0), .int (xs (i + 1)), .int (xs (i + 2))] σ (pC σ R) ∧ ∀ σ2, IM σ2 (A, T) → Cn E m_X9_ask 12 [.ref (eB E + 292), .int (xs (i + 1)), .int (xs (i + 2))] σ2 (pM σ2 R) := ⟨_, c8_ask E (xs (i + 1)) (xs (i + 2)) A T σ hC, fun σ2 hM2 => c9_ask E (xs (i + 1)) (xs (i + 2)) A T σ2 hM2⟩
  refine V_aload_n e_L_law_1362 rfl rfl ?_
  refine V_aload_n e_L_law_1363 rfl rfl ?_
  refine V_iload_n e_L_law_1364 rfl rfl ?_
  refine V_iconst (v := nI 1) e_L_law_1365 (by decide) ?_
  refine V_iadd e_L_law_1366 ?_
  refine V_sld (j := i + 1) e_L_law_1367 (nI_add _ _) (by omega) hL ?_
  refine V_aload_n e_L_law_1368 rfl rfl ?_
  refine V_iload_n e_L_law_1369 rfl rfl ?_
  refine V_iconst (v := nI 2) e_L_law_1370 (by decide) ?_
  refine V_iadd e_L_law_1371 ?_
  refine V_sld (j := i + 2) e_L_law_1372 (nI_add _ _) (by omega) hL ?_
  refine V_cvI (av := [.int (xs (i + 1)), .int (xs (i + 2))]) e_L_law_1373 h8 l_L_161 S_X8_ask rfl (rL (by decide)) rfl rfl (Nat.le_of_ble_eq_true rfl) (fun σ2 r hq => ?_)
  obtain ⟨hf, hC2, rfl⟩ := hq
  have hM2 := hM.c hf
  refine V_aload_n e_L_law_1376 rfl rfl ?_
  refine V_aload_n e_L_law_1377 rfl rfl ?_
  refine V_iload_n e_L_law_1378 rfl rfl ?_
  refine V_iconst (v := nI 1) e_L_law_1379 (by decide) ?_
  refine V_iadd e_L_law_1380 ?_
  refine V_sld (j := i + 1) e_L_law_1381 (nI_add _ _) (by omega) hL ?_
  refine V_aload_n e_L_law_1382 rfl rfl ?_
  refine V_iload_n e_L_law_1383 rfl rfl ?_
  refine V_iconst (v := nI 2) e_L_law_1384 (by decide) ?_
  refine V_iadd e_L_law_1385 ?_
  refine V_sld (j := i + 2) e_L_law_1386 (nI_add _ _) (by omega) hL ?_
  refine V_cvI (av := [.int (xs (i + 1)), .int (xs (i + 2))]) e_L_law_1387 (h9 σ2 hM2) l_L_164 S_X9_ask rfl (rL (by decide)) rfl rfl (Nat.le_of_ble_eq_true rfl) (fun σ3 r3 hq => ?_)
  obtain ⟨hf3, hM3, rfl⟩ := hq
  exact V_icmp_eq (tgt := 1454) e_L_law_1390 (by decide) (fun _ => hN _ σ3 (hC2.m hf3) hM3) (fun h => absurd rfl h)
theorem law_36 (E : En) (b L : Nat) (xs : Nat → Int32) (i : Nat) (hi : i + 7 ≤ L) (hL : L ≤ 3584) (hN : NX E b L xs i 1454) : NX E b L xs i 1395 := by
  intro S σ hC hM
  obtain ⟨A, T⟩ := S
  obtain ⟨R, h8, h9⟩ : ∃ R : Ab × Int32, Cn E m_X8_trace 12 [.ref (eB E + 0), .int (xs (i + 1))] σ (pC σ R) ∧ ∀ σ2, IM σ2 (A, T) → Cn E m_X9_trace 12 [.ref (eB E + 292), .int (xs (i + 1))] σ2 (pM σ2 R) := ⟨_, c8_trace E (xs (i + 1)) A T σ hC, fun σ2 hM2 => c9_trace E (xs (i + 1)) A T σ2 hM2⟩
  refine V_aload_n e_L_law_1395 rfl rfl ?_
  refine V_aload_n e_L_law_1396 rfl rfl ?_
  refine V_iload_n e_L_law_1397 rfl rfl ?_
  refine V_iconst (v := nI 1) e_L_law_1398 (by decide) ?_
  refine V_iadd e_L_law_1399 ?_
  refine V_sld (j := i + 1) e_L_law_1400 (nI_add _ _) (by omega) hL ?_
  refine V_cvI (av := [.int (xs (i + 1))]) e_L_law_1401 h8 l_L_165 S_X8_trace rfl (rL (by decide)) rfl rfl (Nat.le_of_ble_eq_true rfl) (fun σ2 r hq => ?_)
  obtain ⟨hf, hC2, rfl⟩ := hq
  have hM2 := hM.c hf
  refine V_aload_n e_L_law_1404 rfl rfl ?_
  refine V_aload_n e_L_law_1405 rfl rfl ?_
  refine V_iload_n e_L_law_1406 rfl rfl ?_
  refine V_iconst (v := nI 1) e_L_law_1407 (by decide) ?_
  refine V_iadd e_L_law_1408 ?_
  refine V_sld (j := i + 1) e_L_law_1409 (nI_add _ _) (by omega) hL ?_
  refine V_cvI (av := [.int (xs (i + 1))]) e_L_law_1410 (h9 σ2 hM2) l_L_168 S_X9_trace rfl (rL (by decide)) rfl rfl (Nat.le_of_ble_eq_true rfl) (fun σ3 r3 hq => ?_)
  obtain ⟨hf3, hM3, rfl⟩ := hq
  exact V_icmp_eq (tgt := 1454) e_L_law_1413 (by decide) (fun _ => hN _ σ3 (hC2.m hf3) hM3) (fun h => absurd rfl h)
theorem law_37 (E : En) (b L : Nat) (xs : Nat → Int32) (i : Nat) (hi : i + 7 ≤ L) (hL : L ≤ 3584) (hN : NX E b L xs i 1454) : NX E b L xs i 1418 := by
  intro S σ hC hM
  obtain ⟨A, T⟩ := S
  obtain ⟨R, h8, h9⟩ : ∃ R : Ab × Int32, Cn E m_X8_count 12 [.ref (eB E + 0), .int (xs (i + 1))] σ (pC σ R) ∧ ∀ σ2, IM σ2 (A, T) → Cn E m_X9_count 12 [.ref (eB E + 292), .int (xs (i + 1))] σ2 (pM σ2 R) := ⟨_, c8_count E (xs (i + 1)) A T σ hC, fun σ2 hM2 => c9_count E (xs (i + 1)) A T σ2 hM2⟩
  refine V_aload_n e_L_law_1418 rfl rfl ?_
  refine V_aload_n e_L_law_1419 rfl rfl ?_
  refine V_iload_n e_L_law_1420 rfl rfl ?_
  refine V_iconst (v := nI 1) e_L_law_1421 (by decide) ?_
  refine V_iadd e_L_law_1422 ?_
  refine V_sld (j := i + 1) e_L_law_1423 (nI_add _ _) (by omega) hL ?_
  refine V_cvI (av := [.int (xs (i + 1))]) e_L_law_1424 h8 l_L_169 S_X8_count rfl (rL (by decide)) rfl rfl (Nat.le_of_ble_eq_true rfl) (fun σ2 r hq => ?_)
  obtain ⟨hf, hC2, rfl⟩ := hq
  have hM2 := hM.c hf
  refine V_aload_n e_L_law_1427 rfl rfl ?_
  refine V_aload_n e_L_law_1428 rfl rfl ?_
  refine V_iload_n e_L_law_1429 rfl rfl ?_
  refine V_iconst (v := nI 1) e_L_law_1430 (by decide) ?_
  refine V_iadd e_L_law_1431 ?_
  refine V_sld (j := i + 1) e_L_law_1432 (nI_add _ _) (by omega) hL ?_
  refine V_cvI (av := [.int (xs (i + 1))]) e_L_law_1433 (h9 σ2 hM2) l_L_172 S_X9_count rfl (rL (by decide)) rfl rfl (Nat.le_of_ble_eq_true rfl) (fun σ3 r3 hq => ?_)
  obtain ⟨hf3, hM3, rfl⟩ := hq
  exact V_icmp_eq (tgt := 1454) e_L_law_1436 (by decide) (fun _ => hN _ σ3 (hC2.m hf3) hM3) (fun h => absurd rfl h)
theorem law_38 (E : En) (b L : Nat) (xs : Nat → Int32) (i : Nat) (hi : i + 7 ≤ L) (hL : L ≤ 3584) (hN : NX E b L xs i 1454) : NX E b L xs i 1441 := by
  intro S σ hC hM
  obtain ⟨A, T⟩ := S
  obtain ⟨R, h8, h9⟩ : ∃ R : Ab × Int32, Cn E m_X8_status 12 [.ref (eB E + 0)] σ (pC σ R) ∧ ∀ σ2, IM σ2 (A, T) → Cn E m_X9_status 12 [.ref (eB E + 292)] σ2 (pM σ2 R) := ⟨_, c8_status E  A T σ hC, fun σ2 hM2 => c9_status E  A T σ2 hM2⟩
  refine V_aload_n e_L_law_1441 rfl rfl ?_
  refine V_cvI (av := []) e_L_law_1442 h8 l_L_173 S_X8_status rfl (rL (by decide)) rfl rfl (Nat.le_of_ble_eq_true rfl) (fun σ2 r hq => ?_)
  obtain ⟨hf, hC2, rfl⟩ := hq
  have hM2 := hM.c hf
  refine V_aload_n e_L_law_1445 rfl rfl ?_
  refine V_cvI (av := []) e_L_law_1446 (h9 σ2 hM2) l_L_176 S_X9_status rfl (rL (by decide)) rfl rfl (Nat.le_of_ble_eq_true rfl) (fun σ3 r3 hq => ?_)
  obtain ⟨hf3, hM3, rfl⟩ := hq
  exact V_icmp_eq (tgt := 1454) e_L_law_1449 (by decide) (fun _ => hN _ σ3 (hC2.m hf3) hM3) (fun h => absurd rfl h)
theorem law_sw (E : En) (b L : Nat) (xs : Nat → Int32) (i : Nat) (hi : i + 7 ≤ L) (hL : L ≤ 3584) (hN : NX E b L xs i 1454) : NX E b L xs i 27 := by
  intro S σ hC hM
  refine V_aload_n e_L_law_27 rfl rfl ?_
  refine V_iload_n e_L_law_28 rfl rfl ?_
  refine V_sld (j := i) e_L_law_29 rfl (by omega) hL ?_
  refine V_bipush (v := nI 63) e_L_law_30 (by decide) ?_
  refine V_iand e_L_law_32 ?_
  obtain ⟨j, hj, hx⟩ := x63 (xs i)
  rw [hx]
  by_cases h38 : 38 < j
  · refine V_tabo (tgt := 1454) e_L_law_33 (Or.inr (by rw [nI_toInt (by omega)]; omega)) (by decide) ?_
    exact hN S σ hC hM
  · have hc : j = 0 ∨ j = 1 ∨ j = 2 ∨ j = 3 ∨ j = 4 ∨ j = 5 ∨ j = 6 ∨ j = 7 ∨ j = 8 ∨ j = 9 ∨ j = 10 ∨ j = 11 ∨ j = 12 ∨ j = 13 ∨ j = 14 ∨ j = 15 ∨ j = 16 ∨ j = 17 ∨ j = 18 ∨ j = 19 ∨ j = 20 ∨ j = 21 ∨ j = 22 ∨ j = 23 ∨ j = 24 ∨ j = 25 ∨ j = 26 ∨ j = 27 ∨ j = 28 ∨ j = 29 ∨ j = 30 ∨ j = 31 ∨ j = 32 ∨ j = 33 ∨ j = 34 ∨ j = 35 ∨ j = 36 ∨ j = 37 ∨ j = 38 := by omega
    rcases hc with rfl | rfl | rfl | rfl | rfl | rfl | rfl | rfl | rfl | rfl | rfl | rfl | rfl | rfl | rfl | rfl | rfl | rfl | rfl | rfl | rfl | rfl | rfl | rfl | rfl | rfl | rfl | rfl | rfl | rfl | rfl | rfl | rfl | rfl | rfl | rfl | rfl | rfl | rfl
    · exact V_tab (j := 0) (tgt := 204) e_L_law_33 rfl (by decide) (by decide +kernel) (law_0 E b L xs i hi hL hN S σ hC hM)
    · exact V_tab (j := 1) (tgt := 247) e_L_law_33 rfl (by decide) (by decide +kernel) (law_1 E b L xs i hi hL hN S σ hC hM)
    · exact V_tab (j := 2) (tgt := 290) e_L_law_33 rfl (by decide) (by decide +kernel) (law_2 E b L xs i hi hL hN S σ hC hM)
    · exact V_tab (j := 3) (tgt := 353) e_L_law_33 rfl (by decide) (by decide +kernel) (law_3 E b L xs i hi hL hN S σ hC hM)
    · exact V_tab (j := 4) (tgt := 376) e_L_law_33 rfl (by decide) (by decide +kernel) (law_4 E b L xs i hi hL hN S σ hC hM)
    · exact V_tab (j := 5) (tgt := 399) e_L_law_33 rfl (by decide) (by decide +kernel) (law_5 E b L xs i hi hL hN S σ hC hM)
    · exact V_tab (j := 6) (tgt := 412) e_L_law_33 rfl (by decide) (by decide +kernel) (law_6 E b L xs i hi hL hN S σ hC hM)
    · exact V_tab (j := 7) (tgt := 425) e_L_law_33 rfl (by decide) (by decide +kernel) (law_7 E b L xs i hi hL hN S σ hC hM)
    · exact V_tab (j := 8) (tgt := 438) e_L_law_33 rfl (by decide) (by decide +kernel) (law_8 E b L xs i hi hL hN S σ hC hM)
    · exact V_tab (j := 9) (tgt := 461) e_L_law_33 rfl (by decide) (by decide +kernel) (law_9 E b L xs i hi hL hN S σ hC hM)
    · exact V_tab (j := 10) (tgt := 484) e_L_law_33 rfl (by decide) (by decide +kernel) (law_10 E b L xs i hi hL hN S σ hC hM)
    · exact V_tab (j := 11) (tgt := 507) e_L_law_33 rfl (by decide) (by decide +kernel) (law_11 E b L xs i hi hL hN S σ hC hM)
    · exact V_tab (j := 12) (tgt := 540) e_L_law_33 rfl (by decide) (by decide +kernel) (law_12 E b L xs i hi hL hN S σ hC hM)
    · exact V_tab (j := 13) (tgt := 563) e_L_law_33 rfl (by decide) (by decide +kernel) (law_13 E b L xs i hi hL hN S σ hC hM)
    · exact V_tab (j := 14) (tgt := 586) e_L_law_33 rfl (by decide) (by decide +kernel) (law_14 E b L xs i hi hL hN S σ hC hM)
    · exact V_tab (j := 15) (tgt := 609) e_L_law_33 rfl (by decide) (by decide +kernel) (law_15 E b L xs i hi hL hN S σ hC hM)
    · exact V_tab (j := 16) (tgt := 642) e_L_law_33 rfl (by decide) (by decide +kernel) (law_16 E b L xs i hi hL hN S σ hC hM)
    · exact V_tab (j := 17) (tgt := 675) e_L_law_33 rfl (by decide) (by decide +kernel) (law_17 E b L xs i hi hL hN S σ hC hM)
    · exact V_tab (j := 18) (tgt := 718) e_L_law_33 rfl (by decide) (by decide +kernel) (law_18 E b L xs i hi hL hN S σ hC hM)
    · exact V_tab (j := 19) (tgt := 751) e_L_law_33 rfl (by decide) (by decide +kernel) (law_19 E b L xs i hi hL hN S σ hC hM)
    · exact V_tab (j := 20) (tgt := 774) e_L_law_33 rfl (by decide) (by decide +kernel) (law_20 E b L xs i hi hL hN S σ hC hM)
    · exact V_tab (j := 21) (tgt := 817) e_L_law_33 rfl (by decide) (by decide +kernel) (law_21 E b L xs i hi hL hN S σ hC hM)
    · exact V_tab (j := 22) (tgt := 860) e_L_law_33 rfl (by decide) (by decide +kernel) (law_22 E b L xs i hi hL hN S σ hC hM)
    · exact V_tab (j := 23) (tgt := 913) e_L_law_33 rfl (by decide) (by decide +kernel) (law_23 E b L xs i hi hL hN S σ hC hM)
    · exact V_tab (j := 24) (tgt := 946) e_L_law_33 rfl (by decide) (by decide +kernel) (law_24 E b L xs i hi hL hN S σ hC hM)
    · exact V_tab (j := 25) (tgt := 969) e_L_law_33 rfl (by decide) (by decide +kernel) (law_25 E b L xs i hi hL hN S σ hC hM)
    · exact V_tab (j := 26) (tgt := 992) e_L_law_33 rfl (by decide) (by decide +kernel) (law_26 E b L xs i hi hL hN S σ hC hM)
    · exact V_tab (j := 27) (tgt := 1025) e_L_law_33 rfl (by decide) (by decide +kernel) (law_27 E b L xs i hi hL hN S σ hC hM)
    · exact V_tab (j := 28) (tgt := 1100) e_L_law_33 rfl (by decide) (by decide +kernel) (law_28 E b L xs i hi hL hN S σ hC hM)
    · exact V_tab (j := 29) (tgt := 1163) e_L_law_33 rfl (by decide) (by decide +kernel) (law_29 E b L xs i hi hL hN S σ hC hM)
    · exact V_tab (j := 30) (tgt := 1217) e_L_law_33 rfl (by decide) (by decide +kernel) (law_30 E b L xs i hi hL hN S σ hC hM)
    · exact V_tab (j := 31) (tgt := 1260) e_L_law_33 rfl (by decide) (by decide +kernel) (law_31 E b L xs i hi hL hN S σ hC hM)
    · exact V_tab (j := 32) (tgt := 1283) e_L_law_33 rfl (by decide) (by decide +kernel) (law_32 E b L xs i hi hL hN S σ hC hM)
    · exact V_tab (j := 33) (tgt := 1306) e_L_law_33 rfl (by decide) (by decide +kernel) (law_33 E b L xs i hi hL hN S σ hC hM)
    · exact V_tab (j := 34) (tgt := 1329) e_L_law_33 rfl (by decide) (by decide +kernel) (law_34 E b L xs i hi hL hN S σ hC hM)
    · exact V_tab (j := 35) (tgt := 1362) e_L_law_33 rfl (by decide) (by decide +kernel) (law_35 E b L xs i hi hL hN S σ hC hM)
    · exact V_tab (j := 36) (tgt := 1395) e_L_law_33 rfl (by decide) (by decide +kernel) (law_36 E b L xs i hi hL hN S σ hC hM)
    · exact V_tab (j := 37) (tgt := 1418) e_L_law_33 rfl (by decide) (by decide +kernel) (law_37 E b L xs i hi hL hN S σ hC hM)
    · exact V_tab (j := 38) (tgt := 1441) e_L_law_33 rfl (by decide) (by decide +kernel) (law_38 E b L xs i hi hL hN S σ hC hM)
theorem sub7 : ∀ L, L < 7 → nI L - nI 7 < 0 := by decide +kernel
theorem gt7 {L i : Nat} (hi : i ≤ L) (hL : L ≤ 3584) (h : L < i + 7) : nI L - nI 7 < nI i := by
  rcases Nat.lt_or_ge L 7 with q | q
  · have h1 := sub7 L q
    rw [Int32.lt_iff_toInt_lt] at h1 ⊢
    rw [nI_toInt (show i < 2 ^ 31 by omega)]
    have : (0 : Int32).toInt = 0 := rfl
    omega
  · rw [show nI L - nI 7 = nI (L - 7) from pk_sub q]
    exact nI_lt (by omega) (by omega)
theorem law_loop (E : En) (b L : Nat) (xs : Nat → Int32) (hL : L ≤ 3584) : ∀ n i : Nat, L ≤ i + n → i ≤ L → NX E b L xs i 18 := by
  intro n
  induction n with
  | zero =>
    intro i h1 h2 S σ hC hM
    refine V_iload_n e_L_law_18 rfl rfl ?_
    refine V_aload_n e_L_law_19 rfl rfl ?_
    refine V_slen e_L_law_20 ?_
    refine V_bipush (v := nI 7) e_L_law_21 (by decide) ?_
    refine V_isub e_L_law_23 ?_
    refine V_icmp_gt (tgt := 1460) e_L_law_24 (by decide) (fun _ => ?_) (fun h => absurd ?_ h)
    · refine V_iconst (v := 1) e_L_law_1460 (by decide) ?_
      exact V_lend e_L_law_1461
    · exact gt7 (by omega) hL (by omega)
  | succ n ih =>
    intro i h1 h2 S σ hC hM
    refine V_iload_n e_L_law_18 rfl rfl ?_
    refine V_aload_n e_L_law_19 rfl rfl ?_
    refine V_slen e_L_law_20 ?_
    refine V_bipush (v := nI 7) e_L_law_21 (by decide) ?_
    refine V_isub e_L_law_23 ?_
    refine V_icmp_gt (tgt := 1460) e_L_law_24 (by decide) (fun _ => ?_) (fun h => ?_)
    · refine V_iconst (v := 1) e_L_law_1460 (by decide) ?_
      exact V_lend e_L_law_1461
    · have hi : i + 7 ≤ L := by
        rcases Nat.lt_or_ge L (i + 7) with q | q
        · exact absurd (gt7 (by omega) hL q) h
        · exact q
      refine law_sw E b L xs i hi hL ?_ S σ hC hM
      intro S2 σ2 hC2 hM2
      refine V_iinc (v := nI (i + 7)) (L' := [some (.ref b), some (.ref (eB E + 0)), some (.ref (eB E + 292)), some (.int (nI (i + 7)))]) e_L_law_1454 rfl (nI_add _ 7) rfl ?_
      refine V_goto (tgt := 18) e_L_law_1457 (by decide) ?_
      exact ih (i + 7) (by omega) hi S2 σ2 hC2 hM2

theorem tk_f1 {T : Tp} {w q p : Nat} {A : Vec} : pTake T w (1, q, p, A) = (1, q, p, A) := if_neg (by show ¬ 1 = 0; decide)
theorem tk_f2 {T : Tp} {w q p : Nat} {A : Vec} : pTake T w (2, q, p, A) = (2, q, p, A) := if_neg (by show ¬ 2 = 0; decide)
theorem nm_f1 {T : Tp} {lo hi q p : Nat} {A : Vec} : pNum T lo hi (1, q, p, A) = (1, q, p, A) := if_neg (by show ¬ 1 = 0; decide)
theorem nm_f2 {T : Tp} {lo hi q p : Nat} {A : Vec} : pNum T lo hi (2, q, p, A) = (2, q, p, A) := if_neg (by show ¬ 2 = 0; decide)
theorem mp_f1 {f : Vec → Vec} {q p : Nat} {A : Vec} : pMap f (1, q, p, A) = (1, q, p, A) := if_neg (by show ¬ 1 = 0; decide)
theorem mp_f2 {f : Vec → Vec} {q p : Nat} {A : Vec} : pMap f (2, q, p, A) = (2, q, p, A) := if_neg (by show ¬ 2 = 0; decide)
theorem pGate_0 {T : Tp} {q p : Nat} {A : Vec} (h : ¬ A 0 = 6) : pGate T (0, q, p, A) = pMap (gV (srt (tok T p)) (vl T (nx T p)) (vl T (pTake T 44 (pNum T 1 9 (0, q, nx T p, A))).2.2.1)) (pTake T 59 (pNum T 0 1 (pTake T 44 (pNum T 1 9 (0, q, nx T p, A))))) := (if_pos rfl).trans (if_neg h)
theorem pGate_6 {T : Tp} {q p : Nat} {A : Vec} (h : A 0 = 6) : pGate T (0, q, p, A) = (3, p, p, A) := (if_pos rfl).trans (if_pos h)
theorem pMan_0 {T : Tp} {q p : Nat} {A : Vec} (h : ¬ A 1 = 5) : pMan T (0, q, p, A) = pMap (mV (vl T (nx T p)) (vl T (pTake T 44 (pNum T 0 (A 0 - 1) (0, q, nx T p, A))).2.2.1) (vl T (pTake T 44 (pNum T 0 1 (pTake T 44 (pNum T 0 (A 0 - 1) (0, q, nx T p, A))))).2.2.1)) (pTake T 59 (pNum T 0 99 (pTake T 44 (pNum T 0 1 (pTake T 44 (pNum T 0 (A 0 - 1) (0, q, nx T p, A))))))) := (if_pos rfl).trans (if_neg h)
theorem pMan_5 {T : Tp} {q p : Nat} {A : Vec} (h : A 1 = 5) : pMan T (0, q, p, A) = (3, p, p, A) := (if_pos rfl).trans (if_pos h)
def LZ3 (τ : Sg) (a b : Int32) : Prop := (∀ j, 2 ≤ j → j ≤ 6 → τ 13 j = nI 0) ∧ τ 13 0 = a ∧ τ 13 1 = b
theorem LZ3.f2 {σ τ : Sg} {a b : Int32} (h : LZ3 σ a b) (e : F2 σ τ) : LZ3 τ a b := ⟨fun j h1 h2 => (e 13 j (by omega)).trans (h.1 j h1 h2), (e 13 0 (by omega)).trans h.2.1, (e 13 1 (by omega)).trans h.2.2⟩
theorem LZ3.u0 {σ : Sg} {a b v : Int32} (h : LZ3 σ a b) : LZ3 (up2 σ 13 0 v) v b := ⟨fun j h1 h2 => (up2_k (by omega)).trans (h.1 j h1 h2), up2_at, (up2_k (by decide)).trans h.2.2⟩
theorem LZ3.u1 {σ : Sg} {a b v : Int32} (h : LZ3 σ a b) : LZ3 (up2 σ 13 1 v) a v := ⟨fun j h1 h2 => (up2_k (by omega)).trans (h.1 j h1 h2), (up2_k (by decide)).trans h.2.1, up2_at⟩
def lwV (a b : Nat) : Vec := updN (updN (fun _ => 0) 2 a) 3 b
theorem lwV_z {a b k : Nat} (h2 : k ≠ 2) (h3 : k ≠ 3) : lwV a b k = 0 := by unfold lwV updN; rw [if_neg h3, if_neg h2]
theorem lwV_2 {a b : Nat} : lwV a b 2 = a := by unfold lwV updN; rw [if_neg (by decide), if_pos rfl]
theorem lwV_3 {a b : Nat} : lwV a b 3 = b := by unfold lwV updN; rw [if_pos rfl]
theorem LZ3.dr {τ : Sg} {a b : Nat} (h : LZ3 τ (nI a) (nI b)) (ha : 1 ≤ a ∧ a ≤ 9) (hb : 1 ≤ b ∧ b ≤ 30) : DrC τ (lwV a b) ∧ PV (lwV a b) := by
  obtain ⟨h1, h2, h3⟩ := h
  have z0 : lwV a b 0 = 0 := lwV_z (by decide) (by decide)
  have z1 : lwV a b 1 = 0 := lwV_z (by decide) (by decide)
  have z4 : lwV a b 4 = 0 := lwV_z (by decide) (by decide)
  have z5 : lwV a b 5 = 0 := lwV_z (by decide) (by decide)
  have z6 : lwV a b 6 = 0 := lwV_z (by decide) (by decide)
  refine ⟨⟨⟨⟨?_, ?_, ?_, ?_, ?_, ?_, ⟨0, by decide, h1 5 (by omega) (by omega), fun g hg => ?_⟩, fun g hg => ?_⟩, fun p hp => ?_⟩, 0, by rw [z0]; decide, h1 5 (by omega) (by omega)⟩, ?_⟩
  · rw [lwV_2]; exact h2
  · rw [lwV_3]; exact h3
  · rw [z4]; exact h1 2 (by omega) (by omega)
  · rw [z0]; exact h1 3 (by omega) (by omega)
  · rw [z1]; exact h1 4 (by omega) (by omega)
  · rw [z5]; exact h1 6 (by omega) (by omega)
  · rw [z0] at hg; omega
  · rw [z0] at hg; omega
  · rw [z1] at hp; omega
  · refine ⟨by omega, by omega, by rw [lwV_2]; exact ha, by rw [lwV_3]; exact hb, z4, z5, z6, fun g hg => by omega, fun m hm => by omega, fun m hm => ⟨lwV_z (by omega) (by omega), lwV_z (by omega) (by omega), lwV_z (by omega) (by omega)⟩⟩
theorem orB : ∀ G, G < 6 → ∀ F, F < 2 ^ G → ∀ f, f < 2 → (F ||| f * 2 ^ G < 2 ^ (G + 1) ∧ F ||| f * 2 ^ G < 64) ∧ bitN (F ||| f * 2 ^ G) G = f ∧ ∀ g, g < G → bitN (F ||| f * 2 ^ G) g = bitN F g := by decide +kernel
theorem DrC.g {τ : Sg} {A : Vec} {s l f F : Nat} (h : DrC τ A) (h0 : A 0 < 6) (h1 : A 1 ≤ 5) (hF : F < 2 ^ A 0) (hF5 : τ 13 5 = nI F) (hf : f ≤ 1) : DrC (up2 (up2 (up2 (up2 τ (13 + 1) (A 0) (nI s)) (13 + 2) (A 0) (nI l)) 13 5 (nI (F ||| f * 2 ^ A 0))) 13 3 (nI (A 0 + 1))) (gV s l f A) := by
  obtain ⟨⟨⟨x0, x1, x2, x3, x4, x6, ⟨F', hF', x5, hFb⟩, xgs⟩, hp⟩, -⟩ := h
  have h64 := pow6 (show A 0 ≤ 6 by omega)
  have eF : F' = F := nq_eq (by omega) (by omega) (x5.symm.trans hF5)
  obtain ⟨⟨b1, b2⟩, b3, b4⟩ := orB (A 0) h0 F hF f (by omega)
  have u : ∀ a k, a ≠ 13 → a ≠ 14 → a ≠ 15 → up2 (up2 (up2 (up2 τ (13 + 1) (A 0) (nI s)) (13 + 2) (A 0) (nI l)) 13 5 (nI (F ||| f * 2 ^ A 0))) 13 3 (nI (A 0 + 1)) a k = τ a k := fun a k h1 h2 h3 => by rw [up2_ne h1, up2_ne h1, up2_ne (by omega), up2_ne (by omega)]
  have v : ∀ k, k ≠ 3 → k ≠ 5 → up2 (up2 (up2 (up2 τ (13 + 1) (A 0) (nI s)) (13 + 2) (A 0) (nI l)) 13 5 (nI (F ||| f * 2 ^ A 0))) 13 3 (nI (A 0 + 1)) 13 k = τ 13 k := fun k h1 h2 => by rw [up2_k h1, up2_k h2, up2_ne (by decide), up2_ne (by decide)]
  have y5 : up2 (up2 (up2 (up2 τ (13 + 1) (A 0) (nI s)) (13 + 2) (A 0) (nI l)) 13 5 (nI (F ||| f * 2 ^ A 0))) 13 3 (nI (A 0 + 1)) 13 5 = nI (F ||| f * 2 ^ A 0) := by rw [up2_k (by decide), up2_at]
  have e1 : gV s l f A 1 = A 1 := gV_lo (by omega) (by omega) (by omega) (by omega)
  have e2 : gV s l f A 2 = A 2 := gV_lo (by omega) (by omega) (by omega) (by omega)
  have e3 : gV s l f A 3 = A 3 := gV_lo (by omega) (by omega) (by omega) (by omega)
  have e4 : gV s l f A 4 = A 4 := gV_lo (by omega) (by omega) (by omega) (by omega)
  have e5 : gV s l f A 5 = A 5 := gV_lo (by omega) (by omega) (by omega) (by omega)
  have e6 : gV s l f A 6 = A 6 := gV_lo (by omega) (by omega) (by omega) (by omega)
  refine ⟨⟨⟨?_, ?_, ?_, ?_, ?_, ?_, ⟨F ||| f * 2 ^ A 0, b2, y5, fun g hg => ?_⟩, fun g hg => ?_⟩, fun p hp2 => ?_⟩, F ||| f * 2 ^ A 0, by rw [gV_0]; exact b1, y5⟩
  · rw [e2, v 0 (by decide) (by decide)]; exact x0
  · rw [e3, v 1 (by decide) (by decide)]; exact x1
  · rw [e4, v 2 (by decide) (by decide)]; exact x2
  · rw [gV_0, up2_at]
  · rw [e1, v 4 (by decide) (by decide)]; exact x4
  · rw [e5, v 6 (by decide) (by decide)]; exact x6
  · rw [gV_0] at hg
    by_cases e : g = A 0
    · subst e; rw [gV_f]; exact b3.symm
    · rw [gV_lo (by omega) (by omega) (by omega) (by omega), b4 g (by omega), ← eF]; exact hFb g (by omega)
  · rw [gV_0] at hg
    by_cases e : g = A 0
    · subst e
      rw [gV_s, gV_l]
      refine ⟨?_, ?_⟩
      · rw [up2_ne (by decide), up2_ne (by decide), up2_ne (by decide)]; exact up2_at
      · rw [up2_ne (by decide), up2_ne (by decide)]; exact up2_at
    · rw [gV_lo (by omega) (by omega) (by omega) (by omega), gV_lo (by omega) (by omega) (by omega) (by omega)]
      refine ⟨?_, ?_⟩
      · rw [up2_ne (by decide), up2_ne (by decide), up2_ne (by decide), up2_k e]; exact (xgs g (by omega)).1
      · rw [up2_ne (by decide), up2_ne (by decide), up2_k e, up2_ne (by decide)]; exact (xgs g (by omega)).2
  · rw [e1] at hp2
    have ep : pn (gV s l f A) p = pn A p := by
      unfold pn
      rw [gV_lo (by omega) (by omega) (by omega) (by omega), gV_lo (by omega) (by omega) (by omega) (by omega), gV_lo (by omega) (by omega) (by omega) (by omega), gV_lo (by omega) (by omega) (by omega) (by omega), gV_lo (by omega) (by omega) (by omega) (by omega), gV_lo (by omega) (by omega) (by omega) (by omega)]
    rw [ep, e6, u _ 6 (by omega) (by omega) (by omega)]
    exact ⟨(hp p hp2).1.cg (fun k _ => u _ k (by omega) (by omega) (by omega)), (hp p hp2).2⟩
theorem DrC.m {τ : Sg} {A : Vec} {a h f : Nat} (hD : DrC τ A) (hV : PV A) (h1 : A 1 < 5) : DrC (up2 (up2 (up2 (up2 (up2 (up2 (up2 (up2 τ (13 + 4 + A 1) 0 (nI a)) (13 + 4 + A 1) 1 (nI 0)) (13 + 4 + A 1) 2 (nI h)) (13 + 4 + A 1) 3 (nI f)) (13 + 4 + A 1) 4 (nI 0)) (13 + 4 + A 1) 5 (nI 0)) (13 + 4 + A 1) 6 (nI 0)) 13 4 (nI (A 1 + 1))) (mV a h f A) := by
  obtain ⟨⟨⟨x0, x1, x2, x3, x4, x6, ⟨F', hF', x5, hFb⟩, xgs⟩, hp⟩, F, hF, hF5⟩ := hD
  obtain ⟨a0, a1, a2, a3, a4, a5, a6, a7, a8, a9⟩ := hV
  generalize hρ : up2 (up2 (up2 (up2 (up2 (up2 (up2 (up2 τ (13 + 4 + A 1) 0 (nI a)) (13 + 4 + A 1) 1 (nI 0)) (13 + 4 + A 1) 2 (nI h)) (13 + 4 + A 1) 3 (nI f)) (13 + 4 + A 1) 4 (nI 0)) (13 + 4 + A 1) 5 (nI 0)) (13 + 4 + A 1) 6 (nI 0)) 13 4 (nI (A 1 + 1)) = ρ
  have u : ∀ b k, b ≠ 13 → b ≠ 17 + A 1 → ρ b k = τ b k := fun b k h1 h2 => by rw [← hρ, up2_ne h1, up2_ne (by omega), up2_ne (by omega), up2_ne (by omega), up2_ne (by omega), up2_ne (by omega), up2_ne (by omega), up2_ne (by omega)]
  have v : ∀ k, k ≠ 4 → ρ 13 k = τ 13 k := fun k h1 => by rw [← hρ, up2_k h1, up2_ne (by omega), up2_ne (by omega), up2_ne (by omega), up2_ne (by omega), up2_ne (by omega), up2_ne (by omega), up2_ne (by omega)]
  have e0 : mV a h f A 0 = A 0 := mV_lo (by omega) (by omega) (by omega) (by omega)
  have e2 : mV a h f A 2 = A 2 := mV_lo (by omega) (by omega) (by omega) (by omega)
  have e3 : mV a h f A 3 = A 3 := mV_lo (by omega) (by omega) (by omega) (by omega)
  have e4 : mV a h f A 4 = A 4 := mV_lo (by omega) (by omega) (by omega) (by omega)
  have e5 : mV a h f A 5 = A 5 := mV_lo (by omega) (by omega) (by omega) (by omega)
  have e6 : mV a h f A 6 = A 6 := mV_lo (by omega) (by omega) (by omega) (by omega)
  refine ⟨⟨⟨?_, ?_, ?_, ?_, ?_, ?_, ⟨F', hF', (v 5 (by decide)).trans x5, fun g hg => ?_⟩, fun g hg => ?_⟩, fun p hp2 => ?_⟩, F, by rw [e0]; exact hF, (v 5 (by decide)).trans hF5⟩
  · rw [e2, v 0 (by decide)]; exact x0
  · rw [e3, v 1 (by decide)]; exact x1
  · rw [e4, v 2 (by decide)]; exact x2
  · rw [e0, v 3 (by decide)]; exact x3
  · rw [mV_1, ← hρ, up2_at]
  · rw [e5, v 6 (by decide)]; exact x6
  · rw [e0] at hg
    rw [mV_lo (by omega) (by omega) (by omega) (by omega)]; exact hFb g hg
  · rw [e0] at hg
    rw [mV_lo (by omega) (by omega) (by omega) (by omega), mV_lo (by omega) (by omega) (by omega) (by omega), u 14 g (by decide) (by omega), u 15 g (by decide) (by omega)]; exact xgs g hg
  · rw [mV_1] at hp2
    by_cases e : p = A 1
    · subst e
      obtain ⟨c1, c2, c3⟩ := a9 (A 1) h1
      have ep : pn (mV a h f A) (A 1) = (a, 0, 0, h, f, 0) := by
        unfold pn
        rw [mV_a, mV_h, mV_f, mV_lo (by omega) (by omega) (by omega) (by omega), mV_lo (by omega) (by omega) (by omega) (by omega), mV_lo (by omega) (by omega) (by omega) (by omega), c1, c2, c3]
      rw [ep, e6, a6, ← hρ]
      refine ⟨⟨?_, ?_, ?_, ?_, ?_, ?_⟩, ?_⟩ <;> simp [up2, bitN] <;> (intro z; omega)
    · have ep : pn (mV a h f A) p = pn A p := by
        unfold pn
        rw [mV_lo (by omega) (by omega) (by omega) (by omega), mV_lo (by omega) (by omega) (by omega) (by omega), mV_lo (by omega) (by omega) (by omega) (by omega), mV_lo (by omega) (by omega) (by omega) (by omega), mV_lo (by omega) (by omega) (by omega) (by omega), mV_lo (by omega) (by omega) (by omega) (by omega)]
      rw [ep, e6, u _ 6 (by omega) (by omega)]
      exact ⟨(hp p (by omega)).1.cg (fun k _ => u _ k (by omega) (by omega)), (hp p (by omega)).2⟩
def RC (T : Tp) (g m : Nat) (τ : Sg) (X : PX) (r : Int32) : Prop := (X.1 = 0 ∧ r = nI 1 ∧ CPos τ T X.2.2.1 ∧ X.2.2.1 ≤ T.1 ∧ DrC τ X.2.2.2 ∧ PV X.2.2.2 ∧ g ≤ X.2.2.2 0 ∧ m ≤ X.2.2.2 1) ∨ (¬ X.1 = 0 ∧ r = nI 0 ∧ τ 2 2 = nI X.1 ∧ τ 2 3 = nI X.2.1)
set_option maxRecDepth 100000 in
set_option maxHeartbeats 4000000 in
theorem c_X6_readLaw (E : En) (T : Tp) (p : Nat) (σ : Sg) (hCT : CT σ T) (hTb : T.1 ≤ 100) (hT6 : ∀ j, j < T.1 → T.2 j < 256) (hp : p ≤ T.1) (hP : CPos σ T p) (hz : LZ3 σ (σ 13 0) (σ 13 1)) : Cn E m_X6_readLaw 5 [.ref (eB E + 2), .ref (eB E + 13)] σ (pI (fun σ' r => Fdr σ σ' ∧ RC T 0 0 σ' (pLaw T (0, 0, p, fun _ => 0)) r)) := by
  refine Cn.of [some (.ref (eB E + 2)), some (.ref (eB E + 13))] (by decide) (Nat.le_of_ble_eq_true rfl) rfl ?_
  refine V_aload_n e_X6_readLaw_0 rfl rfl ?_
  refine V_bipush (v := nI 115) e_X6_readLaw_1 (by decide) ?_
  refine V_cvI (av := [.int (nI 115)]) (st := []) e_X6_readLaw_3 (c_X6_take E T p 115 σ hCT hTb hT6 hp hP (by omega)) l_X6_40 S_X6_take rfl (rm_ok (by decide) (by decide)) rfl rfl (Nat.le_of_ble_eq_true rfl) ?_
  intro τ1 r1 hh1
  rcases hh1.2 with ⟨ht1, hr1, hp1⟩ | ⟨ht1, hr1, hn1, hq1⟩
  · subst hr1
    have hct1 : CT τ1 T := hCT.f2 hh1.1
    have hfd1 : Fdr σ τ1 := (Fdr.rf (σ := σ)).tr hh1.1.d
    have hdr1 := hz.f2 hh1.1
    have hle1 := nx_le hp
    refine V_if_eq (tgt := 19) e_X6_readLaw_6 (by decide) (fun c1 => absurd c1 (by decide)) (fun c1 => ?_)
    refine V_aload_n e_X6_readLaw_9 rfl rfl ?_
    refine V_iconst (v := nI 1) e_X6_readLaw_10 (by decide) ?_
    refine V_bipush (v := nI 9) e_X6_readLaw_11 (by decide) ?_
    refine V_cvI (av := [.int (nI 1), .int (nI 9)]) (st := []) e_X6_readLaw_13 (c_X6_takeNumber E T (nx T p) 1 9 τ1 hct1 hTb hT6 hle1 hp1 (by omega) (by omega)) l_X6_44 S_X6_takeNumber rfl (rm_ok (by decide) (by decide)) rfl rfl (Nat.le_of_ble_eq_true rfl) ?_
    intro τ2 r2 hh2
    rcases hh2.2 with ⟨ht2, hv2, hr2, hp2, h82⟩ | ⟨ht2, hr2, hn2, hq2⟩ | ⟨ht2, hv2, hr2, hn2, hq2⟩
    · subst hr2
      have hct2 : CT τ2 T := hct1.f2 hh2.1
      have hfd2 : Fdr σ τ2 := hfd1.tr hh2.1.d
      have hdr2 := hdr1.f2 hh2.1
      have hle2 := nx_le hle1
      refine V_if_ne (tgt := 21) e_X6_readLaw_16 (by decide) (fun c2 => ?_) (fun c2 => absurd c2 (by decide))
      refine V_aload_n e_X6_readLaw_21 rfl rfl ?_
      refine V_aload_n e_X6_readLaw_22 rfl rfl ?_
      refine V_getiv (v := nI (vl T (nx T p))) e_X6_readLaw_23 F_X6_taken f_X6_48 rfl h82 ?_
      refine V_puti e_X6_readLaw_26 F_X5_dinner f_X6_51 rfl ?_
      obtain ⟨τ3, hτ3⟩ : ∃ τ9 : Sg, τ9 = up2 τ2 13 0 (nI (vl T (nx T p))) := ⟨_, rfl⟩
      rw [← hτ3]
      have hct3 : CT τ3 T := by rw [hτ3]; exact hct2.u (by decide) (by decide)
      have hfd3 : Fdr σ τ3 := by rw [hτ3]; exact hfd2.up (by decide) (by decide)
      have hp3 : CPos τ3 T (nx T (nx T p)) := by rw [hτ3]; exact hp2.u (by decide)
      have hdr3 : LZ3 τ3 (nI (vl T (nx T p))) (σ 13 1) := by rw [hτ3]; exact hdr2.u0
      refine V_aload_n e_X6_readLaw_29 rfl rfl ?_
      refine V_bipush (v := nI 44) e_X6_readLaw_30 (by decide) ?_
      refine V_cvI (av := [.int (nI 44)]) (st := []) e_X6_readLaw_32 (c_X6_take E T (nx T (nx T p)) 44 τ3 hct3 hTb hT6 hle2 hp3 (by omega)) l_X6_40 S_X6_take rfl (rm_ok (by decide) (by decide)) rfl rfl (Nat.le_of_ble_eq_true rfl) ?_
      intro τ4 r4 hh4
      rcases hh4.2 with ⟨ht4, hr4, hp4⟩ | ⟨ht4, hr4, hn4, hq4⟩
      · subst hr4
        have hct4 : CT τ4 T := hct3.f2 hh4.1
        have hfd4 : Fdr σ τ4 := hfd3.tr hh4.1.d
        have hdr4 := hdr3.f2 hh4.1
        have hle4 := nx_le hle2
        refine V_if_eq (tgt := 48) e_X6_readLaw_35 (by decide) (fun c3 => absurd c3 (by decide)) (fun c3 => ?_)
        refine V_aload_n e_X6_readLaw_38 rfl rfl ?_
        refine V_iconst (v := nI 1) e_X6_readLaw_39 (by decide) ?_
        refine V_bipush (v := nI 30) e_X6_readLaw_40 (by decide) ?_
        refine V_cvI (av := [.int (nI 1), .int (nI 30)]) (st := []) e_X6_readLaw_42 (c_X6_takeNumber E T (nx T (nx T (nx T p))) 1 30 τ4 hct4 hTb hT6 hle4 hp4 (by omega) (by omega)) l_X6_44 S_X6_takeNumber rfl (rm_ok (by decide) (by decide)) rfl rfl (Nat.le_of_ble_eq_true rfl) ?_
        intro τ5 r5 hh5
        rcases hh5.2 with ⟨ht5, hv5, hr5, hp5, h85⟩ | ⟨ht5, hr5, hn5, hq5⟩ | ⟨ht5, hv5, hr5, hn5, hq5⟩
        · subst hr5
          have hct5 : CT τ5 T := hct4.f2 hh5.1
          have hfd5 : Fdr σ τ5 := hfd4.tr hh5.1.d
          have hdr5 := hdr4.f2 hh5.1
          have hle5 := nx_le hle4
          refine V_if_ne (tgt := 50) e_X6_readLaw_45 (by decide) (fun c4 => ?_) (fun c4 => absurd c4 (by decide))
          refine V_aload_n e_X6_readLaw_50 rfl rfl ?_
          refine V_aload_n e_X6_readLaw_51 rfl rfl ?_
          refine V_getiv (v := nI (vl T (nx T (nx T (nx T p))))) e_X6_readLaw_52 F_X6_taken f_X6_48 rfl h85 ?_
          refine V_puti e_X6_readLaw_55 F_X5_toll f_X6_54 rfl ?_
          obtain ⟨τ6, hτ6⟩ : ∃ τ9 : Sg, τ9 = up2 τ5 13 1 (nI (vl T (nx T (nx T (nx T p))))) := ⟨_, rfl⟩
          rw [← hτ6]
          have hct6 : CT τ6 T := by rw [hτ6]; exact hct5.u (by decide) (by decide)
          have hfd6 : Fdr σ τ6 := by rw [hτ6]; exact hfd5.up (by decide) (by decide)
          have hp6 : CPos τ6 T (nx T (nx T (nx T (nx T p)))) := by rw [hτ6]; exact hp5.u (by decide)
          have hdr6 : LZ3 τ6 (nI (vl T (nx T p))) (nI (vl T (nx T (nx T (nx T p))))) := by rw [hτ6]; exact hdr5.u1
          refine V_aload_n e_X6_readLaw_58 rfl rfl ?_
          refine V_bipush (v := nI 59) e_X6_readLaw_59 (by decide) ?_
          refine V_cvI (av := [.int (nI 59)]) (st := []) e_X6_readLaw_61 (c_X6_take E T (nx T (nx T (nx T (nx T p)))) 59 τ6 hct6 hTb hT6 hle5 hp6 (by omega)) l_X6_40 S_X6_take rfl (rm_ok (by decide) (by decide)) rfl rfl (Nat.le_of_ble_eq_true rfl) ?_
          intro τ7 r7 hh7
          rcases hh7.2 with ⟨ht7, hr7, hp7⟩ | ⟨ht7, hr7, hn7, hq7⟩
          · subst hr7
            have hct7 : CT τ7 T := hct6.f2 hh7.1
            have hfd7 : Fdr σ τ7 := hfd6.tr hh7.1.d
            have hdr7 := hdr6.f2 hh7.1
            have hle7 := nx_le hle5
            exact V_zret e_X6_readLaw_64 rfl (by first | exact Or.inl nI_0 | exact Or.inr rfl | assumption) (by have hX : pLaw T (0, 0, p, fun _ => 0) = (0, 0, nx T (nx T (nx T (nx T (nx T p)))), lwV (vl T (nx T p)) (vl T (nx T (nx T (nx T p))))) := (by simp only [pLaw, pTake_y ht1, pNum_y ht2 hv2, pTake_y ht4, pNum_y ht5 hv5, pTake_y ht7, tk_f1, tk_f2, nm_f1, nm_f2, mp_f1, mp_f2, pMap_y]; rfl); rw [hX]; have hD := hdr7.dr hv2 hv5; exact ⟨hfd7, Or.inl ⟨rfl, rfl, hp7, hle7, hD.1, hD.2, Nat.zero_le _, Nat.zero_le _⟩⟩)
          · subst hr7
            have hct7 : CT τ7 T := hct6.f2 hh7.1
            have hfd7 : Fdr σ τ7 := hfd6.tr hh7.1.d
            have hdr7 := hdr6.f2 hh7.1
            exact V_zret e_X6_readLaw_64 rfl (by first | exact Or.inl nI_0 | exact Or.inr rfl | assumption) (by have hX : (pLaw T (0, 0, p, fun _ => 0)).1 = 1 ∧ (pLaw T (0, 0, p, fun _ => 0)).2.1 = nx T (nx T (nx T (nx T p))) := (by constructor <;> simp only [pLaw, pTake_y ht1, pNum_y ht2 hv2, pTake_y ht4, pNum_y ht5 hv5, pTake_n ht7, tk_f1, tk_f2, nm_f1, nm_f2, mp_f1, mp_f2, pMap_y]); exact ⟨hfd7, Or.inr ⟨by rw [hX.1]; decide, rfl, by rw [hX.1]; exact hn7, by rw [hX.2]; exact hq7⟩⟩)
        · subst hr5
          have hct5 : CT τ5 T := hct4.f2 hh5.1
          have hfd5 : Fdr σ τ5 := hfd4.tr hh5.1.d
          have hdr5 := hdr4.f2 hh5.1
          refine V_if_ne (tgt := 50) e_X6_readLaw_45 (by decide) (fun c5 => absurd c5 (by decide)) (fun c5 => ?_)
          refine V_iconst (v := nI 0) e_X6_readLaw_48 (by decide) ?_
          exact V_zret e_X6_readLaw_49 rfl (by first | exact Or.inl nI_0 | exact Or.inr rfl | assumption) (by have hX : (pLaw T (0, 0, p, fun _ => 0)).1 = 1 ∧ (pLaw T (0, 0, p, fun _ => 0)).2.1 = nx T (nx T (nx T p)) := (by constructor <;> simp only [pLaw, pTake_y ht1, pNum_y ht2 hv2, pTake_y ht4, pNum_n ht5, tk_f1, tk_f2, nm_f1, nm_f2, mp_f1, mp_f2, pMap_y]); exact ⟨hfd5, Or.inr ⟨by rw [hX.1]; decide, rfl, by rw [hX.1]; exact hn5, by rw [hX.2]; exact hq5⟩⟩)
        · subst hr5
          have hct5 : CT τ5 T := hct4.f2 hh5.1
          have hfd5 : Fdr σ τ5 := hfd4.tr hh5.1.d
          have hdr5 := hdr4.f2 hh5.1
          refine V_if_ne (tgt := 50) e_X6_readLaw_45 (by decide) (fun c6 => absurd c6 (by decide)) (fun c6 => ?_)
          refine V_iconst (v := nI 0) e_X6_readLaw_48 (by decide) ?_
          exact V_zret e_X6_readLaw_49 rfl (by first | exact Or.inl nI_0 | exact Or.inr rfl | assumption) (by have hX : (pLaw T (0, 0, p, fun _ => 0)).1 = 2 ∧ (pLaw T (0, 0, p, fun _ => 0)).2.1 = nx T (nx T (nx T p)) := (by constructor <;> simp only [pLaw, pTake_y ht1, pNum_y ht2 hv2, pTake_y ht4, pNum_r ht5 hv5, tk_f1, tk_f2, nm_f1, nm_f2, mp_f1, mp_f2, pMap_y]); exact ⟨hfd5, Or.inr ⟨by rw [hX.1]; decide, rfl, by rw [hX.1]; exact hn5, by rw [hX.2]; exact hq5⟩⟩)
      · subst hr4
        have hct4 : CT τ4 T := hct3.f2 hh4.1
        have hfd4 : Fdr σ τ4 := hfd3.tr hh4.1.d
        have hdr4 := hdr3.f2 hh4.1
        refine V_if_eq (tgt := 48) e_X6_readLaw_35 (by decide) (fun c7 => ?_) (fun c7 => absurd c7 (by decide))
        refine V_iconst (v := nI 0) e_X6_readLaw_48 (by decide) ?_
        exact V_zret e_X6_readLaw_49 rfl (by first | exact Or.inl nI_0 | exact Or.inr rfl | assumption) (by have hX : (pLaw T (0, 0, p, fun _ => 0)).1 = 1 ∧ (pLaw T (0, 0, p, fun _ => 0)).2.1 = nx T (nx T p) := (by constructor <;> simp only [pLaw, pTake_y ht1, pNum_y ht2 hv2, pTake_n ht4, tk_f1, tk_f2, nm_f1, nm_f2, mp_f1, mp_f2, pMap_y]); exact ⟨hfd4, Or.inr ⟨by rw [hX.1]; decide, rfl, by rw [hX.1]; exact hn4, by rw [hX.2]; exact hq4⟩⟩)
    · subst hr2
      have hct2 : CT τ2 T := hct1.f2 hh2.1
      have hfd2 : Fdr σ τ2 := hfd1.tr hh2.1.d
      have hdr2 := hdr1.f2 hh2.1
      refine V_if_ne (tgt := 21) e_X6_readLaw_16 (by decide) (fun c8 => absurd c8 (by decide)) (fun c8 => ?_)
      refine V_iconst (v := nI 0) e_X6_readLaw_19 (by decide) ?_
      exact V_zret e_X6_readLaw_20 rfl (by first | exact Or.inl nI_0 | exact Or.inr rfl | assumption) (by have hX : (pLaw T (0, 0, p, fun _ => 0)).1 = 1 ∧ (pLaw T (0, 0, p, fun _ => 0)).2.1 = nx T p := (by constructor <;> simp only [pLaw, pTake_y ht1, pNum_n ht2, tk_f1, tk_f2, nm_f1, nm_f2, mp_f1, mp_f2, pMap_y]); exact ⟨hfd2, Or.inr ⟨by rw [hX.1]; decide, rfl, by rw [hX.1]; exact hn2, by rw [hX.2]; exact hq2⟩⟩)
    · subst hr2
      have hct2 : CT τ2 T := hct1.f2 hh2.1
      have hfd2 : Fdr σ τ2 := hfd1.tr hh2.1.d
      have hdr2 := hdr1.f2 hh2.1
      refine V_if_ne (tgt := 21) e_X6_readLaw_16 (by decide) (fun c9 => absurd c9 (by decide)) (fun c9 => ?_)
      refine V_iconst (v := nI 0) e_X6_readLaw_19 (by decide) ?_
      exact V_zret e_X6_readLaw_20 rfl (by first | exact Or.inl nI_0 | exact Or.inr rfl | assumption) (by have hX : (pLaw T (0, 0, p, fun _ => 0)).1 = 2 ∧ (pLaw T (0, 0, p, fun _ => 0)).2.1 = nx T p := (by constructor <;> simp only [pLaw, pTake_y ht1, pNum_r ht2 hv2, tk_f1, tk_f2, nm_f1, nm_f2, mp_f1, mp_f2, pMap_y]); exact ⟨hfd2, Or.inr ⟨by rw [hX.1]; decide, rfl, by rw [hX.1]; exact hn2, by rw [hX.2]; exact hq2⟩⟩)
  · subst hr1
    have hct1 : CT τ1 T := hCT.f2 hh1.1
    have hfd1 : Fdr σ τ1 := (Fdr.rf (σ := σ)).tr hh1.1.d
    have hdr1 := hz.f2 hh1.1
    refine V_if_eq (tgt := 19) e_X6_readLaw_6 (by decide) (fun c10 => ?_) (fun c10 => absurd c10 (by decide))
    refine V_iconst (v := nI 0) e_X6_readLaw_19 (by decide) ?_
    exact V_zret e_X6_readLaw_20 rfl (by first | exact Or.inl nI_0 | exact Or.inr rfl | assumption) (by have hX : (pLaw T (0, 0, p, fun _ => 0)).1 = 1 ∧ (pLaw T (0, 0, p, fun _ => 0)).2.1 = p := (by constructor <;> simp only [pLaw, pTake_n ht1, tk_f1, tk_f2, nm_f1, nm_f2, mp_f1, mp_f2, pMap_y]); exact ⟨hfd1, Or.inr ⟨by rw [hX.1]; decide, rfl, by rw [hX.1]; exact hn1, by rw [hX.2]; exact hq1⟩⟩)
set_option maxRecDepth 100000 in
set_option maxHeartbeats 4000000 in
theorem c_X6_readGate (E : En) (T : Tp) (q p : Nat) (A : Vec) (σ : Sg) (hCT : CT σ T) (hTb : T.1 ≤ 100) (hT6 : ∀ j, j < T.1 → T.2 j < 256) (hp : p ≤ T.1) (hP : CPos σ T p) (hD : DrC σ A) (hV : PV A) (hs : ¬ srt (tok T p) = 0) : Cn E m_X6_readGate 5 [.ref (eB E + 2), .ref (eB E + 13)] σ (pI (fun σ' r => Fdr σ σ' ∧ RC T 0 0 σ' (pGate T (0, q, p, A)) r)) := by
  have h5 := hV.2.1
  have h06 := hV.1
  refine Cn.of [some (.ref (eB E + 2)), some (.ref (eB E + 13)), none, none] (by decide) (Nat.le_of_ble_eq_true rfl) rfl ?_
  refine V_aload_n e_X6_readGate_0 rfl rfl ?_
  refine V_getiv (v := nI (A 0)) e_X6_readGate_1 F_X5_gates f_X6_64 rfl hD.1.1.2.2.2.1 ?_
  refine V_bipush (v := nI 6) e_X6_readGate_4 (by decide) ?_
  refine V_icmp_lt (tgt := 15) e_X6_readGate_6 (by decide) (fun c1 => ?_) (fun c1 => ?_)
  · have d1 : A 0 < 6 := nq_lt (by omega) (by omega) c1
    refine V_aload_n e_X6_readGate_15 rfl rfl ?_
    refine V_cvIe (av := []) (st := []) e_X6_readGate_16 (c_X6_sortInView E (tok T p) σ hP.2.2.1 (tok_lt hT6)) l_X6_57 S_X6_sortInView rfl (rm_ok (by decide) (by decide)) rfl rfl (Nat.le_of_ble_eq_true rfl) ?_
    refine V_istore_n (L' := [some (.ref (eB E + 2)), some (.ref (eB E + 13)), some (.int (nI (srt (tok T p)))), none]) e_X6_readGate_19 rfl rfl ?_
    refine V_aload_n e_X6_readGate_20 rfl rfl ?_
    refine V_cvV (av := []) (st := []) e_X6_readGate_21 (c_X6_advance E (nx T p) T σ hCT hTb hT6 (nx_le hp) hP.2.1) l_X6_27 S_X6_advance rfl (rm_ok (by decide) (by decide)) rfl rfl (Nat.le_of_ble_eq_true rfl) ?_
    intro τ1 hh1
    have hct1 : CT τ1 T := hCT.f2 hh1.1
    have hfd1 : Fdr σ τ1 := (Fdr.rf (σ := σ)).tr hh1.1.d
    have hdr1 := hD.f2 h5 hh1.1
    have hle1 := nx_le hp
    refine V_aload_n e_X6_readGate_24 rfl rfl ?_
    refine V_iconst (v := nI 1) e_X6_readGate_25 (by decide) ?_
    refine V_bipush (v := nI 9) e_X6_readGate_26 (by decide) ?_
    refine V_cvI (av := [.int (nI 1), .int (nI 9)]) (st := []) e_X6_readGate_28 (c_X6_takeNumber E T (nx T p) 1 9 τ1 hct1 hTb hT6 hle1 hh1.2.1 (by omega) (by omega)) l_X6_44 S_X6_takeNumber rfl (rm_ok (by decide) (by decide)) rfl rfl (Nat.le_of_ble_eq_true rfl) ?_
    intro τ2 r2 hh2
    rcases hh2.2 with ⟨ht2, hv2, hr2, hp2, h82⟩ | ⟨ht2, hr2, hn2, hq2⟩ | ⟨ht2, hv2, hr2, hn2, hq2⟩
    · subst hr2
      have hct2 : CT τ2 T := hct1.f2 hh2.1
      have hfd2 : Fdr σ τ2 := hfd1.tr hh2.1.d
      have hdr2 := hdr1.f2 h5 hh2.1
      have hle2 := nx_le hle1
      refine V_if_ne (tgt := 36) e_X6_readGate_31 (by decide) (fun c2 => ?_) (fun c2 => absurd c2 (by decide))
      refine V_aload_n e_X6_readGate_36 rfl rfl ?_
      refine V_getiv (v := nI (vl T (nx T p))) e_X6_readGate_37 F_X6_taken f_X6_48 rfl h82 ?_
      refine V_istore_n (L' := [some (.ref (eB E + 2)), some (.ref (eB E + 13)), some (.int (nI (srt (tok T p)))), some (.int (nI (vl T (nx T p))))]) e_X6_readGate_40 rfl rfl ?_
      refine V_aload_n e_X6_readGate_41 rfl rfl ?_
      refine V_bipush (v := nI 44) e_X6_readGate_42 (by decide) ?_
      refine V_cvI (av := [.int (nI 44)]) (st := []) e_X6_readGate_44 (c_X6_take E T (nx T (nx T p)) 44 τ2 hct2 hTb hT6 hle2 hp2 (by omega)) l_X6_40 S_X6_take rfl (rm_ok (by decide) (by decide)) rfl rfl (Nat.le_of_ble_eq_true rfl) ?_
      intro τ3 r3 hh3
      rcases hh3.2 with ⟨ht3, hr3, hp3⟩ | ⟨ht3, hr3, hn3, hq3⟩
      · subst hr3
        have hct3 : CT τ3 T := hct2.f2 hh3.1
        have hfd3 : Fdr σ τ3 := hfd2.tr hh3.1.d
        have hdr3 := hdr2.f2 h5 hh3.1
        have hle3 := nx_le hle2
        refine V_if_eq (tgt := 59) e_X6_readGate_47 (by decide) (fun c3 => absurd c3 (by decide)) (fun c3 => ?_)
        refine V_aload_n e_X6_readGate_50 rfl rfl ?_
        refine V_iconst (v := nI 0) e_X6_readGate_51 (by decide) ?_
        refine V_iconst (v := nI 1) e_X6_readGate_52 (by decide) ?_
        refine V_cvI (av := [.int (nI 0), .int (nI 1)]) (st := []) e_X6_readGate_53 (c_X6_takeNumber E T (nx T (nx T (nx T p))) 0 1 τ3 hct3 hTb hT6 hle3 hp3 (by omega) (by omega)) l_X6_44 S_X6_takeNumber rfl (rm_ok (by decide) (by decide)) rfl rfl (Nat.le_of_ble_eq_true rfl) ?_
        intro τ4 r4 hh4
        rcases hh4.2 with ⟨ht4, hv4, hr4, hp4, h84⟩ | ⟨ht4, hr4, hn4, hq4⟩ | ⟨ht4, hv4, hr4, hn4, hq4⟩
        · subst hr4
          have hct4 : CT τ4 T := hct3.f2 hh4.1
          have hfd4 : Fdr σ τ4 := hfd3.tr hh4.1.d
          have hdr4 := hdr3.f2 h5 hh4.1
          have hle4 := nx_le hle3
          refine V_if_ne (tgt := 61) e_X6_readGate_56 (by decide) (fun c4 => ?_) (fun c4 => absurd c4 (by decide))
          obtain ⟨F, hF1, hF5⟩ := hdr4.2
          refine V_aload_n e_X6_readGate_61 rfl rfl ?_
          refine V_iload_n e_X6_readGate_62 rfl rfl ?_
          refine V_iload_n e_X6_readGate_63 rfl rfl ?_
          refine V_aload_n e_X6_readGate_64 rfl rfl ?_
          refine V_getiv (v := nI (vl T (nx T (nx T (nx T p))))) e_X6_readGate_65 F_X6_taken f_X6_48 rfl h84 ?_
          refine V_cvV (av := [.int (nI (srt (tok T p))), .int (nI (vl T (nx T p))), .int (nI (vl T (nx T (nx T (nx T p)))))]) (st := []) e_X6_readGate_68 (c_X5_addGate E 13 (A 0) F (nI (srt (tok T p))) (nI (vl T (nx T p))) (vl T (nx T (nx T (nx T p)))) τ4 rfl hdr4.1.1.2.2.2.1 hF5 (by omega) (by have := hv4; omega)) l_X6_70 S_X5_addGate rfl (rm_ok (by decide) (by decide)) rfl rfl (Nat.le_of_ble_eq_true rfl) ?_
          intro τ5 hτ5
          have hct5 : CT τ5 T := by rw [hτ5]; exact (((hct4.u (by decide) (by decide)).u (by decide) (by decide)).u (by decide) (by decide)).u (by decide) (by decide)
          have hfd5 : Fdr σ τ5 := by rw [hτ5]; exact (((hfd4.up (by decide) (by decide)).up (by decide) (by decide)).up (by decide) (by decide)).up (by decide) (by decide)
          have hp5 : CPos τ5 T (nx T (nx T (nx T (nx T p)))) := by rw [hτ5]; exact (((hp4.u (by decide)).u (by decide)).u (by decide)).u (by decide)
          have hdr5 : DrC τ5 (gV (srt (tok T p)) (vl T (nx T p)) (vl T (nx T (nx T (nx T p)))) A) := by rw [hτ5]; exact hdr4.g (by omega) h5 hF1 hF5 hv4.2
          have h5g : (gV (srt (tok T p)) (vl T (nx T p)) (vl T (nx T (nx T (nx T p)))) A) 1 ≤ 5 := by rw [gV_lo (by omega) (by omega) (by omega) (by omega)]; exact h5
          refine V_aload_n e_X6_readGate_71 rfl rfl ?_
          refine V_bipush (v := nI 59) e_X6_readGate_72 (by decide) ?_
          refine V_cvI (av := [.int (nI 59)]) (st := []) e_X6_readGate_74 (c_X6_take E T (nx T (nx T (nx T (nx T p)))) 59 τ5 hct5 hTb hT6 hle4 hp5 (by omega)) l_X6_40 S_X6_take rfl (rm_ok (by decide) (by decide)) rfl rfl (Nat.le_of_ble_eq_true rfl) ?_
          intro τ6 r6 hh6
          rcases hh6.2 with ⟨ht6, hr6, hp6⟩ | ⟨ht6, hr6, hn6, hq6⟩
          · subst hr6
            have hct6 : CT τ6 T := hct5.f2 hh6.1
            have hfd6 : Fdr σ τ6 := hfd5.tr hh6.1.d
            have hdr6 := hdr5.f2 h5g hh6.1
            have hle6 := nx_le hle4
            exact V_zret e_X6_readGate_77 rfl (by first | exact Or.inl nI_0 | exact Or.inr rfl | assumption) (by have hX : pGate T (0, q, p, A) = (0, q, nx T (nx T (nx T (nx T (nx T p)))), gV (srt (tok T p)) (vl T (nx T p)) (vl T (nx T (nx T (nx T p)))) A) := (by simp only [pGate_0 (show ¬ A 0 = 6 by omega), pNum_y ht2 hv2, pTake_y ht3, pNum_y ht4 hv4, pTake_y ht6, tk_f1, tk_f2, nm_f1, nm_f2, mp_f1, mp_f2, pMap_y]); rw [hX]; exact ⟨hfd6, Or.inl ⟨rfl, rfl, hp6, hle6, hdr6, hV.g (by omega) (by omega) (srt_le _) hv2.1 hv2.2 hv4.2, Nat.zero_le _, Nat.zero_le _⟩⟩)
          · subst hr6
            have hct6 : CT τ6 T := hct5.f2 hh6.1
            have hfd6 : Fdr σ τ6 := hfd5.tr hh6.1.d
            have hdr6 := hdr5.f2 h5g hh6.1
            exact V_zret e_X6_readGate_77 rfl (by first | exact Or.inl nI_0 | exact Or.inr rfl | assumption) (by have hX : (pGate T (0, q, p, A)).1 = 1 ∧ (pGate T (0, q, p, A)).2.1 = nx T (nx T (nx T (nx T p))) := (by constructor <;> simp only [pGate_0 (show ¬ A 0 = 6 by omega), pNum_y ht2 hv2, pTake_y ht3, pNum_y ht4 hv4, pTake_n ht6, tk_f1, tk_f2, nm_f1, nm_f2, mp_f1, mp_f2, pMap_y]); exact ⟨hfd6, Or.inr ⟨by rw [hX.1]; decide, rfl, by rw [hX.1]; exact hn6, by rw [hX.2]; exact hq6⟩⟩)
        · subst hr4
          have hct4 : CT τ4 T := hct3.f2 hh4.1
          have hfd4 : Fdr σ τ4 := hfd3.tr hh4.1.d
          have hdr4 := hdr3.f2 h5 hh4.1
          refine V_if_ne (tgt := 61) e_X6_readGate_56 (by decide) (fun c5 => absurd c5 (by decide)) (fun c5 => ?_)
          refine V_iconst (v := nI 0) e_X6_readGate_59 (by decide) ?_
          exact V_zret e_X6_readGate_60 rfl (by first | exact Or.inl nI_0 | exact Or.inr rfl | assumption) (by have hX : (pGate T (0, q, p, A)).1 = 1 ∧ (pGate T (0, q, p, A)).2.1 = nx T (nx T (nx T p)) := (by constructor <;> simp only [pGate_0 (show ¬ A 0 = 6 by omega), pNum_y ht2 hv2, pTake_y ht3, pNum_n ht4, tk_f1, tk_f2, nm_f1, nm_f2, mp_f1, mp_f2, pMap_y]); exact ⟨hfd4, Or.inr ⟨by rw [hX.1]; decide, rfl, by rw [hX.1]; exact hn4, by rw [hX.2]; exact hq4⟩⟩)
        · subst hr4
          have hct4 : CT τ4 T := hct3.f2 hh4.1
          have hfd4 : Fdr σ τ4 := hfd3.tr hh4.1.d
          have hdr4 := hdr3.f2 h5 hh4.1
          refine V_if_ne (tgt := 61) e_X6_readGate_56 (by decide) (fun c6 => absurd c6 (by decide)) (fun c6 => ?_)
          refine V_iconst (v := nI 0) e_X6_readGate_59 (by decide) ?_
          exact V_zret e_X6_readGate_60 rfl (by first | exact Or.inl nI_0 | exact Or.inr rfl | assumption) (by have hX : (pGate T (0, q, p, A)).1 = 2 ∧ (pGate T (0, q, p, A)).2.1 = nx T (nx T (nx T p)) := (by constructor <;> simp only [pGate_0 (show ¬ A 0 = 6 by omega), pNum_y ht2 hv2, pTake_y ht3, pNum_r ht4 hv4, tk_f1, tk_f2, nm_f1, nm_f2, mp_f1, mp_f2, pMap_y]); exact ⟨hfd4, Or.inr ⟨by rw [hX.1]; decide, rfl, by rw [hX.1]; exact hn4, by rw [hX.2]; exact hq4⟩⟩)
      · subst hr3
        have hct3 : CT τ3 T := hct2.f2 hh3.1
        have hfd3 : Fdr σ τ3 := hfd2.tr hh3.1.d
        have hdr3 := hdr2.f2 h5 hh3.1
        refine V_if_eq (tgt := 59) e_X6_readGate_47 (by decide) (fun c7 => ?_) (fun c7 => absurd c7 (by decide))
        refine V_iconst (v := nI 0) e_X6_readGate_59 (by decide) ?_
        exact V_zret e_X6_readGate_60 rfl (by first | exact Or.inl nI_0 | exact Or.inr rfl | assumption) (by have hX : (pGate T (0, q, p, A)).1 = 1 ∧ (pGate T (0, q, p, A)).2.1 = nx T (nx T p) := (by constructor <;> simp only [pGate_0 (show ¬ A 0 = 6 by omega), pNum_y ht2 hv2, pTake_n ht3, tk_f1, tk_f2, nm_f1, nm_f2, mp_f1, mp_f2, pMap_y]); exact ⟨hfd3, Or.inr ⟨by rw [hX.1]; decide, rfl, by rw [hX.1]; exact hn3, by rw [hX.2]; exact hq3⟩⟩)
    · subst hr2
      have hct2 : CT τ2 T := hct1.f2 hh2.1
      have hfd2 : Fdr σ τ2 := hfd1.tr hh2.1.d
      have hdr2 := hdr1.f2 h5 hh2.1
      refine V_if_ne (tgt := 36) e_X6_readGate_31 (by decide) (fun c8 => absurd c8 (by decide)) (fun c8 => ?_)
      refine V_iconst (v := nI 0) e_X6_readGate_34 (by decide) ?_
      exact V_zret e_X6_readGate_35 rfl (by first | exact Or.inl nI_0 | exact Or.inr rfl | assumption) (by have hX : (pGate T (0, q, p, A)).1 = 1 ∧ (pGate T (0, q, p, A)).2.1 = nx T p := (by constructor <;> simp only [pGate_0 (show ¬ A 0 = 6 by omega), pNum_n ht2, tk_f1, tk_f2, nm_f1, nm_f2, mp_f1, mp_f2, pMap_y]); exact ⟨hfd2, Or.inr ⟨by rw [hX.1]; decide, rfl, by rw [hX.1]; exact hn2, by rw [hX.2]; exact hq2⟩⟩)
    · subst hr2
      have hct2 : CT τ2 T := hct1.f2 hh2.1
      have hfd2 : Fdr σ τ2 := hfd1.tr hh2.1.d
      have hdr2 := hdr1.f2 h5 hh2.1
      refine V_if_ne (tgt := 36) e_X6_readGate_31 (by decide) (fun c9 => absurd c9 (by decide)) (fun c9 => ?_)
      refine V_iconst (v := nI 0) e_X6_readGate_34 (by decide) ?_
      exact V_zret e_X6_readGate_35 rfl (by first | exact Or.inl nI_0 | exact Or.inr rfl | assumption) (by have hX : (pGate T (0, q, p, A)).1 = 2 ∧ (pGate T (0, q, p, A)).2.1 = nx T p := (by constructor <;> simp only [pGate_0 (show ¬ A 0 = 6 by omega), pNum_r ht2 hv2, tk_f1, tk_f2, nm_f1, nm_f2, mp_f1, mp_f2, pMap_y]); exact ⟨hfd2, Or.inr ⟨by rw [hX.1]; decide, rfl, by rw [hX.1]; exact hn2, by rw [hX.2]; exact hq2⟩⟩)
  · have d1 : ¬ A 0 < 6 := nq_nlt (by omega) (by omega) c1
    refine V_aload_n e_X6_readGate_9 rfl rfl ?_
    refine V_iconst (v := nI 3) e_X6_readGate_10 (by decide) ?_
    refine V_cvIe (av := [.int (nI 3)]) (st := []) e_X6_readGate_11 (c_X6_refuse E 3 p σ hP.1) l_X6_67 S_X6_refuse rfl (rm_ok (by decide) (by decide)) rfl rfl (Nat.le_of_ble_eq_true rfl) ?_
    exact V_zret e_X6_readGate_14 rfl (by first | exact Or.inl nI_0 | exact Or.inr rfl | assumption) (by rw [pGate_6 (show A 0 = 6 by omega)]; exact ⟨((Fdr.rf (σ := σ)).tr ((F2.rf.up (by omega)).up (by omega)).d), Or.inr ⟨by show ¬ 3 = 0; decide, rfl, (up2_k (by decide)).trans up2_at, up2_at⟩⟩)
set_option maxRecDepth 100000 in
set_option maxHeartbeats 4000000 in
theorem c_X6_readPerson (E : En) (T : Tp) (q p : Nat) (A : Vec) (σ : Sg) (hCT : CT σ T) (hTb : T.1 ≤ 100) (hT6 : ∀ j, j < T.1 → T.2 j < 256) (hp : p ≤ T.1) (hP : CPos σ T p) (hD : DrC σ A) (hV : PV A) (h2 : 2 ≤ A 0) : Cn E m_X6_readPerson 5 [.ref (eB E + 2), .ref (eB E + 13)] σ (pI (fun σ' r => Fdr σ σ' ∧ RC T 2 1 σ' (pMan T (0, q, p, A)) r)) := by
  have h5 := hV.2.1
  have h06 := hV.1
  refine Cn.of [some (.ref (eB E + 2)), some (.ref (eB E + 13)), none, none] (by decide) (Nat.le_of_ble_eq_true rfl) rfl ?_
  refine V_aload_n e_X6_readPerson_0 rfl rfl ?_
  refine V_getiv (v := nI (A 1)) e_X6_readPerson_1 F_X5_people f_X6_80 rfl hD.1.1.2.2.2.2.1 ?_
  refine V_iconst (v := nI 5) e_X6_readPerson_4 (by decide) ?_
  refine V_icmp_lt (tgt := 14) e_X6_readPerson_5 (by decide) (fun c1 => ?_) (fun c1 => ?_)
  · have d1 : A 1 < 5 := nq_lt (by omega) (by omega) c1
    refine V_aload_n e_X6_readPerson_14 rfl rfl ?_
    refine V_cvV (av := []) (st := []) e_X6_readPerson_15 (c_X6_advance E (nx T p) T σ hCT hTb hT6 (nx_le hp) hP.2.1) l_X6_27 S_X6_advance rfl (rm_ok (by decide) (by decide)) rfl rfl (Nat.le_of_ble_eq_true rfl) ?_
    intro τ1 hh1
    have hct1 : CT τ1 T := hCT.f2 hh1.1
    have hfd1 : Fdr σ τ1 := (Fdr.rf (σ := σ)).tr hh1.1.d
    have hdr1 := hD.f2 h5 hh1.1
    have hle1 := nx_le hp
    refine V_aload_n e_X6_readPerson_18 rfl rfl ?_
    refine V_iconst (v := nI 0) e_X6_readPerson_19 (by decide) ?_
    refine V_aload_n e_X6_readPerson_20 rfl rfl ?_
    refine V_getiv (v := nI (A 0)) e_X6_readPerson_21 F_X5_gates f_X6_64 rfl hdr1.1.1.2.2.2.1 ?_
    refine V_iconst (v := nI 1) e_X6_readPerson_24 (by decide) ?_
    refine V_isubN (z := nI (A 0 - 1)) e_X6_readPerson_25 (pk_sub (by omega)) ?_
    refine V_cvI (av := [.int (nI 0), .int (nI (A 0 - 1))]) (st := []) e_X6_readPerson_26 (c_X6_takeNumber E T (nx T p) 0 (A 0 - 1) τ1 hct1 hTb hT6 hle1 hh1.2.1 (by omega) (by omega)) l_X6_44 S_X6_takeNumber rfl (rm_ok (by decide) (by decide)) rfl rfl (Nat.le_of_ble_eq_true rfl) ?_
    intro τ2 r2 hh2
    rcases hh2.2 with ⟨ht2, hv2, hr2, hp2, h82⟩ | ⟨ht2, hr2, hn2, hq2⟩ | ⟨ht2, hv2, hr2, hn2, hq2⟩
    · subst hr2
      have hct2 : CT τ2 T := hct1.f2 hh2.1
      have hfd2 : Fdr σ τ2 := hfd1.tr hh2.1.d
      have hdr2 := hdr1.f2 h5 hh2.1
      have hle2 := nx_le hle1
      refine V_if_ne (tgt := 34) e_X6_readPerson_29 (by decide) (fun c2 => ?_) (fun c2 => absurd c2 (by decide))
      refine V_aload_n e_X6_readPerson_34 rfl rfl ?_
      refine V_getiv (v := nI (vl T (nx T p))) e_X6_readPerson_35 F_X6_taken f_X6_48 rfl h82 ?_
      refine V_istore_n (L' := [some (.ref (eB E + 2)), some (.ref (eB E + 13)), some (.int (nI (vl T (nx T p)))), none]) e_X6_readPerson_38 rfl rfl ?_
      refine V_aload_n e_X6_readPerson_39 rfl rfl ?_
      refine V_bipush (v := nI 44) e_X6_readPerson_40 (by decide) ?_
      refine V_cvI (av := [.int (nI 44)]) (st := []) e_X6_readPerson_42 (c_X6_take E T (nx T (nx T p)) 44 τ2 hct2 hTb hT6 hle2 hp2 (by omega)) l_X6_40 S_X6_take rfl (rm_ok (by decide) (by decide)) rfl rfl (Nat.le_of_ble_eq_true rfl) ?_
      intro τ3 r3 hh3
      rcases hh3.2 with ⟨ht3, hr3, hp3⟩ | ⟨ht3, hr3, hn3, hq3⟩
      · subst hr3
        have hct3 : CT τ3 T := hct2.f2 hh3.1
        have hfd3 : Fdr σ τ3 := hfd2.tr hh3.1.d
        have hdr3 := hdr2.f2 h5 hh3.1
        have hle3 := nx_le hle2
        refine V_if_eq (tgt := 57) e_X6_readPerson_45 (by decide) (fun c3 => absurd c3 (by decide)) (fun c3 => ?_)
        refine V_aload_n e_X6_readPerson_48 rfl rfl ?_
        refine V_iconst (v := nI 0) e_X6_readPerson_49 (by decide) ?_
        refine V_iconst (v := nI 1) e_X6_readPerson_50 (by decide) ?_
        refine V_cvI (av := [.int (nI 0), .int (nI 1)]) (st := []) e_X6_readPerson_51 (c_X6_takeNumber E T (nx T (nx T (nx T p))) 0 1 τ3 hct3 hTb hT6 hle3 hp3 (by omega) (by omega)) l_X6_44 S_X6_takeNumber rfl (rm_ok (by decide) (by decide)) rfl rfl (Nat.le_of_ble_eq_true rfl) ?_
        intro τ4 r4 hh4
        rcases hh4.2 with ⟨ht4, hv4, hr4, hp4, h84⟩ | ⟨ht4, hr4, hn4, hq4⟩ | ⟨ht4, hv4, hr4, hn4, hq4⟩
        · subst hr4
          have hct4 : CT τ4 T := hct3.f2 hh4.1
          have hfd4 : Fdr σ τ4 := hfd3.tr hh4.1.d
          have hdr4 := hdr3.f2 h5 hh4.1
          have hle4 := nx_le hle3
          refine V_if_ne (tgt := 59) e_X6_readPerson_54 (by decide) (fun c4 => ?_) (fun c4 => absurd c4 (by decide))
          refine V_aload_n e_X6_readPerson_59 rfl rfl ?_
          refine V_getiv (v := nI (vl T (nx T (nx T (nx T p))))) e_X6_readPerson_60 F_X6_taken f_X6_48 rfl h84 ?_
          refine V_istore_n (L' := [some (.ref (eB E + 2)), some (.ref (eB E + 13)), some (.int (nI (vl T (nx T p)))), some (.int (nI (vl T (nx T (nx T (nx T p))))))]) e_X6_readPerson_63 rfl rfl ?_
          refine V_aload_n e_X6_readPerson_64 rfl rfl ?_
          refine V_bipush (v := nI 44) e_X6_readPerson_65 (by decide) ?_
          refine V_cvI (av := [.int (nI 44)]) (st := []) e_X6_readPerson_67 (c_X6_take E T (nx T (nx T (nx T (nx T p)))) 44 τ4 hct4 hTb hT6 hle4 hp4 (by omega)) l_X6_40 S_X6_take rfl (rm_ok (by decide) (by decide)) rfl rfl (Nat.le_of_ble_eq_true rfl) ?_
          intro τ5 r5 hh5
          rcases hh5.2 with ⟨ht5, hr5, hp5⟩ | ⟨ht5, hr5, hn5, hq5⟩
          · subst hr5
            have hct5 : CT τ5 T := hct4.f2 hh5.1
            have hfd5 : Fdr σ τ5 := hfd4.tr hh5.1.d
            have hdr5 := hdr4.f2 h5 hh5.1
            have hle5 := nx_le hle4
            refine V_if_eq (tgt := 83) e_X6_readPerson_70 (by decide) (fun c5 => absurd c5 (by decide)) (fun c5 => ?_)
            refine V_aload_n e_X6_readPerson_73 rfl rfl ?_
            refine V_iconst (v := nI 0) e_X6_readPerson_74 (by decide) ?_
            refine V_bipush (v := nI 99) e_X6_readPerson_75 (by decide) ?_
            refine V_cvI (av := [.int (nI 0), .int (nI 99)]) (st := []) e_X6_readPerson_77 (c_X6_takeNumber E T (nx T (nx T (nx T (nx T (nx T p))))) 0 99 τ5 hct5 hTb hT6 hle5 hp5 (by omega) (by omega)) l_X6_44 S_X6_takeNumber rfl (rm_ok (by decide) (by decide)) rfl rfl (Nat.le_of_ble_eq_true rfl) ?_
            intro τ6 r6 hh6
            rcases hh6.2 with ⟨ht6, hv6, hr6, hp6, h86⟩ | ⟨ht6, hr6, hn6, hq6⟩ | ⟨ht6, hv6, hr6, hn6, hq6⟩
            · subst hr6
              have hct6 : CT τ6 T := hct5.f2 hh6.1
              have hfd6 : Fdr σ τ6 := hfd5.tr hh6.1.d
              have hdr6 := hdr5.f2 h5 hh6.1
              have hle6 := nx_le hle5
              refine V_if_ne (tgt := 85) e_X6_readPerson_80 (by decide) (fun c6 => ?_) (fun c6 => absurd c6 (by decide))
              refine V_aload_n e_X6_readPerson_85 rfl rfl ?_
              refine V_iload_n e_X6_readPerson_86 rfl rfl ?_
              refine V_iload_n e_X6_readPerson_87 rfl rfl ?_
              refine V_aload_n e_X6_readPerson_88 rfl rfl ?_
              refine V_getiv (v := nI (vl T (nx T (nx T (nx T (nx T (nx T p))))))) e_X6_readPerson_89 F_X6_taken f_X6_48 rfl h86 ?_
              refine V_cvV (av := [.int (nI (vl T (nx T p))), .int (nI (vl T (nx T (nx T (nx T p))))), .int (nI (vl T (nx T (nx T (nx T (nx T (nx T p)))))))]) (st := []) e_X6_readPerson_92 (c_X5_addWalker E 13 (A 1) (nI (vl T (nx T p))) (nI (vl T (nx T (nx T (nx T p))))) (nI (vl T (nx T (nx T (nx T (nx T (nx T p))))))) τ6 rfl hdr6.1.1.2.2.2.2.1 (by omega)) l_X6_83 S_X5_addWalker rfl (rm_ok (by decide) (by decide)) rfl rfl (Nat.le_of_ble_eq_true rfl) ?_
              intro τ7 hτ7
              have hct7 : CT τ7 T := by rw [hτ7]; exact (((((((hct6.u (by omega) (by omega)).u (by omega) (by omega)).u (by omega) (by omega)).u (by omega) (by omega)).u (by omega) (by omega)).u (by omega) (by omega)).u (by omega) (by omega)).u (by decide) (by decide)
              have hfd7 : Fdr σ τ7 := by rw [hτ7]; exact (((((((hfd6.up (by omega) (by omega)).up (by omega) (by omega)).up (by omega) (by omega)).up (by omega) (by omega)).up (by omega) (by omega)).up (by omega) (by omega)).up (by omega) (by omega)).up (by decide) (by decide)
              have hp7 : CPos τ7 T (nx T (nx T (nx T (nx T (nx T (nx T p)))))) := by rw [hτ7]; exact (((((((hp6.u (by omega)).u (by omega)).u (by omega)).u (by omega)).u (by omega)).u (by omega)).u (by omega)).u (by decide)
              have hdr7 : DrC τ7 (mV (vl T (nx T p)) (vl T (nx T (nx T (nx T p)))) (vl T (nx T (nx T (nx T (nx T (nx T p)))))) A) := by rw [hτ7]; exact hdr6.m hV (by omega)
              have h5g : (mV (vl T (nx T p)) (vl T (nx T (nx T (nx T p)))) (vl T (nx T (nx T (nx T (nx T (nx T p)))))) A) 1 ≤ 5 := by rw [mV_1]; omega
              refine V_aload_n e_X6_readPerson_95 rfl rfl ?_
              refine V_bipush (v := nI 59) e_X6_readPerson_96 (by decide) ?_
              refine V_cvI (av := [.int (nI 59)]) (st := []) e_X6_readPerson_98 (c_X6_take E T (nx T (nx T (nx T (nx T (nx T (nx T p)))))) 59 τ7 hct7 hTb hT6 hle6 hp7 (by omega)) l_X6_40 S_X6_take rfl (rm_ok (by decide) (by decide)) rfl rfl (Nat.le_of_ble_eq_true rfl) ?_
              intro τ8 r8 hh8
              rcases hh8.2 with ⟨ht8, hr8, hp8⟩ | ⟨ht8, hr8, hn8, hq8⟩
              · subst hr8
                have hct8 : CT τ8 T := hct7.f2 hh8.1
                have hfd8 : Fdr σ τ8 := hfd7.tr hh8.1.d
                have hdr8 := hdr7.f2 h5g hh8.1
                have hle8 := nx_le hle6
                exact V_zret e_X6_readPerson_101 rfl (by first | exact Or.inl nI_0 | exact Or.inr rfl | assumption) (by have hX : pMan T (0, q, p, A) = (0, q, nx T (nx T (nx T (nx T (nx T (nx T (nx T p)))))), mV (vl T (nx T p)) (vl T (nx T (nx T (nx T p)))) (vl T (nx T (nx T (nx T (nx T (nx T p)))))) A) := (by simp only [pMan_0 (show ¬ A 1 = 5 by omega), pNum_y ht2 hv2, pTake_y ht3, pNum_y ht4 hv4, pTake_y ht5, pNum_y ht6 hv6, pTake_y ht8, tk_f1, tk_f2, nm_f1, nm_f2, mp_f1, mp_f2, pMap_y]); rw [hX]; exact ⟨hfd8, Or.inl ⟨rfl, rfl, hp8, hle8, hdr8, hV.m (by omega) (by have := hv2; omega) hv4.2 hv6.2, (show 2 ≤ (mV (vl T (nx T p)) (vl T (nx T (nx T (nx T p)))) (vl T (nx T (nx T (nx T (nx T (nx T p)))))) A) 0 by rw [mV_lo (by omega) (by omega) (by omega) (by omega)]; exact h2), (show 1 ≤ (mV (vl T (nx T p)) (vl T (nx T (nx T (nx T p)))) (vl T (nx T (nx T (nx T (nx T (nx T p)))))) A) 1 by rw [mV_1]; omega)⟩⟩)
              · subst hr8
                have hct8 : CT τ8 T := hct7.f2 hh8.1
                have hfd8 : Fdr σ τ8 := hfd7.tr hh8.1.d
                have hdr8 := hdr7.f2 h5g hh8.1
                exact V_zret e_X6_readPerson_101 rfl (by first | exact Or.inl nI_0 | exact Or.inr rfl | assumption) (by have hX : (pMan T (0, q, p, A)).1 = 1 ∧ (pMan T (0, q, p, A)).2.1 = nx T (nx T (nx T (nx T (nx T (nx T p))))) := (by constructor <;> simp only [pMan_0 (show ¬ A 1 = 5 by omega), pNum_y ht2 hv2, pTake_y ht3, pNum_y ht4 hv4, pTake_y ht5, pNum_y ht6 hv6, pTake_n ht8, tk_f1, tk_f2, nm_f1, nm_f2, mp_f1, mp_f2, pMap_y]); exact ⟨hfd8, Or.inr ⟨by rw [hX.1]; decide, rfl, by rw [hX.1]; exact hn8, by rw [hX.2]; exact hq8⟩⟩)
            · subst hr6
              have hct6 : CT τ6 T := hct5.f2 hh6.1
              have hfd6 : Fdr σ τ6 := hfd5.tr hh6.1.d
              have hdr6 := hdr5.f2 h5 hh6.1
              refine V_if_ne (tgt := 85) e_X6_readPerson_80 (by decide) (fun c7 => absurd c7 (by decide)) (fun c7 => ?_)
              refine V_iconst (v := nI 0) e_X6_readPerson_83 (by decide) ?_
              exact V_zret e_X6_readPerson_84 rfl (by first | exact Or.inl nI_0 | exact Or.inr rfl | assumption) (by have hX : (pMan T (0, q, p, A)).1 = 1 ∧ (pMan T (0, q, p, A)).2.1 = nx T (nx T (nx T (nx T (nx T p)))) := (by constructor <;> simp only [pMan_0 (show ¬ A 1 = 5 by omega), pNum_y ht2 hv2, pTake_y ht3, pNum_y ht4 hv4, pTake_y ht5, pNum_n ht6, tk_f1, tk_f2, nm_f1, nm_f2, mp_f1, mp_f2, pMap_y]); exact ⟨hfd6, Or.inr ⟨by rw [hX.1]; decide, rfl, by rw [hX.1]; exact hn6, by rw [hX.2]; exact hq6⟩⟩)
            · subst hr6
              have hct6 : CT τ6 T := hct5.f2 hh6.1
              have hfd6 : Fdr σ τ6 := hfd5.tr hh6.1.d
              have hdr6 := hdr5.f2 h5 hh6.1
              refine V_if_ne (tgt := 85) e_X6_readPerson_80 (by decide) (fun c8 => absurd c8 (by decide)) (fun c8 => ?_)
              refine V_iconst (v := nI 0) e_X6_readPerson_83 (by decide) ?_
              exact V_zret e_X6_readPerson_84 rfl (by first | exact Or.inl nI_0 | exact Or.inr rfl | assumption) (by have hX : (pMan T (0, q, p, A)).1 = 2 ∧ (pMan T (0, q, p, A)).2.1 = nx T (nx T (nx T (nx T (nx T p)))) := (by constructor <;> simp only [pMan_0 (show ¬ A 1 = 5 by omega), pNum_y ht2 hv2, pTake_y ht3, pNum_y ht4 hv4, pTake_y ht5, pNum_r ht6 hv6, tk_f1, tk_f2, nm_f1, nm_f2, mp_f1, mp_f2, pMap_y]); exact ⟨hfd6, Or.inr ⟨by rw [hX.1]; decide, rfl, by rw [hX.1]; exact hn6, by rw [hX.2]; exact hq6⟩⟩)
          · subst hr5
            have hct5 : CT τ5 T := hct4.f2 hh5.1
            have hfd5 : Fdr σ τ5 := hfd4.tr hh5.1.d
            have hdr5 := hdr4.f2 h5 hh5.1
            refine V_if_eq (tgt := 83) e_X6_readPerson_70 (by decide) (fun c9 => ?_) (fun c9 => absurd c9 (by decide))
            refine V_iconst (v := nI 0) e_X6_readPerson_83 (by decide) ?_
            exact V_zret e_X6_readPerson_84 rfl (by first | exact Or.inl nI_0 | exact Or.inr rfl | assumption) (by have hX : (pMan T (0, q, p, A)).1 = 1 ∧ (pMan T (0, q, p, A)).2.1 = nx T (nx T (nx T (nx T p))) := (by constructor <;> simp only [pMan_0 (show ¬ A 1 = 5 by omega), pNum_y ht2 hv2, pTake_y ht3, pNum_y ht4 hv4, pTake_n ht5, tk_f1, tk_f2, nm_f1, nm_f2, mp_f1, mp_f2, pMap_y]); exact ⟨hfd5, Or.inr ⟨by rw [hX.1]; decide, rfl, by rw [hX.1]; exact hn5, by rw [hX.2]; exact hq5⟩⟩)
        · subst hr4
          have hct4 : CT τ4 T := hct3.f2 hh4.1
          have hfd4 : Fdr σ τ4 := hfd3.tr hh4.1.d
          have hdr4 := hdr3.f2 h5 hh4.1
          refine V_if_ne (tgt := 59) e_X6_readPerson_54 (by decide) (fun c10 => absurd c10 (by decide)) (fun c10 => ?_)
          refine V_iconst (v := nI 0) e_X6_readPerson_57 (by decide) ?_
          exact V_zret e_X6_readPerson_58 rfl (by first | exact Or.inl nI_0 | exact Or.inr rfl | assumption) (by have hX : (pMan T (0, q, p, A)).1 = 1 ∧ (pMan T (0, q, p, A)).2.1 = nx T (nx T (nx T p)) := (by constructor <;> simp only [pMan_0 (show ¬ A 1 = 5 by omega), pNum_y ht2 hv2, pTake_y ht3, pNum_n ht4, tk_f1, tk_f2, nm_f1, nm_f2, mp_f1, mp_f2, pMap_y]); exact ⟨hfd4, Or.inr ⟨by rw [hX.1]; decide, rfl, by rw [hX.1]; exact hn4, by rw [hX.2]; exact hq4⟩⟩)
        · subst hr4
          have hct4 : CT τ4 T := hct3.f2 hh4.1
          have hfd4 : Fdr σ τ4 := hfd3.tr hh4.1.d
          have hdr4 := hdr3.f2 h5 hh4.1
          refine V_if_ne (tgt := 59) e_X6_readPerson_54 (by decide) (fun c11 => absurd c11 (by decide)) (fun c11 => ?_)
          refine V_iconst (v := nI 0) e_X6_readPerson_57 (by decide) ?_
          exact V_zret e_X6_readPerson_58 rfl (by first | exact Or.inl nI_0 | exact Or.inr rfl | assumption) (by have hX : (pMan T (0, q, p, A)).1 = 2 ∧ (pMan T (0, q, p, A)).2.1 = nx T (nx T (nx T p)) := (by constructor <;> simp only [pMan_0 (show ¬ A 1 = 5 by omega), pNum_y ht2 hv2, pTake_y ht3, pNum_r ht4 hv4, tk_f1, tk_f2, nm_f1, nm_f2, mp_f1, mp_f2, pMap_y]); exact ⟨hfd4, Or.inr ⟨by rw [hX.1]; decide, rfl, by rw [hX.1]; exact hn4, by rw [hX.2]; exact hq4⟩⟩)
      · subst hr3
        have hct3 : CT τ3 T := hct2.f2 hh3.1
        have hfd3 : Fdr σ τ3 := hfd2.tr hh3.1.d
        have hdr3 := hdr2.f2 h5 hh3.1
        refine V_if_eq (tgt := 57) e_X6_readPerson_45 (by decide) (fun c12 => ?_) (fun c12 => absurd c12 (by decide))
        refine V_iconst (v := nI 0) e_X6_readPerson_57 (by decide) ?_
        exact V_zret e_X6_readPerson_58 rfl (by first | exact Or.inl nI_0 | exact Or.inr rfl | assumption) (by have hX : (pMan T (0, q, p, A)).1 = 1 ∧ (pMan T (0, q, p, A)).2.1 = nx T (nx T p) := (by constructor <;> simp only [pMan_0 (show ¬ A 1 = 5 by omega), pNum_y ht2 hv2, pTake_n ht3, tk_f1, tk_f2, nm_f1, nm_f2, mp_f1, mp_f2, pMap_y]); exact ⟨hfd3, Or.inr ⟨by rw [hX.1]; decide, rfl, by rw [hX.1]; exact hn3, by rw [hX.2]; exact hq3⟩⟩)
    · subst hr2
      have hct2 : CT τ2 T := hct1.f2 hh2.1
      have hfd2 : Fdr σ τ2 := hfd1.tr hh2.1.d
      have hdr2 := hdr1.f2 h5 hh2.1
      refine V_if_ne (tgt := 34) e_X6_readPerson_29 (by decide) (fun c13 => absurd c13 (by decide)) (fun c13 => ?_)
      refine V_iconst (v := nI 0) e_X6_readPerson_32 (by decide) ?_
      exact V_zret e_X6_readPerson_33 rfl (by first | exact Or.inl nI_0 | exact Or.inr rfl | assumption) (by have hX : (pMan T (0, q, p, A)).1 = 1 ∧ (pMan T (0, q, p, A)).2.1 = nx T p := (by constructor <;> simp only [pMan_0 (show ¬ A 1 = 5 by omega), pNum_n ht2, tk_f1, tk_f2, nm_f1, nm_f2, mp_f1, mp_f2, pMap_y]); exact ⟨hfd2, Or.inr ⟨by rw [hX.1]; decide, rfl, by rw [hX.1]; exact hn2, by rw [hX.2]; exact hq2⟩⟩)
    · subst hr2
      have hct2 : CT τ2 T := hct1.f2 hh2.1
      have hfd2 : Fdr σ τ2 := hfd1.tr hh2.1.d
      have hdr2 := hdr1.f2 h5 hh2.1
      refine V_if_ne (tgt := 34) e_X6_readPerson_29 (by decide) (fun c14 => absurd c14 (by decide)) (fun c14 => ?_)
      refine V_iconst (v := nI 0) e_X6_readPerson_32 (by decide) ?_
      exact V_zret e_X6_readPerson_33 rfl (by first | exact Or.inl nI_0 | exact Or.inr rfl | assumption) (by have hX : (pMan T (0, q, p, A)).1 = 2 ∧ (pMan T (0, q, p, A)).2.1 = nx T p := (by constructor <;> simp only [pMan_0 (show ¬ A 1 = 5 by omega), pNum_r ht2 hv2, tk_f1, tk_f2, nm_f1, nm_f2, mp_f1, mp_f2, pMap_y]); exact ⟨hfd2, Or.inr ⟨by rw [hX.1]; decide, rfl, by rw [hX.1]; exact hn2, by rw [hX.2]; exact hq2⟩⟩)
  · have d1 : ¬ A 1 < 5 := nq_nlt (by omega) (by omega) c1
    refine V_aload_n e_X6_readPerson_8 rfl rfl ?_
    refine V_iconst (v := nI 3) e_X6_readPerson_9 (by decide) ?_
    refine V_cvIe (av := [.int (nI 3)]) (st := []) e_X6_readPerson_10 (c_X6_refuse E 3 p σ hP.1) l_X6_67 S_X6_refuse rfl (rm_ok (by decide) (by decide)) rfl rfl (Nat.le_of_ble_eq_true rfl) ?_
    exact V_zret e_X6_readPerson_13 rfl (by first | exact Or.inl nI_0 | exact Or.inr rfl | assumption) (by rw [pMan_5 (show A 1 = 5 by omega)]; exact ⟨((Fdr.rf (σ := σ)).tr ((F2.rf.up (by omega)).up (by omega)).d), Or.inr ⟨by show ¬ 3 = 0; decide, rfl, (up2_k (by decide)).trans up2_at, up2_at⟩⟩)

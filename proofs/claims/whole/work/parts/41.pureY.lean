/-! by dinners: what the calls answer -/
section VXK
variable {E : En} {M : Mi} {K : Kk} {pc nx : Nat} {L L' : List (Option Value)} {st : List Value} {σ : Sg}
theorem V_look {dflt : Int} {ps : Array (Int × Int)} {len : Nat} {x : Int32} {off : Int} {tgt : Nat} (h : dq M pc (.lookupswitch dflt ps) len nx) (hp : (ps.toList.zip (ps.toList.drop 1)).all (fun (a, next) => a.1 < next.1) = true) (ho : Op.lookupswitch.offset ps.toList dflt x.toInt = off) (ht : (pc : Int) + off = (tgt : Int)) (k : V E M K tgt L st σ) : V E M K pc L (.int x :: st) σ := by
  obtain ⟨h1, rfl⟩ := h
  intro p l e s m args below meth c H locs ls C hZ hP hS hl
  exact lv_lookup C.1 C.2.1 h1 hp ho ht (k p l e s m args below meth c H locs ls C hZ hP hS hl)
end VXK
theorem toldR_cg {f : Nat → Nat} {d d' : Nat → Int32} : ∀ (n i : Nat), (∀ j, i ≤ j → j < i + n → d j = d' j) → toldR f d n i = toldR f d' n i
  | 0, _, _ => rfl
  | n + 1, i, h => by
    unfold toldR
    rw [h i (Nat.le_refl _) (by omega), toldR_cg n (i + 1) (fun j h1 h2 => h j (by omega) (by omega))]
theorem tld_cg {B : Vec} {st : Nat} {q : Pn} {d d' : Nat → Int32} {n : Nat} (h : ∀ j, j < n → d j = d' j) : tld B st q d n = tld B st q d' n := toldR_cg n 0 (fun j _ hj => h j (by omega))
theorem fitK_cg {f g : Nat → Nat} {lo : Nat} : ∀ k, (∀ j, j < k → f (lo + j) = g (lo + j)) → fitK f lo k = fitK g lo k
  | 0, _ => rfl
  | k + 1, h => by unfold fitK; rw [fitK_cg k (fun j hj => h j (by omega)), h k (by omega)]
theorem ffS_cg {A : Vec} {a b : Nat} {f g : Nat → Nat} (h0 : a = b) : ∀ k, (∀ j, j < k → f j = g j) → ffS A a f k = ffS A b g k
  | 0, _ => by unfold ffS; rw [h0]
  | k + 1, h => by unfold ffS; rw [ffS_cg h0 k (fun j hj => h j (by omega)), h k (by omega)]
def dinR (R : Rw) (r i : Nat) : Nat → Int32 := fun j => R.2.2 r (i + j)
def whatV (A : Vec) (g w p : Nat) (d : Nat → Int32) (n : Nat) : Nat := if w = 0 then fitK (fun v => tld (setK A g v) (bitN (A 6) p) (pn A p) d n) 1 5 else fitK (fun v => tld (setF A g v) (bitN (A 6) p) (pn A p) d n) 0 2
def whoV (A : Vec) (p w : Nat) (d : Nat → Int32) (n : Nat) : Nat := if w = 0 then fitK (fun v => tld A (bitN (A 6) p) (setHd (pn A p) v) d n) 0 2 else if w = 1 then fitK (fun v => tld A (bitN (A 6) p) (setFi (pn A p) v) d n) 0 31 else ffS A (tld A (bitN (A 6) p) (pn A p) d n) (fun g => tld (fallV A (2 ^ g)) (bitN (A 6) p) (pn A p) d n) (A 0)
def oWhat (S : Ab) (x y z w v u : Int32) : Ab × Int32 := if gIn x (S.1 0) = 0 then (S, (-1000001)) else if wi y (nI 0) (nI 1) = 0 then (S, (-1000001)) else if gIn z (S.1 1) = 0 then (S, (-1000001)) else if wi w (nI 0) (nI 7) = 0 then (S, (-1000001)) else if wi u (nI 1) (nI 12) = 0 then (S, (-1000001)) else if fndS ((aR S).1 (ix w)) ((aR S).2.1 (ix w)) v u = 0 then (wS S 0, nI (whatV S.1 (ix x) (ix y) (ix z) (dinR (aR S) (ix w) (ix v)) (ix u))) else (wS S (fndS ((aR S).1 (ix w)) ((aR S).2.1 (ix w)) v u), (-1000010) - nI (fndS ((aR S).1 (ix w)) ((aR S).2.1 (ix w)) v u))
def oWho (S : Ab) (x y z w v : Int32) : Ab × Int32 := if gIn x (S.1 1) = 0 then (S, (-1000001)) else if wi y (nI 0) (nI 2) = 0 then (S, (-1000001)) else if wi z (nI 0) (nI 7) = 0 then (S, (-1000001)) else if wi v (nI 1) (nI 12) = 0 then (S, (-1000001)) else if fndS ((aR S).1 (ix z)) ((aR S).2.1 (ix z)) w v = 0 then (wS S 0, nI (whoV S.1 (ix x) (ix y) (dinR (aR S) (ix z) (ix w)) (ix v))) else (wS S (fndS ((aR S).1 (ix z)) ((aR S).2.1 (ix z)) w v), (-1000010) - nI (fndS ((aR S).1 (ix z)) ((aR S).2.1 (ix z)) w v))
theorem ctd_1 {x n : Int32} (h : ¬ ctd x n = 0) : ¬ wi x (nI 0) (nI 7) = 0 ∧ ¬ wi n (nI 1) (nI 12) = 0 := by
  unfold ctd at h
  refine ⟨fun q => h (by rw [if_pos q]; rfl), fun q => h ?_⟩
  by_cases z : wi x (nI 0) (nI 7) = 0
  · rw [if_pos z]; rfl
  · rw [if_neg z, if_pos q]; rfl
theorem ctd_0 {x n : Int32} (h : ctd x n = 0) : wi x (nI 0) (nI 7) = 0 ∨ (¬ wi x (nI 0) (nI 7) = 0 ∧ wi n (nI 1) (nI 12) = 0) := by
  unfold ctd at h
  by_cases z : wi x (nI 0) (nI 7) = 0
  · exact Or.inl z
  · rw [if_neg z] at h
    by_cases q : wi n (nI 1) (nI 12) = 0
    · exact Or.inr ⟨z, q⟩
    · rw [if_neg q] at h; exact absurd h (by decide)
/-- behind the hearing of dinners -/
def Hd (σ τ : Sg) (R : Rw) (r i n : Nat) : Prop := τ 241 2 = nI n ∧ (∀ j, j < n → τ 251 j = dinR R r i j) ∧ ∀ a k, a ≠ 251 → ¬ (a = 241 ∧ k = 2) → τ a k = σ a k
theorem Hd.rep {σ τ : Sg} {R : Rw} {r i n : Nat} {A : Vec} (h : Hd σ τ R r i n) (h5 : A 1 ≤ 5) (hR : RepC σ 4 A) : RepC τ 4 A := hR.eq h5 (fun a h1 h2 k => h.2.2 a k (by omega) (by omega))
theorem Hd.ic {σ τ : Sg} {R : Rw} {r i n : Nat} {S : Ab} (h : Hd σ τ R r i n) (hI : IC σ S) : IC τ S := hI.fr (fun a k hk => h.2.2 a k (fun q => hk (by unfold Nrd; omega)) (fun q => hk (by unfold Nrd; omega)))
theorem Hd.fb {σ τ : Sg} {R : Rw} {r i n : Nat} (h : Hd σ τ R r i n) : Fb 0 292 σ τ := fun a k hk => h.2.2 a k (by omega) (by omega)

abbrev Sg : Type := Nat → Nat → Int32
/-- the fixed things: the base, the classes, the arrays' classes, the static arrays -/
abbrev En : Type := Nat × va_G × (Nat → ClassId) × (Nat → Nat)
def eB (E : En) : Nat := E.1
def eD (E : En) : va_G := E.2.1
def eA (E : En) : Nat → ClassId := E.2.2.1
def eS (E : En) : Nat → Nat := E.2.2.2
def up2 (σ : Sg) (a k : Nat) (x : Int32) : Sg := fun b j => if b = a ∧ j = k then x else σ b j
def kdL : List Nat := [8, 12, 6, 10, 5, 10, 10, 14, 7, 7, 7, 7, 7, 5, 10, 10, 14, 7, 7, 7, 7, 7, 13, 0, 13, 5, 10, 10, 14, 7, 7, 7, 7, 7, 5, 10, 10, 14, 7, 7, 7, 7, 7, 5, 10, 10, 14, 7, 7, 7, 7, 7, 5, 10, 10, 14, 7, 7, 7, 7, 7, 5, 10, 10, 14, 7, 7, 7, 7, 7, 5, 10, 10, 14, 7, 7, 7, 7, 7, 5, 10, 10, 14, 7, 7, 7, 7, 7, 5, 10, 10, 14, 7, 7, 7, 7, 7, 5, 10, 10, 14, 7, 7, 7, 7, 7, 5, 10, 10, 14, 7, 7, 7, 7, 7, 5, 10, 10, 14, 7, 7, 7, 7, 7, 5, 10, 10, 14, 7, 7, 7, 7, 7, 5, 10, 10, 14, 7, 7, 7, 7, 7, 5, 10, 10, 14, 7, 7, 7, 7, 7, 5, 10, 10, 14, 7, 7, 7, 7, 7, 5, 10, 10, 14, 7, 7, 7, 7, 7, 5, 10, 10, 14, 7, 7, 7, 7, 7, 5, 10, 10, 14, 7, 7, 7, 7, 7, 5, 10, 10, 14, 7, 7, 7, 7, 7, 5, 10, 10, 14, 7, 7, 7, 7, 7, 5, 10, 10, 14, 7, 7, 7, 7, 7, 5, 10, 10, 14, 7, 7, 7, 7, 7, 5, 10, 10, 14, 7, 7, 7, 7, 7, 5, 10, 10, 14, 7, 7, 7, 7, 7, 4, 5, 10, 10, 14, 7, 7, 7, 7, 7, 10, 2, 10, 10, 10, 1, 10, 3, 10, 3, 10, 3, 10, 3, 10, 3, 10, 3, 10, 3, 10, 3, 10, 5, 10, 10, 14, 7, 7, 7, 7, 7, 5, 10, 10, 14, 7, 7, 7, 7, 7, 9, 10, 10, 10, 10, 10, 10, 10, 10, 10, 10, 10, 11, 10, 10]
def lnL : List Nat := [0, 8, 0, 100, 0, 6, 6, 5, 0, 0, 0, 0, 0, 0, 6, 6, 5, 0, 0, 0, 0, 0, 2, 0, 24, 0, 6, 6, 5, 0, 0, 0, 0, 0, 0, 6, 6, 5, 0, 0, 0, 0, 0, 0, 6, 6, 5, 0, 0, 0, 0, 0, 0, 6, 6, 5, 0, 0, 0, 0, 0, 0, 6, 6, 5, 0, 0, 0, 0, 0, 0, 6, 6, 5, 0, 0, 0, 0, 0, 0, 6, 6, 5, 0, 0, 0, 0, 0, 0, 6, 6, 5, 0, 0, 0, 0, 0, 0, 6, 6, 5, 0, 0, 0, 0, 0, 0, 6, 6, 5, 0, 0, 0, 0, 0, 0, 6, 6, 5, 0, 0, 0, 0, 0, 0, 6, 6, 5, 0, 0, 0, 0, 0, 0, 6, 6, 5, 0, 0, 0, 0, 0, 0, 6, 6, 5, 0, 0, 0, 0, 0, 0, 6, 6, 5, 0, 0, 0, 0, 0, 0, 6, 6, 5, 0, 0, 0, 0, 0, 0, 6, 6, 5, 0, 0, 0, 0, 0, 0, 6, 6, 5, 0, 0, 0, 0, 0, 0, 6, 6, 5, 0, 0, 0, 0, 0, 0, 6, 6, 5, 0, 0, 0, 0, 0, 0, 6, 6, 5, 0, 0, 0, 0, 0, 0, 6, 6, 5, 0, 0, 0, 0, 0, 0, 6, 6, 5, 0, 0, 0, 0, 0, 0, 6, 6, 5, 0, 0, 0, 0, 0, 0, 0, 6, 6, 5, 0, 0, 0, 0, 0, 12, 0, 1024, 1024, 1024, 0, 16, 0, 40, 0, 40, 0, 40, 0, 40, 0, 40, 0, 40, 0, 40, 0, 40, 0, 6, 6, 5, 0, 0, 0, 0, 0, 0, 6, 6, 5, 0, 0, 0, 0, 0, 0, 8, 8, 320, 55, 55, 55, 1320, 100, 768, 768, 768, 2, 110, 16]
def kd (n : Nat) : Nat := kdL.getD n 99
def ln (n : Nat) : Nat := lnL.getD n 0
def nfL : List Nat := [3, 2, 5, 4, 3, 10, 9, 7, 12, 26]
def nf (c : Nat) : Nat := nfL.getD c 0
def isRL : List (List Bool) := [[true, false, false], [true, false], [true, true, true, false, false], [true, false, false, false], [true, true, false], [false, false, false, false, false, false, false, true, true, true], [true, false, false, false, false, false, false, false, false], [false, false, false, false, false, false, false], [true, true, true, true, true, true, true, true, true, false, false, false], [false, false, true, true, true, true, true, true, true, false, true, false, false, false, false, false, false, false, false, true, true, true, true, true, true, false]]
def isR (c k : Nat) : Bool := (isRL.getD c []).getD k false
def rf8L : List Nat := [1, 2, 4, 13, 22, 23, 241, 252, 256]
def rf9L : List Nat := [0, 0, 293, 294, 295, 296, 297, 298, 299, 0, 300, 0, 0, 0, 0, 0, 0, 0, 0, 301, 302, 303, 304, 305, 306, 0]
def rf (n k : Nat) : Nat := match kd n with
  | 5 => n + (k - 6)
  | 14 => n + 1 + k
  | 12 => 258 + 2 * k
  | 13 => if n = 22 then 274 + 9 * k else 25 + 9 * k
  | 3 => n + 1
  | 8 => rf8L.getD k 0
  | 9 => rf9L.getD k 0
  | 0 => 24
  | 4 => if k = 0 then 242 else 251
  | 2 => 253 + k
  | 1 => 257
  | 6 => 3
  | _ => 0
def fv (E : En) (σ : Sg) (n k : Nat) : Value := if isR (kd n) k then .ref (eB E + rf n k) else .int (σ n k)
def cell (E : En) (σ : Sg) (n : Nat) : va_E :=
  if kd n < 10 then .inr (kd n, (List.range (nf (kd n))).map (fv E σ n))
  else if kd n < 12 then .inl (eA E (kd n), ln n, .inl (σ n))
  else .inl (eA E (kd n), ln n, .inr (.inr (.inr (.inr (fun j => some (eB E + rf n j))))))
def ws (E : En) (σ : Sg) : va_W := (List.range 307).map (fun n => (eB E + n, cell E σ n))
theorem kd_lt {n : Nat} (h : kd n < 99) : n < 307 := by
  rcases Nat.lt_or_ge n 307 with q | q
  · exact q
  · exfalso
    have e : kd n = 99 := by
      unfold kd
      rw [List.getD_eq_getElem?_getD, List.getElem?_eq_none (Nat.le_trans (by decide +kernel) q)]
      rfl
    omega
theorem ln_lt (n : Nat) : ln n < 2 ^ 31 := by
  rcases Nat.lt_or_ge n 307 with q | q
  · exact (show ∀ n, n < 307 → ln n < 2 ^ 31 by decide +kernel) n q
  · have e : ln n = 0 := by
      unfold ln
      rw [List.getD_eq_getElem?_getD, List.getElem?_eq_none (Nat.le_trans (by decide +kernel) q)]
      rfl
    rw [e]; decide
theorem ws_at {E : En} {σ : Sg} {n : Nat} (h : n < 307) : (ws E σ)[n]? = some (eB E + n, cell E σ n) := by
  unfold ws
  rw [List.getElem?_map, List.getElem?_range h]
  rfl
theorem ws_len {E : En} {σ : Sg} : (ws E σ).length = 307 := by unfold ws; rw [List.length_map, List.length_range]
theorem ws_out {E : En} {σ : Sg} {k : Nat} {q : Nat × va_E} (h : (ws E σ)[k]? = some q) : k < 307 ∧ q = (eB E + k, cell E σ k) := by
  have hk := (List.getElem?_eq_some_iff.mp h).1
  rw [ws_len] at hk
  rw [ws_at hk] at h
  exact ⟨hk, (Option.some.inj h).symm⟩
theorem ws_D (E : En) (σ : Sg) : va_D (fun q => eB E ≤ q) (ws E σ) := by
  refine ⟨fun i j p q hi hj he => ?_, fun k q hk => ?_⟩
  · obtain ⟨-, rfl⟩ := ws_out hi
    obtain ⟨-, rfl⟩ := ws_out hj
    have e : eB E + i = eB E + j := he
    omega
  · obtain ⟨-, rfl⟩ := ws_out hk
    exact Nat.le_add_right _ _
theorem ws_set {E : En} {σ σ' : Sg} {n : Nat} {e : va_E} (h : n < 307) (hc : ∀ m, m ≠ n → cell E σ' m = cell E σ m) (he : cell E σ' n = e) : (ws E σ).set n (eB E + n, e) = ws E σ' := by
  apply List.ext_getElem?
  intro k
  rw [List.getElem?_set]
  by_cases hk : n = k
  · subst hk
    rw [if_pos rfl, ws_len, if_pos h, ws_at h, he]
  · rw [if_neg hk]
    rcases Nat.lt_or_ge k 307 with q | q
    · rw [ws_at q, ws_at q, hc k (fun e => hk e.symm)]
    · rw [List.getElem?_eq_none (by rw [ws_len]; exact q), List.getElem?_eq_none (by rw [ws_len]; exact q)]
theorem up2_ne {σ : Sg} {a k : Nat} {x : Int32} {b : Nat} (h : b ≠ a) : up2 σ a k x b = σ b := by funext j; unfold up2; rw [if_neg (fun q => h q.1)]
theorem up2_at {σ : Sg} {a k : Nat} {x : Int32} : up2 σ a k x a k = x := by unfold up2; rw [if_pos ⟨rfl, rfl⟩]
theorem up2_k {σ : Sg} {a k : Nat} {x : Int32} {b j : Nat} (h : j ≠ k) : up2 σ a k x b j = σ b j := by unfold up2; rw [if_neg (fun q => h q.2)]
theorem up2_self {σ : Sg} {a k : Nat} {x : Int32} : up2 σ a k x a = upd (σ a) k x := by
  funext j
  unfold up2 upd
  by_cases h : j = k
  · rw [if_pos ⟨rfl, h⟩, if_pos h]
  · rw [if_neg (fun q => h q.2), if_neg h]
theorem cell_ne {E : En} {σ : Sg} {a k : Nat} {x : Int32} {b : Nat} (h : b ≠ a) : cell E (up2 σ a k x) b = cell E σ b := by
  have e : fv E (up2 σ a k x) b = fv E σ b := by funext j; unfold fv; rw [up2_ne h]
  unfold cell
  rw [e, up2_ne h]

def tys (E : En) : List (ClassId × FieldType) := [(eA E 10, .int), (eA E 11, .boolean), (eA E 12, .object RX3), (eA E 13, .object RX5), (eA E 14, .object RX7)]
def sN (i : Nat) : String := match i with | 0 => "SIZE_BODIES" | 1 => "MARK_BODIES" | _ => "KINDS_IT_IS"
def sT (i : Nat) : Nat → Int32 := match i with | 0 => fun j => [10, 11, 12, 11, 13, 14].getD j 0 | 1 => fun j => [20, 21, 24, 22, 23, 23].getD j 0 | _ => fun j => [1, 3, 7, 11, 17, 49].getD j 0
def sx (E : En) (U : State) : Prop := ∀ i, i < 3 → va_Z RX1 (sN i) "[I" (.ref (eS E i)) (fun q => eB E ≤ q) U U.heap ∧ va_T .int (eS E i) 6 (fun j => .int (sT i j)) (fun q => eB E ≤ q) U U.heap
def cx (E : En) (U : State) : Prop := va_K (eD E) vwCl (tys E) U ∧ (∀ a i x h, Cond.methodLinkNest a i x h ∈ lw_tbl → va_Nw (.methodLinkNest a i x h) U) ∧ sx E U
def b01 (x : Int32) : Prop := x = 0 ∨ x = 1
def isZ (c k : Nat) : Bool := (c == 3 && k == 1) || (c == 7 && (k == 5 || k == 6)) || c == 11
def BZ (σ : Sg) : Prop := ∀ a k, isZ (kd a) k = true → b01 (σ a k)
theorem BZ.up {σ : Sg} {a k : Nat} {x : Int32} (h : BZ σ) (hx : isZ (kd a) k = true → b01 x) : BZ (up2 σ a k x) := by
  intro b j hb
  unfold up2
  split
  · rename_i q
    obtain ⟨rfl, rfl⟩ := q
    exact hx hb
  · exact h b j hb
def wdU (E : En) (σ : Sg) (U : State) : Prop := BZ σ ∧ va_P (eD E) vwCl (ws E σ) U.heap ∧ cx E U
def Qc (E : En) (P : Sg → Option Value → Prop) : Array Value → State → Outcome → State → Prop := fun _ st o t => (∃ (σ' : Sg) (v : Option Value), o = .returned v ∧ P σ' v ∧ wdU E σ' t) ∧ va_F (fun q => eB E ≤ q) st t
theorem cx_moved {E : En} {s U : State} {locs : List Loc} (hW : s.WarmedH U.vm) (hS : va_S (fun q => eB E ≤ q) s.heap U.heap locs) (h : cx E s) : cx E U := by
  obtain ⟨h1, h2, h3⟩ := h
  refine ⟨h1.moved hW.alike, fun a i x hh hm => va_Nw.warmM hW (h2 a i x hh hm), fun i hi => ?_⟩
  obtain ⟨z, t⟩ := h3 i hi
  exact ⟨(z.moved hW.alike).kept hS.2.1, (t.moved hW.alike).kept hS.2.1⟩
abbrev Kk : Type := Room × Nat × Nat × (List Frame → Array Value → State → State → Prop) × (Array Value → State → Prop)
def rmD (d : Nat) : Room := { frames := d, cells := 0, slots := 0, locals := 64 * d }
def kM (E : En) (d : Nat) (P : Sg → Option Value → Prop) : Kk := (rmD d, 0, 0, fun below args s => MQ below (Qc E P) args s 0 0 (fun q => eB E ≤ q), fun _ _ => True)
def Cx (E : En) (M : Mi) (K : Kk) (p : Program) (s : State) (m : MethodId) (args : Array Value) (meth : Method) (c : Code) : Prop :=
  p.tables.exec = Jvm.exec ∧ c.code = M.2.1 ∧ c.maxLocals = M.2.2.1 ∧ s.vm.findClass M.1.cls = some m.cls ∧ (∀ w ∈ gw, w.before args s = true) ∧ meth.sig.returnType = M.2.2.2 ∧ meth.locks = false ∧ cx E s ∧ K.2.2.2.2 args s
def lo (ls : Array Slot) (n : Nat) (L : List (Option Value)) : Prop := ls.size = n ∧ lv_wf ls ∧ ∀ (j : Nat) (w : Value), L[j]? = some (some w) → ls[j]? = some (.val w)
/-- THE JUDGEMENT: from this frame, with the world σ, the method comes to its end as K asks -/
def V (E : En) (M : Mi) (K : Kk) (pc : Nat) (L : List (Option Value)) (st : List Value) (σ : Sg) : Prop :=
  ∀ (p : Program) (l : Launch) (e : Env) (s : State) (m : MethodId) (args : Array Value) (below : List Frame) (meth : Method) (c : Code) (H : Heap) (locs : List Loc) (ls : Array Slot),
    Cx E M K p s m args meth c → BZ σ → va_P (eD E) vwCl (ws E σ) H → va_S (fun q => eB E ≤ q) s.heap H locs → lo ls M.2.2.1 L →
    W p l e K.1 s m args below meth c H locs K.2.1 K.2.2.1 (K.2.2.2.1 below args s) (F0 m pc ls st)
/-- A CONTRACT -/
def Cn (E : En) (M : Mi) (d : Nat) (av : List Value) (σ : Sg) (P : Sg → Option Value → Prop) : Prop :=
  ∀ l : Launch, Met l M.1 (Cond.code M.1 M.2.1 M.2.2.1 M.2.2.2 :: gw) (rmD d) (va_Pc av (fun U => wdU E σ U)) (Qc E P) 0 0 (fun q => eB E ≤ q)
def pI (Q : Sg → Int32 → Prop) : Sg → Option Value → Prop := fun σ v => ∃ r, v = some (.int r) ∧ Q σ r
def pJ (Q : Sg → Int64 → Prop) : Sg → Option Value → Prop := fun σ v => ∃ r, v = some (.long r) ∧ Q σ r
def pR (E : En) (Q : Sg → Nat → Prop) : Sg → Option Value → Prop := fun σ v => ∃ r, v = some (.ref (eB E + r)) ∧ Q σ r
def pV (Q : Sg → Prop) : Sg → Option Value → Prop := fun σ v => v = none ∧ Q σ
def lvl : Nat → List (Option Value) → List (Nat × Value)
  | _, [] => []
  | i, some v :: t => (i, v) :: lvl (i + 1) t
  | i, none :: t => lvl (i + 1) t
theorem lvl_in : ∀ (L : List (Option Value)) (i j : Nat) (w : Value), L[j]? = some (some w) → (i + j, w) ∈ lvl i L
  | [], _, _, _, h => by simp at h
  | some v :: t, i, 0, w, h => by
    simp at h
    subst h
    exact List.mem_cons_self
  | some v :: t, i, j + 1, w, h => by
    have := lvl_in t (i + 1) j w (by simpa using h)
    rw [show i + (j + 1) = i + 1 + j by omega]
    exact List.mem_cons_of_mem _ this
  | none :: t, i, 0, w, h => by simp at h
  | none :: t, i, j + 1, w, h => by
    have := lvl_in t (i + 1) j w (by simpa using h)
    rw [show i + (j + 1) = i + 1 + j by omega]
    exact this
theorem lvl_out : ∀ (L : List (Option Value)) (i : Nat) (q : Nat × Value), q ∈ lvl i L → ∃ j, q.1 = i + j ∧ L[j]? = some (some q.2)
  | [], _, _, h => by simp [lvl] at h
  | some v :: t, i, q, h => by
    rcases List.mem_cons.mp h with rfl | h
    · exact ⟨0, rfl, rfl⟩
    · obtain ⟨j, h1, h2⟩ := lvl_out t (i + 1) q h
      exact ⟨j + 1, by omega, by simpa using h2⟩
  | none :: t, i, q, h => by
    obtain ⟨j, h1, h2⟩ := lvl_out t (i + 1) q h
    exact ⟨j + 1, by omega, by simpa using h2⟩
theorem lo.has {ls : Array Slot} {n : Nat} {L : List (Option Value)} (h : lo ls n L) : lv_has ls n (lvl 0 L) := by
  refine ⟨h.1, h.2.1, fun q hq => ?_⟩
  obtain ⟨j, h1, h2⟩ := lvl_out L 0 q hq
  have := h.2.2 j q.2 h2
  rw [show q.1 = j by omega]
  exact this
theorem lo.of {ls : Array Slot} {n : Nat} {L : List (Option Value)} {lv : List (Nat × Value)} (h : lv_has ls n lv) (hL : lvl 0 L = lv) : lo ls n L := by
  refine ⟨h.1, h.2.1, fun j w hj => ?_⟩
  have := lvl_in L 0 j w hj
  rw [hL, Nat.zero_add] at this
  exact h.2.2 _ this
/-- the places before and at a store -/
def lck (L : List (Option Value)) (i : Nat) : Bool := match i with
  | 0 => true
  | k + 1 => match L[k]? with
    | some (some w) => w.category != 2
    | _ => true
def lset1 (n : Nat) (L : List (Option Value)) (i : Nat) (v : Value) : Option (List (Option Value)) := if (Nat.blt i n && lck L i) = true then some (L.set i (some v)) else none
def lset2 (n : Nat) (L : List (Option Value)) (i : Nat) (v : Value) : Option (List (Option Value)) := if (Nat.blt (i + 1) n && lck L i) = true then some ((L.set i (some v)).set (i + 1) none) else none
theorem lck_ok {L : List (Option Value)} {i j : Nat} {w : Value} (h : lck L i = true) (hj : L[j]? = some (some w)) (e : j + 1 = i) : ¬ w.category = 2 := by
  subst e
  simp only [lck, hj] at h
  simpa using h
theorem lo.set1 {ls ls' : Array Slot} {n : Nat} {L L' : List (Option Value)} {i : Nat} {v : Value} (hL : lset1 n L i v = some L') (h : lv_has ls' n ((i, v) :: (lvl 0 L).filter (fun q => !(q.1 == i) && !(q.1 + 1 == i && q.2.category == 2)))) : lo ls' n L' := by
  unfold lset1 at hL
  split at hL
  · rename_i hc
    rw [Bool.and_eq_true] at hc
    obtain rfl := (Option.some.inj hL).symm
    refine ⟨h.1, h.2.1, fun j w hj => ?_⟩
    rw [List.getElem?_set] at hj
    by_cases e : i = j
    · subst e
      rw [if_pos rfl] at hj
      split at hj
      · obtain rfl := Option.some.inj (Option.some.inj hj)
        exact h.2.2 _ List.mem_cons_self
      · cases hj
    · rw [if_neg e] at hj
      refine h.2.2 (j, w) (List.mem_cons_of_mem _ (List.mem_filter.mpr ⟨?_, ?_⟩))
      · have := lvl_in L 0 j w hj
        rwa [Nat.zero_add] at this
      · have hne : ¬ j = i := fun q => e q.symm
        by_cases e2 : j + 1 = i
        · have := lck_ok hc.2 hj e2
          simp [hne, e2, this]
        · simp [hne, e2]
  · cases hL
theorem lo.set2 {ls ls' : Array Slot} {n : Nat} {L L' : List (Option Value)} {i : Nat} {v : Value} (hL : lset2 n L i v = some L') (h : lv_has ls' n ((i, v) :: (lvl 0 L).filter (fun q => !(q.1 == i) && (!(q.1 == i + 1) && !(q.1 + 1 == i && q.2.category == 2))))) : lo ls' n L' := by
  unfold lset2 at hL
  split at hL
  · rename_i hc
    rw [Bool.and_eq_true] at hc
    obtain rfl := (Option.some.inj hL).symm
    refine ⟨h.1, h.2.1, fun j w hj => ?_⟩
    rw [List.getElem?_set] at hj
    by_cases e1 : i + 1 = j
    · subst e1
      rw [if_pos rfl] at hj
      split at hj
      · cases hj
      · cases hj
    rw [if_neg e1, List.getElem?_set] at hj
    by_cases e : i = j
    · subst e
      rw [if_pos rfl] at hj
      split at hj
      · obtain rfl := Option.some.inj (Option.some.inj hj)
        exact h.2.2 _ List.mem_cons_self
      · cases hj
    · rw [if_neg e] at hj
      refine h.2.2 (j, w) (List.mem_cons_of_mem _ (List.mem_filter.mpr ⟨?_, ?_⟩))
      · have := lvl_in L 0 j w hj
        rwa [Nat.zero_add] at this
      · have hne : ¬ j = i := fun q => e q.symm
        have hne1 : ¬ j = i + 1 := fun q => e1 q.symm
        by_cases e2 : j + 1 = i
        · have := lck_ok hc.2 hj e2
          simp [hne, hne1, e2, this]
        · simp [hne, hne1, e2]
  · cases hL
theorem lset1_lt {n : Nat} {L L' : List (Option Value)} {i : Nat} {v : Value} (h : lset1 n L i v = some L') : i < n := by
  unfold lset1 at h
  split at h
  · rename_i hc
    rw [Bool.and_eq_true] at hc
    exact Nat.blt_eq.mp hc.1
  · cases h
theorem lset2_lt {n : Nat} {L L' : List (Option Value)} {i : Nat} {v : Value} (h : lset2 n L i v = some L') : i + 1 < n := by
  unfold lset2 at h
  split at h
  · rename_i hc
    rw [Bool.and_eq_true] at hc
    exact Nat.blt_eq.mp hc.1
  · cases h
section VR
variable {E : En} {M : Mi} {K : Kk} {pc nx : Nat} {L L' : List (Option Value)} {st : List Value} {σ : Sg}
theorem V_iadd {x y : Int32} (h : dq M pc (.iadd) 1 nx) (k : V E M K nx L (.int (x + y) :: st) σ) : V E M K pc L (.int y :: .int x :: st) σ := by
  obtain ⟨h1, rfl⟩ := h
  intro p l e s m args below meth c H locs ls C hZ hP hS hl
  exact lv_iadd C.1 C.2.1 h1 (k p l e s m args below meth c H locs ls C hZ hP hS hl)
theorem V_isub {x y : Int32} (h : dq M pc (.isub) 1 nx) (k : V E M K nx L (.int (x - y) :: st) σ) : V E M K pc L (.int y :: .int x :: st) σ := by
  obtain ⟨h1, rfl⟩ := h
  intro p l e s m args below meth c H locs ls C hZ hP hS hl
  exact lv_isub C.1 C.2.1 h1 (k p l e s m args below meth c H locs ls C hZ hP hS hl)
theorem V_imul {x y : Int32} (h : dq M pc (.imul) 1 nx) (k : V E M K nx L (.int (x * y) :: st) σ) : V E M K pc L (.int y :: .int x :: st) σ := by
  obtain ⟨h1, rfl⟩ := h
  intro p l e s m args below meth c H locs ls C hZ hP hS hl
  exact lv_imul C.1 C.2.1 h1 (k p l e s m args below meth c H locs ls C hZ hP hS hl)
theorem V_iand {x y : Int32} (h : dq M pc (.iand) 1 nx) (k : V E M K nx L (.int (x &&& y) :: st) σ) : V E M K pc L (.int y :: .int x :: st) σ := by
  obtain ⟨h1, rfl⟩ := h
  intro p l e s m args below meth c H locs ls C hZ hP hS hl
  exact lv_iand C.1 C.2.1 h1 (k p l e s m args below meth c H locs ls C hZ hP hS hl)
theorem V_ior {x y : Int32} (h : dq M pc (.ior) 1 nx) (k : V E M K nx L (.int (x ||| y) :: st) σ) : V E M K pc L (.int y :: .int x :: st) σ := by
  obtain ⟨h1, rfl⟩ := h
  intro p l e s m args below meth c H locs ls C hZ hP hS hl
  exact lv_ior C.1 C.2.1 h1 (k p l e s m args below meth c H locs ls C hZ hP hS hl)
theorem V_ixor {x y : Int32} (h : dq M pc (.ixor) 1 nx) (k : V E M K nx L (.int (x ^^^ y) :: st) σ) : V E M K pc L (.int y :: .int x :: st) σ := by
  obtain ⟨h1, rfl⟩ := h
  intro p l e s m args below meth c H locs ls C hZ hP hS hl
  exact lv_ixor C.1 C.2.1 h1 (k p l e s m args below meth c H locs ls C hZ hP hS hl)
theorem V_ishl {x y : Int32} (h : dq M pc (.ishl) 1 nx) (k : V E M K nx L (.int (x <<< (y &&& 31)) :: st) σ) : V E M K pc L (.int y :: .int x :: st) σ := by
  obtain ⟨h1, rfl⟩ := h
  intro p l e s m args below meth c H locs ls C hZ hP hS hl
  exact lv_ishl C.1 C.2.1 h1 (k p l e s m args below meth c H locs ls C hZ hP hS hl)
theorem V_ishr {x y : Int32} (h : dq M pc (.ishr) 1 nx) (k : V E M K nx L (.int (x >>> (y &&& 31)) :: st) σ) : V E M K pc L (.int y :: .int x :: st) σ := by
  obtain ⟨h1, rfl⟩ := h
  intro p l e s m args below meth c H locs ls C hZ hP hS hl
  exact lv_ishr C.1 C.2.1 h1 (k p l e s m args below meth c H locs ls C hZ hP hS hl)
theorem V_ineg {x : Int32} (h : dq M pc (.ineg) 1 nx) (k : V E M K nx L (.int (-x) :: st) σ) : V E M K pc L (.int x :: st) σ := by
  obtain ⟨h1, rfl⟩ := h
  intro p l e s m args below meth c H locs ls C hZ hP hS hl
  exact lv_ineg C.1 C.2.1 h1 (k p l e s m args below meth c H locs ls C hZ hP hS hl)
theorem V_idiv {x y : Int32} (h : dq M pc (.idiv) 1 nx) (hne : ¬ y = 0) (k : V E M K nx L (.int (x / y) :: st) σ) : V E M K pc L (.int y :: .int x :: st) σ := by
  obtain ⟨h1, rfl⟩ := h
  intro p l e s m args below meth c H locs ls C hZ hP hS hl
  exact lv_idiv C.1 C.2.1 h1 hne (k p l e s m args below meth c H locs ls C hZ hP hS hl)
theorem V_irem {x y : Int32} (h : dq M pc (.irem) 1 nx) (hne : ¬ y = 0) (k : V E M K nx L (.int (x - x / y * y) :: st) σ) : V E M K pc L (.int y :: .int x :: st) σ := by
  obtain ⟨h1, rfl⟩ := h
  intro p l e s m args below meth c H locs ls C hZ hP hS hl
  exact lv_irem C.1 C.2.1 h1 hne (k p l e s m args below meth c H locs ls C hZ hP hS hl)
theorem V_ladd {x y : Int64} (h : dq M pc (.ladd) 1 nx) (k : V E M K nx L (.long (x + y) :: st) σ) : V E M K pc L (.long y :: .long x :: st) σ := by
  obtain ⟨h1, rfl⟩ := h
  intro p l e s m args below meth c H locs ls C hZ hP hS hl
  exact lv_ladd C.1 C.2.1 h1 (k p l e s m args below meth c H locs ls C hZ hP hS hl)
theorem V_lsub {x y : Int64} (h : dq M pc (.lsub) 1 nx) (k : V E M K nx L (.long (x - y) :: st) σ) : V E M K pc L (.long y :: .long x :: st) σ := by
  obtain ⟨h1, rfl⟩ := h
  intro p l e s m args below meth c H locs ls C hZ hP hS hl
  exact lv_lsub C.1 C.2.1 h1 (k p l e s m args below meth c H locs ls C hZ hP hS hl)
theorem V_lmul {x y : Int64} (h : dq M pc (.lmul) 1 nx) (k : V E M K nx L (.long (x * y) :: st) σ) : V E M K pc L (.long y :: .long x :: st) σ := by
  obtain ⟨h1, rfl⟩ := h
  intro p l e s m args below meth c H locs ls C hZ hP hS hl
  exact lv_lmul C.1 C.2.1 h1 (k p l e s m args below meth c H locs ls C hZ hP hS hl)
theorem V_ldiv {x y : Int64} (h : dq M pc (.ldiv) 1 nx) (hne : ¬ y = 0) (k : V E M K nx L (.long (x / y) :: st) σ) : V E M K pc L (.long y :: .long x :: st) σ := by
  obtain ⟨h1, rfl⟩ := h
  intro p l e s m args below meth c H locs ls C hZ hP hS hl
  exact lv_ldiv C.1 C.2.1 h1 hne (k p l e s m args below meth c H locs ls C hZ hP hS hl)
theorem V_lrem {x y : Int64} (h : dq M pc (.lrem) 1 nx) (hne : ¬ y = 0) (k : V E M K nx L (.long (x - x / y * y) :: st) σ) : V E M K pc L (.long y :: .long x :: st) σ := by
  obtain ⟨h1, rfl⟩ := h
  intro p l e s m args below meth c H locs ls C hZ hP hS hl
  exact lv_lrem C.1 C.2.1 h1 hne (k p l e s m args below meth c H locs ls C hZ hP hS hl)
theorem V_iushr {x y v : Int32} (h : dq M pc (.iushr) 1 nx) (hv : (x.toUInt32 >>> (y.toUInt32 &&& Int32.toUInt32 31)).toInt32 = v) (k : V E M K nx L (.int v :: st) σ) : V E M K pc L (.int y :: .int x :: st) σ := by
  obtain ⟨h1, rfl⟩ := h
  intro p l e s m args below meth c H locs ls C hZ hP hS hl
  exact lv_iushr C.1 C.2.1 h1 hv (k p l e s m args below meth c H locs ls C hZ hP hS hl)
theorem V_i2l {x : Int32} (h : dq M pc (.i2l) 1 nx) (k : V E M K nx L (.long x.toInt64 :: st) σ) : V E M K pc L (.int x :: st) σ := by
  obtain ⟨h1, rfl⟩ := h
  intro p l e s m args below meth c H locs ls C hZ hP hS hl
  exact lv_i2l C.1 C.2.1 h1 rfl (k p l e s m args below meth c H locs ls C hZ hP hS hl)
theorem V_l2i {x : Int64} (h : dq M pc (.l2i) 1 nx) (k : V E M K nx L (.int x.toInt32 :: st) σ) : V E M K pc L (.long x :: st) σ := by
  obtain ⟨h1, rfl⟩ := h
  intro p l e s m args below meth c H locs ls C hZ hP hS hl
  exact lv_l2i C.1 C.2.1 h1 rfl (k p l e s m args below meth c H locs ls C hZ hP hS hl)
theorem V_i2b {x : Int32} (h : dq M pc (.i2b) 1 nx) (k : V E M K nx L (.int x.toInt8.toInt32 :: st) σ) : V E M K pc L (.int x :: st) σ := by
  obtain ⟨h1, rfl⟩ := h
  intro p l e s m args below meth c H locs ls C hZ hP hS hl
  exact lv_i2b C.1 C.2.1 h1 rfl (k p l e s m args below meth c H locs ls C hZ hP hS hl)
theorem V_i2s {x : Int32} (h : dq M pc (.i2s) 1 nx) (k : V E M K nx L (.int x.toInt16.toInt32 :: st) σ) : V E M K pc L (.int x :: st) σ := by
  obtain ⟨h1, rfl⟩ := h
  intro p l e s m args below meth c H locs ls C hZ hP hS hl
  exact lv_i2s C.1 C.2.1 h1 rfl (k p l e s m args below meth c H locs ls C hZ hP hS hl)
theorem V_iconst {n : Int} {v : Int32} (h : dq M pc (.iconst n) 1 nx) (hv : Int32.ofInt n = v) (k : V E M K nx L (.int v :: st) σ) : V E M K pc L (st) σ := by
  obtain ⟨h1, rfl⟩ := h
  intro p l e s m args below meth c H locs ls C hZ hP hS hl
  exact lv_iconst C.1 C.2.1 h1 hv (k p l e s m args below meth c H locs ls C hZ hP hS hl)
theorem V_bipush {n : Int} {v : Int32} (h : dq M pc (.bipush n) 2 nx) (hv : (Int8.ofInt n).toInt32 = v) (k : V E M K nx L (.int v :: st) σ) : V E M K pc L (st) σ := by
  obtain ⟨h1, rfl⟩ := h
  intro p l e s m args below meth c H locs ls C hZ hP hS hl
  exact lv_bipush C.1 C.2.1 h1 hv (k p l e s m args below meth c H locs ls C hZ hP hS hl)
theorem V_sipush {n : Int} {v : Int32} (h : dq M pc (.sipush n) 3 nx) (hv : (Int16.ofInt n).toInt32 = v) (k : V E M K nx L (.int v :: st) σ) : V E M K pc L (st) σ := by
  obtain ⟨h1, rfl⟩ := h
  intro p l e s m args below meth c H locs ls C hZ hP hS hl
  exact lv_sipush C.1 C.2.1 h1 hv (k p l e s m args below meth c H locs ls C hZ hP hS hl)
theorem V_lconst {n : Fin 2} {v : Int64} (h : dq M pc (.lconst n) 1 nx) (hv : Int64.ofNat (n : Nat) = v) (k : V E M K nx L (.long v :: st) σ) : V E M K pc L (st) σ := by
  obtain ⟨h1, rfl⟩ := h
  intro p l e s m args below meth c H locs ls C hZ hP hS hl
  exact lv_lconst C.1 C.2.1 h1 hv (k p l e s m args below meth c H locs ls C hZ hP hS hl)
theorem V_dup {a : Value} (h : dq M pc (.dup) 1 nx) (ha : a.category = 1) (k : V E M K nx L (a :: a :: st) σ) : V E M K pc L (a :: st) σ := by
  obtain ⟨h1, rfl⟩ := h
  intro p l e s m args below meth c H locs ls C hZ hP hS hl
  exact lv_dup C.1 C.2.1 h1 ha (k p l e s m args below meth c H locs ls C hZ hP hS hl)
theorem V_pop {a : Value} (h : dq M pc (.pop) 1 nx) (ha : a.category = 1) (k : V E M K nx L (st) σ) : V E M K pc L (a :: st) σ := by
  obtain ⟨h1, rfl⟩ := h
  intro p l e s m args below meth c H locs ls C hZ hP hS hl
  exact lv_pop C.1 C.2.1 h1 ha (k p l e s m args below meth c H locs ls C hZ hP hS hl)
theorem V_dup2 {a b : Value} (h : dq M pc (.dup2) 1 nx) (ha : a.category = 1) (hb : b.category = 1) (k : V E M K nx L (a :: b :: a :: b :: st) σ) : V E M K pc L (a :: b :: st) σ := by
  obtain ⟨h1, rfl⟩ := h
  intro p l e s m args below meth c H locs ls C hZ hP hS hl
  exact lv_dup2_11 C.1 C.2.1 h1 ha hb (k p l e s m args below meth c H locs ls C hZ hP hS hl)
theorem V_iload_n {j : Fin 4} {i : Nat} {x : Int32} (h : dq M pc (.iload_n j) 1 nx) (hi : (j : Nat) = i) (hx : L[i]? = some (some (.int x))) (k : V E M K nx L (.int x :: st) σ) : V E M K pc L (st) σ := by
  obtain ⟨h1, rfl⟩ := h
  intro p l e s m args below meth c H locs ls C hZ hP hS hl
  exact lv_iload_n C.1 C.2.1 h1 hi (hl.2.2 i _ hx) (k p l e s m args below meth c H locs ls C hZ hP hS hl)
theorem V_iload {i : Nat} {x : Int32} (h : dq M pc (.iload i) 2 nx) (hx : L[i]? = some (some (.int x))) (k : V E M K nx L (.int x :: st) σ) : V E M K pc L (st) σ := by
  obtain ⟨h1, rfl⟩ := h
  intro p l e s m args below meth c H locs ls C hZ hP hS hl
  exact lv_iload C.1 C.2.1 h1 (hl.2.2 i _ hx) (k p l e s m args below meth c H locs ls C hZ hP hS hl)
theorem V_lload_n {j : Fin 4} {i : Nat} {x : Int64} (h : dq M pc (.lload_n j) 1 nx) (hi : (j : Nat) = i) (hx : L[i]? = some (some (.long x))) (k : V E M K nx L (.long x :: st) σ) : V E M K pc L (st) σ := by
  obtain ⟨h1, rfl⟩ := h
  intro p l e s m args below meth c H locs ls C hZ hP hS hl
  exact lv_lload_n C.1 C.2.1 h1 hi (hl.2.2 i _ hx) (k p l e s m args below meth c H locs ls C hZ hP hS hl)
theorem V_lload {i : Nat} {x : Int64} (h : dq M pc (.lload i) 2 nx) (hx : L[i]? = some (some (.long x))) (k : V E M K nx L (.long x :: st) σ) : V E M K pc L (st) σ := by
  obtain ⟨h1, rfl⟩ := h
  intro p l e s m args below meth c H locs ls C hZ hP hS hl
  exact lv_lload C.1 C.2.1 h1 (hl.2.2 i _ hx) (k p l e s m args below meth c H locs ls C hZ hP hS hl)
theorem V_aload_n {j : Fin 4} {i : Nat} {x : Nat} (h : dq M pc (.aload_n j) 1 nx) (hi : (j : Nat) = i) (hx : L[i]? = some (some (.ref x))) (k : V E M K nx L (.ref x :: st) σ) : V E M K pc L (st) σ := by
  obtain ⟨h1, rfl⟩ := h
  intro p l e s m args below meth c H locs ls C hZ hP hS hl
  exact lv_aload_n C.1 C.2.1 h1 hi (hl.2.2 i _ hx) (k p l e s m args below meth c H locs ls C hZ hP hS hl)
theorem V_aload {i : Nat} {x : Nat} (h : dq M pc (.aload i) 2 nx) (hx : L[i]? = some (some (.ref x))) (k : V E M K nx L (.ref x :: st) σ) : V E M K pc L (st) σ := by
  obtain ⟨h1, rfl⟩ := h
  intro p l e s m args below meth c H locs ls C hZ hP hS hl
  exact lv_aload C.1 C.2.1 h1 (hl.2.2 i _ hx) (k p l e s m args below meth c H locs ls C hZ hP hS hl)
theorem V_istore_n {j : Fin 4} {i : Nat} {x : Int32} (h : dq M pc (.istore_n j) 1 nx) (hi : (j : Nat) = i) (hL : lset1 M.2.2.1 L i (.int x) = some L') (k : V E M K nx L' st σ) : V E M K pc L (.int x :: st) σ := by
  obtain ⟨h1, rfl⟩ := h
  intro p l e s m args below meth c H locs ls C hZ hP hS hl
  exact lv_istore_n C.1 C.2.1 h1 hi hl.has (lset1_lt hL) rfl (fun ls2 h2 => k p l e s m args below meth c H locs ls2 C hZ hP hS (lo.set1 (ls := ls) hL h2))
theorem V_istore {i : Nat} {x : Int32} (h : dq M pc (.istore i) 2 nx) (hL : lset1 M.2.2.1 L i (.int x) = some L') (k : V E M K nx L' st σ) : V E M K pc L (.int x :: st) σ := by
  obtain ⟨h1, rfl⟩ := h
  intro p l e s m args below meth c H locs ls C hZ hP hS hl
  exact lv_istore C.1 C.2.1 h1 hl.has (lset1_lt hL) rfl (fun ls2 h2 => k p l e s m args below meth c H locs ls2 C hZ hP hS (lo.set1 (ls := ls) hL h2))
theorem V_lstore_n {j : Fin 4} {i : Nat} {x : Int64} (h : dq M pc (.lstore_n j) 1 nx) (hi : (j : Nat) = i) (hL : lset2 M.2.2.1 L i (.long x) = some L') (k : V E M K nx L' st σ) : V E M K pc L (.long x :: st) σ := by
  obtain ⟨h1, rfl⟩ := h
  intro p l e s m args below meth c H locs ls C hZ hP hS hl
  exact lv_lstore_n C.1 C.2.1 h1 hi hl.has (lset2_lt hL) rfl (fun ls2 h2 => k p l e s m args below meth c H locs ls2 C hZ hP hS (lo.set2 (ls := ls) hL h2))
theorem V_lstore {i : Nat} {x : Int64} (h : dq M pc (.lstore i) 2 nx) (hL : lset2 M.2.2.1 L i (.long x) = some L') (k : V E M K nx L' st σ) : V E M K pc L (.long x :: st) σ := by
  obtain ⟨h1, rfl⟩ := h
  intro p l e s m args below meth c H locs ls C hZ hP hS hl
  exact lv_lstore C.1 C.2.1 h1 hl.has (lset2_lt hL) rfl (fun ls2 h2 => k p l e s m args below meth c H locs ls2 C hZ hP hS (lo.set2 (ls := ls) hL h2))
theorem V_astore_n {j : Fin 4} {i : Nat} {x : Nat} (h : dq M pc (.astore_n j) 1 nx) (hi : (j : Nat) = i) (hL : lset1 M.2.2.1 L i (.ref x) = some L') (k : V E M K nx L' st σ) : V E M K pc L (.ref x :: st) σ := by
  obtain ⟨h1, rfl⟩ := h
  intro p l e s m args below meth c H locs ls C hZ hP hS hl
  exact lv_astore_n C.1 C.2.1 h1 hi hl.has (lset1_lt hL) rfl (fun ls2 h2 => k p l e s m args below meth c H locs ls2 C hZ hP hS (lo.set1 (ls := ls) hL h2))
theorem V_astore {i : Nat} {x : Nat} (h : dq M pc (.astore i) 2 nx) (hL : lset1 M.2.2.1 L i (.ref x) = some L') (k : V E M K nx L' st σ) : V E M K pc L (.ref x :: st) σ := by
  obtain ⟨h1, rfl⟩ := h
  intro p l e s m args below meth c H locs ls C hZ hP hS hl
  exact lv_astore C.1 C.2.1 h1 hl.has (lset1_lt hL) rfl (fun ls2 h2 => k p l e s m args below meth c H locs ls2 C hZ hP hS (lo.set1 (ls := ls) hL h2))
theorem V_iinc {i : Nat} {n : Int} {x v : Int32} (h : dq M pc (.iinc i n) 3 nx) (hx : L[i]? = some (some (.int x))) (hv : x + Int32.ofInt n = v) (hL : lset1 M.2.2.1 L i (.int v) = some L') (k : V E M K nx L' st σ) : V E M K pc L st σ := by
  obtain ⟨h1, rfl⟩ := h
  intro p l e s m args below meth c H locs ls C hZ hP hS hl
  have hm := lvl_in L 0 i _ hx
  rw [Nat.zero_add] at hm
  obtain ⟨kk, hkk⟩ := List.getElem?_of_mem hm
  exact lv_iinc C.1 C.2.1 h1 hl.has hkk hv (lset1_lt hL) rfl (fun ls2 h2 => k p l e s m args below meth c H locs ls2 C hZ hP hS (lo.set1 (ls := ls) hL h2))
theorem V_goto {off : Int} {tgt : Nat} (h : dq M pc (.goto off) 3 nx) (ht : (pc : Int) + off = (tgt : Int)) (k : V E M K tgt L st σ) : V E M K pc L st σ := by
  obtain ⟨h1, rfl⟩ := h
  intro p l e s m args below meth c H locs ls C hZ hP hS hl
  exact lv_goto C.1 C.2.1 h1 ht (k p l e s m args below meth c H locs ls C hZ hP hS hl)
theorem V_if_eq {x : Int32} {off : Int} {tgt : Nat} (h : dq M pc (.ifCond .eq off) 3 nx) (ht : (pc : Int) + off = (tgt : Int)) (kt : x = 0 → V E M K tgt L st σ) (kf : ¬ x = 0 → V E M K nx L st σ) : V E M K pc L (.int x :: st) σ := by
  obtain ⟨h1, rfl⟩ := h
  intro p l e s m args below meth c H locs ls C hZ hP hS hl
  exact lv_if_eq C.1 C.2.1 h1 ht (fun z => kt z p l e s m args below meth c H locs ls C hZ hP hS hl) (fun z => kf z p l e s m args below meth c H locs ls C hZ hP hS hl)
theorem V_icmp_eq {x y : Int32} {off : Int} {tgt : Nat} (h : dq M pc (.if_icmp .eq off) 3 nx) (ht : (pc : Int) + off = (tgt : Int)) (kt : x = y → V E M K tgt L st σ) (kf : ¬ x = y → V E M K nx L st σ) : V E M K pc L (.int y :: .int x :: st) σ := by
  obtain ⟨h1, rfl⟩ := h
  intro p l e s m args below meth c H locs ls C hZ hP hS hl
  exact lv_icmp_eq C.1 C.2.1 h1 ht (fun z => kt z p l e s m args below meth c H locs ls C hZ hP hS hl) (fun z => kf z p l e s m args below meth c H locs ls C hZ hP hS hl)
theorem V_if_ne {x : Int32} {off : Int} {tgt : Nat} (h : dq M pc (.ifCond .ne off) 3 nx) (ht : (pc : Int) + off = (tgt : Int)) (kt : ¬ x = 0 → V E M K tgt L st σ) (kf : x = 0 → V E M K nx L st σ) : V E M K pc L (.int x :: st) σ := by
  obtain ⟨h1, rfl⟩ := h
  intro p l e s m args below meth c H locs ls C hZ hP hS hl
  exact lv_if_ne C.1 C.2.1 h1 ht (fun z => kt z p l e s m args below meth c H locs ls C hZ hP hS hl) (fun z => kf z p l e s m args below meth c H locs ls C hZ hP hS hl)
theorem V_icmp_ne {x y : Int32} {off : Int} {tgt : Nat} (h : dq M pc (.if_icmp .ne off) 3 nx) (ht : (pc : Int) + off = (tgt : Int)) (kt : ¬ x = y → V E M K tgt L st σ) (kf : x = y → V E M K nx L st σ) : V E M K pc L (.int y :: .int x :: st) σ := by
  obtain ⟨h1, rfl⟩ := h
  intro p l e s m args below meth c H locs ls C hZ hP hS hl
  exact lv_icmp_ne C.1 C.2.1 h1 ht (fun z => kt z p l e s m args below meth c H locs ls C hZ hP hS hl) (fun z => kf z p l e s m args below meth c H locs ls C hZ hP hS hl)
theorem V_if_lt {x : Int32} {off : Int} {tgt : Nat} (h : dq M pc (.ifCond .lt off) 3 nx) (ht : (pc : Int) + off = (tgt : Int)) (kt : x < 0 → V E M K tgt L st σ) (kf : ¬ x < 0 → V E M K nx L st σ) : V E M K pc L (.int x :: st) σ := by
  obtain ⟨h1, rfl⟩ := h
  intro p l e s m args below meth c H locs ls C hZ hP hS hl
  exact lv_if_lt C.1 C.2.1 h1 ht (fun z => kt z p l e s m args below meth c H locs ls C hZ hP hS hl) (fun z => kf z p l e s m args below meth c H locs ls C hZ hP hS hl)
theorem V_icmp_lt {x y : Int32} {off : Int} {tgt : Nat} (h : dq M pc (.if_icmp .lt off) 3 nx) (ht : (pc : Int) + off = (tgt : Int)) (kt : x < y → V E M K tgt L st σ) (kf : ¬ x < y → V E M K nx L st σ) : V E M K pc L (.int y :: .int x :: st) σ := by
  obtain ⟨h1, rfl⟩ := h
  intro p l e s m args below meth c H locs ls C hZ hP hS hl
  exact lv_icmp_lt C.1 C.2.1 h1 ht (fun z => kt z p l e s m args below meth c H locs ls C hZ hP hS hl) (fun z => kf z p l e s m args below meth c H locs ls C hZ hP hS hl)
theorem V_if_ge {x : Int32} {off : Int} {tgt : Nat} (h : dq M pc (.ifCond .ge off) 3 nx) (ht : (pc : Int) + off = (tgt : Int)) (kt : 0 ≤ x → V E M K tgt L st σ) (kf : ¬ 0 ≤ x → V E M K nx L st σ) : V E M K pc L (.int x :: st) σ := by
  obtain ⟨h1, rfl⟩ := h
  intro p l e s m args below meth c H locs ls C hZ hP hS hl
  exact lv_if_ge C.1 C.2.1 h1 ht (fun z => kt z p l e s m args below meth c H locs ls C hZ hP hS hl) (fun z => kf z p l e s m args below meth c H locs ls C hZ hP hS hl)
theorem V_icmp_ge {x y : Int32} {off : Int} {tgt : Nat} (h : dq M pc (.if_icmp .ge off) 3 nx) (ht : (pc : Int) + off = (tgt : Int)) (kt : y ≤ x → V E M K tgt L st σ) (kf : ¬ y ≤ x → V E M K nx L st σ) : V E M K pc L (.int y :: .int x :: st) σ := by
  obtain ⟨h1, rfl⟩ := h
  intro p l e s m args below meth c H locs ls C hZ hP hS hl
  exact lv_icmp_ge C.1 C.2.1 h1 ht (fun z => kt z p l e s m args below meth c H locs ls C hZ hP hS hl) (fun z => kf z p l e s m args below meth c H locs ls C hZ hP hS hl)
theorem V_if_gt {x : Int32} {off : Int} {tgt : Nat} (h : dq M pc (.ifCond .gt off) 3 nx) (ht : (pc : Int) + off = (tgt : Int)) (kt : 0 < x → V E M K tgt L st σ) (kf : ¬ 0 < x → V E M K nx L st σ) : V E M K pc L (.int x :: st) σ := by
  obtain ⟨h1, rfl⟩ := h
  intro p l e s m args below meth c H locs ls C hZ hP hS hl
  exact lv_if_gt C.1 C.2.1 h1 ht (fun z => kt z p l e s m args below meth c H locs ls C hZ hP hS hl) (fun z => kf z p l e s m args below meth c H locs ls C hZ hP hS hl)
theorem V_icmp_gt {x y : Int32} {off : Int} {tgt : Nat} (h : dq M pc (.if_icmp .gt off) 3 nx) (ht : (pc : Int) + off = (tgt : Int)) (kt : y < x → V E M K tgt L st σ) (kf : ¬ y < x → V E M K nx L st σ) : V E M K pc L (.int y :: .int x :: st) σ := by
  obtain ⟨h1, rfl⟩ := h
  intro p l e s m args below meth c H locs ls C hZ hP hS hl
  exact lv_icmp_gt C.1 C.2.1 h1 ht (fun z => kt z p l e s m args below meth c H locs ls C hZ hP hS hl) (fun z => kf z p l e s m args below meth c H locs ls C hZ hP hS hl)
theorem V_if_le {x : Int32} {off : Int} {tgt : Nat} (h : dq M pc (.ifCond .le off) 3 nx) (ht : (pc : Int) + off = (tgt : Int)) (kt : x ≤ 0 → V E M K tgt L st σ) (kf : ¬ x ≤ 0 → V E M K nx L st σ) : V E M K pc L (.int x :: st) σ := by
  obtain ⟨h1, rfl⟩ := h
  intro p l e s m args below meth c H locs ls C hZ hP hS hl
  exact lv_if_le C.1 C.2.1 h1 ht (fun z => kt z p l e s m args below meth c H locs ls C hZ hP hS hl) (fun z => kf z p l e s m args below meth c H locs ls C hZ hP hS hl)
theorem V_icmp_le {x y : Int32} {off : Int} {tgt : Nat} (h : dq M pc (.if_icmp .le off) 3 nx) (ht : (pc : Int) + off = (tgt : Int)) (kt : x ≤ y → V E M K tgt L st σ) (kf : ¬ x ≤ y → V E M K nx L st σ) : V E M K pc L (.int y :: .int x :: st) σ := by
  obtain ⟨h1, rfl⟩ := h
  intro p l e s m args below meth c H locs ls C hZ hP hS hl
  exact lv_icmp_le C.1 C.2.1 h1 ht (fun z => kt z p l e s m args below meth c H locs ls C hZ hP hS hl) (fun z => kf z p l e s m args below meth c H locs ls C hZ hP hS hl)
theorem V_ldc {i : Nat} {v : Int32} (h : dq M pc (.ldc i) 2 nx) (hc : Cond.constant M.1.cls i v ∈ gw) (k : V E M K nx L (.int v :: st) σ) : V E M K pc L st σ := by
  obtain ⟨h1, rfl⟩ := h
  intro p l e s m args below meth c H locs ls C hZ hP hS hl
  exact lv_ldc C.1 C.2.1 C.2.2.2.1 (C.2.2.2.2.1 _ hc) h1 (k p l e s m args below meth c H locs ls C hZ hP hS hl)
theorem V_ldc_w {i : Nat} {v : Int32} (h : dq M pc (.ldc_w i) 3 nx) (hc : Cond.constant M.1.cls i v ∈ gw) (k : V E M K nx L (.int v :: st) σ) : V E M K pc L st σ := by
  obtain ⟨h1, rfl⟩ := h
  intro p l e s m args below meth c H locs ls C hZ hP hS hl
  exact lv_ldcw C.1 C.2.1 C.2.2.2.1 (C.2.2.2.2.1 _ hc) h1 (k p l e s m args below meth c H locs ls C hZ hP hS hl)
theorem V_ldc2_w {i : Nat} {v : Int64} (h : dq M pc (.ldc2_w i) 3 nx) (hc : Cond.constantLong M.1.cls i v ∈ gw) (k : V E M K nx L (.long v :: st) σ) : V E M K pc L st σ := by
  obtain ⟨h1, rfl⟩ := h
  intro p l e s m args below meth c H locs ls C hZ hP hS hl
  exact lv_ldc2 C.1 C.2.1 C.2.2.2.1 (C.2.2.2.2.1 _ hc) h1 (k p l e s m args below meth c H locs ls C hZ hP hS hl)
theorem V_tableIn {dflt lo hi : Int} {offs : Array Int} {len : Nat} {x : Int32} {off : Int} {tgt : Nat} (h : dq M pc (.tableswitch dflt lo hi offs) len nx) (a1 : ¬ x.toInt < lo) (a2 : ¬ hi < x.toInt) (ho : offs[(x.toInt - lo).toNat]? = some off) (ht : (pc : Int) + off = (tgt : Int)) (k : V E M K tgt L st σ) : V E M K pc L (.int x :: st) σ := by
  obtain ⟨h1, rfl⟩ := h
  intro p l e s m args below meth c H locs ls C hZ hP hS hl
  exact lv_tableIn C.1 C.2.1 h1 a1 a2 ho ht (k p l e s m args below meth c H locs ls C hZ hP hS hl)
theorem V_tableOut {dflt lo hi : Int} {offs : Array Int} {len : Nat} {x : Int32} {tgt : Nat} (h : dq M pc (.tableswitch dflt lo hi offs) len nx) (a : x.toInt < lo ∨ hi < x.toInt) (ht : (pc : Int) + dflt = (tgt : Int)) (k : V E M K tgt L st σ) : V E M K pc L (.int x :: st) σ := by
  obtain ⟨h1, rfl⟩ := h
  intro p l e s m args below meth c H locs ls C hZ hP hS hl
  exact lv_tableOut C.1 C.2.1 h1 a ht (k p l e s m args below meth c H locs ls C hZ hP hS hl)
theorem V_lookup {dflt : Int} {ps : Array (Int × Int)} {len : Nat} {x : Int32} {off : Int} {tgt : Nat} (h : dq M pc (.lookupswitch dflt ps) len nx) (hp : (ps.toList.zip (ps.toList.drop 1)).all (fun (a, next) => a.1 < next.1) = true) (ho : Op.lookupswitch.offset ps.toList dflt x.toInt = off) (ht : (pc : Int) + off = (tgt : Int)) (k : V E M K tgt L st σ) : V E M K pc L (.int x :: st) σ := by
  obtain ⟨h1, rfl⟩ := h
  intro p l e s m args below meth c H locs ls C hZ hP hS hl
  exact lv_lookup C.1 C.2.1 h1 hp ho ht (k p l e s m args below meth c H locs ls C hZ hP hS hl)
theorem V_lcmp {x y : Int64} (h : dq M pc (.lcmp) 1 nx) (k : V E M K nx L (.int (lg_cmp x y) :: st) σ) : V E M K pc L (.long y :: .long x :: st) σ := by
  obtain ⟨h1, rfl⟩ := h
  intro p l e s m args below meth c H locs ls C hZ hP hS hl
  exact W.lcmp C.1 C.2.1 h1 (k p l e s m args below meth c H locs ls C hZ hP hS hl)
end VR

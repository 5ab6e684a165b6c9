/-! ===== the numbers of a world, apart from the machine: cell k, place i ===== -/
abbrev gS : Type := Nat → Nat → Int32
/-- a cell: .inl n a row of n ints; .inr (class, fields): some r a reference to cell r, none an int -/
abbrev gSh : Type := Nat ⊕ (Nat × List (Option Nat))
def g_c (ad : Nat → Nat) : Value → Value
  | .ref k => .ref (ad k)
  | v => v
def g_fl (ad : Nat → Nat) (g : Nat → Int32) : Nat → List (Option Nat) → List Value
  | _, [] => []
  | j, some r :: t => .ref (ad r) :: g_fl ad g (j + 1) t
  | j, none :: t => .int (g j) :: g_fl ad g (j + 1) t
def g_fv (ad : Nat → Nat) (x : Int32) : Option Nat → Value
  | some r => .ref (ad r)
  | none => .int x
def g_ce (cA : ClassId) (ad : Nat → Nat) (σ : gS) (k : Nat) : gSh → va_E
  | .inl n => .inl (cA, n, .inl (σ k))
  | .inr (ci, fs) => .inr (ci, g_fl ad (σ k) 0 fs)
def g_w (cA : ClassId) (ad : Nat → Nat) (σ : gS) : Nat → List gSh → va_W
  | _, [] => []
  | k, sh :: t => (ad k, g_ce cA ad σ k sh) :: g_w cA ad σ (k + 1) t
def up2 (σ : gS) (k i : Nat) (x : Int32) : gS := fun k' => if k' = k then upd (σ k) i x else σ k'
theorem up2_same (σ : gS) (k i : Nat) (x : Int32) : up2 σ k i x k = upd (σ k) i x := if_pos rfl
theorem up2_ne (σ : gS) {k k' : Nat} (i : Nat) (x : Int32) (h : k' ≠ k) : up2 σ k i x k' = σ k' := if_neg h
theorem g_fl_get (ad : Nat → Nat) (g : Nat → Int32) : ∀ (fs : List (Option Nat)) (j0 k : Nat), (g_fl ad g j0 fs)[k]? = (fs[k]?).map (fun o => g_fv ad (g (j0 + k)) o) := by
  intro fs
  induction fs with
  | nil => intro j0 k; simp [g_fl]
  | cons o t ih =>
    intro j0 k
    cases k with
    | zero => cases o <;> simp [g_fl, g_fv]
    | succ k =>
      have e : j0 + (k + 1) = j0 + 1 + k := by omega
      cases o <;> simp [g_fl, ih, e]
theorem g_w_get (cA : ClassId) (ad : Nat → Nat) (σ : gS) : ∀ (L : List gSh) (k0 k : Nat), (g_w cA ad σ k0 L)[k]? = (L[k]?).map (fun sh => (ad (k0 + k), g_ce cA ad σ (k0 + k) sh)) := by
  intro L
  induction L with
  | nil => intro k0 k; simp [g_w]
  | cons o t ih =>
    intro k0 k
    cases k with
    | zero => simp [g_w]
    | succ k =>
      have e : k0 + (k + 1) = k0 + 1 + k := by omega
      simp [g_w, ih, e]
theorem g_w_at {cA : ClassId} {ad : Nat → Nat} {σ : gS} {L : List gSh} {k : Nat} {sh : gSh} (h : L[k]? = some sh) : (g_w cA ad σ 0 L)[k]? = some (ad k, g_ce cA ad σ k sh) := by
  rw [g_w_get, h, Option.map_some, Nat.zero_add]
theorem g_ce_congr {cA : ClassId} {ad : Nat → Nat} {σ σ' : gS} {k : Nat} (h : σ k = σ' k) (sh : gSh) : g_ce cA ad σ k sh = g_ce cA ad σ' k sh := by
  cases sh with
  | inl n => simp [g_ce, h]
  | inr p => obtain ⟨ci, fs⟩ := p; simp [g_ce, h]
theorem g_fl_set (ad : Nat → Nat) (g : Nat → Int32) (x : Int32) : ∀ (fs : List (Option Nat)) (j0 j : Nat), fs[j]? = some none → (g_fl ad g j0 fs).set j (.int x) = g_fl ad (upd g (j0 + j) x) j0 fs := by
  have stay : ∀ (fs : List (Option Nat)) (j0 q : Nat), q < j0 → g_fl ad (upd g q x) j0 fs = g_fl ad g j0 fs := by
    intro fs
    induction fs with
    | nil => intro j0 q _; rfl
    | cons o t ih =>
      intro j0 q hq
      have hne : ¬ j0 = q := by omega
      cases o <;> simp [g_fl, upd, hne, ih (j0 + 1) q (by omega)]
  intro fs
  induction fs with
  | nil => intro j0 j h; simp at h
  | cons o t ih =>
    intro j0 j h
    cases j with
    | zero =>
      simp at h
      subst h
      simp [g_fl, upd, stay t (j0 + 1) j0 (by omega)]
    | succ j =>
      have e : j0 + (j + 1) = j0 + 1 + j := by omega
      have hne : ¬ j0 = j0 + 1 + j := by omega
      have h2 := ih (j0 + 1) j (by simpa using h)
      cases o <;> simp [g_fl, h2, e, upd, hne]
theorem g_w_arr {cA : ClassId} {ad : Nat → Nat} {σ : gS} {L : List gSh} {k n i : Nat} {x : Int32} (h : L[k]? = some (.inl n)) : (g_w cA ad σ 0 L).set k (ad k, .inl (cA, n, .inl (upd (σ k) i x))) = g_w cA ad (up2 σ k i x) 0 L := by
  refine List.ext_getElem? fun j => ?_
  rw [List.getElem?_set, g_w_get, g_w_get]
  by_cases hj : k = j
  · subst hj
    have hlt : k < L.length := (List.getElem?_eq_some_iff.mp h).1
    have hlt2 : k < (g_w cA ad σ 0 L).length := (List.getElem?_eq_some_iff.mp (g_w_at h)).1
    simp [hlt2, h, g_ce, up2_same]
  · simp only [hj, if_false, Nat.zero_add]
    congr 1
    funext sh
    rw [g_ce_congr (up2_ne σ i x (fun e => hj e.symm)).symm sh]
theorem g_w_fld {cA : ClassId} {ad : Nat → Nat} {σ : gS} {L : List gSh} {k ci j : Nat} {fs : List (Option Nat)} {x : Int32} (h : L[k]? = some (.inr (ci, fs))) (hf : fs[j]? = some none) : (g_w cA ad σ 0 L).set k (ad k, .inr (ci, (g_fl ad (σ k) 0 fs).set j (.int x))) = g_w cA ad (up2 σ k j x) 0 L := by
  refine List.ext_getElem? fun i => ?_
  rw [List.getElem?_set, g_w_get, g_w_get]
  by_cases hj : k = i
  · subst hj
    have hlt2 : k < (g_w cA ad σ 0 L).length := (List.getElem?_eq_some_iff.mp (g_w_at h)).1
    have hs := g_fl_set ad (σ k) x fs 0 j hf
    rw [Nat.zero_add] at hs
    simp [hlt2, h, g_ce, up2_same, hs]
  · simp only [hj, if_false, Nat.zero_add]
    congr 1
    funext sh
    rw [g_ce_congr (up2_ne σ j x (fun e => hj e.symm)).symm sh]
/-! ===== a world's fixed things, a method's fixed things ===== -/
/-- launch, classes, class of int rows, addresses, cells -/
abbrev gX : Type := Launch × va_G × ClassId × (Nat → Nat) × List gSh
/-- a method: its name, bytes, locals, answer, room -/
abbrev gM : Type := MethodName × ByteArray × Nat × Option FieldType × Room
def g_A (X : gX) : Nat → Prop := fun q => ∃ k, k < X.2.2.2.2.length ∧ q = X.2.2.2.1 k
abbrev g_wd (X : gX) (σ : gS) : va_W := g_w X.2.2.1 X.2.2.2.1 σ 0 X.2.2.2.2
def g_ordL : List Int32 := [0x0123, 0x0132, 0x0213, 0x0231, 0x0312, 0x0321, 0x1023, 0x1032, 0x1203, 0x1230, 0x1302, 0x1320, 0x2013, 0x2031, 0x2103, 0x2130, 0x2301, 0x2310, 0x3012, 0x3021, 0x3102, 0x3120, 0x3201, 0x3210]
def g_ord (j : Nat) : Int32 := g_ordL.getD j 0
def g_N (U : State) : Prop := va_Nw (.fieldLinkNest "SwapNames" 108 "SwapNames$Texts" "theTurn" "I" "SwapNames") U ∧ va_Nw (.fieldLinkNest "SwapNames" 224 "SwapNames$Sheets" "latest" "I" "SwapNames") U ∧ va_Nw (.fieldLinkNest "SwapNames" 285 "SwapNames$Solver" "values" "[I" "SwapNames") U ∧ va_Nw (.methodLinkNest "SwapNames$Line" 34 yX6_isOutside "SwapNames") U ∧ va_Nw (.methodLinkNest "SwapNames$Sheets" 38 yX6_isOutside "SwapNames") U ∧ va_Nw (.methodLinkNest "SwapNames$Solver" 153 yX6_isOutside "SwapNames") U ∧ va_Nw (.methodLinkNest "SwapNames$Texts" 113 yX6_isOutside "SwapNames") U
theorem g_N.warm {s U : State} (hW : s.WarmedH U.vm) (h : g_N s) : g_N U := ⟨h.1.warmF hW, h.2.1.warmF hW, h.2.2.1.warmF hW, h.2.2.2.1.warmM hW, h.2.2.2.2.1.warmM hW, h.2.2.2.2.2.1.warmM hW, h.2.2.2.2.2.2.warmM hW⟩
theorem g_N.same {s U : State} (e : s.vm = U.vm) (h : g_N s) : g_N U := ⟨h.1.same rfl e, h.2.1.same rfl e, h.2.2.1.same rfl e, h.2.2.2.1.same rfl e, h.2.2.2.2.1.same rfl e, h.2.2.2.2.2.1.same rfl e, h.2.2.2.2.2.2.same rfl e⟩
def g_O (X : gX) (U : State) (H : Heap) : Prop := va_Z "SwapNames" "ORDER" "[I" (.ref (X.2.2.2.1 1000)) (g_A X) U H ∧ va_T .int (X.2.2.2.1 1000) 24 (fun j => .int (g_ord j)) (g_A X) U H
def g_B (X : gX) (U : State) : Prop := va_K X.2.1 vwCl [(X.2.2.1, .int)] U ∧ g_N U ∧ g_O X U U.heap ∧ ∀ i j, i < X.2.2.2.2.length → j < X.2.2.2.2.length → X.2.2.2.1 i = X.2.2.2.1 j → i = j
theorem g_w_len (cA : ClassId) (ad : Nat → Nat) (σ : gS) : ∀ (L : List gSh) (k0 : Nat), (g_w cA ad σ k0 L).length = L.length := by
  intro L
  induction L with
  | nil => intro _; rfl
  | cons o t ih => intro k0; simp [g_w, ih]
theorem g_D {X : gX} {U : State} (h : g_B X U) (σ : gS) : va_D (g_A X) (g_wd X σ) := by
  refine ⟨fun i j p q hi hj e => ?_, fun k q hk => ?_⟩
  · have li : i < X.2.2.2.2.length := by rw [← g_w_len X.2.2.1 X.2.2.2.1 σ X.2.2.2.2 0]; exact (List.getElem?_eq_some_iff.mp hi).1
    have lj : j < X.2.2.2.2.length := by rw [← g_w_len X.2.2.1 X.2.2.2.1 σ X.2.2.2.2 0]; exact (List.getElem?_eq_some_iff.mp hj).1
    rw [g_w_get, List.getElem?_eq_getElem li] at hi
    rw [g_w_get, List.getElem?_eq_getElem lj] at hj
    simp at hi hj
    refine h.2.2.2 i j li lj ?_
    rw [← hi, ← hj] at e
    exact e
  · have lk : k < X.2.2.2.2.length := by rw [← g_w_len X.2.2.1 X.2.2.2.1 σ X.2.2.2.2 0]; exact (List.getElem?_eq_some_iff.mp hk).1
    rw [g_w_get, List.getElem?_eq_getElem lk] at hk
    simp at hk
    exact ⟨k, lk, by rw [← hk]⟩
def g_Pc (X : gX) (as : List Value) (σ : gS) : Array Value → State → Prop := va_Pc (as.map (g_c X.2.2.2.1)) (fun U => g_B X U ∧ va_P X.2.1 vwCl (g_wd X σ) U.heap)
def g_Qc (X : gX) (Q : Option Value → gS → Prop) : Array Value → State → Outcome → State → Prop := fun _ st oc t => (∃ (rv : Option Value) (σ' : gS), oc = .returned (rv.map (g_c X.2.2.2.1)) ∧ Q rv σ' ∧ va_P X.2.1 vwCl (g_wd X σ') t.heap) ∧ va_F (g_A X) st t
abbrev g_ws (M : gM) : List Cond := .code M.1 M.2.1 M.2.2.1 M.2.2.2.1 :: tw
/-- a method's contract over numbers -/
def GM (X : gX) (M : gM) (as : List Value) (σ : gS) (Q : Option Value → gS → Prop) : Prop := Met X.1 M.1 (g_ws M) M.2.2.2.2 (g_Pc X as σ) (g_Qc X Q) 0 0 (g_A X)
/-- the machine within a method -/
def g_at (X : gX) (M : gM) (p : Program) (s : State) (m : MethodId) (args : Array Value) (meth : Method) (c : Code) : Prop := p.tables.exec = Jvm.exec ∧ c.code = M.2.1 ∧ meth.sig.returnType = M.2.2.2.1 ∧ meth.locks = false ∧ c.maxLocals = M.2.2.1 ∧ s.vm.findClass M.1.cls = some m.cls ∧ (∀ w ∈ tw, w.before args s = true) ∧ g_B X s
/-- the locals by their places -/
def g_lv (ad : Nat → Nat) (lsA : Array Slot) (nL : Nat) (ls : List (Option Value)) : Prop := lsA.size = nL ∧ lv_wf lsA ∧ ∀ (i : Nat) (v : Value), ls[i]? = some (some v) → lsA[i]? = some (Slot.val (g_c ad v))
/-- the machine stands at pc of method M with these locals, this stack, these numbers: it comes to its end with Q -/
def G (X : gX) (M : gM) (Q : Option Value → gS → Prop) (pc : Nat) (ls : List (Option Value)) (st : List Value) (σ : gS) : Prop := ∀ (p : Program) (e : Env) (s : State) (m : MethodId) (args : Array Value) (below : List Frame) (meth : Method) (c : Code) (H : Heap) (locs : List Loc) (lsA : Array Slot), g_at X M p s m args meth c → va_S (g_A X) s.heap H locs → va_P X.2.1 vwCl (g_wd X σ) H → g_lv X.2.2.2.1 lsA M.2.2.1 ls → W p X.1 e M.2.2.2.2 s m args below meth c H locs 0 0 (MQ below (g_Qc X Q) args s 0 0 (g_A X)) (F0 m pc lsA (st.map (g_c X.2.2.2.1)))
theorem g_cat (ad : Nat → Nat) (v : Value) : (g_c ad v).category = v.category := by cases v <;> rfl
/-! ===== stores ===== -/
def g_ll (ad : Nat → Nat) : Nat → List (Option Value) → List (Nat × Value)
  | _, [] => []
  | j, some v :: t => (j, g_c ad v) :: g_ll ad (j + 1) t
  | j, none :: t => g_ll ad (j + 1) t
theorem g_ll_in (ad : Nat → Nat) : ∀ (ls : List (Option Value)) (j0 i : Nat) (v : Value), ls[i]? = some (some v) → (j0 + i, g_c ad v) ∈ g_ll ad j0 ls := by
  intro ls
  induction ls with
  | nil => intro j0 i v h; simp at h
  | cons o t ih =>
    intro j0 i v h
    cases i with
    | zero =>
      simp at h
      subst h
      simp [g_ll]
    | succ i =>
      have e : j0 + (i + 1) = j0 + 1 + i := by omega
      have h2 := ih (j0 + 1) i v (by simpa using h)
      rw [e]
      cases o with
      | none => exact h2
      | some u => exact List.mem_cons_of_mem _ h2
theorem g_ll_of (ad : Nat → Nat) : ∀ (ls : List (Option Value)) (j0 : Nat) (q : Nat × Value), q ∈ g_ll ad j0 ls → ∃ i v, ls[i]? = some (some v) ∧ q = (j0 + i, g_c ad v) := by
  intro ls
  induction ls with
  | nil => intro j0 q h; simp [g_ll] at h
  | cons o t ih =>
    intro j0 q h
    cases o with
    | none =>
      obtain ⟨i, v, h1, h2⟩ := ih (j0 + 1) q h
      exact ⟨i + 1, v, by simpa using h1, by rw [h2]; congr 1; omega⟩
    | some u =>
      rcases List.mem_cons.mp h with h | h
      · exact ⟨0, u, rfl, h⟩
      · obtain ⟨i, v, h1, h2⟩ := ih (j0 + 1) q h
        exact ⟨i + 1, v, by simpa using h1, by rw [h2]; congr 1; omega⟩
theorem g_lv.has {ad : Nat → Nat} {lsA : Array Slot} {nL : Nat} {ls : List (Option Value)} (h : g_lv ad lsA nL ls) : lv_has lsA nL (g_ll ad 0 ls) := by
  refine ⟨h.1, h.2.1, fun q hq => ?_⟩
  obtain ⟨i, v, h1, h2⟩ := g_ll_of ad ls 0 q hq
  rw [h2, Nat.zero_add]
  exact h.2.2 i v h1
/-- no long stands just below place i -/
def g_nc (ls : List (Option Value)) (i : Nat) : Prop := ∀ j v, ls[j]? = some (some v) → j + 1 = i → v.category = 1
theorem g_lv.st1 {ad : Nat → Nat} {lsB : Array Slot} {nL i : Nat} {ls : List (Option Value)} {v : Value} (hn : g_nc ls i) (h : lv_has lsB nL ((i, g_c ad v) :: (g_ll ad 0 ls).filter (fun q => !(q.1 == i) && !(q.1 + 1 == i && q.2.category == 2)))) : g_lv ad lsB nL (ls.set i (some v)) := by
  refine ⟨h.1, h.2.1, fun j w hj => ?_⟩
  rw [List.getElem?_set] at hj
  by_cases hij : i = j
  · subst hij
    rw [if_pos rfl] at hj
    split at hj
    · simp at hj
      subst hj
      exact h.2.2 (i, g_c ad v) List.mem_cons_self
    · cases hj
  · rw [if_neg hij] at hj
    have h1 := g_ll_in ad ls 0 j w hj
    rw [Nat.zero_add] at h1
    refine h.2.2 (j, g_c ad w) (List.mem_cons_of_mem _ (List.mem_filter.mpr ⟨h1, ?_⟩))
    have h2 : ¬ (j = i) := fun e => hij e.symm
    by_cases h3 : j + 1 = i
    · have := hn j w hj h3
      simp [h2, g_cat, this]
    · simp [h2, h3]
theorem g_lv.st2 {ad : Nat → Nat} {lsB : Array Slot} {nL i : Nat} {ls : List (Option Value)} {v : Value} (hn : g_nc ls i) (h : lv_has lsB nL ((i, g_c ad v) :: (g_ll ad 0 ls).filter (fun q => !(q.1 == i) && (!(q.1 == i + 1) && !(q.1 + 1 == i && q.2.category == 2))))) : g_lv ad lsB nL ((ls.set i (some v)).set (i + 1) none) := by
  refine ⟨h.1, h.2.1, fun j w hj => ?_⟩
  rw [List.getElem?_set] at hj
  by_cases hi1 : i + 1 = j
  · rw [if_pos hi1] at hj
    split at hj <;> simp at hj
  · rw [if_neg hi1, List.getElem?_set] at hj
    by_cases hij : i = j
    · subst hij
      rw [if_pos rfl] at hj
      split at hj
      · simp at hj
        subst hj
        exact h.2.2 (i, g_c ad v) List.mem_cons_self
      · cases hj
    · rw [if_neg hij] at hj
      have h1 := g_ll_in ad ls 0 j w hj
      rw [Nat.zero_add] at h1
      refine h.2.2 (j, g_c ad w) (List.mem_cons_of_mem _ (List.mem_filter.mpr ⟨h1, ?_⟩))
      have h2 : ¬ (j = i) := fun e => hij e.symm
      have h4 : ¬ (j = i + 1) := fun e => hi1 e.symm
      by_cases h3 : j + 1 = i
      · have := hn j w hj h3
        simp [h2, h4, g_cat, this]
      · simp [h2, h3, h4]
section G1
variable {X : gX} {M : gM} {Q : Option Value → gS → Prop} {pc : Nat} {ls : List (Option Value)} {st : List Value} {σ : gS}
theorem G.iconst {n : Int} {v : Int32} (hv : Int32.ofInt n = v) (hd : decode M.2.1 pc = .ok (.iconst n, 1)) (k : G X M Q (pc + 1) ls (.int v :: st) σ) : G X M Q pc ls (st) σ := fun p e s m args below meth c H locs lsA C hS hP hl => lv_iconst C.1 C.2.1  hd hv (k p e s m args below meth c H locs lsA C hS hP hl)
theorem G.bipush {n : Int} {v : Int32} (hv : (Int8.ofInt n).toInt32 = v) (hd : decode M.2.1 pc = .ok (.bipush n, 2)) (k : G X M Q (pc + 2) ls (.int v :: st) σ) : G X M Q pc ls (st) σ := fun p e s m args below meth c H locs lsA C hS hP hl => lv_bipush C.1 C.2.1  hd hv (k p e s m args below meth c H locs lsA C hS hP hl)
theorem G.sipush {n : Int} {v : Int32} (hv : (Int16.ofInt n).toInt32 = v) (hd : decode M.2.1 pc = .ok (.sipush n, 3)) (k : G X M Q (pc + 3) ls (.int v :: st) σ) : G X M Q pc ls (st) σ := fun p e s m args below meth c H locs lsA C hS hP hl => lv_sipush C.1 C.2.1  hd hv (k p e s m args below meth c H locs lsA C hS hP hl)
theorem G.lconst {n : Fin 2} {v : Int64} (hv : Int64.ofNat (n : Nat) = v) (hd : decode M.2.1 pc = .ok (.lconst n, 1)) (k : G X M Q (pc + 1) ls (.long v :: st) σ) : G X M Q pc ls (st) σ := fun p e s m args below meth c H locs lsA C hS hP hl => lv_lconst C.1 C.2.1  hd hv (k p e s m args below meth c H locs lsA C hS hP hl)
theorem G.ldc {index : Nat} {v : Int32} (hw : Cond.constant M.1.cls index v ∈ tw) (hd : decode M.2.1 pc = .ok (.ldc index, 2)) (k : G X M Q (pc + 2) ls (.int v :: st) σ) : G X M Q pc ls (st) σ := fun p e s m args below meth c H locs lsA C hS hP hl => lv_ldc C.1 C.2.1 C.2.2.2.2.2.1 (C.2.2.2.2.2.2.1 _ hw) hd  (k p e s m args below meth c H locs lsA C hS hP hl)
theorem G.ldcw {index : Nat} {v : Int32} (hw : Cond.constant M.1.cls index v ∈ tw) (hd : decode M.2.1 pc = .ok (.ldc_w index, 3)) (k : G X M Q (pc + 3) ls (.int v :: st) σ) : G X M Q pc ls (st) σ := fun p e s m args below meth c H locs lsA C hS hP hl => lv_ldcw C.1 C.2.1 C.2.2.2.2.2.1 (C.2.2.2.2.2.2.1 _ hw) hd  (k p e s m args below meth c H locs lsA C hS hP hl)
theorem G.ldc2 {index : Nat} {v : Int64} (hw : Cond.constantLong M.1.cls index v ∈ tw) (hd : decode M.2.1 pc = .ok (.ldc2_w index, 3)) (k : G X M Q (pc + 3) ls (.long v :: st) σ) : G X M Q pc ls (st) σ := fun p e s m args below meth c H locs lsA C hS hP hl => lv_ldc2 C.1 C.2.1 C.2.2.2.2.2.1 (C.2.2.2.2.2.2.1 _ hw) hd  (k p e s m args below meth c H locs lsA C hS hP hl)
theorem G.iadd {x y : Int32} (hd : decode M.2.1 pc = .ok (.iadd, 1)) (k : G X M Q (pc + 1) ls (.int (x + y) :: st) σ) : G X M Q pc ls (.int y :: .int x :: st) σ := fun p e s m args below meth c H locs lsA C hS hP hl => lv_iadd C.1 C.2.1  hd  (k p e s m args below meth c H locs lsA C hS hP hl)
theorem G.isub {x y : Int32} (hd : decode M.2.1 pc = .ok (.isub, 1)) (k : G X M Q (pc + 1) ls (.int (x - y) :: st) σ) : G X M Q pc ls (.int y :: .int x :: st) σ := fun p e s m args below meth c H locs lsA C hS hP hl => lv_isub C.1 C.2.1  hd  (k p e s m args below meth c H locs lsA C hS hP hl)
theorem G.imul {x y : Int32} (hd : decode M.2.1 pc = .ok (.imul, 1)) (k : G X M Q (pc + 1) ls (.int (x * y) :: st) σ) : G X M Q pc ls (.int y :: .int x :: st) σ := fun p e s m args below meth c H locs lsA C hS hP hl => lv_imul C.1 C.2.1  hd  (k p e s m args below meth c H locs lsA C hS hP hl)
theorem G.iand {x y : Int32} (hd : decode M.2.1 pc = .ok (.iand, 1)) (k : G X M Q (pc + 1) ls (.int (x &&& y) :: st) σ) : G X M Q pc ls (.int y :: .int x :: st) σ := fun p e s m args below meth c H locs lsA C hS hP hl => lv_iand C.1 C.2.1  hd  (k p e s m args below meth c H locs lsA C hS hP hl)
theorem G.ior {x y : Int32} (hd : decode M.2.1 pc = .ok (.ior, 1)) (k : G X M Q (pc + 1) ls (.int (x ||| y) :: st) σ) : G X M Q pc ls (.int y :: .int x :: st) σ := fun p e s m args below meth c H locs lsA C hS hP hl => lv_ior C.1 C.2.1  hd  (k p e s m args below meth c H locs lsA C hS hP hl)
theorem G.ixor {x y : Int32} (hd : decode M.2.1 pc = .ok (.ixor, 1)) (k : G X M Q (pc + 1) ls (.int (x ^^^ y) :: st) σ) : G X M Q pc ls (.int y :: .int x :: st) σ := fun p e s m args below meth c H locs lsA C hS hP hl => lv_ixor C.1 C.2.1  hd  (k p e s m args below meth c H locs lsA C hS hP hl)
theorem G.ishl {x y : Int32} (hd : decode M.2.1 pc = .ok (.ishl, 1)) (k : G X M Q (pc + 1) ls (.int (x <<< (y &&& 31)) :: st) σ) : G X M Q pc ls (.int y :: .int x :: st) σ := fun p e s m args below meth c H locs lsA C hS hP hl => lv_ishl C.1 C.2.1  hd  (k p e s m args below meth c H locs lsA C hS hP hl)
theorem G.ishr {x y : Int32} (hd : decode M.2.1 pc = .ok (.ishr, 1)) (k : G X M Q (pc + 1) ls (.int (x >>> (y &&& 31)) :: st) σ) : G X M Q pc ls (.int y :: .int x :: st) σ := fun p e s m args below meth c H locs lsA C hS hP hl => lv_ishr C.1 C.2.1  hd  (k p e s m args below meth c H locs lsA C hS hP hl)
theorem G.idiv {x y : Int32} (hne : ¬ y = 0) (hd : decode M.2.1 pc = .ok (.idiv, 1)) (k : G X M Q (pc + 1) ls (.int (x / y) :: st) σ) : G X M Q pc ls (.int y :: .int x :: st) σ := fun p e s m args below meth c H locs lsA C hS hP hl => lv_idiv C.1 C.2.1  hd hne (k p e s m args below meth c H locs lsA C hS hP hl)
theorem G.irem {x y : Int32} (hne : ¬ y = 0) (hd : decode M.2.1 pc = .ok (.irem, 1)) (k : G X M Q (pc + 1) ls (.int (x - x / y * y) :: st) σ) : G X M Q pc ls (.int y :: .int x :: st) σ := fun p e s m args below meth c H locs lsA C hS hP hl => lv_irem C.1 C.2.1  hd hne (k p e s m args below meth c H locs lsA C hS hP hl)
theorem G.iushr {x y v : Int32} (hv : (x.toUInt32 >>> (y.toUInt32 &&& Int32.toUInt32 31)).toInt32 = v) (hd : decode M.2.1 pc = .ok (.iushr, 1)) (k : G X M Q (pc + 1) ls (.int v :: st) σ) : G X M Q pc ls (.int y :: .int x :: st) σ := fun p e s m args below meth c H locs lsA C hS hP hl => lv_iushr C.1 C.2.1  hd hv (k p e s m args below meth c H locs lsA C hS hP hl)
theorem G.i2l {x : Int32} (hd : decode M.2.1 pc = .ok (.i2l, 1)) (k : G X M Q (pc + 1) ls (.long x.toInt64 :: st) σ) : G X M Q pc ls (.int x :: st) σ := fun p e s m args below meth c H locs lsA C hS hP hl => lv_i2l C.1 C.2.1  hd rfl (k p e s m args below meth c H locs lsA C hS hP hl)
theorem G.i2b {x : Int32} (hd : decode M.2.1 pc = .ok (.i2b, 1)) (k : G X M Q (pc + 1) ls (.int x.toInt8.toInt32 :: st) σ) : G X M Q pc ls (.int x :: st) σ := fun p e s m args below meth c H locs lsA C hS hP hl => lv_i2b C.1 C.2.1  hd rfl (k p e s m args below meth c H locs lsA C hS hP hl)
theorem G.i2s {x : Int32} (hd : decode M.2.1 pc = .ok (.i2s, 1)) (k : G X M Q (pc + 1) ls (.int x.toInt16.toInt32 :: st) σ) : G X M Q pc ls (.int x :: st) σ := fun p e s m args below meth c H locs lsA C hS hP hl => lv_i2s C.1 C.2.1  hd rfl (k p e s m args below meth c H locs lsA C hS hP hl)
theorem G.ladd {x y : Int64} (hd : decode M.2.1 pc = .ok (.ladd, 1)) (k : G X M Q (pc + 1) ls (.long (x + y) :: st) σ) : G X M Q pc ls (.long y :: .long x :: st) σ := fun p e s m args below meth c H locs lsA C hS hP hl => lv_ladd C.1 C.2.1  hd  (k p e s m args below meth c H locs lsA C hS hP hl)
theorem G.lmul {x y : Int64} (hd : decode M.2.1 pc = .ok (.lmul, 1)) (k : G X M Q (pc + 1) ls (.long (x * y) :: st) σ) : G X M Q pc ls (.long y :: .long x :: st) σ := fun p e s m args below meth c H locs lsA C hS hP hl => lv_lmul C.1 C.2.1  hd  (k p e s m args below meth c H locs lsA C hS hP hl)
theorem G.lcmp {x y : Int64} (hd : decode M.2.1 pc = .ok (.lcmp, 1)) (k : G X M Q (pc + 1) ls (.int (lg_cmp x y) :: st) σ) : G X M Q pc ls (.long y :: .long x :: st) σ := fun p e s m args below meth c H locs lsA C hS hP hl => W.lcmp C.1 C.2.1  hd  (k p e s m args below meth c H locs lsA C hS hP hl)
theorem G.dupi {x : Int32} (hd : decode M.2.1 pc = .ok (.dup, 1)) (k : G X M Q (pc + 1) ls (.int x :: .int x :: st) σ) : G X M Q pc ls (.int x :: st) σ := fun p e s m args below meth c H locs lsA C hS hP hl => lv_dup C.1 C.2.1  hd rfl (k p e s m args below meth c H locs lsA C hS hP hl)
theorem G.dupr {x : Nat} (hd : decode M.2.1 pc = .ok (.dup, 1)) (k : G X M Q (pc + 1) ls (.ref x :: .ref x :: st) σ) : G X M Q pc ls (.ref x :: st) σ := fun p e s m args below meth c H locs lsA C hS hP hl => lv_dup C.1 C.2.1  hd rfl (k p e s m args below meth c H locs lsA C hS hP hl)
theorem G.dup2 {x : Int32} {a : Nat} (hd : decode M.2.1 pc = .ok (.dup2, 1)) (k : G X M Q (pc + 1) ls (.int x :: .ref a :: .int x :: .ref a :: st) σ) : G X M Q pc ls (.int x :: .ref a :: st) σ := fun p e s m args below meth c H locs lsA C hS hP hl => lv_dup2_11 C.1 C.2.1  hd rfl rfl (k p e s m args below meth c H locs lsA C hS hP hl)
theorem G.popi {x : Int32} (hd : decode M.2.1 pc = .ok (.pop, 1)) (k : G X M Q (pc + 1) ls (st) σ) : G X M Q pc ls (.int x :: st) σ := fun p e s m args below meth c H locs lsA C hS hP hl => lv_pop C.1 C.2.1  hd rfl (k p e s m args below meth c H locs lsA C hS hP hl)
theorem G.iload_n {k : Fin 4} {x : Int32} (hl0 : ls[(k : Nat)]? = some (some (.int x))) (hd : decode M.2.1 pc = .ok (.iload_n k, 1)) (k1 : G X M Q (pc + 1) ls (.int x :: st) σ) : G X M Q pc ls st σ := fun p e s m args below meth c H locs lsA C hS hP hl => lv_iload_n C.1 C.2.1 hd rfl (hl.2.2 _ _ hl0) (k1 p e s m args below meth c H locs lsA C hS hP hl)
theorem G.iload {i : Nat} {x : Int32} (hl0 : ls[i]? = some (some (.int x))) (hd : decode M.2.1 pc = .ok (.iload i, 2)) (k1 : G X M Q (pc + 2) ls (.int x :: st) σ) : G X M Q pc ls st σ := fun p e s m args below meth c H locs lsA C hS hP hl => lv_iload C.1 C.2.1 hd (hl.2.2 _ _ hl0) (k1 p e s m args below meth c H locs lsA C hS hP hl)
theorem G.lload_n {k : Fin 4} {x : Int64} (hl0 : ls[(k : Nat)]? = some (some (.long x))) (hd : decode M.2.1 pc = .ok (.lload_n k, 1)) (k1 : G X M Q (pc + 1) ls (.long x :: st) σ) : G X M Q pc ls st σ := fun p e s m args below meth c H locs lsA C hS hP hl => lv_lload_n C.1 C.2.1 hd rfl (hl.2.2 _ _ hl0) (k1 p e s m args below meth c H locs lsA C hS hP hl)
theorem G.lload {i : Nat} {x : Int64} (hl0 : ls[i]? = some (some (.long x))) (hd : decode M.2.1 pc = .ok (.lload i, 2)) (k1 : G X M Q (pc + 2) ls (.long x :: st) σ) : G X M Q pc ls st σ := fun p e s m args below meth c H locs lsA C hS hP hl => lv_lload C.1 C.2.1 hd (hl.2.2 _ _ hl0) (k1 p e s m args below meth c H locs lsA C hS hP hl)
theorem G.aload_n {k : Fin 4} {x : Nat} (hl0 : ls[(k : Nat)]? = some (some (.ref x))) (hd : decode M.2.1 pc = .ok (.aload_n k, 1)) (k1 : G X M Q (pc + 1) ls (.ref x :: st) σ) : G X M Q pc ls st σ := fun p e s m args below meth c H locs lsA C hS hP hl => lv_aload_n C.1 C.2.1 hd rfl (hl.2.2 _ _ hl0) (k1 p e s m args below meth c H locs lsA C hS hP hl)
theorem G.aload {i : Nat} {x : Nat} (hl0 : ls[i]? = some (some (.ref x))) (hd : decode M.2.1 pc = .ok (.aload i, 2)) (k1 : G X M Q (pc + 2) ls (.ref x :: st) σ) : G X M Q pc ls st σ := fun p e s m args below meth c H locs lsA C hS hP hl => lv_aload C.1 C.2.1 hd (hl.2.2 _ _ hl0) (k1 p e s m args below meth c H locs lsA C hS hP hl)
theorem G.istore_n {k : Fin 4} {x : Int32} (hi : (k : Nat) < M.2.2.1) (hn : g_nc ls k) (hd : decode M.2.1 pc = .ok (.istore_n k, 1)) (k1 : G X M Q (pc + 1) (ls.set k (some (.int x))) st σ) : G X M Q pc ls (.int x :: st) σ := fun p e s m args below meth c H locs lsA C hS hP hl => lv_istore_n C.1 C.2.1 hd rfl hl.has hi rfl (fun ls' h' => k1 p e s m args below meth c H locs ls' C hS hP (g_lv.st1 (v := .int x) hn h'))
theorem G.istore {i : Nat} {x : Int32} (hi : i < M.2.2.1) (hn : g_nc ls i) (hd : decode M.2.1 pc = .ok (.istore i, 2)) (k1 : G X M Q (pc + 2) (ls.set i (some (.int x))) st σ) : G X M Q pc ls (.int x :: st) σ := fun p e s m args below meth c H locs lsA C hS hP hl => lv_istore C.1 C.2.1 hd hl.has hi rfl (fun ls' h' => k1 p e s m args below meth c H locs ls' C hS hP (g_lv.st1 (v := .int x) hn h'))
theorem G.lstore_n {k : Fin 4} {x : Int64} (hi : (k : Nat) + 1 < M.2.2.1) (hn : g_nc ls k) (hd : decode M.2.1 pc = .ok (.lstore_n k, 1)) (k1 : G X M Q (pc + 1) ((ls.set k (some (.long x))).set (k + 1) none) st σ) : G X M Q pc ls (.long x :: st) σ := fun p e s m args below meth c H locs lsA C hS hP hl => lv_lstore_n C.1 C.2.1 hd rfl hl.has hi rfl (fun ls' h' => k1 p e s m args below meth c H locs ls' C hS hP (g_lv.st2 (v := .long x) hn h'))
theorem G.lstore {i : Nat} {x : Int64} (hi : i + 1 < M.2.2.1) (hn : g_nc ls i) (hd : decode M.2.1 pc = .ok (.lstore i, 2)) (k1 : G X M Q (pc + 2) ((ls.set i (some (.long x))).set (i + 1) none) st σ) : G X M Q pc ls (.long x :: st) σ := fun p e s m args below meth c H locs lsA C hS hP hl => lv_lstore C.1 C.2.1 hd hl.has hi rfl (fun ls' h' => k1 p e s m args below meth c H locs ls' C hS hP (g_lv.st2 (v := .long x) hn h'))
theorem G.iinc0 {i : Nat} {n : Int} {x d : Int32} (hl0 : ls[i]? = some (some (.int x))) (hv : Int32.ofInt n = d) (hi : i < M.2.2.1) (hn : g_nc ls i) (hd : decode M.2.1 pc = .ok (.iinc i n, 3)) (k1 : G X M Q (pc + 3) (ls.set i (some (.int (x + d)))) st σ) : G X M Q pc ls st σ := fun p e s m args below meth c H locs lsA C hS hP hl => by
  have hm := g_ll_in X.2.2.2.1 ls 0 i _ hl0
  rw [Nat.zero_add] at hm
  obtain ⟨q, hq⟩ := List.getElem?_of_mem hm
  exact lv_iinc C.1 C.2.1 hd hl.has hq (by rw [hv]) hi rfl (fun ls' h' => k1 p e s m args below meth c H locs ls' C hS hP (g_lv.st1 (v := .int (x + d)) hn h'))
def g_c1 : Option Value → Bool
  | some (.long _) => false
  | some (.double _) => false
  | _ => true
theorem g_c1_of {o : Option Value} (h : g_c1 o = true) : ∀ v, o = some v → v.category = 1 := by
  intro v e
  subst e
  cases v <;> first | rfl | cases h
theorem g_nc0 {ls : List (Option Value)} : g_nc ls 0 := fun j v _ h => by omega
theorem g_ncs {ls : List (Option Value)} {i : Nat} {o : Option Value} (h : ls[i]? = some o) (h1 : g_c1 o = true) : g_nc ls (i + 1) := fun j v hj e => by
  have e2 : j = i := by omega
  subst e2
  rw [h] at hj
  exact g_c1_of h1 v (Option.some.inj hj)
theorem G.ist0 {q0 : Option Value} {t : List (Option Value)} {x : Int32} (hi : 0 < M.2.2.1) (hd : decode M.2.1 pc = .ok (.istore_n 0, 1)) (k1 : G X M Q (pc + 1) (some (.int x) :: t) st σ) : G X M Q pc (q0 :: t) (.int x :: st) σ := G.istore_n (k := 0) hi g_nc0 hd k1
theorem G.inc0 {t : List (Option Value)} {n : Int} {x d : Int32} (hv : Int32.ofInt n = d) (hi : 0 < M.2.2.1) (hd : decode M.2.1 pc = .ok (.iinc 0 n, 3)) (k1 : G X M Q (pc + 3) (some (.int (x + d)) :: t) st σ) : G X M Q pc (some (.int x) :: t) st σ := G.iinc0 (i := 0) rfl hv hi g_nc0 hd k1
theorem G.lst0 {q0 q1 : Option Value} {t : List (Option Value)} {x : Int64} (hi : 0 + 1 < M.2.2.1) (hd : decode M.2.1 pc = .ok (.lstore_n 0, 1)) (k1 : G X M Q (pc + 1) (some (.long x) :: none :: t) st σ) : G X M Q pc (q0 :: q1 :: t) (.long x :: st) σ := G.lstore_n (k := 0) hi g_nc0 hd k1
theorem G.ist1 {q0 q1 : Option Value} {t : List (Option Value)} {x : Int32} (hi : 1 < M.2.2.1) (hc : g_c1 q0 = true) (hd : decode M.2.1 pc = .ok (.istore_n 1, 1)) (k1 : G X M Q (pc + 1) (q0 :: some (.int x) :: t) st σ) : G X M Q pc (q0 :: q1 :: t) (.int x :: st) σ := G.istore_n (k := 1) hi (g_ncs (o := q0) rfl hc) hd k1
theorem G.inc1 {q0 : Option Value} {t : List (Option Value)} {n : Int} {x d : Int32} (hv : Int32.ofInt n = d) (hi : 1 < M.2.2.1) (hc : g_c1 q0 = true) (hd : decode M.2.1 pc = .ok (.iinc 1 n, 3)) (k1 : G X M Q (pc + 3) (q0 :: some (.int (x + d)) :: t) st σ) : G X M Q pc (q0 :: some (.int x) :: t) st σ := G.iinc0 (i := 1) rfl hv hi (g_ncs (o := q0) rfl hc) hd k1
theorem G.lst1 {q0 q1 q2 : Option Value} {t : List (Option Value)} {x : Int64} (hi : 1 + 1 < M.2.2.1) (hc : g_c1 q0 = true) (hd : decode M.2.1 pc = .ok (.lstore_n 1, 1)) (k1 : G X M Q (pc + 1) (q0 :: some (.long x) :: none :: t) st σ) : G X M Q pc (q0 :: q1 :: q2 :: t) (.long x :: st) σ := G.lstore_n (k := 1) hi (g_ncs (o := q0) rfl hc) hd k1
theorem G.ist2 {q0 q1 q2 : Option Value} {t : List (Option Value)} {x : Int32} (hi : 2 < M.2.2.1) (hc : g_c1 q1 = true) (hd : decode M.2.1 pc = .ok (.istore_n 2, 1)) (k1 : G X M Q (pc + 1) (q0 :: q1 :: some (.int x) :: t) st σ) : G X M Q pc (q0 :: q1 :: q2 :: t) (.int x :: st) σ := G.istore_n (k := 2) hi (g_ncs (o := q1) rfl hc) hd k1
theorem G.inc2 {q0 q1 : Option Value} {t : List (Option Value)} {n : Int} {x d : Int32} (hv : Int32.ofInt n = d) (hi : 2 < M.2.2.1) (hc : g_c1 q1 = true) (hd : decode M.2.1 pc = .ok (.iinc 2 n, 3)) (k1 : G X M Q (pc + 3) (q0 :: q1 :: some (.int (x + d)) :: t) st σ) : G X M Q pc (q0 :: q1 :: some (.int x) :: t) st σ := G.iinc0 (i := 2) rfl hv hi (g_ncs (o := q1) rfl hc) hd k1
theorem G.lst2 {q0 q1 q2 q3 : Option Value} {t : List (Option Value)} {x : Int64} (hi : 2 + 1 < M.2.2.1) (hc : g_c1 q1 = true) (hd : decode M.2.1 pc = .ok (.lstore_n 2, 1)) (k1 : G X M Q (pc + 1) (q0 :: q1 :: some (.long x) :: none :: t) st σ) : G X M Q pc (q0 :: q1 :: q2 :: q3 :: t) (.long x :: st) σ := G.lstore_n (k := 2) hi (g_ncs (o := q1) rfl hc) hd k1
theorem G.ist3 {q0 q1 q2 q3 : Option Value} {t : List (Option Value)} {x : Int32} (hi : 3 < M.2.2.1) (hc : g_c1 q2 = true) (hd : decode M.2.1 pc = .ok (.istore_n 3, 1)) (k1 : G X M Q (pc + 1) (q0 :: q1 :: q2 :: some (.int x) :: t) st σ) : G X M Q pc (q0 :: q1 :: q2 :: q3 :: t) (.int x :: st) σ := G.istore_n (k := 3) hi (g_ncs (o := q2) rfl hc) hd k1
theorem G.inc3 {q0 q1 q2 : Option Value} {t : List (Option Value)} {n : Int} {x d : Int32} (hv : Int32.ofInt n = d) (hi : 3 < M.2.2.1) (hc : g_c1 q2 = true) (hd : decode M.2.1 pc = .ok (.iinc 3 n, 3)) (k1 : G X M Q (pc + 3) (q0 :: q1 :: q2 :: some (.int (x + d)) :: t) st σ) : G X M Q pc (q0 :: q1 :: q2 :: some (.int x) :: t) st σ := G.iinc0 (i := 3) rfl hv hi (g_ncs (o := q2) rfl hc) hd k1
theorem G.lst3 {q0 q1 q2 q3 q4 : Option Value} {t : List (Option Value)} {x : Int64} (hi : 3 + 1 < M.2.2.1) (hc : g_c1 q2 = true) (hd : decode M.2.1 pc = .ok (.lstore_n 3, 1)) (k1 : G X M Q (pc + 1) (q0 :: q1 :: q2 :: some (.long x) :: none :: t) st σ) : G X M Q pc (q0 :: q1 :: q2 :: q3 :: q4 :: t) (.long x :: st) σ := G.lstore_n (k := 3) hi (g_ncs (o := q2) rfl hc) hd k1
theorem G.ist4 {q0 q1 q2 q3 q4 : Option Value} {t : List (Option Value)} {x : Int32} (hi : 4 < M.2.2.1) (hc : g_c1 q3 = true) (hd : decode M.2.1 pc = .ok (.istore 4, 2)) (k1 : G X M Q (pc + 2) (q0 :: q1 :: q2 :: q3 :: some (.int x) :: t) st σ) : G X M Q pc (q0 :: q1 :: q2 :: q3 :: q4 :: t) (.int x :: st) σ := G.istore (i := 4) hi (g_ncs (o := q3) rfl hc) hd k1
theorem G.inc4 {q0 q1 q2 q3 : Option Value} {t : List (Option Value)} {n : Int} {x d : Int32} (hv : Int32.ofInt n = d) (hi : 4 < M.2.2.1) (hc : g_c1 q3 = true) (hd : decode M.2.1 pc = .ok (.iinc 4 n, 3)) (k1 : G X M Q (pc + 3) (q0 :: q1 :: q2 :: q3 :: some (.int (x + d)) :: t) st σ) : G X M Q pc (q0 :: q1 :: q2 :: q3 :: some (.int x) :: t) st σ := G.iinc0 (i := 4) rfl hv hi (g_ncs (o := q3) rfl hc) hd k1
theorem G.lst4 {q0 q1 q2 q3 q4 q5 : Option Value} {t : List (Option Value)} {x : Int64} (hi : 4 + 1 < M.2.2.1) (hc : g_c1 q3 = true) (hd : decode M.2.1 pc = .ok (.lstore 4, 2)) (k1 : G X M Q (pc + 2) (q0 :: q1 :: q2 :: q3 :: some (.long x) :: none :: t) st σ) : G X M Q pc (q0 :: q1 :: q2 :: q3 :: q4 :: q5 :: t) (.long x :: st) σ := G.lstore (i := 4) hi (g_ncs (o := q3) rfl hc) hd k1
theorem G.ist5 {q0 q1 q2 q3 q4 q5 : Option Value} {t : List (Option Value)} {x : Int32} (hi : 5 < M.2.2.1) (hc : g_c1 q4 = true) (hd : decode M.2.1 pc = .ok (.istore 5, 2)) (k1 : G X M Q (pc + 2) (q0 :: q1 :: q2 :: q3 :: q4 :: some (.int x) :: t) st σ) : G X M Q pc (q0 :: q1 :: q2 :: q3 :: q4 :: q5 :: t) (.int x :: st) σ := G.istore (i := 5) hi (g_ncs (o := q4) rfl hc) hd k1
theorem G.inc5 {q0 q1 q2 q3 q4 : Option Value} {t : List (Option Value)} {n : Int} {x d : Int32} (hv : Int32.ofInt n = d) (hi : 5 < M.2.2.1) (hc : g_c1 q4 = true) (hd : decode M.2.1 pc = .ok (.iinc 5 n, 3)) (k1 : G X M Q (pc + 3) (q0 :: q1 :: q2 :: q3 :: q4 :: some (.int (x + d)) :: t) st σ) : G X M Q pc (q0 :: q1 :: q2 :: q3 :: q4 :: some (.int x) :: t) st σ := G.iinc0 (i := 5) rfl hv hi (g_ncs (o := q4) rfl hc) hd k1
theorem G.lst5 {q0 q1 q2 q3 q4 q5 q6 : Option Value} {t : List (Option Value)} {x : Int64} (hi : 5 + 1 < M.2.2.1) (hc : g_c1 q4 = true) (hd : decode M.2.1 pc = .ok (.lstore 5, 2)) (k1 : G X M Q (pc + 2) (q0 :: q1 :: q2 :: q3 :: q4 :: some (.long x) :: none :: t) st σ) : G X M Q pc (q0 :: q1 :: q2 :: q3 :: q4 :: q5 :: q6 :: t) (.long x :: st) σ := G.lstore (i := 5) hi (g_ncs (o := q4) rfl hc) hd k1
theorem G.ist6 {q0 q1 q2 q3 q4 q5 q6 : Option Value} {t : List (Option Value)} {x : Int32} (hi : 6 < M.2.2.1) (hc : g_c1 q5 = true) (hd : decode M.2.1 pc = .ok (.istore 6, 2)) (k1 : G X M Q (pc + 2) (q0 :: q1 :: q2 :: q3 :: q4 :: q5 :: some (.int x) :: t) st σ) : G X M Q pc (q0 :: q1 :: q2 :: q3 :: q4 :: q5 :: q6 :: t) (.int x :: st) σ := G.istore (i := 6) hi (g_ncs (o := q5) rfl hc) hd k1
theorem G.inc6 {q0 q1 q2 q3 q4 q5 : Option Value} {t : List (Option Value)} {n : Int} {x d : Int32} (hv : Int32.ofInt n = d) (hi : 6 < M.2.2.1) (hc : g_c1 q5 = true) (hd : decode M.2.1 pc = .ok (.iinc 6 n, 3)) (k1 : G X M Q (pc + 3) (q0 :: q1 :: q2 :: q3 :: q4 :: q5 :: some (.int (x + d)) :: t) st σ) : G X M Q pc (q0 :: q1 :: q2 :: q3 :: q4 :: q5 :: some (.int x) :: t) st σ := G.iinc0 (i := 6) rfl hv hi (g_ncs (o := q5) rfl hc) hd k1
theorem G.lst6 {q0 q1 q2 q3 q4 q5 q6 q7 : Option Value} {t : List (Option Value)} {x : Int64} (hi : 6 + 1 < M.2.2.1) (hc : g_c1 q5 = true) (hd : decode M.2.1 pc = .ok (.lstore 6, 2)) (k1 : G X M Q (pc + 2) (q0 :: q1 :: q2 :: q3 :: q4 :: q5 :: some (.long x) :: none :: t) st σ) : G X M Q pc (q0 :: q1 :: q2 :: q3 :: q4 :: q5 :: q6 :: q7 :: t) (.long x :: st) σ := G.lstore (i := 6) hi (g_ncs (o := q5) rfl hc) hd k1
theorem G.ist7 {q0 q1 q2 q3 q4 q5 q6 q7 : Option Value} {t : List (Option Value)} {x : Int32} (hi : 7 < M.2.2.1) (hc : g_c1 q6 = true) (hd : decode M.2.1 pc = .ok (.istore 7, 2)) (k1 : G X M Q (pc + 2) (q0 :: q1 :: q2 :: q3 :: q4 :: q5 :: q6 :: some (.int x) :: t) st σ) : G X M Q pc (q0 :: q1 :: q2 :: q3 :: q4 :: q5 :: q6 :: q7 :: t) (.int x :: st) σ := G.istore (i := 7) hi (g_ncs (o := q6) rfl hc) hd k1
theorem G.inc7 {q0 q1 q2 q3 q4 q5 q6 : Option Value} {t : List (Option Value)} {n : Int} {x d : Int32} (hv : Int32.ofInt n = d) (hi : 7 < M.2.2.1) (hc : g_c1 q6 = true) (hd : decode M.2.1 pc = .ok (.iinc 7 n, 3)) (k1 : G X M Q (pc + 3) (q0 :: q1 :: q2 :: q3 :: q4 :: q5 :: q6 :: some (.int (x + d)) :: t) st σ) : G X M Q pc (q0 :: q1 :: q2 :: q3 :: q4 :: q5 :: q6 :: some (.int x) :: t) st σ := G.iinc0 (i := 7) rfl hv hi (g_ncs (o := q6) rfl hc) hd k1
theorem G.lst7 {q0 q1 q2 q3 q4 q5 q6 q7 q8 : Option Value} {t : List (Option Value)} {x : Int64} (hi : 7 + 1 < M.2.2.1) (hc : g_c1 q6 = true) (hd : decode M.2.1 pc = .ok (.lstore 7, 2)) (k1 : G X M Q (pc + 2) (q0 :: q1 :: q2 :: q3 :: q4 :: q5 :: q6 :: some (.long x) :: none :: t) st σ) : G X M Q pc (q0 :: q1 :: q2 :: q3 :: q4 :: q5 :: q6 :: q7 :: q8 :: t) (.long x :: st) σ := G.lstore (i := 7) hi (g_ncs (o := q6) rfl hc) hd k1
theorem G.ist8 {q0 q1 q2 q3 q4 q5 q6 q7 q8 : Option Value} {t : List (Option Value)} {x : Int32} (hi : 8 < M.2.2.1) (hc : g_c1 q7 = true) (hd : decode M.2.1 pc = .ok (.istore 8, 2)) (k1 : G X M Q (pc + 2) (q0 :: q1 :: q2 :: q3 :: q4 :: q5 :: q6 :: q7 :: some (.int x) :: t) st σ) : G X M Q pc (q0 :: q1 :: q2 :: q3 :: q4 :: q5 :: q6 :: q7 :: q8 :: t) (.int x :: st) σ := G.istore (i := 8) hi (g_ncs (o := q7) rfl hc) hd k1
theorem G.inc8 {q0 q1 q2 q3 q4 q5 q6 q7 : Option Value} {t : List (Option Value)} {n : Int} {x d : Int32} (hv : Int32.ofInt n = d) (hi : 8 < M.2.2.1) (hc : g_c1 q7 = true) (hd : decode M.2.1 pc = .ok (.iinc 8 n, 3)) (k1 : G X M Q (pc + 3) (q0 :: q1 :: q2 :: q3 :: q4 :: q5 :: q6 :: q7 :: some (.int (x + d)) :: t) st σ) : G X M Q pc (q0 :: q1 :: q2 :: q3 :: q4 :: q5 :: q6 :: q7 :: some (.int x) :: t) st σ := G.iinc0 (i := 8) rfl hv hi (g_ncs (o := q7) rfl hc) hd k1
theorem G.lst8 {q0 q1 q2 q3 q4 q5 q6 q7 q8 q9 : Option Value} {t : List (Option Value)} {x : Int64} (hi : 8 + 1 < M.2.2.1) (hc : g_c1 q7 = true) (hd : decode M.2.1 pc = .ok (.lstore 8, 2)) (k1 : G X M Q (pc + 2) (q0 :: q1 :: q2 :: q3 :: q4 :: q5 :: q6 :: q7 :: some (.long x) :: none :: t) st σ) : G X M Q pc (q0 :: q1 :: q2 :: q3 :: q4 :: q5 :: q6 :: q7 :: q8 :: q9 :: t) (.long x :: st) σ := G.lstore (i := 8) hi (g_ncs (o := q7) rfl hc) hd k1
theorem G.ist9 {q0 q1 q2 q3 q4 q5 q6 q7 q8 q9 : Option Value} {t : List (Option Value)} {x : Int32} (hi : 9 < M.2.2.1) (hc : g_c1 q8 = true) (hd : decode M.2.1 pc = .ok (.istore 9, 2)) (k1 : G X M Q (pc + 2) (q0 :: q1 :: q2 :: q3 :: q4 :: q5 :: q6 :: q7 :: q8 :: some (.int x) :: t) st σ) : G X M Q pc (q0 :: q1 :: q2 :: q3 :: q4 :: q5 :: q6 :: q7 :: q8 :: q9 :: t) (.int x :: st) σ := G.istore (i := 9) hi (g_ncs (o := q8) rfl hc) hd k1
theorem G.inc9 {q0 q1 q2 q3 q4 q5 q6 q7 q8 : Option Value} {t : List (Option Value)} {n : Int} {x d : Int32} (hv : Int32.ofInt n = d) (hi : 9 < M.2.2.1) (hc : g_c1 q8 = true) (hd : decode M.2.1 pc = .ok (.iinc 9 n, 3)) (k1 : G X M Q (pc + 3) (q0 :: q1 :: q2 :: q3 :: q4 :: q5 :: q6 :: q7 :: q8 :: some (.int (x + d)) :: t) st σ) : G X M Q pc (q0 :: q1 :: q2 :: q3 :: q4 :: q5 :: q6 :: q7 :: q8 :: some (.int x) :: t) st σ := G.iinc0 (i := 9) rfl hv hi (g_ncs (o := q8) rfl hc) hd k1
theorem G.lst9 {q0 q1 q2 q3 q4 q5 q6 q7 q8 q9 q10 : Option Value} {t : List (Option Value)} {x : Int64} (hi : 9 + 1 < M.2.2.1) (hc : g_c1 q8 = true) (hd : decode M.2.1 pc = .ok (.lstore 9, 2)) (k1 : G X M Q (pc + 2) (q0 :: q1 :: q2 :: q3 :: q4 :: q5 :: q6 :: q7 :: q8 :: some (.long x) :: none :: t) st σ) : G X M Q pc (q0 :: q1 :: q2 :: q3 :: q4 :: q5 :: q6 :: q7 :: q8 :: q9 :: q10 :: t) (.long x :: st) σ := G.lstore (i := 9) hi (g_ncs (o := q8) rfl hc) hd k1
theorem G.ist10 {q0 q1 q2 q3 q4 q5 q6 q7 q8 q9 q10 : Option Value} {t : List (Option Value)} {x : Int32} (hi : 10 < M.2.2.1) (hc : g_c1 q9 = true) (hd : decode M.2.1 pc = .ok (.istore 10, 2)) (k1 : G X M Q (pc + 2) (q0 :: q1 :: q2 :: q3 :: q4 :: q5 :: q6 :: q7 :: q8 :: q9 :: some (.int x) :: t) st σ) : G X M Q pc (q0 :: q1 :: q2 :: q3 :: q4 :: q5 :: q6 :: q7 :: q8 :: q9 :: q10 :: t) (.int x :: st) σ := G.istore (i := 10) hi (g_ncs (o := q9) rfl hc) hd k1
theorem G.inc10 {q0 q1 q2 q3 q4 q5 q6 q7 q8 q9 : Option Value} {t : List (Option Value)} {n : Int} {x d : Int32} (hv : Int32.ofInt n = d) (hi : 10 < M.2.2.1) (hc : g_c1 q9 = true) (hd : decode M.2.1 pc = .ok (.iinc 10 n, 3)) (k1 : G X M Q (pc + 3) (q0 :: q1 :: q2 :: q3 :: q4 :: q5 :: q6 :: q7 :: q8 :: q9 :: some (.int (x + d)) :: t) st σ) : G X M Q pc (q0 :: q1 :: q2 :: q3 :: q4 :: q5 :: q6 :: q7 :: q8 :: q9 :: some (.int x) :: t) st σ := G.iinc0 (i := 10) rfl hv hi (g_ncs (o := q9) rfl hc) hd k1
theorem G.lst10 {q0 q1 q2 q3 q4 q5 q6 q7 q8 q9 q10 q11 : Option Value} {t : List (Option Value)} {x : Int64} (hi : 10 + 1 < M.2.2.1) (hc : g_c1 q9 = true) (hd : decode M.2.1 pc = .ok (.lstore 10, 2)) (k1 : G X M Q (pc + 2) (q0 :: q1 :: q2 :: q3 :: q4 :: q5 :: q6 :: q7 :: q8 :: q9 :: some (.long x) :: none :: t) st σ) : G X M Q pc (q0 :: q1 :: q2 :: q3 :: q4 :: q5 :: q6 :: q7 :: q8 :: q9 :: q10 :: q11 :: t) (.long x :: st) σ := G.lstore (i := 10) hi (g_ncs (o := q9) rfl hc) hd k1
theorem G.ist11 {q0 q1 q2 q3 q4 q5 q6 q7 q8 q9 q10 q11 : Option Value} {t : List (Option Value)} {x : Int32} (hi : 11 < M.2.2.1) (hc : g_c1 q10 = true) (hd : decode M.2.1 pc = .ok (.istore 11, 2)) (k1 : G X M Q (pc + 2) (q0 :: q1 :: q2 :: q3 :: q4 :: q5 :: q6 :: q7 :: q8 :: q9 :: q10 :: some (.int x) :: t) st σ) : G X M Q pc (q0 :: q1 :: q2 :: q3 :: q4 :: q5 :: q6 :: q7 :: q8 :: q9 :: q10 :: q11 :: t) (.int x :: st) σ := G.istore (i := 11) hi (g_ncs (o := q10) rfl hc) hd k1
theorem G.inc11 {q0 q1 q2 q3 q4 q5 q6 q7 q8 q9 q10 : Option Value} {t : List (Option Value)} {n : Int} {x d : Int32} (hv : Int32.ofInt n = d) (hi : 11 < M.2.2.1) (hc : g_c1 q10 = true) (hd : decode M.2.1 pc = .ok (.iinc 11 n, 3)) (k1 : G X M Q (pc + 3) (q0 :: q1 :: q2 :: q3 :: q4 :: q5 :: q6 :: q7 :: q8 :: q9 :: q10 :: some (.int (x + d)) :: t) st σ) : G X M Q pc (q0 :: q1 :: q2 :: q3 :: q4 :: q5 :: q6 :: q7 :: q8 :: q9 :: q10 :: some (.int x) :: t) st σ := G.iinc0 (i := 11) rfl hv hi (g_ncs (o := q10) rfl hc) hd k1
theorem G.lst11 {q0 q1 q2 q3 q4 q5 q6 q7 q8 q9 q10 q11 q12 : Option Value} {t : List (Option Value)} {x : Int64} (hi : 11 + 1 < M.2.2.1) (hc : g_c1 q10 = true) (hd : decode M.2.1 pc = .ok (.lstore 11, 2)) (k1 : G X M Q (pc + 2) (q0 :: q1 :: q2 :: q3 :: q4 :: q5 :: q6 :: q7 :: q8 :: q9 :: q10 :: some (.long x) :: none :: t) st σ) : G X M Q pc (q0 :: q1 :: q2 :: q3 :: q4 :: q5 :: q6 :: q7 :: q8 :: q9 :: q10 :: q11 :: q12 :: t) (.long x :: st) σ := G.lstore (i := 11) hi (g_ncs (o := q10) rfl hc) hd k1
theorem G.ist12 {q0 q1 q2 q3 q4 q5 q6 q7 q8 q9 q10 q11 q12 : Option Value} {t : List (Option Value)} {x : Int32} (hi : 12 < M.2.2.1) (hc : g_c1 q11 = true) (hd : decode M.2.1 pc = .ok (.istore 12, 2)) (k1 : G X M Q (pc + 2) (q0 :: q1 :: q2 :: q3 :: q4 :: q5 :: q6 :: q7 :: q8 :: q9 :: q10 :: q11 :: some (.int x) :: t) st σ) : G X M Q pc (q0 :: q1 :: q2 :: q3 :: q4 :: q5 :: q6 :: q7 :: q8 :: q9 :: q10 :: q11 :: q12 :: t) (.int x :: st) σ := G.istore (i := 12) hi (g_ncs (o := q11) rfl hc) hd k1
theorem G.inc12 {q0 q1 q2 q3 q4 q5 q6 q7 q8 q9 q10 q11 : Option Value} {t : List (Option Value)} {n : Int} {x d : Int32} (hv : Int32.ofInt n = d) (hi : 12 < M.2.2.1) (hc : g_c1 q11 = true) (hd : decode M.2.1 pc = .ok (.iinc 12 n, 3)) (k1 : G X M Q (pc + 3) (q0 :: q1 :: q2 :: q3 :: q4 :: q5 :: q6 :: q7 :: q8 :: q9 :: q10 :: q11 :: some (.int (x + d)) :: t) st σ) : G X M Q pc (q0 :: q1 :: q2 :: q3 :: q4 :: q5 :: q6 :: q7 :: q8 :: q9 :: q10 :: q11 :: some (.int x) :: t) st σ := G.iinc0 (i := 12) rfl hv hi (g_ncs (o := q11) rfl hc) hd k1
theorem G.lst12 {q0 q1 q2 q3 q4 q5 q6 q7 q8 q9 q10 q11 q12 q13 : Option Value} {t : List (Option Value)} {x : Int64} (hi : 12 + 1 < M.2.2.1) (hc : g_c1 q11 = true) (hd : decode M.2.1 pc = .ok (.lstore 12, 2)) (k1 : G X M Q (pc + 2) (q0 :: q1 :: q2 :: q3 :: q4 :: q5 :: q6 :: q7 :: q8 :: q9 :: q10 :: q11 :: some (.long x) :: none :: t) st σ) : G X M Q pc (q0 :: q1 :: q2 :: q3 :: q4 :: q5 :: q6 :: q7 :: q8 :: q9 :: q10 :: q11 :: q12 :: q13 :: t) (.long x :: st) σ := G.lstore (i := 12) hi (g_ncs (o := q11) rfl hc) hd k1
theorem G.ist13 {q0 q1 q2 q3 q4 q5 q6 q7 q8 q9 q10 q11 q12 q13 : Option Value} {t : List (Option Value)} {x : Int32} (hi : 13 < M.2.2.1) (hc : g_c1 q12 = true) (hd : decode M.2.1 pc = .ok (.istore 13, 2)) (k1 : G X M Q (pc + 2) (q0 :: q1 :: q2 :: q3 :: q4 :: q5 :: q6 :: q7 :: q8 :: q9 :: q10 :: q11 :: q12 :: some (.int x) :: t) st σ) : G X M Q pc (q0 :: q1 :: q2 :: q3 :: q4 :: q5 :: q6 :: q7 :: q8 :: q9 :: q10 :: q11 :: q12 :: q13 :: t) (.int x :: st) σ := G.istore (i := 13) hi (g_ncs (o := q12) rfl hc) hd k1
theorem G.inc13 {q0 q1 q2 q3 q4 q5 q6 q7 q8 q9 q10 q11 q12 : Option Value} {t : List (Option Value)} {n : Int} {x d : Int32} (hv : Int32.ofInt n = d) (hi : 13 < M.2.2.1) (hc : g_c1 q12 = true) (hd : decode M.2.1 pc = .ok (.iinc 13 n, 3)) (k1 : G X M Q (pc + 3) (q0 :: q1 :: q2 :: q3 :: q4 :: q5 :: q6 :: q7 :: q8 :: q9 :: q10 :: q11 :: q12 :: some (.int (x + d)) :: t) st σ) : G X M Q pc (q0 :: q1 :: q2 :: q3 :: q4 :: q5 :: q6 :: q7 :: q8 :: q9 :: q10 :: q11 :: q12 :: some (.int x) :: t) st σ := G.iinc0 (i := 13) rfl hv hi (g_ncs (o := q12) rfl hc) hd k1
theorem G.lst13 {q0 q1 q2 q3 q4 q5 q6 q7 q8 q9 q10 q11 q12 q13 q14 : Option Value} {t : List (Option Value)} {x : Int64} (hi : 13 + 1 < M.2.2.1) (hc : g_c1 q12 = true) (hd : decode M.2.1 pc = .ok (.lstore 13, 2)) (k1 : G X M Q (pc + 2) (q0 :: q1 :: q2 :: q3 :: q4 :: q5 :: q6 :: q7 :: q8 :: q9 :: q10 :: q11 :: q12 :: some (.long x) :: none :: t) st σ) : G X M Q pc (q0 :: q1 :: q2 :: q3 :: q4 :: q5 :: q6 :: q7 :: q8 :: q9 :: q10 :: q11 :: q12 :: q13 :: q14 :: t) (.long x :: st) σ := G.lstore (i := 13) hi (g_ncs (o := q12) rfl hc) hd k1
theorem G.ist14 {q0 q1 q2 q3 q4 q5 q6 q7 q8 q9 q10 q11 q12 q13 q14 : Option Value} {t : List (Option Value)} {x : Int32} (hi : 14 < M.2.2.1) (hc : g_c1 q13 = true) (hd : decode M.2.1 pc = .ok (.istore 14, 2)) (k1 : G X M Q (pc + 2) (q0 :: q1 :: q2 :: q3 :: q4 :: q5 :: q6 :: q7 :: q8 :: q9 :: q10 :: q11 :: q12 :: q13 :: some (.int x) :: t) st σ) : G X M Q pc (q0 :: q1 :: q2 :: q3 :: q4 :: q5 :: q6 :: q7 :: q8 :: q9 :: q10 :: q11 :: q12 :: q13 :: q14 :: t) (.int x :: st) σ := G.istore (i := 14) hi (g_ncs (o := q13) rfl hc) hd k1
theorem G.inc14 {q0 q1 q2 q3 q4 q5 q6 q7 q8 q9 q10 q11 q12 q13 : Option Value} {t : List (Option Value)} {n : Int} {x d : Int32} (hv : Int32.ofInt n = d) (hi : 14 < M.2.2.1) (hc : g_c1 q13 = true) (hd : decode M.2.1 pc = .ok (.iinc 14 n, 3)) (k1 : G X M Q (pc + 3) (q0 :: q1 :: q2 :: q3 :: q4 :: q5 :: q6 :: q7 :: q8 :: q9 :: q10 :: q11 :: q12 :: q13 :: some (.int (x + d)) :: t) st σ) : G X M Q pc (q0 :: q1 :: q2 :: q3 :: q4 :: q5 :: q6 :: q7 :: q8 :: q9 :: q10 :: q11 :: q12 :: q13 :: some (.int x) :: t) st σ := G.iinc0 (i := 14) rfl hv hi (g_ncs (o := q13) rfl hc) hd k1
theorem G.lst14 {q0 q1 q2 q3 q4 q5 q6 q7 q8 q9 q10 q11 q12 q13 q14 q15 : Option Value} {t : List (Option Value)} {x : Int64} (hi : 14 + 1 < M.2.2.1) (hc : g_c1 q13 = true) (hd : decode M.2.1 pc = .ok (.lstore 14, 2)) (k1 : G X M Q (pc + 2) (q0 :: q1 :: q2 :: q3 :: q4 :: q5 :: q6 :: q7 :: q8 :: q9 :: q10 :: q11 :: q12 :: q13 :: some (.long x) :: none :: t) st σ) : G X M Q pc (q0 :: q1 :: q2 :: q3 :: q4 :: q5 :: q6 :: q7 :: q8 :: q9 :: q10 :: q11 :: q12 :: q13 :: q14 :: q15 :: t) (.long x :: st) σ := G.lstore (i := 14) hi (g_ncs (o := q13) rfl hc) hd k1
theorem G.icmp_eq {x y : Int32} {off : Int} {tgt : Nat} (ht : (pc : Int) + off = (tgt : Int)) (hd : decode M.2.1 pc = .ok (.if_icmp .eq off, 3)) (kt : x = y → G X M Q tgt ls st σ) (kf : ¬ x = y → G X M Q (pc + 3) ls st σ) : G X M Q pc ls (.int y :: .int x :: st) σ := fun p e s m args below meth c H locs lsA C hS hP hl => lv_icmp_eq C.1 C.2.1 hd ht (fun h => kt h p e s m args below meth c H locs lsA C hS hP hl) (fun h => kf h p e s m args below meth c H locs lsA C hS hP hl)
theorem G.if_eq {x : Int32} {off : Int} {tgt : Nat} (ht : (pc : Int) + off = (tgt : Int)) (hd : decode M.2.1 pc = .ok (.ifCond .eq off, 3)) (kt : x = 0 → G X M Q tgt ls st σ) (kf : ¬ x = 0 → G X M Q (pc + 3) ls st σ) : G X M Q pc ls (.int x :: st) σ := fun p e s m args below meth c H locs lsA C hS hP hl => lv_if_eq C.1 C.2.1 hd ht (fun h => kt h p e s m args below meth c H locs lsA C hS hP hl) (fun h => kf h p e s m args below meth c H locs lsA C hS hP hl)
theorem G.icmp_ne {x y : Int32} {off : Int} {tgt : Nat} (ht : (pc : Int) + off = (tgt : Int)) (hd : decode M.2.1 pc = .ok (.if_icmp .ne off, 3)) (kt : ¬ x = y → G X M Q tgt ls st σ) (kf : x = y → G X M Q (pc + 3) ls st σ) : G X M Q pc ls (.int y :: .int x :: st) σ := fun p e s m args below meth c H locs lsA C hS hP hl => lv_icmp_ne C.1 C.2.1 hd ht (fun h => kt h p e s m args below meth c H locs lsA C hS hP hl) (fun h => kf h p e s m args below meth c H locs lsA C hS hP hl)
theorem G.if_ne {x : Int32} {off : Int} {tgt : Nat} (ht : (pc : Int) + off = (tgt : Int)) (hd : decode M.2.1 pc = .ok (.ifCond .ne off, 3)) (kt : ¬ x = 0 → G X M Q tgt ls st σ) (kf : x = 0 → G X M Q (pc + 3) ls st σ) : G X M Q pc ls (.int x :: st) σ := fun p e s m args below meth c H locs lsA C hS hP hl => lv_if_ne C.1 C.2.1 hd ht (fun h => kt h p e s m args below meth c H locs lsA C hS hP hl) (fun h => kf h p e s m args below meth c H locs lsA C hS hP hl)
theorem G.icmp_lt {x y : Int32} {off : Int} {tgt : Nat} (ht : (pc : Int) + off = (tgt : Int)) (hd : decode M.2.1 pc = .ok (.if_icmp .lt off, 3)) (kt : x < y → G X M Q tgt ls st σ) (kf : ¬ x < y → G X M Q (pc + 3) ls st σ) : G X M Q pc ls (.int y :: .int x :: st) σ := fun p e s m args below meth c H locs lsA C hS hP hl => lv_icmp_lt C.1 C.2.1 hd ht (fun h => kt h p e s m args below meth c H locs lsA C hS hP hl) (fun h => kf h p e s m args below meth c H locs lsA C hS hP hl)
theorem G.if_lt {x : Int32} {off : Int} {tgt : Nat} (ht : (pc : Int) + off = (tgt : Int)) (hd : decode M.2.1 pc = .ok (.ifCond .lt off, 3)) (kt : x < 0 → G X M Q tgt ls st σ) (kf : ¬ x < 0 → G X M Q (pc + 3) ls st σ) : G X M Q pc ls (.int x :: st) σ := fun p e s m args below meth c H locs lsA C hS hP hl => lv_if_lt C.1 C.2.1 hd ht (fun h => kt h p e s m args below meth c H locs lsA C hS hP hl) (fun h => kf h p e s m args below meth c H locs lsA C hS hP hl)
theorem G.icmp_ge {x y : Int32} {off : Int} {tgt : Nat} (ht : (pc : Int) + off = (tgt : Int)) (hd : decode M.2.1 pc = .ok (.if_icmp .ge off, 3)) (kt : y ≤ x → G X M Q tgt ls st σ) (kf : ¬ y ≤ x → G X M Q (pc + 3) ls st σ) : G X M Q pc ls (.int y :: .int x :: st) σ := fun p e s m args below meth c H locs lsA C hS hP hl => lv_icmp_ge C.1 C.2.1 hd ht (fun h => kt h p e s m args below meth c H locs lsA C hS hP hl) (fun h => kf h p e s m args below meth c H locs lsA C hS hP hl)
theorem G.if_ge {x : Int32} {off : Int} {tgt : Nat} (ht : (pc : Int) + off = (tgt : Int)) (hd : decode M.2.1 pc = .ok (.ifCond .ge off, 3)) (kt : 0 ≤ x → G X M Q tgt ls st σ) (kf : ¬ 0 ≤ x → G X M Q (pc + 3) ls st σ) : G X M Q pc ls (.int x :: st) σ := fun p e s m args below meth c H locs lsA C hS hP hl => lv_if_ge C.1 C.2.1 hd ht (fun h => kt h p e s m args below meth c H locs lsA C hS hP hl) (fun h => kf h p e s m args below meth c H locs lsA C hS hP hl)
theorem G.icmp_gt {x y : Int32} {off : Int} {tgt : Nat} (ht : (pc : Int) + off = (tgt : Int)) (hd : decode M.2.1 pc = .ok (.if_icmp .gt off, 3)) (kt : y < x → G X M Q tgt ls st σ) (kf : ¬ y < x → G X M Q (pc + 3) ls st σ) : G X M Q pc ls (.int y :: .int x :: st) σ := fun p e s m args below meth c H locs lsA C hS hP hl => lv_icmp_gt C.1 C.2.1 hd ht (fun h => kt h p e s m args below meth c H locs lsA C hS hP hl) (fun h => kf h p e s m args below meth c H locs lsA C hS hP hl)
theorem G.if_gt {x : Int32} {off : Int} {tgt : Nat} (ht : (pc : Int) + off = (tgt : Int)) (hd : decode M.2.1 pc = .ok (.ifCond .gt off, 3)) (kt : 0 < x → G X M Q tgt ls st σ) (kf : ¬ 0 < x → G X M Q (pc + 3) ls st σ) : G X M Q pc ls (.int x :: st) σ := fun p e s m args below meth c H locs lsA C hS hP hl => lv_if_gt C.1 C.2.1 hd ht (fun h => kt h p e s m args below meth c H locs lsA C hS hP hl) (fun h => kf h p e s m args below meth c H locs lsA C hS hP hl)
theorem G.icmp_le {x y : Int32} {off : Int} {tgt : Nat} (ht : (pc : Int) + off = (tgt : Int)) (hd : decode M.2.1 pc = .ok (.if_icmp .le off, 3)) (kt : x ≤ y → G X M Q tgt ls st σ) (kf : ¬ x ≤ y → G X M Q (pc + 3) ls st σ) : G X M Q pc ls (.int y :: .int x :: st) σ := fun p e s m args below meth c H locs lsA C hS hP hl => lv_icmp_le C.1 C.2.1 hd ht (fun h => kt h p e s m args below meth c H locs lsA C hS hP hl) (fun h => kf h p e s m args below meth c H locs lsA C hS hP hl)
theorem G.if_le {x : Int32} {off : Int} {tgt : Nat} (ht : (pc : Int) + off = (tgt : Int)) (hd : decode M.2.1 pc = .ok (.ifCond .le off, 3)) (kt : x ≤ 0 → G X M Q tgt ls st σ) (kf : ¬ x ≤ 0 → G X M Q (pc + 3) ls st σ) : G X M Q pc ls (.int x :: st) σ := fun p e s m args below meth c H locs lsA C hS hP hl => lv_if_le C.1 C.2.1 hd ht (fun h => kt h p e s m args below meth c H locs lsA C hS hP hl) (fun h => kf h p e s m args below meth c H locs lsA C hS hP hl)
theorem G.goto {off : Int} {tgt : Nat} (ht : (pc : Int) + off = (tgt : Int)) (hd : decode M.2.1 pc = .ok (.goto off, 3)) (k : G X M Q tgt ls st σ) : G X M Q pc ls st σ := fun p e s m args below meth c H locs lsA C hS hP hl => lv_goto C.1 C.2.1 hd ht (k p e s m args below meth c H locs lsA C hS hP hl)
theorem G.tableOut {dflt lo hi : Int} {offs : Array Int} {len : Nat} {x : Int32} {tgt : Nat} (hd : decode M.2.1 pc = .ok (.tableswitch dflt lo hi offs, len)) (h : x.toInt < lo ∨ hi < x.toInt) (ht : (pc : Int) + dflt = (tgt : Int)) (k : G X M Q tgt ls st σ) : G X M Q pc ls (.int x :: st) σ := fun p e s m args below meth c H locs lsA C hS hP hl => lv_tableOut C.1 C.2.1 hd h ht (k p e s m args below meth c H locs lsA C hS hP hl)
theorem G.tableIn {dflt lo hi : Int} {offs : Array Int} {len : Nat} {x : Int32} {off : Int} {tgt : Nat} (hd : decode M.2.1 pc = .ok (.tableswitch dflt lo hi offs, len)) (h1 : ¬ x.toInt < lo) (h2 : ¬ hi < x.toInt) (ho : offs[(x.toInt - lo).toNat]? = some off) (ht : (pc : Int) + off = (tgt : Int)) (k : G X M Q tgt ls st σ) : G X M Q pc ls (.int x :: st) σ := fun p e s m args below meth c H locs lsA C hS hP hl => lv_tableIn C.1 C.2.1 hd h1 h2 ho ht (k p e s m args below meth c H locs lsA C hS hP hl)
theorem G.lookup {dflt : Int} {ps : Array (Int × Int)} {len : Nat} {x : Int32} {off : Int} {tgt : Nat} (hd : decode M.2.1 pc = .ok (.lookupswitch dflt ps, len)) (hp : (ps.toList.zip (ps.toList.drop 1)).all (fun (a, next) => a.1 < next.1) = true) (ho : Op.lookupswitch.offset ps.toList dflt x.toInt = off) (ht : (pc : Int) + off = (tgt : Int)) (k : G X M Q tgt ls st σ) : G X M Q pc ls (.int x :: st) σ := fun p e s m args below meth c H locs lsA C hS hP hl => lv_lookup C.1 C.2.1 hd hp ho ht (k p e s m args below meth c H locs lsA C hS hP hl)
theorem G.topi {x : Int32} (k : ∀ y : Int32, y = x → G X M Q pc ls (.int y :: st) σ) : G X M Q pc ls (.int x :: st) σ := k x rfl
theorem G.cut (x : Int32) {F : Int32 → Prop} (k : ∀ y : Int32, y = x → F y) : F x := k x rfl
/-! ===== cells ===== -/
theorem G.iald {a n : Nat} {i : Int32} (hL : X.2.2.2.2[a]? = some (.inl n)) (hin : vp_in i n) (hd : decode M.2.1 pc = .ok (.iaload, 1)) (k : G X M Q (pc + 1) ls (.int (σ a i.toNatClampNeg) :: st) σ) : G X M Q pc ls (.int i :: .ref a :: st) σ := fun p e s m args below meth c H locs lsA C hS hP hl => va_iald C.1 C.2.1 C.2.2.2.2.2.2.2.1 hP a 0 (g_w_at hL) rfl hin hd (k p e s m args below meth c H locs lsA C hS hP hl)
theorem G.iast {a n : Nat} {i x : Int32} (hL : X.2.2.2.2[a]? = some (.inl n)) (hin : vp_in i n) (hd : decode M.2.1 pc = .ok (.iastore, 1)) (k : G X M Q (pc + 1) ls st (up2 σ a i.toNatClampNeg x)) : G X M Q pc ls (.int x :: .int i :: .ref a :: st) σ := fun p e s m args below meth c H locs lsA C hS hP hl => va_iast C.1 C.2.1 C.2.2.2.2.2.2.2.1 hP (g_D C.2.2.2.2.2.2.2 σ) hS a 0 (g_w_at hL) rfl hin hd (fun H1 locs1 hP1 hD1 hS1 => k p e s m args below meth c H1 locs1 lsA C hS1 ((g_w_arr (cA := X.2.2.1) (ad := X.2.2.2.1) (σ := σ) (x := x) hL).subst (motive := fun w => va_P X.2.1 vwCl w H1) hP1) hl)
theorem G.alen {a n : Nat} {v : Int32} (hL : X.2.2.2.2[a]? = some (.inl n)) (hv : Int32.ofNat n = v) (hd : decode M.2.1 pc = .ok (.arraylength, 1)) (k : G X M Q (pc + 1) ls (.int v :: st) σ) : G X M Q pc ls (.ref a :: st) σ := fun p e s m args below meth c H locs lsA C hS hP hl => va_alen C.1 C.2.1 C.2.2.2.2.2.2.2.1 hP a 0 (g_w_at hL) rfl hv hd (k p e s m args below meth c H locs lsA C hS hP hl)
/-- field j of class ci, by the tables: its own link -/
abbrev g_ci (ci : Nat) (C : String) (T : u_T) (N : Nat) : Prop := vwCl[ci]? = some (C, T, N) ∧ ∀ w ∈ u_ws C T N, w ∈ tw
theorem G.getr {a ci j r N index : Nat} {Cn : String} {T : u_T} {fs : List (Option Nat)} (hL : X.2.2.2.2[a]? = some (.inr (ci, fs))) (hc : g_ci ci Cn T N) (hj : j < N) (hf : fs[j]? = some (some r)) (hw : Cond.fieldLink M.1.cls index (T j).1 (T j).2.1 (T j).2.2.1 ∈ tw) (hd : decode M.2.1 pc = .ok (.getfield index, 3)) (k : G X M Q (pc + 3) ls (.ref r :: st) σ) : G X M Q pc ls (.ref a :: st) σ := fun p e s m args below meth c H locs lsA C hS hP hl => va_get C.1 C.2.1 C.2.2.2.2.2.2.1 hc.2 C.2.2.2.2.2.1 C.2.2.2.2.2.2.2.1 hP a (g_w_at hL) hc.1 j hj (C.2.2.2.2.2.2.1 _ hw) (fun _ h9 => h9) (by rw [g_fl_get, hf]; rfl) hd (k p e s m args below meth c H locs lsA C hS hP hl)
theorem G.geti {a ci j N index : Nat} {Cn : String} {T : u_T} {fs : List (Option Nat)} (hL : X.2.2.2.2[a]? = some (.inr (ci, fs))) (hc : g_ci ci Cn T N) (hj : j < N) (hf : fs[j]? = some none) (hw : Cond.fieldLink M.1.cls index (T j).1 (T j).2.1 (T j).2.2.1 ∈ tw) (hd : decode M.2.1 pc = .ok (.getfield index, 3)) (k : G X M Q (pc + 3) ls (.int (σ a j) :: st) σ) : G X M Q pc ls (.ref a :: st) σ := fun p e s m args below meth c H locs lsA C hS hP hl => va_get C.1 C.2.1 C.2.2.2.2.2.2.1 hc.2 C.2.2.2.2.2.1 C.2.2.2.2.2.2.2.1 hP a (g_w_at hL) hc.1 j hj (C.2.2.2.2.2.2.1 _ hw) (fun _ h9 => h9) (by rw [g_fl_get, hf]; show some (Value.int (σ a (0 + j))) = _; rw [Nat.zero_add]; rfl) hd (k p e s m args below meth c H locs lsA C hS hP hl)
theorem G.getrN {a ci j r N index : Nat} {Cn host : String} {T : u_T} {fs : List (Option Nat)} (hL : X.2.2.2.2[a]? = some (.inr (ci, fs))) (hc : g_ci ci Cn T N) (hj : j < N) (hf : fs[j]? = some (some r)) (hw : ∀ U, g_N U → va_Nw (.fieldLinkNest M.1.cls index (T j).1 (T j).2.1 (T j).2.2.1 host) U) (hd : decode M.2.1 pc = .ok (.getfield index, 3)) (k : G X M Q (pc + 3) ls (.ref r :: st) σ) : G X M Q pc ls (.ref a :: st) σ := fun p e s m args below meth c H locs lsA C hS hP hl => va_getN C.1 C.2.1 C.2.2.2.2.2.2.1 hc.2 C.2.2.2.2.2.1 C.2.2.2.2.2.2.2.1 hP a (g_w_at hL) hc.1 j hj (va_Nw.use rfl (hw s C.2.2.2.2.2.2.2.2.1)) (fun _ h9 => h9) (by rw [g_fl_get, hf]; rfl) hd (k p e s m args below meth c H locs lsA C hS hP hl)
theorem G.getiN {a ci j N index : Nat} {Cn host : String} {T : u_T} {fs : List (Option Nat)} (hL : X.2.2.2.2[a]? = some (.inr (ci, fs))) (hc : g_ci ci Cn T N) (hj : j < N) (hf : fs[j]? = some none) (hw : ∀ U, g_N U → va_Nw (.fieldLinkNest M.1.cls index (T j).1 (T j).2.1 (T j).2.2.1 host) U) (hd : decode M.2.1 pc = .ok (.getfield index, 3)) (k : G X M Q (pc + 3) ls (.int (σ a j) :: st) σ) : G X M Q pc ls (.ref a :: st) σ := fun p e s m args below meth c H locs lsA C hS hP hl => va_getN C.1 C.2.1 C.2.2.2.2.2.2.1 hc.2 C.2.2.2.2.2.1 C.2.2.2.2.2.2.2.1 hP a (g_w_at hL) hc.1 j hj (va_Nw.use rfl (hw s C.2.2.2.2.2.2.2.2.1)) (fun _ h9 => h9) (by rw [g_fl_get, hf]; show some (Value.int (σ a (0 + j))) = _; rw [Nat.zero_add]; rfl) hd (k p e s m args below meth c H locs lsA C hS hP hl)
/-- what va_put wants of a class: types and names of its fields -/
abbrev g_cp (T : u_T) (N : Nat) (ty0 : Nat → FieldType) : Prop := (∀ k, k < N → parseFieldDescriptor (T k).2.2.1 = some (ty0 k)) ∧ ∀ a, a < N → ∀ b, b < N → a ≠ b → (T a).2.1 ≠ (T b).2.1
theorem g_fl_len (ad : Nat → Nat) (g : Nat → Int32) : ∀ (fs : List (Option Nat)) (j : Nat), (g_fl ad g j fs).length = fs.length := by
  intro fs
  induction fs with
  | nil => intro _; rfl
  | cons o t ih => intro j; cases o <;> simp [g_fl, ih]
theorem G.put {a ci j N index : Nat} {x : Int32} {Cn : String} {T : u_T} {ty0 : Nat → FieldType} {fs : List (Option Nat)} (hL : X.2.2.2.2[a]? = some (.inr (ci, fs))) (hc : g_ci ci Cn T N) (hq : g_cp T N ty0) (hj : j < N) (hf : fs[j]? = some none) (hfin : (T j).2.2.2 = false) (hn : narrow (ty0 j) (.int x) = .int x) (hfit : fits (ty0 j) (.int x) = true) (hw : Cond.fieldLink M.1.cls index (T j).1 (T j).2.1 (T j).2.2.1 ∈ tw) (hd : decode M.2.1 pc = .ok (.putfield index, 3)) (k : G X M Q (pc + 3) ls st (up2 σ a j x)) : G X M Q pc ls (.int x :: .ref a :: st) σ := fun p e s m args below meth c H locs lsA C hS hP hl => va_put C.1 C.2.1 C.2.2.2.2.2.2.1 hc.2 ty0 hq.1 hq.2 C.2.2.2.2.2.1 C.2.2.2.2.2.2.2.1 hP (g_D C.2.2.2.2.2.2.2 σ) hS a (g_w_at hL) hc.1 j hj (C.2.2.2.2.2.2.1 _ hw) (fun _ h9 => h9) hfin (hq.1 j hj) hn hfit (by rw [g_fl_len]; exact (List.getElem?_eq_some_iff.mp hf).1) hd (fun H1 locs1 hP1 hD1 hS1 => k p e s m args below meth c H1 locs1 lsA C hS1 ((g_w_fld (cA := X.2.2.1) (ad := X.2.2.2.1) (σ := σ) (x := x) hL hf).subst (motive := fun w => va_P X.2.1 vwCl w H1) hP1) hl)
/-! ===== the row ORDER ===== -/
theorem G.order {index : Nat} (hw : Cond.fieldLink M.1.cls index "SwapNames" "ORDER" "[I" ∈ tw) (hd : decode M.2.1 pc = .ok (.getstatic index, 3)) (k : G X M Q (pc + 3) ls (.ref 1000 :: st) σ) : G X M Q pc ls st σ := fun p e s m args below meth c H locs lsA C hS hP hl => va_gets C.1 C.2.1 C.2.2.2.2.2.2.2.2.2.1.1 hS C.2.2.2.2.2.1 (C.2.2.2.2.2.2.1 _ hw) (fun _ h9 => h9) hd (k p e s m args below meth c H locs lsA C hS hP hl)
theorem G.ordld {i : Int32} (hin : vp_in i 24) (hd : decode M.2.1 pc = .ok (.iaload, 1)) (k : G X M Q (pc + 1) ls (.int (g_ord i.toNatClampNeg) :: st) σ) : G X M Q pc ls (.int i :: .ref 1000 :: st) σ := fun p e s m args below meth c H locs lsA C hS hP hl => va_ti C.1 C.2.1 C.2.2.2.2.2.2.2.2.2.1.2 hS hin rfl hd (k p e s m args below meth c H locs lsA C hS hP hl)
/-! ===== answers ===== -/
def g_ri (P : Int32 → gS → Prop) : Option Value → gS → Prop := fun rv σ' => ∃ r, rv = some (.int r) ∧ P r σ'
def g_rl (P : Int64 → gS → Prop) : Option Value → gS → Prop := fun rv σ' => ∃ r, rv = some (.long r) ∧ P r σ'
def g_rv (P : gS → Prop) : Option Value → gS → Prop := fun rv σ' => rv = none ∧ P σ'
theorem G.iret {P : Int32 → gS → Prop} {r : Int32} (hr : M.2.2.2.1 = some .int) (hp : P r σ) (hd : decode M.2.1 pc = .ok (.ireturn, 1)) : G X M (g_ri P) pc ls [.int r] σ := fun p e s m args below meth c H locs lsA C hS hP hl => W.iret C.1 C.2.1 (C.2.2.1.trans hr) (fun t ht hW => ⟨⟨some (.int r), σ, rfl, ⟨r, rfl, hp⟩, by rw [ht]; exact hP⟩, hS.F ht⟩) hS.2.2 hd C.2.2.2.1
theorem G.zret {P : Int32 → gS → Prop} {r : Int32} (hr : M.2.2.2.1 = some .boolean) (hb : r = 0 ∨ r = 1) (hp : P r σ) (hd : decode M.2.1 pc = .ok (.ireturn, 1)) : G X M (g_ri P) pc ls [.int r] σ := fun p e s m args below meth c H locs lsA C hS hP hl => W.zret C.1 C.2.1 (C.2.2.1.trans hr) (by rcases hb with h | h <;> rw [h] <;> decide) (fun t ht hW => ⟨⟨some (.int r), σ, rfl, ⟨r, rfl, hp⟩, by rw [ht]; exact hP⟩, hS.F ht⟩) hS.2.2 hd C.2.2.2.1
theorem G.lret {P : Int64 → gS → Prop} {r : Int64} (hr : M.2.2.2.1 = some .long) (hp : P r σ) (hd : decode M.2.1 pc = .ok (.lreturn, 1)) : G X M (g_rl P) pc ls [.long r] σ := fun p e s m args below meth c H locs lsA C hS hP hl => W.lret C.1 C.2.1 (C.2.2.1.trans hr) (fun t ht hW => ⟨⟨some (.long r), σ, rfl, ⟨r, rfl, hp⟩, by rw [ht]; exact hP⟩, hS.F ht⟩) hS.2.2 hd C.2.2.2.1
theorem G.vret {P : gS → Prop} (hr : M.2.2.2.1 = none) (hp : P σ) (hd : decode M.2.1 pc = .ok (.return_, 1)) : G X M (g_rv P) pc ls [] σ := fun p e s m args below meth c H locs lsA C hS hP hl => W.vret C.1 C.2.1 (C.2.2.1.trans hr) (fun t ht hW => ⟨⟨none, σ, rfl, ⟨rfl, hp⟩, by rw [ht]; exact hP⟩, hS.F ht⟩) hS.2.2 hd C.2.2.2.1
/-! ===== a method's entry ===== -/
def g_ex : List Value → List (Option Value)
  | [] => []
  | v :: t => if v.category = 2 then some v :: none :: g_ex t else some v :: g_ex t
def g_en (n : Nat) (as : List Value) : List (Option Value) := g_ex as ++ List.replicate (n - (g_ex as).length) none
theorem g_ex_in (ad : Nat → Nat) : ∀ (as : List Value) (j0 i : Nat) (v : Value), (g_ex as)[i]? = some (some v) → (j0 + i, g_c ad v) ∈ lv_args j0 (as.map (g_c ad)) := by
  intro as
  induction as with
  | nil => intro j0 i v h; simp [g_ex] at h
  | cons a t ih =>
    intro j0 i v h
    simp only [List.map_cons, lv_args, g_cat]
    by_cases hc : a.category = 2
    · simp only [g_ex, hc, if_true] at h
      simp only [hc, if_true]
      match i, h with
      | 0, h => simp at h; subst h; simp
      | 1, h => simp at h
      | i + 2, h =>
        have e : j0 + (i + 2) = j0 + 2 + i := by omega
        rw [e]
        exact List.mem_cons_of_mem _ (ih (j0 + 2) i v (by simpa using h))
    · simp only [g_ex, hc, if_false] at h
      simp only [hc, if_false]
      match i, h with
      | 0, h => simp at h; subst h; simp
      | i + 1, h =>
        have e : j0 + (i + 1) = j0 + 1 + i := by omega
        rw [e]
        exact List.mem_cons_of_mem _ (ih (j0 + 1) i v (by simpa using h))
theorem GM.of {as : List Value} {ls : List (Option Value)} (hy : plainName M.1.cls = true) (hn : (lg_sl (as.map (g_c X.2.2.2.1))).length ≤ M.2.2.1) (hls : g_en M.2.2.1 as = ls) (h : G X M Q 0 ls [] σ) : GM X M as σ Q := by
  refine Met.ofW (cc := M.2.1) (maxL := M.2.2.1) (ret := M.2.2.2.1) hy rfl ?_
  intro p e s m args below meth c s₁ B hml hv
  obtain ⟨rfl, hB, hP⟩ := hv
  have hts := atoms_spec (ws := g_ws M) B.pre
  have hown : s.vm.findClass M.1.cls = some m.cls := findClass_of_methodNamed B.named
  have hl := lv_entry (as.map (g_c X.2.2.2.1)) hn
  rw [lg_entry_eq]
  refine h p e s m _ below meth c s.heap [] _ ⟨B.exec, B.bytes, B.returns, B.notSynchronized, hml, hown, fun w hw => hts w (List.mem_cons_of_mem _ hw), hB⟩ va_S.rf hP ⟨hl.1, hl.2.1, fun i v hi => ?_⟩
  rw [← hls] at hi
  refine hl.2.2 (i, g_c X.2.2.2.1 v) ?_
  have h1 : (g_ex as)[i]? = some (some v) := by
    unfold g_en at hi
    rw [List.getElem?_append] at hi
    split at hi
    · exact hi
    · rw [List.getElem?_replicate] at hi
      split at hi <;> simp at hi
  have h2 := g_ex_in X.2.2.2.1 as 0 i v h1
  rwa [Nat.zero_add] at h2
theorem GM.mono {as : List Value} {Q' : Option Value → gS → Prop} (h : GM X M as σ Q) (hq : ∀ rv σ', Q rv σ' → Q' rv σ') : GM X M as σ Q' := by
  intro p e ha hc hk s m args below hf happ hP hK
  obtain ⟨n, o, h1, h2, h3, ⟨⟨⟨rv, σ', e1, e2, e3⟩, e4⟩, e5⟩⟩ := h p e ha hc hk s m args below hf happ hP hK
  exact ⟨n, o, h1, h2, h3, ⟨⟨⟨rv, σ', e1, hq rv σ' e2, e3⟩, e4⟩, e5⟩⟩
end G1
/-! ===== calls ===== -/
theorem g_good {M : gM} (hc : Cond.code M.1 M.2.1 M.2.2.1 M.2.2.2.1 ∈ tw) : GoodIn tw (g_ws M) := by
  intro w hw
  rcases List.mem_cons.mp hw with h | h
  · rw [h]; exact ⟨hc, good_of_word (tw_good _ hc)⟩
  · exact ⟨h, good_of_word (tw_good _ h)⟩
/-- what a call needs of the callee: its words, its descriptor -/
abbrev g_cl (M' : gM) (n : Nat) : Prop := Cond.initialized M'.1.cls ∈ tw ∧ Cond.code M'.1 M'.2.1 M'.2.2.1 M'.2.2.2.1 ∈ tw ∧ (M'.1.cls ≠ "java/lang/invoke/MethodHandle" ∧ M'.1.cls ≠ "java/lang/invoke/VarHandle" ∧ (parseMethodDescriptor M'.1.desc).map (fun d => d.parameters.length) = some n) ∧ M'.2.2.2.2.cells = 0 ∧ M'.2.2.2.2.slots = 0
abbrev g_rm (M M' : gM) : Prop := M'.2.2.2.2.frames + 1 ≤ M.2.2.2.2.frames ∧ 8 + (M'.2.2.1 + 11) + M'.2.2.2.2.locals ≤ M.2.2.2.2.locals
theorem g_O.kept {X : gX} {s U : State} {H : Heap} (hvm : s.vm.Alike U.vm) (h : g_O X s s.heap) (hq : ∀ a : Nat, a < s.heap.size → ¬ g_A X a → H[a]? = s.heap[a]?) : g_O X U H := ⟨(h.1.moved hvm).kept hq, (h.2.moved hvm).kept hq⟩
theorem g_blind (X : gX) (as : List Value) (σ : gS) : FrameBlind (g_Pc X as σ) := fun a U g mk q => by
  obtain ⟨q0, ⟨qK, qN, qO, qI⟩, qP⟩ := q
  exact ⟨q0, ⟨va_K.moved (u := U) (U := U.calling g mk a) (Vm.Alike.refl U.vm) qK, g_N.same (s := U) (U := U.calling g mk a) rfl qN, g_O.kept (s := U) (U := U.calling g mk a) (Vm.Alike.refl U.vm) qO (fun _ _ _ => rfl), qI⟩, qP⟩
theorem g_pre {X : gX} {as : List Value} {σ : gS} {s : State} {H : Heap} {locs : List Loc} (hB : g_B X s) (hS : va_S (g_A X) s.heap H locs) (hP : va_P X.2.1 vwCl (g_wd X σ) H) : ∀ U : State, U.heap = H → s.WarmedH U.vm → g_Pc X as σ (as.map (g_c X.2.2.2.1)).toArray U := fun U hU hW => ⟨rfl, ⟨va_K.moved hW.alike hB.1, hB.2.1.warm hW, by rw [hU]; exact g_O.kept hW.alike hB.2.2.1 hS.2.1, hB.2.2.2⟩, by rw [hU]; exact hP⟩
section G2
variable {X : gX} {M : gM} {Q : Option Value → gS → Prop} {pc : Nat} {ls : List (Option Value)} {st : List Value} {σ : gS} {M' : gM} {as rest : List Value} {Q' : Option Value → gS → Prop} {n index : Nat}
/-- behind a run of the callee -/
theorem g_back {p : Program} {e : Env} {s : State} {m : MethodId} {args : Array Value} {below : List Frame} {meth : Method} {c : Code} {H : Heap} {locs : List Loc} {lsA : Array Slot} {st0 : List Value} {a : Array Value} (C : g_at X M p s m args meth c) (hS : va_S (g_A X) s.heap H locs) (hl : g_lv X.2.2.2.1 lsA M.2.2.1 ls)
    (hr : va_Run p X.1 e M.2.2.2.2 s m args below meth c H locs 0 0 0 0 (F0 m pc lsA st0) (rest.map (g_c X.2.2.2.1)) (g_Qc X Q' a) (g_A X))
    (k : ∀ rv σ', Q' rv σ' → G X M Q (pc + 3) ls (rv.toList ++ rest) σ') : W p X.1 e M.2.2.2.2 s m args below meth c H locs 0 0 (MQ below (g_Qc X Q) args s 0 0 (g_A X)) (F0 m pc lsA st0) := by
  intro T hT Y
  obtain ⟨v, st₀, t, T', L, h0, Y', hL, e1, e2, ⟨⟨rv, σ', hv, hq, hP'⟩, hz, hk⟩, stp⟩ := hr T hT Y
  have ev : v = rv.map (g_c X.2.2.2.1) := by injection hv
  subst ev
  rw [h0] at hz hk
  have hS' : va_S (g_A X) s.heap T'.heap (locs ++ L) := ⟨Nat.le_trans hS.1 (by rw [e1]; exact hz), fun q h1 h2 => by rw [e1, hk q (Nat.lt_of_lt_of_le h1 hS.1) h2]; exact hS.2.1 q h1 h2, fun q hq => by
    rcases List.mem_append.mp hq with h | h
    · exact hS.2.2 q h
    · exact hL q h⟩
  obtain ⟨t2, a1, b1⟩ := k rv σ' hq p e s m args below meth c T'.heap (locs ++ L) lsA C hS' (by rw [e1]; exact hP') hl T' rfl Y'
  refine ⟨t2, stp t2 ?_, b1⟩
  have e3 : (rv.map (g_c X.2.2.2.1)).toList ++ rest.map (g_c X.2.2.2.1) = (rv.toList ++ rest).map (g_c X.2.2.2.1) := by cases rv <;> simp
  rw [show ({ F0 m pc lsA st0 with pc := (F0 m pc lsA st0).pc + 3, stack := (rv.map (g_c X.2.2.2.1)).toList ++ rest.map (g_c X.2.2.2.1) } : JFrame) = F0 m (pc + 3) lsA ((rv.toList ++ rest).map (g_c X.2.2.2.1)) by rw [← e3]]
  exact a1
theorem g_catsum (ad : Nat → Nat) (r : List Value) : ((r.map (g_c ad)).map fun v => v.category).sum = (r.map fun v => v.category).sum := by
  rw [List.map_map]
  congr 1
  exact List.map_congr_left (fun v _ => g_cat ad v)
theorem G.callS (hM : GM X M' as σ Q') (hw : Cond.methodLink M.1.cls index M'.1 ∈ tw) (hs : Cond.static M'.1 ∈ tw) (hc : g_cl M' n) (hR : g_rm M M') (hn : as.length = n) (hst : st = as.reverse ++ rest) (hW : (rest.map fun v => v.category).sum ≤ 8) (hd : decode M.2.1 pc = .ok (.invokestatic index, 3)) (k : ∀ rv σ', Q' rv σ' → G X M Q (pc + 3) ls (rv.toList ++ rest) σ') : G X M Q pc ls st σ := by
  intro p e s m args below meth c H locs lsA C hS hP hl
  have hts := C.2.2.2.2.2.2.1
  refine g_back C hS hl (va_runS (As := as.map (g_c X.2.2.2.1)) (n := n) (g := F0 m pc lsA (st.map (g_c X.2.2.2.1))) ⟨C.1, C.2.1, C.2.2.2.2.1, C.2.2.2.2.2.1, hts⟩ hM ⟨callB_of n hts (g_good hc.2.1) rfl hc.2.2.2.1 hc.2.2.2.2 (hts _ hc.1) (hts _ hw) hc.2.2.1 hR, hts _ hs⟩ ⟨g_blind X as σ, g_pre C.2.2.2.2.2.2.2 hS hP⟩ rfl (by simpa using hn) hl.1 (by simp [hst]) (lv_room (by rw [g_catsum]; exact hW)) hd ⟨Nat.zero_le _, Nat.zero_le _⟩) k
theorem G.callSN {host : String} (hM : GM X M' as σ Q') (hw : ∀ U, g_N U → va_Nw (.methodLinkNest M.1.cls index M'.1 host) U) (hs : Cond.static M'.1 ∈ tw) (hc : g_cl M' n) (hR : g_rm M M') (hn : as.length = n) (hst : st = as.reverse ++ rest) (hW : (rest.map fun v => v.category).sum ≤ 8) (hd : decode M.2.1 pc = .ok (.invokestatic index, 3)) (k : ∀ rv σ', Q' rv σ' → G X M Q (pc + 3) ls (rv.toList ++ rest) σ') : G X M Q pc ls st σ := by
  intro p e s m args below meth c H locs lsA C hS hP hl
  have hts := C.2.2.2.2.2.2.1
  refine g_back C hS hl (va_runSN (As := as.map (g_c X.2.2.2.1)) (n := n) (g := F0 m pc lsA (st.map (g_c X.2.2.2.1))) ⟨C.1, C.2.1, C.2.2.2.2.1, C.2.2.2.2.2.1, hts⟩ hM ⟨va_cnB n hts (g_good hc.2.1) rfl hc.2.2.2.1 hc.2.2.2.2 (hw s C.2.2.2.2.2.2.2.2.1) (hts _ hc.1) hc.2.2.1 hR, hts _ hs, trivial⟩ ⟨g_blind X as σ, g_pre C.2.2.2.2.2.2.2 hS hP⟩ rfl (by simpa using hn) hl.1 (by simp [hst]) (lv_room (by rw [g_catsum]; exact hW)) hd ⟨Nat.zero_le _, Nat.zero_le _⟩) k
theorem G.callV {b ci N : Nat} {T : u_T} {fs : List (Option Nat)} (hM : GM X M' (.ref b :: as) σ Q') (hL : X.2.2.2.2[b]? = some (.inr (ci, fs))) (hcl : vwCl[ci]? = some (M'.1.cls, T, N)) (hw : Cond.methodLink M.1.cls index M'.1 ∈ tw) (hi : Cond.instanceMethod M'.1 ∈ tw) (hs : Cond.selects M'.1.cls M'.1 M'.1 ∈ tw) (hc : g_cl M' n) (hR : g_rm M M') (hn : as.length = n) (hst : st = as.reverse ++ .ref b :: rest) (hW : (rest.map fun v => v.category).sum ≤ 8) (hd : decode M.2.1 pc = .ok (.invokevirtual index, 3)) (k : ∀ rv σ', Q' rv σ' → G X M Q (pc + 3) ls (rv.toList ++ rest) σ') : G X M Q pc ls st σ := by
  intro p e s m args below meth c H locs lsA C hS hP hl
  have hts := C.2.2.2.2.2.2.1
  refine g_back C hS hl (va_runV (As := as.map (g_c X.2.2.2.1)) (b := X.2.2.2.1 b) (n := n) (C := M'.1.cls) (g := F0 m pc lsA (st.map (g_c X.2.2.2.1))) ⟨C.1, C.2.1, C.2.2.2.2.1, C.2.2.2.2.2.1, hts⟩ hM ⟨callB_of n hts (g_good hc.2.1) rfl hc.2.2.2.1 hc.2.2.2.2 (hts _ hc.1) (hts _ hw) hc.2.2.1 hR, hts _ hi, hts _ hs⟩ ⟨g_blind X _ σ, va_recv C.2.2.2.2.2.2.2.1 hP hcl (g_w_at hL), g_pre (as := .ref b :: as) C.2.2.2.2.2.2.2 hS hP⟩ rfl (by simpa using hn) hl.1 (by simp [hst, g_c]) (lv_room (by rw [g_catsum]; exact hW)) hd ⟨Nat.zero_le _, Nat.zero_le _⟩) k
end G2
section G3
variable {X : gX} {M : gM} {Q : Option Value → gS → Prop} {pc : Nat} {ls : List (Option Value)} {st : List Value} {σ : gS} {M' : gM} {as rest : List Value} {n index : Nat}
theorem G.callSi {P : Int32 → gS → Prop} (hM : GM X M' (as) σ (g_ri P)) (hw : Cond.methodLink M.1.cls index M'.1 ∈ tw) (hs : Cond.static M'.1 ∈ tw) (hc : g_cl M' n) (hR : g_rm M M') (hn : as.length = n) (hst : st = as.reverse ++ rest) (hW : (rest.map fun v => v.category).sum ≤ 8) (hd : decode M.2.1 pc = .ok (.invokestatic index, 3)) (k : ∀ r σ', P r σ' → G X M Q (pc + 3) ls (.int r :: rest) σ') : G X M Q pc ls st σ := G.callS hM hw hs hc hR hn hst hW hd (fun rv σ' hq => by obtain ⟨r, rfl, h⟩ := hq; exact k r σ' h)
theorem G.callSif {r1 : Int32} {σ1 : gS} (hM : GM X M' (as) σ (g_ri (fun r s => r = r1 ∧ s = σ1))) (hw : Cond.methodLink M.1.cls index M'.1 ∈ tw) (hs : Cond.static M'.1 ∈ tw) (hc : g_cl M' n) (hR : g_rm M M') (hn : as.length = n) (hst : st = as.reverse ++ rest) (hW : (rest.map fun v => v.category).sum ≤ 8) (hd : decode M.2.1 pc = .ok (.invokestatic index, 3)) (k : G X M Q (pc + 3) ls (.int r1 :: rest) σ1) : G X M Q pc ls st σ := G.callSi hM hw hs hc hR hn hst hW hd (fun r σ' h => by rw [h.1, h.2]; exact k)
theorem G.callSl {P : Int64 → gS → Prop} (hM : GM X M' (as) σ (g_rl P)) (hw : Cond.methodLink M.1.cls index M'.1 ∈ tw) (hs : Cond.static M'.1 ∈ tw) (hc : g_cl M' n) (hR : g_rm M M') (hn : as.length = n) (hst : st = as.reverse ++ rest) (hW : (rest.map fun v => v.category).sum ≤ 8) (hd : decode M.2.1 pc = .ok (.invokestatic index, 3)) (k : ∀ r σ', P r σ' → G X M Q (pc + 3) ls (.long r :: rest) σ') : G X M Q pc ls st σ := G.callS hM hw hs hc hR hn hst hW hd (fun rv σ' hq => by obtain ⟨r, rfl, h⟩ := hq; exact k r σ' h)
theorem G.callSlf {r1 : Int64} {σ1 : gS} (hM : GM X M' (as) σ (g_rl (fun r s => r = r1 ∧ s = σ1))) (hw : Cond.methodLink M.1.cls index M'.1 ∈ tw) (hs : Cond.static M'.1 ∈ tw) (hc : g_cl M' n) (hR : g_rm M M') (hn : as.length = n) (hst : st = as.reverse ++ rest) (hW : (rest.map fun v => v.category).sum ≤ 8) (hd : decode M.2.1 pc = .ok (.invokestatic index, 3)) (k : G X M Q (pc + 3) ls (.long r1 :: rest) σ1) : G X M Q pc ls st σ := G.callSl hM hw hs hc hR hn hst hW hd (fun r σ' h => by rw [h.1, h.2]; exact k)
theorem G.callSv {P : gS → Prop} (hM : GM X M' (as) σ (g_rv P)) (hw : Cond.methodLink M.1.cls index M'.1 ∈ tw) (hs : Cond.static M'.1 ∈ tw) (hc : g_cl M' n) (hR : g_rm M M') (hn : as.length = n) (hst : st = as.reverse ++ rest) (hW : (rest.map fun v => v.category).sum ≤ 8) (hd : decode M.2.1 pc = .ok (.invokestatic index, 3)) (k : ∀ σ', P σ' → G X M Q (pc + 3) ls rest σ') : G X M Q pc ls st σ := G.callS hM hw hs hc hR hn hst hW hd (fun rv σ' hq => by obtain ⟨rfl, h⟩ := hq; exact k σ' h)
theorem G.callSvf {σ1 : gS} (hM : GM X M' (as) σ (g_rv (fun s => s = σ1))) (hw : Cond.methodLink M.1.cls index M'.1 ∈ tw) (hs : Cond.static M'.1 ∈ tw) (hc : g_cl M' n) (hR : g_rm M M') (hn : as.length = n) (hst : st = as.reverse ++ rest) (hW : (rest.map fun v => v.category).sum ≤ 8) (hd : decode M.2.1 pc = .ok (.invokestatic index, 3)) (k : G X M Q (pc + 3) ls rest σ1) : G X M Q pc ls st σ := G.callSv hM hw hs hc hR hn hst hW hd (fun σ' h => by rw [h]; exact k)
theorem G.callSNi {host : String} {P : Int32 → gS → Prop} (hM : GM X M' (as) σ (g_ri P)) (hw : ∀ U, g_N U → va_Nw (.methodLinkNest M.1.cls index M'.1 host) U) (hs : Cond.static M'.1 ∈ tw) (hc : g_cl M' n) (hR : g_rm M M') (hn : as.length = n) (hst : st = as.reverse ++ rest) (hW : (rest.map fun v => v.category).sum ≤ 8) (hd : decode M.2.1 pc = .ok (.invokestatic index, 3)) (k : ∀ r σ', P r σ' → G X M Q (pc + 3) ls (.int r :: rest) σ') : G X M Q pc ls st σ := G.callSN hM hw hs hc hR hn hst hW hd (fun rv σ' hq => by obtain ⟨r, rfl, h⟩ := hq; exact k r σ' h)
theorem G.callSNif {host : String} {r1 : Int32} {σ1 : gS} (hM : GM X M' (as) σ (g_ri (fun r s => r = r1 ∧ s = σ1))) (hw : ∀ U, g_N U → va_Nw (.methodLinkNest M.1.cls index M'.1 host) U) (hs : Cond.static M'.1 ∈ tw) (hc : g_cl M' n) (hR : g_rm M M') (hn : as.length = n) (hst : st = as.reverse ++ rest) (hW : (rest.map fun v => v.category).sum ≤ 8) (hd : decode M.2.1 pc = .ok (.invokestatic index, 3)) (k : G X M Q (pc + 3) ls (.int r1 :: rest) σ1) : G X M Q pc ls st σ := G.callSNi hM hw hs hc hR hn hst hW hd (fun r σ' h => by rw [h.1, h.2]; exact k)
theorem G.callSNl {host : String} {P : Int64 → gS → Prop} (hM : GM X M' (as) σ (g_rl P)) (hw : ∀ U, g_N U → va_Nw (.methodLinkNest M.1.cls index M'.1 host) U) (hs : Cond.static M'.1 ∈ tw) (hc : g_cl M' n) (hR : g_rm M M') (hn : as.length = n) (hst : st = as.reverse ++ rest) (hW : (rest.map fun v => v.category).sum ≤ 8) (hd : decode M.2.1 pc = .ok (.invokestatic index, 3)) (k : ∀ r σ', P r σ' → G X M Q (pc + 3) ls (.long r :: rest) σ') : G X M Q pc ls st σ := G.callSN hM hw hs hc hR hn hst hW hd (fun rv σ' hq => by obtain ⟨r, rfl, h⟩ := hq; exact k r σ' h)
theorem G.callSNlf {host : String} {r1 : Int64} {σ1 : gS} (hM : GM X M' (as) σ (g_rl (fun r s => r = r1 ∧ s = σ1))) (hw : ∀ U, g_N U → va_Nw (.methodLinkNest M.1.cls index M'.1 host) U) (hs : Cond.static M'.1 ∈ tw) (hc : g_cl M' n) (hR : g_rm M M') (hn : as.length = n) (hst : st = as.reverse ++ rest) (hW : (rest.map fun v => v.category).sum ≤ 8) (hd : decode M.2.1 pc = .ok (.invokestatic index, 3)) (k : G X M Q (pc + 3) ls (.long r1 :: rest) σ1) : G X M Q pc ls st σ := G.callSNl hM hw hs hc hR hn hst hW hd (fun r σ' h => by rw [h.1, h.2]; exact k)
theorem G.callSNv {host : String} {P : gS → Prop} (hM : GM X M' (as) σ (g_rv P)) (hw : ∀ U, g_N U → va_Nw (.methodLinkNest M.1.cls index M'.1 host) U) (hs : Cond.static M'.1 ∈ tw) (hc : g_cl M' n) (hR : g_rm M M') (hn : as.length = n) (hst : st = as.reverse ++ rest) (hW : (rest.map fun v => v.category).sum ≤ 8) (hd : decode M.2.1 pc = .ok (.invokestatic index, 3)) (k : ∀ σ', P σ' → G X M Q (pc + 3) ls rest σ') : G X M Q pc ls st σ := G.callSN hM hw hs hc hR hn hst hW hd (fun rv σ' hq => by obtain ⟨rfl, h⟩ := hq; exact k σ' h)
theorem G.callSNvf {host : String} {σ1 : gS} (hM : GM X M' (as) σ (g_rv (fun s => s = σ1))) (hw : ∀ U, g_N U → va_Nw (.methodLinkNest M.1.cls index M'.1 host) U) (hs : Cond.static M'.1 ∈ tw) (hc : g_cl M' n) (hR : g_rm M M') (hn : as.length = n) (hst : st = as.reverse ++ rest) (hW : (rest.map fun v => v.category).sum ≤ 8) (hd : decode M.2.1 pc = .ok (.invokestatic index, 3)) (k : G X M Q (pc + 3) ls rest σ1) : G X M Q pc ls st σ := G.callSNv hM hw hs hc hR hn hst hW hd (fun σ' h => by rw [h]; exact k)
theorem G.callVi {b ci N : Nat} {T : u_T} {fs : List (Option Nat)} {P : Int32 → gS → Prop} (hM : GM X M' (.ref b :: as) σ (g_ri P)) (hL : X.2.2.2.2[b]? = some (.inr (ci, fs))) (hcl : vwCl[ci]? = some (M'.1.cls, T, N)) (hw : Cond.methodLink M.1.cls index M'.1 ∈ tw) (hi : Cond.instanceMethod M'.1 ∈ tw) (hs : Cond.selects M'.1.cls M'.1 M'.1 ∈ tw) (hc : g_cl M' n) (hR : g_rm M M') (hn : as.length = n) (hst : st = as.reverse ++ .ref b :: rest) (hW : (rest.map fun v => v.category).sum ≤ 8) (hd : decode M.2.1 pc = .ok (.invokevirtual index, 3)) (k : ∀ r σ', P r σ' → G X M Q (pc + 3) ls (.int r :: rest) σ') : G X M Q pc ls st σ := G.callV hM hL hcl hw hi hs hc hR hn hst hW hd (fun rv σ' hq => by obtain ⟨r, rfl, h⟩ := hq; exact k r σ' h)
theorem G.callVif {b ci N : Nat} {T : u_T} {fs : List (Option Nat)} {r1 : Int32} {σ1 : gS} (hM : GM X M' (.ref b :: as) σ (g_ri (fun r s => r = r1 ∧ s = σ1))) (hL : X.2.2.2.2[b]? = some (.inr (ci, fs))) (hcl : vwCl[ci]? = some (M'.1.cls, T, N)) (hw : Cond.methodLink M.1.cls index M'.1 ∈ tw) (hi : Cond.instanceMethod M'.1 ∈ tw) (hs : Cond.selects M'.1.cls M'.1 M'.1 ∈ tw) (hc : g_cl M' n) (hR : g_rm M M') (hn : as.length = n) (hst : st = as.reverse ++ .ref b :: rest) (hW : (rest.map fun v => v.category).sum ≤ 8) (hd : decode M.2.1 pc = .ok (.invokevirtual index, 3)) (k : G X M Q (pc + 3) ls (.int r1 :: rest) σ1) : G X M Q pc ls st σ := G.callVi hM hL hcl hw hi hs hc hR hn hst hW hd (fun r σ' h => by rw [h.1, h.2]; exact k)
theorem G.callVl {b ci N : Nat} {T : u_T} {fs : List (Option Nat)} {P : Int64 → gS → Prop} (hM : GM X M' (.ref b :: as) σ (g_rl P)) (hL : X.2.2.2.2[b]? = some (.inr (ci, fs))) (hcl : vwCl[ci]? = some (M'.1.cls, T, N)) (hw : Cond.methodLink M.1.cls index M'.1 ∈ tw) (hi : Cond.instanceMethod M'.1 ∈ tw) (hs : Cond.selects M'.1.cls M'.1 M'.1 ∈ tw) (hc : g_cl M' n) (hR : g_rm M M') (hn : as.length = n) (hst : st = as.reverse ++ .ref b :: rest) (hW : (rest.map fun v => v.category).sum ≤ 8) (hd : decode M.2.1 pc = .ok (.invokevirtual index, 3)) (k : ∀ r σ', P r σ' → G X M Q (pc + 3) ls (.long r :: rest) σ') : G X M Q pc ls st σ := G.callV hM hL hcl hw hi hs hc hR hn hst hW hd (fun rv σ' hq => by obtain ⟨r, rfl, h⟩ := hq; exact k r σ' h)
theorem G.callVlf {b ci N : Nat} {T : u_T} {fs : List (Option Nat)} {r1 : Int64} {σ1 : gS} (hM : GM X M' (.ref b :: as) σ (g_rl (fun r s => r = r1 ∧ s = σ1))) (hL : X.2.2.2.2[b]? = some (.inr (ci, fs))) (hcl : vwCl[ci]? = some (M'.1.cls, T, N)) (hw : Cond.methodLink M.1.cls index M'.1 ∈ tw) (hi : Cond.instanceMethod M'.1 ∈ tw) (hs : Cond.selects M'.1.cls M'.1 M'.1 ∈ tw) (hc : g_cl M' n) (hR : g_rm M M') (hn : as.length = n) (hst : st = as.reverse ++ .ref b :: rest) (hW : (rest.map fun v => v.category).sum ≤ 8) (hd : decode M.2.1 pc = .ok (.invokevirtual index, 3)) (k : G X M Q (pc + 3) ls (.long r1 :: rest) σ1) : G X M Q pc ls st σ := G.callVl hM hL hcl hw hi hs hc hR hn hst hW hd (fun r σ' h => by rw [h.1, h.2]; exact k)
theorem G.callVv {b ci N : Nat} {T : u_T} {fs : List (Option Nat)} {P : gS → Prop} (hM : GM X M' (.ref b :: as) σ (g_rv P)) (hL : X.2.2.2.2[b]? = some (.inr (ci, fs))) (hcl : vwCl[ci]? = some (M'.1.cls, T, N)) (hw : Cond.methodLink M.1.cls index M'.1 ∈ tw) (hi : Cond.instanceMethod M'.1 ∈ tw) (hs : Cond.selects M'.1.cls M'.1 M'.1 ∈ tw) (hc : g_cl M' n) (hR : g_rm M M') (hn : as.length = n) (hst : st = as.reverse ++ .ref b :: rest) (hW : (rest.map fun v => v.category).sum ≤ 8) (hd : decode M.2.1 pc = .ok (.invokevirtual index, 3)) (k : ∀ σ', P σ' → G X M Q (pc + 3) ls rest σ') : G X M Q pc ls st σ := G.callV hM hL hcl hw hi hs hc hR hn hst hW hd (fun rv σ' hq => by obtain ⟨rfl, h⟩ := hq; exact k σ' h)
theorem G.callVvf {b ci N : Nat} {T : u_T} {fs : List (Option Nat)} {σ1 : gS} (hM : GM X M' (.ref b :: as) σ (g_rv (fun s => s = σ1))) (hL : X.2.2.2.2[b]? = some (.inr (ci, fs))) (hcl : vwCl[ci]? = some (M'.1.cls, T, N)) (hw : Cond.methodLink M.1.cls index M'.1 ∈ tw) (hi : Cond.instanceMethod M'.1 ∈ tw) (hs : Cond.selects M'.1.cls M'.1 M'.1 ∈ tw) (hc : g_cl M' n) (hR : g_rm M M') (hn : as.length = n) (hst : st = as.reverse ++ .ref b :: rest) (hW : (rest.map fun v => v.category).sum ≤ 8) (hd : decode M.2.1 pc = .ok (.invokevirtual index, 3)) (k : G X M Q (pc + 3) ls rest σ1) : G X M Q pc ls st σ := G.callVv hM hL hcl hw hi hs hc hR hn hst hW hd (fun σ' h => by rw [h]; exact k)
/-- a row's item by a natural number -/
theorem vp_of {i : Int32} {k n : Nat} (hi : i = nI k) (hk : k < n) (hn : n < 2 ^ 31) : vp_in i n := by rw [hi]; exact vp_in_nI hk hn
theorem G.ialdN {a n k : Nat} {i : Int32} (hL : X.2.2.2.2[a]? = some (.inl n)) (hi : i = nI k) (hk : k < n) (hn : n < 2 ^ 31) (hd : decode M.2.1 pc = .ok (.iaload, 1)) (kk : G X M Q (pc + 1) ls (.int (σ a k) :: st) σ) : G X M Q pc ls (.int i :: .ref a :: st) σ := by
  refine G.iald hL (vp_of hi hk hn) hd ?_
  rw [hi, nI_clamp (by omega)]
  exact kk
theorem G.iastN {a n k : Nat} {i x : Int32} (hL : X.2.2.2.2[a]? = some (.inl n)) (hi : i = nI k) (hk : k < n) (hn : n < 2 ^ 31) (hd : decode M.2.1 pc = .ok (.iastore, 1)) (kk : G X M Q (pc + 1) ls st (up2 σ a k x)) : G X M Q pc ls (.int x :: .int i :: .ref a :: st) σ := by
  refine G.iast hL (vp_of hi hk hn) hd ?_
  rw [hi, nI_clamp (by omega)]
  exact kk
end G3

/-! ===== making: a world that grows ===== -/
theorem cl_L_7 : Cond.classLink RL 7 RX6 ∈ tw := tw_in1 (List.mem_of_getElem? (i := 13) (by decide +kernel)) (by decide +kernel)
theorem cl_X6_9 : Cond.classLink RX6 9 RX1 ∈ tw := tw_in1 (List.mem_of_getElem? (i := 21) (by decide +kernel)) (by decide +kernel)
theorem cl_X6_31 : Cond.classLink RX6 31 RX0 ∈ tw := tw_in1 (List.mem_of_getElem? (i := 45) (by decide +kernel)) (by decide +kernel)
theorem cl_X6_47 : Cond.classLink RX6 47 RX4 ∈ tw := tw_in1 (List.mem_of_getElem? (i := 67) (by decide +kernel)) (by decide +kernel)
theorem cl_X6_54 : Cond.classLink RX6 54 RX2 ∈ tw := tw_in1 (List.mem_of_getElem? (i := 110) (by decide +kernel)) (by decide +kernel)
theorem cl_L_10 : Cond.classLink RL 10 RX7 ∈ tw := tw_in3 (List.mem_of_getElem? (i := 201) (by decide +kernel)) (by decide +kernel)
theorem in_X6 : Cond.instantiable RX6 12 ∈ tw := tw_in1 (List.mem_of_getElem? (i := 14) (by decide +kernel)) (by decide +kernel)
theorem in_X1 : Cond.instantiable RX1 4 ∈ tw := tw_in1 (List.mem_of_getElem? (i := 22) (by decide +kernel)) (by decide +kernel)
theorem in_X0 : Cond.instantiable RX0 5 ∈ tw := tw_in1 (List.mem_of_getElem? (i := 46) (by decide +kernel)) (by decide +kernel)
theorem in_X4 : Cond.instantiable RX4 11 ∈ tw := tw_in1 (List.mem_of_getElem? (i := 68) (by decide +kernel)) (by decide +kernel)
theorem in_X2 : Cond.instantiable RX2 12 ∈ tw := tw_in1 (List.mem_of_getElem? (i := 111) (by decide +kernel)) (by decide +kernel)
theorem in_X7 : Cond.instantiable RX7 41 ∈ tw := tw_in3 (List.mem_of_getElem? (i := 202) (by decide +kernel)) (by decide +kernel)
theorem ac_int : Cond.arrayClass .int ∈ tw := tw_in1 (List.mem_of_getElem? (i := 44) (by decide +kernel)) (by decide +kernel)
abbrev cX : Type := Launch × va_G × ClassId
def c_B (X : cX) (U : State) : Prop := va_K X.2.1 vwCl [(X.2.2, .int)] U ∧ va_Nw (.methodLinkNest "SwapNames" 33 yX0_init "SwapNames") U
theorem c_B.warm {X : cX} {s U : State} (hW : s.WarmedH U.vm) (h : c_B X s) : c_B X U := ⟨va_K.moved hW.alike h.1, h.2.warmM hW⟩
def c_at (X : cX) (M : gM) (A : Nat → Prop) (p : Program) (s : State) (m : MethodId) (args : Array Value) (meth : Method) (c : Code) : Prop := p.tables.exec = Jvm.exec ∧ c.code = M.2.1 ∧ meth.sig.returnType = M.2.2.2.1 ∧ meth.locks = false ∧ c.maxLocals = M.2.2.1 ∧ s.vm.findClass M.1.cls = some m.cls ∧ (∀ w ∈ tw, w.before args s = true) ∧ c_B X s ∧ ∀ q, s.heap.size ≤ q → A q
def CW (X : cX) (M : gM) (A : Nat → Prop) (p : Program) (e : Env) (s : State) (m : MethodId) (args : Array Value) (below : List Frame) (meth : Method) (c : Code) (Z : State → Prop) (pc : Nat) (ls : List (Option Value)) (st : List Value) (w : va_W) (nc ns : Nat) : Prop := ∀ (H : Heap) (locs : List Loc) (lsA : Array Slot), va_S A s.heap H locs → va_P X.2.1 vwCl w H → va_D A w → g_lv id lsA M.2.2.1 ls → W p X.1 e M.2.2.2.2 s m args below meth c H locs nc ns Z (F0 m pc lsA st)
def c_Pc (X : cX) (as : List Value) (w0 : va_W) (sz : Nat) : Array Value → State → Prop := va_Pc as (fun U => U.heap.size = sz ∧ c_B X U ∧ va_P X.2.1 vwCl w0 U.heap ∧ va_D (fun _ => True) w0)
def c_Qc (X : cX) (Q : va_W → Prop) (A : Nat → Prop) : Array Value → State → Outcome → State → Prop := va_Qv (S := va_W) Q (fun w t => va_P X.2.1 vwCl w t.heap ∧ va_D A w) A
def CM (X : cX) (M : gM) (as : List Value) (w0 : va_W) (mc ms : Nat) (Q : va_W → Prop) : Prop := ∀ sz, Met X.1 M.1 (g_ws M) M.2.2.2.2 (c_Pc X as w0 sz) (c_Qc X Q (va_A w0 sz)) mc ms (va_A w0 sz)
theorem g_c_id (v : Value) : g_c id v = v := by cases v <;> rfl
theorem c_blind (X : cX) (as : List Value) (w0 : va_W) (sz : Nat) : FrameBlind (c_Pc X as w0 sz) := fun a U g mk q => by
  obtain ⟨q0, q1, qB, qP, qD⟩ := q
  exact ⟨q0, q1, ⟨va_K.moved (u := U) (U := U.calling g mk a) (Vm.Alike.refl U.vm) qB.1, qB.2.same (U := U.calling g mk a) rfl rfl⟩, qP, qD⟩
theorem map_get {α : Type} {w wc : List α} {is : List Nat} (h : is.map (fun i => w[i]?) = wc.map some) {k : Nat} {q : α} (hq : wc[k]? = some q) : ∃ i : Nat, w[i]? = some q := by
  have h1 : (is.map (fun i => w[i]?))[k]? = some (some q) := by rw [h, List.getElem?_map, hq]; rfl
  rw [List.getElem?_map] at h1
  cases hi : is[k]? with
  | none => rw [hi] at h1; cases h1
  | some i => rw [hi] at h1; exact ⟨i, Option.some.inj h1⟩
section CW0
variable {X : cX} {M : gM} {A : Nat → Prop} {p : Program} {e : Env} {s : State} {m : MethodId} {args : Array Value} {below : List Frame} {meth : Method} {c : Code} {Z : State → Prop} {pc : Nat} {ls : List (Option Value)} {st : List Value} {w : va_W} {nc ns : Nat}
theorem CW.al (C : c_at X M A p s m args meth c) {k : Fin 4} {a : Nat} (h : ls[(k : Nat)]? = some (some (.ref a))) (hd : decode M.2.1 pc = .ok (.aload_n k, 1)) (kk : CW X M A p e s m args below meth c Z (pc + 1) ls (.ref a :: st) w nc ns) : CW X M A p e s m args below meth c Z pc ls st w nc ns := fun H locs lsA hS hP hD hl => lv_aload_n C.1 C.2.1 hd rfl (hl.2.2 _ _ h) (kk H locs lsA hS hP hD hl)
theorem CW.il (C : c_at X M A p s m args meth c) {k : Fin 4} {a : Int32} (h : ls[(k : Nat)]? = some (some (.int a))) (hd : decode M.2.1 pc = .ok (.iload_n k, 1)) (kk : CW X M A p e s m args below meth c Z (pc + 1) ls (.int a :: st) w nc ns) : CW X M A p e s m args below meth c Z pc ls st w nc ns := fun H locs lsA hS hP hD hl => lv_iload_n C.1 C.2.1 hd rfl (hl.2.2 _ _ h) (kk H locs lsA hS hP hD hl)
theorem CW.iconst (C : c_at X M A p s m args meth c) {n : Int} {v : Int32} (hv : Int32.ofInt n = v) (hd : decode M.2.1 pc = .ok (.iconst n, 1)) (kk : CW X M A p e s m args below meth c Z (pc + 1) ls (.int v :: st) w nc ns) : CW X M A p e s m args below meth c Z pc ls st w nc ns := fun H locs lsA hS hP hD hl => lv_iconst C.1 C.2.1 hd hv (kk H locs lsA hS hP hD hl)
theorem CW.bipush (C : c_at X M A p s m args meth c) {n : Int} {v : Int32} (hv : (Int8.ofInt n).toInt32 = v) (hd : decode M.2.1 pc = .ok (.bipush n, 2)) (kk : CW X M A p e s m args below meth c Z (pc + 2) ls (.int v :: st) w nc ns) : CW X M A p e s m args below meth c Z pc ls st w nc ns := fun H locs lsA hS hP hD hl => lv_bipush C.1 C.2.1 hd hv (kk H locs lsA hS hP hD hl)
theorem CW.sipush (C : c_at X M A p s m args meth c) {n : Int} {v : Int32} (hv : (Int16.ofInt n).toInt32 = v) (hd : decode M.2.1 pc = .ok (.sipush n, 3)) (kk : CW X M A p e s m args below meth c Z (pc + 3) ls (.int v :: st) w nc ns) : CW X M A p e s m args below meth c Z pc ls st w nc ns := fun H locs lsA hS hP hD hl => lv_sipush C.1 C.2.1 hd hv (kk H locs lsA hS hP hD hl)
theorem CW.ldc (C : c_at X M A p s m args meth c) {index : Nat} {v : Int32} (hw : Cond.constant M.1.cls index v ∈ tw) (hd : decode M.2.1 pc = .ok (.ldc index, 2)) (kk : CW X M A p e s m args below meth c Z (pc + 2) ls (.int v :: st) w nc ns) : CW X M A p e s m args below meth c Z pc ls st w nc ns := fun H locs lsA hS hP hD hl => lv_ldc C.1 C.2.1 C.2.2.2.2.2.1 (C.2.2.2.2.2.2.1 _ hw) hd (kk H locs lsA hS hP hD hl)
theorem CW.dup (C : c_at X M A p s m args meth c) {a : Nat} (hd : decode M.2.1 pc = .ok (.dup, 1)) (kk : CW X M A p e s m args below meth c Z (pc + 1) ls (.ref a :: .ref a :: st) w nc ns) : CW X M A p e s m args below meth c Z pc ls (.ref a :: st) w nc ns := fun H locs lsA hS hP hD hl => lv_dup C.1 C.2.1 hd rfl (kk H locs lsA hS hP hD hl)
theorem CW.goto (C : c_at X M A p s m args meth c) {off : Int} {tgt : Nat} (ht : (pc : Int) + off = (tgt : Int)) (hd : decode M.2.1 pc = .ok (.goto off, 3)) (kk : CW X M A p e s m args below meth c Z tgt ls st w nc ns) : CW X M A p e s m args below meth c Z pc ls st w nc ns := fun H locs lsA hS hP hD hl => lv_goto C.1 C.2.1 hd ht (kk H locs lsA hS hP hD hl)
theorem CW.icge (C : c_at X M A p s m args meth c) {x y : Int32} {off : Int} {tgt : Nat} (ht : (pc : Int) + off = (tgt : Int)) (hd : decode M.2.1 pc = .ok (.if_icmp .ge off, 3)) (kt : y ≤ x → CW X M A p e s m args below meth c Z tgt ls st w nc ns) (kf : ¬ y ≤ x → CW X M A p e s m args below meth c Z (pc + 3) ls st w nc ns) : CW X M A p e s m args below meth c Z pc ls (.int y :: .int x :: st) w nc ns := fun H locs lsA hS hP hD hl => lv_icmp_ge C.1 C.2.1 hd ht (fun h => kt h H locs lsA hS hP hD hl) (fun h => kf h H locs lsA hS hP hD hl)
theorem CW.ist (C : c_at X M A p s m args meth c) {k : Fin 4} {x : Int32} (hi : (k : Nat) < M.2.2.1) (hn : g_nc ls k) (hd : decode M.2.1 pc = .ok (.istore_n k, 1)) (kk : CW X M A p e s m args below meth c Z (pc + 1) (ls.set k (some (.int x))) st w nc ns) : CW X M A p e s m args below meth c Z pc ls (.int x :: st) w nc ns := fun H locs lsA hS hP hD hl => lv_istore_n C.1 C.2.1 hd rfl hl.has hi rfl (fun ls' h' => kk H locs ls' hS hP hD (g_lv.st1 (v := .int x) hn h'))
theorem CW.ast (C : c_at X M A p s m args meth c) {k : Fin 4} {x : Nat} (hi : (k : Nat) < M.2.2.1) (hn : g_nc ls k) (hd : decode M.2.1 pc = .ok (.astore_n k, 1)) (kk : CW X M A p e s m args below meth c Z (pc + 1) (ls.set k (some (.ref x))) st w nc ns) : CW X M A p e s m args below meth c Z pc ls (.ref x :: st) w nc ns := fun H locs lsA hS hP hD hl => lv_astore_n C.1 C.2.1 hd rfl hl.has hi rfl (fun ls' h' => kk H locs ls' hS hP hD (g_lv.st1 (v := .ref x) hn h'))
theorem CW.inc (C : c_at X M A p s m args meth c) {i : Nat} {n : Int} {x d : Int32} (hl0 : ls[i]? = some (some (.int x))) (hv : Int32.ofInt n = d) (hi : i < M.2.2.1) (hn : g_nc ls i) (hd : decode M.2.1 pc = .ok (.iinc i n, 3)) (kk : CW X M A p e s m args below meth c Z (pc + 3) (ls.set i (some (.int (x + d)))) st w nc ns) : CW X M A p e s m args below meth c Z pc ls st w nc ns := fun H locs lsA hS hP hD hl => by
  have hm := g_ll_in id ls 0 i _ hl0
  rw [Nat.zero_add] at hm
  obtain ⟨k, hk⟩ := List.getElem?_of_mem hm
  exact lv_iinc (v := x + d) C.1 C.2.1 hd hl.has (k := k) hk (by rw [hv]) hi rfl (fun ls' h' => kk H locs ls' hS hP hD (g_lv.st1 (v := .int (x + d)) hn h'))
theorem CW.iast (C : c_at X M A p s m args meth c) (q0 : Nat) {a n : Nat} {f : Nat → Int32} (ha : w[q0]? = some (a, .inl (X.2.2, n, .inl f))) {i x : Int32} (hin : vp_in i n) (hd : decode M.2.1 pc = .ok (.iastore, 1)) (kk : CW X M A p e s m args below meth c Z (pc + 1) ls st (w.set q0 (a, .inl (X.2.2, n, .inl (upd f i.toNatClampNeg x)))) nc ns) : CW X M A p e s m args below meth c Z pc ls (.int x :: .int i :: .ref a :: st) w nc ns := fun H locs lsA hS hP hD hl => va_iast C.1 C.2.1 C.2.2.2.2.2.2.2.1.1 hP hD hS q0 0 ha rfl hin hd (fun H1 locs1 hP1 hD1 hS1 => kk H1 locs1 lsA hS1 hP1 hD1 hl)
theorem CW.alen (C : c_at X M A p s m args meth c) (q0 : Nat) {a n : Nat} {f : Nat → Int32} (ha : w[q0]? = some (a, .inl (X.2.2, n, .inl f))) (hn : n < 2 ^ 31) (hd : decode M.2.1 pc = .ok (.arraylength, 1)) (kk : CW X M A p e s m args below meth c Z (pc + 1) ls (.int (nI n) :: st) w nc ns) : CW X M A p e s m args below meth c Z pc ls (.ref a :: st) w nc ns := fun H locs lsA hS hP hD hl => va_alen C.1 C.2.1 C.2.2.2.2.2.2.2.1.1 hP q0 0 ha rfl rfl hd (kk H locs lsA hS hP hD hl)
theorem CW.get (C : c_at X M A p s m args meth c) (q0 : Nat) {a ci j N index : Nat} {Cn : String} {T : u_T} {fs : List Value} {v : Value} (he : w[q0]? = some (a, .inr (ci, fs))) (hc : g_ci ci Cn T N) (hj : j < N) (hv : fs[j]? = some v) (hw : Cond.fieldLink M.1.cls index (T j).1 (T j).2.1 (T j).2.2.1 ∈ tw) (hd : decode M.2.1 pc = .ok (.getfield index, 3)) (kk : CW X M A p e s m args below meth c Z (pc + 3) ls (v :: st) w nc ns) : CW X M A p e s m args below meth c Z pc ls (.ref a :: st) w nc ns := fun H locs lsA hS hP hD hl => va_get C.1 C.2.1 C.2.2.2.2.2.2.1 hc.2 C.2.2.2.2.2.1 C.2.2.2.2.2.2.2.1.1 hP q0 he hc.1 j hj (C.2.2.2.2.2.2.1 _ hw) (fun _ h9 => h9) hv hd (kk H locs lsA hS hP hD hl)
theorem CW.put (C : c_at X M A p s m args meth c) (q0 : Nat) {a ci j N index : Nat} {Cn : String} {T : u_T} {ty0 : Nat → FieldType} {fs : List Value} {v : Value} (he : w[q0]? = some (a, .inr (ci, fs))) (hc : g_ci ci Cn T N) (hq : g_cp T N ty0) (hj : j < N) (hfin : (T j).2.2.2 = false) (hn : narrow (ty0 j) v = v) (hfit : fits (ty0 j) v = true) (hl0 : j < fs.length) (hw : Cond.fieldLink M.1.cls index (T j).1 (T j).2.1 (T j).2.2.1 ∈ tw) (hd : decode M.2.1 pc = .ok (.putfield index, 3)) (kk : CW X M A p e s m args below meth c Z (pc + 3) ls st (w.set q0 (a, .inr (ci, fs.set j v))) nc ns) : CW X M A p e s m args below meth c Z pc ls (v :: .ref a :: st) w nc ns := fun H locs lsA hS hP hD hl => va_put C.1 C.2.1 C.2.2.2.2.2.2.1 hc.2 ty0 hq.1 hq.2 C.2.2.2.2.2.1 C.2.2.2.2.2.2.2.1.1 hP hD hS q0 he hc.1 j hj (C.2.2.2.2.2.2.1 _ hw) (fun _ h9 => h9) hfin (hq.1 j hj) hn hfit hl0 hd (fun H1 locs1 hP1 hD1 hS1 => kk H1 locs1 lsA hS1 hP1 hD1 hl)
theorem CW.putF (C : c_at X M A p s m args meth c) (hin : meth.name = "<init>") (q0 : Nat) {a ci j N index : Nat} {Cn : String} {T : u_T} {ty0 : Nat → FieldType} {fs : List Value} {v : Value} (he : w[q0]? = some (a, .inr (ci, fs))) (hc : g_ci ci Cn T N) (hq : g_cp T N ty0) (hj : j < N) (hfin : (T j).2.2.2 = true) (hdecl : (T j).1 = M.1.cls) (hn : narrow (ty0 j) v = v) (hfit : fits (ty0 j) v = true) (hl0 : j < fs.length) (hw : Cond.fieldLink M.1.cls index (T j).1 (T j).2.1 (T j).2.2.1 ∈ tw) (hd : decode M.2.1 pc = .ok (.putfield index, 3)) (kk : CW X M A p e s m args below meth c Z (pc + 3) ls st (w.set q0 (a, .inr (ci, fs.set j v))) nc ns) : CW X M A p e s m args below meth c Z pc ls (v :: .ref a :: st) w nc ns := fun H locs lsA hS hP hD hl => va_putF C.1 C.2.1 C.2.2.2.2.2.2.1 hc.2 ty0 hq.1 hq.2 C.2.2.2.2.2.1 C.2.2.2.2.2.2.2.1.1 hP hD hS q0 he hc.1 j hj (C.2.2.2.2.2.2.1 _ hw) (fun _ h9 => h9) hfin hin hdecl (hq.1 j hj) hn hfit hl0 hd (fun H1 locs1 hP1 hD1 hS1 => kk H1 locs1 lsA hS1 hP1 hD1 hl)
theorem CW.na (C : c_at X M A p s m args meth c) {n : Int32} {N : Nat} (hn : ¬ n < 0) (hN : n.toNatClampNeg = N) (hb4 : N * componentBytes .int ≤ 536870912) (h1 : nc + 1 ≤ M.2.2.2.2.cells) (h2 : ns + N ≤ M.2.2.2.2.slots) (hd : decode M.2.1 pc = .ok (.newarray .int, 2)) (kk : ∀ q, CW X M A p e s m args below meth c Z (pc + 2) ls (.ref q :: st) (w ++ [(q, .inl (X.2.2, N, .inl (fun _ => 0)))]) (nc + 1) (ns + N)) : CW X M A p e s m args below meth c Z pc ls (.int n :: st) w nc ns := by
  intro H locs lsA hS hP hD hl
  refine va_newaK (atype := .int) C.1 C.2.1 (C.2.2.2.2.2.2.1 _ ac_int) rfl hd rfl hn hN hb4 h1 h2 rfl fun H1 cA e1 z1 o1 hAr hNm => ?_
  have hcA : cA = X.2.2 := Option.some.inj (hNm.symm.trans (C.2.2.2.2.2.2.2.1.1.2 0 _ rfl).2)
  have hk : ∀ (k : Nat) (x : Nat × va_E), w[k]? = some x → H1[x.1]? = H[x.1]? := fun k x hx => o1 x.1 ((hP k x hx).lt)
  refine kk H.size H1 locs lsA ⟨Nat.le_trans hS.1 (by omega), fun x h1 h2 => (o1 x (Nat.lt_of_lt_of_le h1 hS.1)).trans (hS.2.1 x h1 h2), hS.2.2⟩ ((hP.kept hk).app (fun k x hx => ?_)) (hD.push hP rfl (C.2.2.2.2.2.2.2.2 _ hS.1)) hl
  have hz : k < 1 := (List.getElem?_eq_some_iff.mp hx).1
  rw [show k = 0 by omega] at hx
  cases hx
  show H1[H.size]? = some (vp_cell _ _)
  rw [e1, hcA]
  rfl
theorem CW.new (C : c_at X M A p s m args meth c) {Cn : String} {T : u_T} {N ci index : Nat} {ty : Nat → FieldType} {fs : List Value} (hc : g_ci ci Cn T N) (hq : g_cp T N ty) (hcl : Cond.classLink M.1.cls index Cn ∈ tw) (hins : Cond.instantiable Cn N ∈ tw) (hini : Cond.initialized Cn ∈ tw) (hfs : ∀ j, j < N → defaultValue (ty j) = vp_V fs j) (h1 : nc + 1 ≤ M.2.2.2.2.cells) (h2 : ns + N ≤ M.2.2.2.2.slots) (hd : decode M.2.1 pc = .ok (.new index, 3)) (kk : ∀ q, CW X M A p e s m args below meth c Z (pc + 3) ls (.ref q :: st) (w ++ [(q, .inr (ci, fs))]) (nc + 1) (ns + N)) : CW X M A p e s m args below meth c Z pc ls st w nc ns := fun H locs lsA hS hP hD hl => va_new C.1 C.2.1 C.2.2.2.2.2.2.1 hc.2 ty hq.1 C.2.2.2.2.2.1 (C.2.2.2.2.2.2.1 _ hcl) (C.2.2.2.2.2.2.1 _ hins) (C.2.2.2.2.2.2.1 _ hini) C.2.2.2.2.2.2.2.1.1 hP hD hS C.2.2.2.2.2.2.2.2 hc.1 hfs h1 h2 hd (fun q H1 hP1 hD1 hS1 => kk q H1 locs lsA hS1 hP1 hD1 hl)
theorem CW.obj (C : c_at X M A p s m args meth c) {a idx : Nat} (hw : Cond.methodLink M.1.cls idx objectInit ∈ tw) (hfr : 1 ≤ M.2.2.2.2.frames) (hlo : (st.map fun v => v.category).sum + 12 ≤ M.2.2.2.2.locals) (hd : decode M.2.1 pc = .ok (.invokespecial idx, 3)) (kk : CW X M A p e s m args below meth c Z (pc + 3) ls st w nc ns) : CW X M A p e s m args below meth c Z pc ls (.ref a :: st) w nc ns := fun H locs lsA hS hP hD hl => W.objInit C.1 C.2.1 C.2.2.2.2.2.1 (C.2.2.2.2.2.2.1 _ hw) (C.2.2.2.2.2.2.1 _ im_objectInit) (C.2.2.2.2.2.2.1 _ wc_objectInit) rfl (by rw [C.2.2.2.2.1]; exact hl.1) rfl hd hfr (by show 2 * 0 + _ + 12 ≤ _; omega) (W.eq (g2 := F0 m (pc + 3) lsA st) rfl (kk H locs lsA hS hP hD hl))
theorem CW.vret {Q : va_W → Prop} (C : c_at X M A p s m args meth c) (hr : M.2.2.2.1 = none) (hq : Q w) (hd : decode M.2.1 pc = .ok (.return_, 1)) : CW X M A p e s m args below meth c (MQ below (c_Qc X Q A) args s nc ns A) pc ls [] w nc ns := fun H locs lsA hS hP hD hl => W.vret C.1 C.2.1 (C.2.2.1.trans hr) (fun t ht hW => ⟨⟨w, rfl, hq, by rw [ht]; exact hP, hD⟩, hS.F ht⟩) hS.2.2 hd C.2.2.2.1
abbrev c_rm (M M' : gM) : Prop := M'.2.2.2.2.frames + 1 ≤ M.2.2.2.2.frames ∧ 8 + (M'.2.2.1 + 11) + M'.2.2.2.2.locals ≤ M.2.2.2.2.locals
abbrev c_cl (M' : gM) (n mc ms : Nat) : Prop := Cond.initialized M'.1.cls ∈ tw ∧ Cond.code M'.1 M'.2.1 M'.2.2.1 M'.2.2.2.1 ∈ tw ∧ (M'.1.cls ≠ "java/lang/invoke/MethodHandle" ∧ M'.1.cls ≠ "java/lang/invoke/VarHandle" ∧ (parseMethodDescriptor M'.1.desc).map (fun d => d.parameters.length) = some n) ∧ M'.2.2.2.2.cells = mc ∧ M'.2.2.2.2.slots = ms
theorem CW.ctor {M' : gM} {as : List Value} {wc wr : va_W} {st0 : List Value} {mc ms n b index : Nat} {Q' : va_W → Prop} (C : c_at X M A p s m args meth c) (hM : CM X M' (.ref b :: as) wc mc ms Q') (hc : c_cl M' n mc ms) (hnm : M'.1.name = "<init>") (hret : M'.2.2.2.1 = none) (hw : Cond.methodLink M.1.cls index M'.1 ∈ tw) (hi : Cond.instanceMethod M'.1 ∈ tw) (hR : c_rm M M') (hn : as.length = n) (hst : st0 = as.reverse ++ .ref b :: st) (isC isR : List Nat) (hC : isC.map (fun i => w[i]?) = wc.map some) (hRr : isR.map (fun i => w[i]?) = wr.map some) (hnC : va_nd isC = true) (hnR : va_nd isR = true) (hdis : ∀ i ∈ isR, i ∉ isC) (hW : (st.map fun v => v.category).sum ≤ 8) (h1 : nc + mc ≤ M.2.2.2.2.cells) (h2 : ns + ms ≤ M.2.2.2.2.slots) (hd : decode M.2.1 pc = .ok (.invokespecial index, 3)) (kk : ∀ w1, Q' w1 → CW X M A p e s m args below meth c Z (pc + 3) ls st (wr ++ w1) (nc + mc) (ns + ms)) : CW X M A p e s m args below meth c Z pc ls st0 w nc ns := by
  subst hst
  intro H locs lsA hS hP hD hl
  have hts := C.2.2.2.2.2.2.1
  have hPc : va_P X.2.1 vwCl wc H := fun k q hq => by obtain ⟨i, hi⟩ := map_get hC hq; exact hP i q hi
  have hDc := hD.sub isC hnC hC
  have hFc := va_free (wc := wc) hD hS C.2.2.2.2.2.2.2.2 isC hC
  have hcb := callB_of (R := M.2.2.2.2) (own := M.1.cls) (index := index) n hts (g_good hc.2.1) rfl hc.2.2.2.1 hc.2.2.2.2 (hts _ hc.1) (hts _ hw) hc.2.2.1 hR
  rw [hret] at hcb
  refine va_callv (va_runI (As := as) (rest := st) ⟨C.1, C.2.1, C.2.2.2.2.1, C.2.2.2.2.2.1, hts⟩ (hM H.size) ⟨hcb, hnm, hts _ hi⟩ ⟨c_blind X _ wc H.size, fun U hU hWm => ⟨rfl, by rw [hU], C.2.2.2.2.2.2.2.1.warm hWm, by rw [hU]; exact hPc, hDc.weaken (fun _ _ _ _ => trivial)⟩⟩ rfl hn hl.1 rfl (lv_room hW) hd ⟨h1, h2⟩) hS (fun q _ h => hFc q h) hFc (fun u t H1 locs1 ht hvm hw hB hz1 hk1 hS1 => ?_)
  obtain ⟨hP1, hD1⟩ := hB
  rw [ht] at hP1
  obtain ⟨hP2, hD2⟩ := va_join (wr := wr) (w1 := u) hP hD isC isR hC hRr hnR hdis hk1 hFc hP1 hD1
  exact kk u hw H1 locs1 lsA hS1 hP2 hD2 hl
theorem CW.ctorN {M' : gM} {as : List Value} {wc wr : va_W} {st0 : List Value} {mc ms n b index : Nat} {host : String} {Q' : va_W → Prop} (C : c_at X M A p s m args meth c) (hM : CM X M' (.ref b :: as) wc mc ms Q') (hc : c_cl M' n mc ms) (hnm : M'.1.name = "<init>") (hret : M'.2.2.2.1 = none) (hw : va_Nw (.methodLinkNest M.1.cls index M'.1 host) s) (hi : Cond.instanceMethod M'.1 ∈ tw) (hR : c_rm M M') (hn : as.length = n) (hst : st0 = as.reverse ++ .ref b :: st) (isC isR : List Nat) (hC : isC.map (fun i => w[i]?) = wc.map some) (hRr : isR.map (fun i => w[i]?) = wr.map some) (hnC : va_nd isC = true) (hnR : va_nd isR = true) (hdis : ∀ i ∈ isR, i ∉ isC) (hW : (st.map fun v => v.category).sum ≤ 8) (h1 : nc + mc ≤ M.2.2.2.2.cells) (h2 : ns + ms ≤ M.2.2.2.2.slots) (hd : decode M.2.1 pc = .ok (.invokespecial index, 3)) (kk : ∀ w1, Q' w1 → CW X M A p e s m args below meth c Z (pc + 3) ls st (wr ++ w1) (nc + mc) (ns + ms)) : CW X M A p e s m args below meth c Z pc ls st0 w nc ns := by
  subst hst
  intro H locs lsA hS hP hD hl
  have hts := C.2.2.2.2.2.2.1
  have hPc : va_P X.2.1 vwCl wc H := fun k q hq => by obtain ⟨i, hi⟩ := map_get hC hq; exact hP i q hi
  have hDc := hD.sub isC hnC hC
  have hFc := va_free (wc := wc) hD hS C.2.2.2.2.2.2.2.2 isC hC
  have hcb := va_cnB (R := M.2.2.2.2) (own := M.1.cls) (index := index) (host := host) n hts (g_good hc.2.1) rfl hc.2.2.2.1 hc.2.2.2.2 hw (hts _ hc.1) hc.2.2.1 hR
  rw [hret] at hcb
  refine va_callv (va_runIN (As := as) (rest := st) ⟨C.1, C.2.1, C.2.2.2.2.1, C.2.2.2.2.2.1, hts⟩ (hM H.size) ⟨hcb, hnm, hts _ hi⟩ ⟨c_blind X _ wc H.size, fun U hU hWm => ⟨rfl, by rw [hU], C.2.2.2.2.2.2.2.1.warm hWm, by rw [hU]; exact hPc, hDc.weaken (fun _ _ _ _ => trivial)⟩⟩ rfl hn hl.1 rfl (lv_room hW) hd ⟨h1, h2⟩) hS (fun q _ h => hFc q h) hFc (fun u t H1 locs1 ht hvm hw hB hz1 hk1 hS1 => ?_)
  obtain ⟨hP1, hD1⟩ := hB
  rw [ht] at hP1
  obtain ⟨hP2, hD2⟩ := va_join (wr := wr) (w1 := u) hP hD isC isR hC hRr hnR hdis hk1 hFc hP1 hD1
  exact kk u hw H1 locs1 lsA hS1 hP2 hD2 hl
theorem CW.stat {M' : gM} {as : List Value} {wc wr : va_W} {st0 : List Value} {mc ms n index : Nat} {Q' : va_W → Prop} (C : c_at X M A p s m args meth c) (hM : CM X M' as wc mc ms Q') (hc : c_cl M' n mc ms) (hw : Cond.methodLink M.1.cls index M'.1 ∈ tw) (hi : Cond.static M'.1 ∈ tw) (hR : c_rm M M') (hn : as.length = n) (hst : st0 = as.reverse ++ st) (isC isR : List Nat) (hC : isC.map (fun i => w[i]?) = wc.map some) (hRr : isR.map (fun i => w[i]?) = wr.map some) (hnC : va_nd isC = true) (hnR : va_nd isR = true) (hdis : ∀ i ∈ isR, i ∉ isC) (hW : (st.map fun v => v.category).sum ≤ 8) (h1 : nc + mc ≤ M.2.2.2.2.cells) (h2 : ns + ms ≤ M.2.2.2.2.slots) (hd : decode M.2.1 pc = .ok (.invokestatic index, 3)) (kk : ∀ w1, Q' w1 → CW X M A p e s m args below meth c Z (pc + 3) ls st (wr ++ w1) (nc + mc) (ns + ms)) : CW X M A p e s m args below meth c Z pc ls st0 w nc ns := by
  subst hst
  intro H locs lsA hS hP hD hl
  have hts := C.2.2.2.2.2.2.1
  have hPc : va_P X.2.1 vwCl wc H := fun k q hq => by obtain ⟨i, hi⟩ := map_get hC hq; exact hP i q hi
  have hDc := hD.sub isC hnC hC
  have hFc := va_free (wc := wc) hD hS C.2.2.2.2.2.2.2.2 isC hC
  refine va_callv (va_runS (As := as) (rest := st) ⟨C.1, C.2.1, C.2.2.2.2.1, C.2.2.2.2.2.1, hts⟩ (hM H.size) ⟨callB_of n hts (g_good hc.2.1) rfl hc.2.2.2.1 hc.2.2.2.2 (hts _ hc.1) (hts _ hw) hc.2.2.1 hR, hts _ hi⟩ ⟨c_blind X _ wc H.size, fun U hU hWm => ⟨rfl, by rw [hU], C.2.2.2.2.2.2.2.1.warm hWm, by rw [hU]; exact hPc, hDc.weaken (fun _ _ _ _ => trivial)⟩⟩ rfl hn hl.1 rfl (lv_room hW) hd ⟨h1, h2⟩) hS (fun q _ h => hFc q h) hFc (fun u t H1 locs1 ht hvm hw hB hz1 hk1 hS1 => ?_)
  obtain ⟨hP1, hD1⟩ := hB
  rw [ht] at hP1
  obtain ⟨hP2, hD2⟩ := va_join (wr := wr) (w1 := u) hP hD isC isR hC hRr hnR hdis hk1 hFc hP1 hD1
  exact kk u hw H1 locs1 lsA hS1 hP2 hD2 hl
theorem CW.chg {w2 : va_W} (h : w = w2) (kk : CW X M A p e s m args below meth c Z pc ls st w2 nc ns) : CW X M A p e s m args below meth c Z pc ls st w nc ns := h ▸ kk
end CW0
theorem CM.of {X : cX} {M : gM} {as : List Value} {w0 : va_W} {mc ms : Nat} {Q : va_W → Prop} {ls : List (Option Value)} (hy : plainName M.1.cls = true) (hn : (lg_sl as).length ≤ M.2.2.1) (hls : g_en M.2.2.1 as = ls) (h : ∀ (A : Nat → Prop) (p : Program) (e : Env) (s : State) (m : MethodId) (args : Array Value) (below : List Frame) (meth : Method) (c : Code), c_at X M A p s m args meth c → meth.name = M.1.name → CW X M A p e s m args below meth c (MQ below (c_Qc X Q A) args s mc ms A) 0 ls [] w0 0 0) : CM X M as w0 mc ms Q := by
  intro sz
  refine Met.ofW (cc := M.2.1) (maxL := M.2.2.1) (ret := M.2.2.2.1) hy rfl ?_
  intro p e s m args below meth c s₁ B hml hv
  obtain ⟨rfl, hsz, hB, hP, hD0⟩ := hv
  subst hsz
  have hts := atoms_spec (ws := g_ws M) B.pre
  have hown : s.vm.findClass M.1.cls = some m.cls := findClass_of_methodNamed B.named
  have hin : meth.name = M.1.name := (name_of_methodNamed B.named B.method).1
  have hl := lv_entry as hn
  rw [lg_entry_eq]
  refine h (va_A w0 s.heap.size) p e s m _ below meth c ⟨B.exec, B.bytes, B.returns, B.notSynchronized, hml, hown, fun w hw => hts w (List.mem_cons_of_mem _ hw), hB, fun q hq => Or.inr hq⟩ hin s.heap [] _ va_S.rf hP hD0.self ⟨hl.1, hl.2.1, fun i v hi => ?_⟩
  rw [← hls] at hi
  rw [g_c_id]
  refine hl.2.2 (i, v) ?_
  have h1 : (g_ex as)[i]? = some (some v) := by
    unfold g_en at hi
    rw [List.getElem?_append] at hi
    split at hi
    · exact hi
    · rw [List.getElem?_replicate] at hi
      split at hi <;> simp at hi
  have h2 := g_ex_in id as 0 i v h1
  rw [Nat.zero_add, g_c_id, show as.map (g_c id) = as by rw [show (g_c id) = id from funext g_c_id]; exact List.map_id as] at h2
  exact h2

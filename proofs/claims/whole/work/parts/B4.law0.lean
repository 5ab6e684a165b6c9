/-! THE CLAIM OUT OF ONE WALK OF THE LAW'S BODY. Your part is whole_start (and what it stands on); all else here is the same for every law, but numbers. -/
def R_law : String := "SwapNamesLaw"
def lw_P (b : Addr) (xs : List Int32) (args : Array Value) (s : State) : Prop := args = #[.ref b] ∧ s.IntsAt b xs ∧ xs.length ≤ 3072 ∧ (Jvm.Cond.and given_1 narrow_1).before args s = true
def lw_Q (_ : Array Value) (s : State) (o : Outcome) (t : State) : Prop := o = .returned (some (.int 1)) ∧ Framed s o t [] 71 13010
def lw_Z (below : List Frame) (a : Array Value) (s : State) : State → Prop := fun t => ∃ o, t.status = .running ∧ Ended t below o ∧ lw_Q a s o t
/-- the law's own end, with 1 on the stack, nothing written that was there before, its room as the claim has it -/
theorem lw_ret {p : Program} {l : Launch} {e : Env} {s : State} {m : MethodId} {below : List Frame} {meth : Method} {c : Code} {b : Nat} (hx : p.tables.exec = Jvm.exec) (hb : c.code = code) (hr : meth.sig.returnType = ret) (hlocks : meth.locks = false) {pc : Nat} {H : Heap} {ls : Array Slot} (hdg : decode code pc = .ok (.ireturn, 1)) : W p l e room_1 s m #[Value.ref b] below meth c H [] 71 13010 (lw_Z below #[Value.ref b] s) (F0 m pc ls [.int 1]) := by
  intro T hT X
  obtain ⟨fs, hret, hrun, hended, hW, hframe⟩ := X.leave (v := some (.int 1)) (hlocks := hlocks) (fun h => by rw [hr] at h; cases h)
  have hmeth' : T.vm.method? m = some meth := X.method'
  refine ⟨T.setFrames fs, ?_, .returned (some (.int 1)), hrun, hended, rfl, ⟨_, rfl⟩, hW, hframe⟩
  jvm_step X.here [X.here.top, hx, hb, hdg, hmeth', hr, ret, narrow_b1]
  (try refine ⟨rfl, ?_⟩); (try refine ⟨rfl, ?_⟩)
  first | (intro acts; rw [hret _ acts rfl rfl rfl]) | rw [hret _ _ rfl rfl rfl]
  exact Steps.refl _
/-- what holds at the law's entry: the machine, the code, the tables' words (any of lw_tbl by 'hts w (by decide +kernel)'), the script of L ints xs at the cell b, what the Statement gives of the start (any of its parts by flat_of_before) -/
def lw_At (p : Program) (s : State) (m : MethodId) (meth : Method) (c : Code) (b L : Nat) (xs : Nat → Int32) : Prop :=
  p.tables.exec = Jvm.exec ∧ c.code = code ∧ meth.sig.returnType = ret ∧ c.maxLocals = 4 ∧ s.vm.findClass R_law = some m.cls ∧ (∀ w ∈ lw_tbl, w.before #[Value.ref b] s = true) ∧ va_X b L xs s s.heap ∧ b < s.heap.size ∧ meth.locks = false ∧ (Jvm.Cond.and given_1 narrow_1).before #[Value.ref b] s = true
/-! ===== the walk of the law over two worlds ===== -/
def LW (X1 X2 : gX) (p : Program) (e : Env) (s : State) (m : MethodId) (below : List Frame) (meth : Method) (c : Code) (b : Nat) (pc : Nat) (ls : List (Option Value)) (st : List Value) (σ1 σ2 : gS) : Prop := ∀ (H : Heap) (locs : List Loc) (lsA : Array Slot), va_S (fun q : Nat => s.heap.size ≤ q) s.heap H locs → va_P X1.2.1 vwCl (g_wd X1 σ1) H → va_P X2.2.1 vwCl (g_wd X2 σ2) H → g_lv id lsA 4 ls → W p X1.1 e room_1 s m #[Value.ref b] below meth c H locs 71 13010 (lw_Z below #[Value.ref b] s) (F0 m pc lsA st)
def lwB (X1 X2 : gX) (s : State) : Prop := X1.1 = X2.1 ∧ g_B X1 s ∧ g_B X2 s ∧ (∀ q, g_A X1 q → s.heap.size ≤ q) ∧ (∀ q, g_A X2 q → s.heap.size ≤ q) ∧ ∀ q, g_A X1 q → ¬ g_A X2 q
theorem lwB.sw {X1 X2 : gX} {s : State} (h : lwB X1 X2 s) : lwB X2 X1 s := ⟨h.1.symm, h.2.2.1, h.2.1, h.2.2.2.2.1, h.2.2.2.1, fun q h1 h2 => h.2.2.2.2.2 q h2 h1⟩
theorem g_w_A {X : gX} {σ : gS} {k : Nat} {q : Nat × va_E} (h : (g_wd X σ)[k]? = some q) : g_A X q.1 := by
  have lk : k < X.2.2.2.2.length := by rw [← g_w_len X.2.2.1 X.2.2.2.1 σ X.2.2.2.2 0]; exact (List.getElem?_eq_some_iff.mp h).1
  rw [g_wd, g_w_get, List.getElem?_eq_getElem lk] at h
  simp at h
  exact ⟨k, lk, by rw [← h]⟩
theorem lg_cmp_self (x : Int64) : lg_cmp x x = 0 := by unfold lg_cmp; simp
section LW0
variable {X1 X2 : gX} {p : Program} {e : Env} {s : State} {m : MethodId} {below : List Frame} {meth : Method} {c : Code} {b L : Nat} {xs : Nat → Int32} {pc : Nat} {ls : List (Option Value)} {st : List Value} {σ1 σ2 : gS}
theorem LW.sw (hB : lwB X1 X2 s) (h : LW X2 X1 p e s m below meth c b pc ls st σ2 σ1) : LW X1 X2 p e s m below meth c b pc ls st σ1 σ2 := fun H locs lsA hS h1 h2 hl => by rw [hB.1]; exact h H locs lsA hS h2 h1 hl
theorem LW.al (C : lw_At p s m meth c b L xs) {k : Fin 4} {a : Nat} (h : ls[(k : Nat)]? = some (some (.ref a))) (hd : decode cL_law pc = .ok (.aload_n k, 1)) (kk : LW X1 X2 p e s m below meth c b (pc + 1) ls (.ref a :: st) σ1 σ2) : LW X1 X2 p e s m below meth c b pc ls st σ1 σ2 := fun H locs lsA hS h1 h2 hl => lv_aload_n C.1 C.2.1 hd rfl (hl.2.2 _ _ h) (kk H locs lsA hS h1 h2 hl)
theorem LW.il (C : lw_At p s m meth c b L xs) {k : Fin 4} {a : Int32} (h : ls[(k : Nat)]? = some (some (.int a))) (hd : decode cL_law pc = .ok (.iload_n k, 1)) (kk : LW X1 X2 p e s m below meth c b (pc + 1) ls (.int a :: st) σ1 σ2) : LW X1 X2 p e s m below meth c b pc ls st σ1 σ2 := fun H locs lsA hS h1 h2 hl => lv_iload_n C.1 C.2.1 hd rfl (hl.2.2 _ _ h) (kk H locs lsA hS h1 h2 hl)
theorem LW.iconst (C : lw_At p s m meth c b L xs) {n : Int} {v : Int32} (hv : Int32.ofInt n = v) (hd : decode cL_law pc = .ok (.iconst n, 1)) (kk : LW X1 X2 p e s m below meth c b (pc + 1) ls (.int v :: st) σ1 σ2) : LW X1 X2 p e s m below meth c b pc ls st σ1 σ2 := fun H locs lsA hS h1 h2 hl => lv_iconst C.1 C.2.1 hd hv (kk H locs lsA hS h1 h2 hl)
theorem LW.bipush (C : lw_At p s m meth c b L xs) {n : Int} {v : Int32} (hv : (Int8.ofInt n).toInt32 = v) (hd : decode cL_law pc = .ok (.bipush n, 2)) (kk : LW X1 X2 p e s m below meth c b (pc + 2) ls (.int v :: st) σ1 σ2) : LW X1 X2 p e s m below meth c b pc ls st σ1 σ2 := fun H locs lsA hS h1 h2 hl => lv_bipush C.1 C.2.1 hd hv (kk H locs lsA hS h1 h2 hl)
theorem LW.iadd (C : lw_At p s m meth c b L xs) {x y : Int32} (hd : decode cL_law pc = .ok (.iadd, 1)) (kk : LW X1 X2 p e s m below meth c b (pc + 1) ls (.int (x + y) :: st) σ1 σ2) : LW X1 X2 p e s m below meth c b pc ls (.int y :: .int x :: st) σ1 σ2 := fun H locs lsA hS h1 h2 hl => lv_iadd C.1 C.2.1 hd (kk H locs lsA hS h1 h2 hl)
theorem LW.isub (C : lw_At p s m meth c b L xs) {x y : Int32} (hd : decode cL_law pc = .ok (.isub, 1)) (kk : LW X1 X2 p e s m below meth c b (pc + 1) ls (.int (x - y) :: st) σ1 σ2) : LW X1 X2 p e s m below meth c b pc ls (.int y :: .int x :: st) σ1 σ2 := fun H locs lsA hS h1 h2 hl => lv_isub C.1 C.2.1 hd (kk H locs lsA hS h1 h2 hl)
theorem LW.iand (C : lw_At p s m meth c b L xs) {x y : Int32} (hd : decode cL_law pc = .ok (.iand, 1)) (kk : LW X1 X2 p e s m below meth c b (pc + 1) ls (.int (x &&& y) :: st) σ1 σ2) : LW X1 X2 p e s m below meth c b pc ls (.int y :: .int x :: st) σ1 σ2 := fun H locs lsA hS h1 h2 hl => lv_iand C.1 C.2.1 hd (kk H locs lsA hS h1 h2 hl)
theorem LW.slen (C : lw_At p s m meth c b L xs) (hd : decode cL_law pc = .ok (.arraylength, 1)) (kk : LW X1 X2 p e s m below meth c b (pc + 1) ls (.int (nI L) :: st) σ1 σ2) : LW X1 X2 p e s m below meth c b pc ls (.ref b :: st) σ1 σ2 := fun H locs lsA hS h1 h2 hl => va_slen C.1 C.2.1 C.2.2.2.2.2.2.1 C.2.2.2.2.2.2.2.1 (Nat.not_le.mpr C.2.2.2.2.2.2.2.1) hS hd (kk H locs lsA hS h1 h2 hl)
theorem LW.sld (C : lw_At p s m meth c b L xs) {i : Int32} (hin : vp_in i L) (hd : decode cL_law pc = .ok (.iaload, 1)) (kk : LW X1 X2 p e s m below meth c b (pc + 1) ls (.int (xs i.toNatClampNeg) :: st) σ1 σ2) : LW X1 X2 p e s m below meth c b pc ls (.int i :: .ref b :: st) σ1 σ2 := fun H locs lsA hS h1 h2 hl => va_sld C.1 C.2.1 C.2.2.2.2.2.2.1 C.2.2.2.2.2.2.2.1 (Nat.not_le.mpr C.2.2.2.2.2.2.2.1) hS hin hd (kk H locs lsA hS h1 h2 hl)
theorem LW.icgt (C : lw_At p s m meth c b L xs) {x y : Int32} {off : Int} {tgt : Nat} (ht : (pc : Int) + off = (tgt : Int)) (hd : decode cL_law pc = .ok (.if_icmp .gt off, 3)) (kt : y < x → LW X1 X2 p e s m below meth c b tgt ls st σ1 σ2) (kf : ¬ y < x → LW X1 X2 p e s m below meth c b (pc + 3) ls st σ1 σ2) : LW X1 X2 p e s m below meth c b pc ls (.int y :: .int x :: st) σ1 σ2 := fun H locs lsA hS h1 h2 hl => lv_icmp_gt C.1 C.2.1 hd ht (fun h => kt h H locs lsA hS h1 h2 hl) (fun h => kf h H locs lsA hS h1 h2 hl)
theorem LW.iceq (C : lw_At p s m meth c b L xs) {x y : Int32} {off : Int} {tgt : Nat} (ht : (pc : Int) + off = (tgt : Int)) (hd : decode cL_law pc = .ok (.if_icmp .eq off, 3)) (kt : x = y → LW X1 X2 p e s m below meth c b tgt ls st σ1 σ2) (kf : ¬ x = y → LW X1 X2 p e s m below meth c b (pc + 3) ls st σ1 σ2) : LW X1 X2 p e s m below meth c b pc ls (.int y :: .int x :: st) σ1 σ2 := fun H locs lsA hS h1 h2 hl => lv_icmp_eq C.1 C.2.1 hd ht (fun h => kt h H locs lsA hS h1 h2 hl) (fun h => kf h H locs lsA hS h1 h2 hl)
theorem LW.lcmp (C : lw_At p s m meth c b L xs) {x y : Int64} (hd : decode cL_law pc = .ok (.lcmp, 1)) (hd2 : decode cL_law (pc + 1) = .ok (.ifCond .eq 5, 3)) (he : x = y) (kk : LW X1 X2 p e s m below meth c b (pc + 6) ls st σ1 σ2) : LW X1 X2 p e s m below meth c b pc ls (.long y :: .long x :: st) σ1 σ2 := fun H locs lsA hS h1 h2 hl => by
  subst he
  exact W.lcmp C.1 C.2.1 hd (lv_if_eq (tgt := pc + 6) C.1 C.2.1 hd2 (by omega) (fun _ => kk H locs lsA hS h1 h2 hl) (fun h => absurd (lg_cmp_self _) h))
theorem LW.goto (C : lw_At p s m meth c b L xs) {off : Int} {tgt : Nat} (ht : (pc : Int) + off = (tgt : Int)) (hd : decode cL_law pc = .ok (.goto off, 3)) (kk : LW X1 X2 p e s m below meth c b tgt ls st σ1 σ2) : LW X1 X2 p e s m below meth c b pc ls st σ1 σ2 := fun H locs lsA hS h1 h2 hl => lv_goto C.1 C.2.1 hd ht (kk H locs lsA hS h1 h2 hl)
theorem LW.tin (C : lw_At p s m meth c b L xs) {dflt lo hi : Int} {offs : Array Int} {len : Nat} {x : Int32} {off : Int} {tgt : Nat} (hd : decode cL_law pc = .ok (.tableswitch dflt lo hi offs, len)) (h1' : ¬ x.toInt < lo) (h2' : ¬ hi < x.toInt) (ho : offs[(x.toInt - lo).toNat]? = some off) (ht : (pc : Int) + off = (tgt : Int)) (kk : LW X1 X2 p e s m below meth c b tgt ls st σ1 σ2) : LW X1 X2 p e s m below meth c b pc ls (.int x :: st) σ1 σ2 := fun H locs lsA hS h1 h2 hl => lv_tableIn C.1 C.2.1 hd h1' h2' ho ht (kk H locs lsA hS h1 h2 hl)
theorem LW.tout (C : lw_At p s m meth c b L xs) {dflt lo hi : Int} {offs : Array Int} {len : Nat} {x : Int32} {tgt : Nat} (hd : decode cL_law pc = .ok (.tableswitch dflt lo hi offs, len)) (h : x.toInt < lo ∨ hi < x.toInt) (ht : (pc : Int) + dflt = (tgt : Int)) (kk : LW X1 X2 p e s m below meth c b tgt ls st σ1 σ2) : LW X1 X2 p e s m below meth c b pc ls (.int x :: st) σ1 σ2 := fun H locs lsA hS h1 h2 hl => lv_tableOut C.1 C.2.1 hd h ht (kk H locs lsA hS h1 h2 hl)
theorem LW.inc (C : lw_At p s m meth c b L xs) {i : Nat} {n : Int} {x d : Int32} (hl0 : ls[i]? = some (some (.int x))) (hv : Int32.ofInt n = d) (hi : i < 4) (hn : g_nc ls i) (hd : decode cL_law pc = .ok (.iinc i n, 3)) (kk : LW X1 X2 p e s m below meth c b (pc + 3) (ls.set i (some (.int (x + d)))) st σ1 σ2) : LW X1 X2 p e s m below meth c b pc ls st σ1 σ2 := fun H locs lsA hS h1 h2 hl => by
  have hm := g_ll_in id ls 0 i _ hl0
  rw [Nat.zero_add] at hm
  obtain ⟨k, hk⟩ := List.getElem?_of_mem hm
  exact lv_iinc (v := x + d) C.1 C.2.1 hd hl.has (k := k) hk (by rw [hv]) hi rfl (fun ls' h' => kk H locs ls' hS h1 h2 (g_lv.st1 (v := .int (x + d)) hn h'))
theorem LW.ret (C : lw_At p s m meth c b L xs) (hd : decode cL_law pc = .ok (.ireturn, 1)) : LW X1 X2 p e s m below meth c b pc ls [.int 1] σ1 σ2 := fun H locs lsA hS h1 h2 hl => va_forget (fun q hq => hS.2.2 q hq) (lw_ret C.1 C.2.1 C.2.2.1 C.2.2.2.2.2.2.2.2.1 hd)
abbrev l_rm (M' : gM) : Prop := M'.2.2.2.2.frames + 1 ≤ 12 ∧ 8 + (M'.2.2.1 + 11) + M'.2.2.2.2.locals ≤ 490
theorem LW.call {M' : gM} {as rest : List Value} {n index N ci : Nat} {T : u_T} {fs : List (Option Nat)} {Q' : Option Value → gS → Prop} (C : lw_At p s m meth c b L xs) (hB : lwB X1 X2 s) (hM : GM X1 M' (.ref 0 :: as) σ1 Q') (hL : X1.2.2.2.2[0]? = some (.inr (ci, fs))) (hcl : vwCl[ci]? = some (M'.1.cls, T, N)) (hw : Cond.methodLink RL index M'.1 ∈ tw) (hi : Cond.instanceMethod M'.1 ∈ tw) (hs : Cond.selects M'.1.cls M'.1 M'.1 ∈ tw) (hc : g_cl M' n) (hR : l_rm M') (hn : as.length = n) (hst : st = (as.map (g_c X1.2.2.2.1)).reverse ++ .ref (X1.2.2.2.1 0) :: rest) (hW : (rest.map fun v => v.category).sum ≤ 8) (hd : decode cL_law pc = .ok (.invokevirtual index, 3)) (k : ∀ rv σ', Q' rv σ' → LW X1 X2 p e s m below meth c b (pc + 3) ls ((rv.map (g_c X1.2.2.2.1)).toList ++ rest) σ' σ2) : LW X1 X2 p e s m below meth c b pc ls st σ1 σ2 := by
  intro H locs lsA hS hP1 hP2 hl
  have hts : ∀ w ∈ tw, w.before #[Value.ref b] s = true := fun w hw => C.2.2.2.2.2.1 w (tw_tbl w hw)
  have hSx : va_S (g_A X1) s.heap H [] := ⟨hS.1, fun q h1 _ => hS.2.1 q h1 (Nat.not_le.mpr h1), fun _ h => by cases h⟩
  have hr := va_runV (meth := meth) (R := room_1) (cells := 71) (slots := 13010) (locs := locs) (below := below) (e := e) (As := as.map (g_c X1.2.2.2.1)) (b := X1.2.2.2.1 0) (n := n) (rest := rest) (C := M'.1.cls) (g := F0 m pc lsA st) (cc := cL_law) (nL := 4) (own := RL) ⟨C.1, C.2.1, C.2.2.2.1, C.2.2.2.2.1, hts⟩ hM ⟨callB_of n hts (g_good hc.2.1) rfl hc.2.2.2.1 hc.2.2.2.2 (hts _ hc.1) (hts _ hw) hc.2.2.1 hR, hts _ hi, hts _ hs⟩ ⟨g_blind X1 _ σ1, va_recv hB.2.1.1 hP1 hcl (g_w_at hL), g_pre (as := .ref 0 :: as) hB.2.1 hSx hP1⟩ rfl (by simpa using hn) hl.1 hst (lv_room hW) hd ⟨Nat.le_refl _, Nat.le_refl _⟩
  intro T0 hT0 Y
  obtain ⟨v, st₀, t, T', Lc, h0, Y', hLc, e1, e2, ⟨⟨rv, σ', hv, hq, hP'⟩, hz, hk⟩, stp⟩ := hr T0 hT0 Y
  have ev : v = rv.map (g_c X1.2.2.2.1) := by injection hv
  subst ev
  rw [h0] at hz hk
  have hS' : va_S (fun q : Nat => s.heap.size ≤ q) s.heap T'.heap (locs ++ Lc) := ⟨Nat.le_trans hS.1 (by rw [e1]; exact hz), fun q h1 h2 => by rw [e1, hk q (Nat.lt_of_lt_of_le h1 hS.1) (fun h3 => h2 (hB.2.2.2.1 q h3))]; exact hS.2.1 q h1 h2, fun q hq => by
    rcases List.mem_append.mp hq with h | h
    · exact hS.2.2 q h
    · exact hB.2.2.2.1 _ (hLc q h)⟩
  have hP2' : va_P X2.2.1 vwCl (g_wd X2 σ2) T'.heap := hP2.kept (fun k q hq => by rw [e1, hk q.1 ((hP2 k q hq).lt) (fun h3 => hB.2.2.2.2.2 q.1 h3 (g_w_A hq))])
  obtain ⟨t2, a1, b1⟩ := k rv σ' hq T'.heap (locs ++ Lc) lsA hS' (by rw [e1]; exact hP') hP2' hl T' rfl Y'
  exact ⟨t2, stp t2 a1, b1⟩
end LW0

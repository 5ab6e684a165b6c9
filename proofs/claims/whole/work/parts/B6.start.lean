/-! ===== the start: what the tables give, the two that are made, the first world ===== -/
def sx0L : List (Nat → Int32) := [fun _ => 0, fun i => if i = 10 then 181896 else 0, fun _ => 0, fun _ => 0, fun _ => 0, fun i => if i < 10 then -1 else 0, fun _ => 0, fun _ => 0, fun _ => 0, fun _ => 0, fun _ => 0, fun _ => 0, fun _ => 0, fun i => if i < 4 then -1 else 0, fun _ => 0, fun _ => 0, fun i => if i = 9 then -1 else 0, fun _ => 0, fun _ => 0, fun _ => 0, fun _ => 0, fun _ => 0, fun i => if i = 9 then -1 else 0, fun _ => 0, fun _ => 0, fun _ => 0, fun _ => 0, fun _ => 0, fun _ => 0, fun i => if i < 6 then -1 else 0, fun i => if i = 2 then -1 else 0, fun _ => 0, fun _ => 0, fun i => if i = 2 then -1 else 0, fun _ => 0, fun _ => 0, fun i => if i = 2 then -1 else 0, fun _ => 0, fun _ => 0, fun i => if i = 2 then -1 else 0, fun _ => 0, fun _ => 0]
def sx0 : gS := fun k => sx0L.getD k (fun _ => 0)
def sm0L : List (Nat → Int32) := [fun _ => 0, fun k => if k < 4 then -1 else 0]
def sm0 : gS := fun k => sm0L.getD k (fun _ => 0)
theorem tn_id_v : (181896 : Int32) = nI tn_id := by decide +kernel
theorem m2_0 (B : Nat → Nat) (s sec : Nat) : m2 B s 0 sec = 0 := by unfold m2; split <;> rfl
theorem start_R : RLn sx0 sm0 := by
  refine ⟨fun _ => 0, fun _ => 0, ⟨?_, ?_, ?_, ?_, ?_, ?_, ?_, ?_, ?_⟩, ?_, ?_, ?_, ?_, ?_, ?_, ?_⟩
  · intro t ht
    exact ⟨rfl, Nat.zero_le _, fun i hi => absurd hi (Nat.not_lt_zero i)⟩
  · intro t ht
    have h5 : sx0 5 t = -1 := if_pos ht
    unfold FX
    by_cases c : t < 8
    · rw [if_pos c]
      refine ⟨h5.trans ?_, fun hw => absurd hw.1 (Nat.lt_irrefl 0)⟩
      show (-1 : Int32) = flg _ _ 0 0 0
      unfold flg
      rw [if_pos (Or.inl rfl)]
    · rw [if_neg c]
      by_cases c2 : t = 8
      · rw [if_pos c2]
        subst c2
        refine ⟨h5, fun u hu => ?_⟩
        rw [m2_0]
        rfl
      · rw [if_neg c2]
        have e9 : t = 9 := by omega
        subst e9
        refine ⟨h5, ?_⟩
        rw [m2_0]
        exact tn_id_v
  · exact ⟨Or.inl rfl, fun h => absurd h (by decide)⟩
  · exact ⟨0, by decide, rfl, fun k _ h => by rw [Nat.zero_testBit] at h; cases h⟩
  · exact Or.inl rfl
  · exact Or.inl rfl
  · exact Or.inl rfl
  · exact Or.inl rfl
  · intro u hu
    exact if_pos hu
  · intro t ht
    exact ⟨rfl, Nat.zero_le _, fun i hi => absurd hi (Nat.not_lt_zero i)⟩
  · intro t ht
    exact ⟨Or.inl (if_pos ht), 0, Nat.zero_le _, rfl⟩
  · intro t ht
    exact ⟨Or.inl (if_pos ht), 0, Nat.zero_le _, rfl⟩
  · intro t ht
    exact (if_pos ht : sx0 13 t = -1).trans (if_pos ht : sm0 1 t = -1).symm
  · intro t ht h
    exact absurd (if_pos ht : sx0 13 t = -1) h
  · rfl
  · rfl
theorem tb_in1 {w : Cond} (h : w ∈ tables_1_1) : w ∈ lw_tbl := List.mem_append_right _ (by unfold tables_1; exact List.mem_append_left _ h)
theorem tb_in2 {w : Cond} (h : w ∈ tables_1_2) : w ∈ lw_tbl := List.mem_append_right _ (by unfold tables_1; exact List.mem_append_right _ (List.mem_append_left _ h))
theorem tb_in3 {w : Cond} (h : w ∈ tables_1_3) : w ∈ lw_tbl := List.mem_append_right _ (by unfold tables_1; exact List.mem_append_right _ (List.mem_append_right _ (List.mem_append_left _ h)))
theorem nw_108 : Cond.fieldLinkNest "SwapNames" 108 "SwapNames$Texts" "theTurn" "I" "SwapNames" ∈ lw_tbl := tb_in1 (List.mem_of_getElem? (i := 86) (by decide +kernel))
theorem nw_224 : Cond.fieldLinkNest "SwapNames" 224 "SwapNames$Sheets" "latest" "I" "SwapNames" ∈ lw_tbl := tb_in1 (List.mem_of_getElem? (i := 34) (by decide +kernel))
theorem nw_285 : Cond.fieldLinkNest "SwapNames" 285 "SwapNames$Solver" "values" "[I" "SwapNames" ∈ lw_tbl := tb_in1 (List.mem_of_getElem? (i := 118) (by decide +kernel))
theorem nw_34 : Cond.methodLinkNest "SwapNames$Line" 34 yX6_isOutside "SwapNames" ∈ lw_tbl := tb_in2 (List.mem_of_getElem? (i := 140) (by decide +kernel))
theorem nw_38 : Cond.methodLinkNest "SwapNames$Sheets" 38 yX6_isOutside "SwapNames" ∈ lw_tbl := tb_in2 (List.mem_of_getElem? (i := 64) (by decide +kernel))
theorem nw_153 : Cond.methodLinkNest "SwapNames$Solver" 153 yX6_isOutside "SwapNames" ∈ lw_tbl := tb_in3 (List.mem_of_getElem? (i := 45) (by decide +kernel))
theorem nw_113 : Cond.methodLinkNest "SwapNames$Texts" 113 yX6_isOutside "SwapNames" ∈ lw_tbl := tb_in1 (List.mem_of_getElem? (i := 230) (by decide +kernel))
theorem nw_33 : Cond.methodLinkNest "SwapNames" 33 yX0_init "SwapNames" ∈ lw_tbl := tb_in1 (List.mem_of_getElem? (i := 47) (by decide +kernel))
theorem ls_ORDER : Cond.laysStatic "SwapNames" "ORDER" "[I" ∈ lw_tbl := tb_in2 (List.mem_of_getElem? (i := 224) (by decide +kernel))
section ST
variable {p : Program} {e : Env} {s : State} {m : MethodId} {below : List Frame} {meth : Method} {c : Code} {b L : Nat} {xs : Nat → Int32} {l : Launch} {D : va_G} {cA : ClassId} {ax am : Nat → Nat}
theorem st_tw (C0 : lw_At p s m meth c b L xs) : ∀ w ∈ tw, w.before #[Value.ref b] s = true := fun w hw => C0.2.2.2.2.2.1 w (tw_tbl w hw)
theorem st_N (C0 : lw_At p s m meth c b L xs) : g_N s := ⟨va_Nw.of rfl (C0.2.2.2.2.2.1 _ nw_108), va_Nw.of rfl (C0.2.2.2.2.2.1 _ nw_224), va_Nw.of rfl (C0.2.2.2.2.2.1 _ nw_285), va_Nw.of rfl (C0.2.2.2.2.2.1 _ nw_34), va_Nw.of rfl (C0.2.2.2.2.2.1 _ nw_38), va_Nw.of rfl (C0.2.2.2.2.2.1 _ nw_153), va_Nw.of rfl (C0.2.2.2.2.2.1 _ nw_113)⟩
set_option maxHeartbeats 4000000 in
set_option maxRecDepth 100000 in
theorem st_O (C0 : lw_At p s m meth c b L xs) : ∃ t : Nat, va_Z "SwapNames" "ORDER" "[I" (.ref t) (fun q : Nat => s.heap.size ≤ q) s s.heap ∧ va_T .int t 24 (fun j => .int (g_ord j)) (fun q : Nat => s.heap.size ≤ q) s s.heap := by
  have hs := flat_of_before _ C0.2.2.2.2.2.2.2.2.2
  have hA : ∀ a : Nat, a < s.heap.size → ¬ (fun q : Nat => s.heap.size ≤ q) a := fun a h => Nat.not_le.mpr h
  obtain ⟨t, h1, h2⟩ := va_Tof (tm := .static "SwapNames" "ORDER" "[I") (ty := .int) (N := 24) (f := fun j => .int (g_ord j)) (A := fun q : Nat => s.heap.size ≤ q) (by decide) (hs (Cond.arrayOf (.static "SwapNames" "ORDER" "[I") .int) (by decide +kernel)) (va_eqt (z := 24) (hs (Cond.eq (.length (.static "SwapNames" "ORDER" "[I")) (.int 24)) (by decide +kernel))) (fun j hj => by
    match j, hj with
    | 0, _ => exact va_eqt (z := 291) (hs (Cond.eq (.elem (.static "SwapNames" "ORDER" "[I") (.int 0)) (.int 291)) (by decide +kernel))
    | 1, _ => exact va_eqt (z := 306) (hs (Cond.eq (.elem (.static "SwapNames" "ORDER" "[I") (.int 1)) (.int 306)) (by decide +kernel))
    | 2, _ => exact va_eqt (z := 531) (hs (Cond.eq (.elem (.static "SwapNames" "ORDER" "[I") (.int 2)) (.int 531)) (by decide +kernel))
    | 3, _ => exact va_eqt (z := 561) (hs (Cond.eq (.elem (.static "SwapNames" "ORDER" "[I") (.int 3)) (.int 561)) (by decide +kernel))
    | 4, _ => exact va_eqt (z := 786) (hs (Cond.eq (.elem (.static "SwapNames" "ORDER" "[I") (.int 4)) (.int 786)) (by decide +kernel))
    | 5, _ => exact va_eqt (z := 801) (hs (Cond.eq (.elem (.static "SwapNames" "ORDER" "[I") (.int 5)) (.int 801)) (by decide +kernel))
    | 6, _ => exact va_eqt (z := 4131) (hs (Cond.eq (.elem (.static "SwapNames" "ORDER" "[I") (.int 6)) (.int 4131)) (by decide +kernel))
    | 7, _ => exact va_eqt (z := 4146) (hs (Cond.eq (.elem (.static "SwapNames" "ORDER" "[I") (.int 7)) (.int 4146)) (by decide +kernel))
    | 8, _ => exact va_eqt (z := 4611) (hs (Cond.eq (.elem (.static "SwapNames" "ORDER" "[I") (.int 8)) (.int 4611)) (by decide +kernel))
    | 9, _ => exact va_eqt (z := 4656) (hs (Cond.eq (.elem (.static "SwapNames" "ORDER" "[I") (.int 9)) (.int 4656)) (by decide +kernel))
    | 10, _ => exact va_eqt (z := 4866) (hs (Cond.eq (.elem (.static "SwapNames" "ORDER" "[I") (.int 10)) (.int 4866)) (by decide +kernel))
    | 11, _ => exact va_eqt (z := 4896) (hs (Cond.eq (.elem (.static "SwapNames" "ORDER" "[I") (.int 11)) (.int 4896)) (by decide +kernel))
    | 12, _ => exact va_eqt (z := 8211) (hs (Cond.eq (.elem (.static "SwapNames" "ORDER" "[I") (.int 12)) (.int 8211)) (by decide +kernel))
    | 13, _ => exact va_eqt (z := 8241) (hs (Cond.eq (.elem (.static "SwapNames" "ORDER" "[I") (.int 13)) (.int 8241)) (by decide +kernel))
    | 14, _ => exact va_eqt (z := 8451) (hs (Cond.eq (.elem (.static "SwapNames" "ORDER" "[I") (.int 14)) (.int 8451)) (by decide +kernel))
    | 15, _ => exact va_eqt (z := 8496) (hs (Cond.eq (.elem (.static "SwapNames" "ORDER" "[I") (.int 15)) (.int 8496)) (by decide +kernel))
    | 16, _ => exact va_eqt (z := 8961) (hs (Cond.eq (.elem (.static "SwapNames" "ORDER" "[I") (.int 16)) (.int 8961)) (by decide +kernel))
    | 17, _ => exact va_eqt (z := 8976) (hs (Cond.eq (.elem (.static "SwapNames" "ORDER" "[I") (.int 17)) (.int 8976)) (by decide +kernel))
    | 18, _ => exact va_eqt (z := 12306) (hs (Cond.eq (.elem (.static "SwapNames" "ORDER" "[I") (.int 18)) (.int 12306)) (by decide +kernel))
    | 19, _ => exact va_eqt (z := 12321) (hs (Cond.eq (.elem (.static "SwapNames" "ORDER" "[I") (.int 19)) (.int 12321)) (by decide +kernel))
    | 20, _ => exact va_eqt (z := 12546) (hs (Cond.eq (.elem (.static "SwapNames" "ORDER" "[I") (.int 20)) (.int 12546)) (by decide +kernel))
    | 21, _ => exact va_eqt (z := 12576) (hs (Cond.eq (.elem (.static "SwapNames" "ORDER" "[I") (.int 21)) (.int 12576)) (by decide +kernel))
    | 22, _ => exact va_eqt (z := 12801) (hs (Cond.eq (.elem (.static "SwapNames" "ORDER" "[I") (.int 22)) (.int 12801)) (by decide +kernel))
    | 23, _ => exact va_eqt (z := 12816) (hs (Cond.eq (.elem (.static "SwapNames" "ORDER" "[I") (.int 23)) (.int 12816)) (by decide +kernel))
    | j + 24, hj => exact absurd hj (by omega)) hA
  exact ⟨t, va_Zref (C0.2.2.2.2.2.1 _ ls_ORDER) (st_tw C0 _ wi_X6) h1 hA, h2⟩
theorem st_K (C0 : lw_At p s m meth c b L xs) : ∃ (D : va_G) (cA : ClassId), va_K D vwCl [(cA, .int)] s := by
  have hts := st_tw C0
  obtain ⟨c0, i0, h0⟩ := u_known (C := RX0) (T := TX0) (N := 5) (n := 5) hts gin_X0 (hts _ in_X0)
  obtain ⟨c1, i1, h1⟩ := u_known (C := RX1) (T := TX1) (N := 4) (n := 4) hts gin_X1 (hts _ in_X1)
  obtain ⟨c2, i2, h2⟩ := u_known (C := RX2) (T := TX2) (N := 12) (n := 12) hts gin_X2 (hts _ in_X2)
  obtain ⟨c3, i3, h3⟩ := u_known (C := RX4) (T := TX4) (N := 11) (n := 11) hts gin_X4 (hts _ in_X4)
  obtain ⟨c4, i4, h4⟩ := u_known (C := RX6) (T := TX6) (N := 12) (n := 12) hts gin_X6 (hts _ in_X6)
  obtain ⟨c5, i5, h5⟩ := u_known (C := RX7) (T := TX7) (N := 41) (n := 41) hts gin_X7 (hts _ in_X7)
  obtain ⟨cA, kA, comp, f1, f2, f3⟩ := Cond.arrayClass_spec (hts _ ac_int)
  refine ⟨(fun k => [c0, c1, c2, c3, c4, c5].getD k c0, fun k => [i0, i1, i2, i3, i4, i5].getD k i0), cA, ?_, ?_⟩
  · intro k q hq
    match k, hq with
    | 0, hq => cases hq; exact h0
    | 1, hq => cases hq; exact h1
    | 2, hq => cases hq; exact h2
    | 3, hq => cases hq; exact h3
    | 4, hq => cases hq; exact h4
    | 5, hq => cases hq; exact h5
    | k + 6, hq => cases hq
  · intro k q hq
    match k, hq with
    | 0, hq => cases hq; exact ⟨fun n z => ⟨fun k h => (by cases h), kA, f2, comp, f3⟩, f1⟩
    | k + 1, hq => cases hq
theorem CW.sub {X : cX} {M : gM} {A : Nat → Prop} {args : Array Value} {Z : State → Prop} {pc : Nat} {ls : List (Option Value)} {st : List Value} {w w2 : va_W} {nc ns : Nat} (is : List Nat) (hn : va_nd is = true) (hs : is.map (fun i => w[i]?) = w2.map some) (kk : CW X M A p e s m args below meth c Z pc ls st w2 nc ns) : CW X M A p e s m args below meth c Z pc ls st w nc ns := fun H locs lsA hS hP hD hl => kk H locs lsA hS (fun k q hq => by obtain ⟨i, hi⟩ := map_get hs hq; exact hP i q hi) (hD.sub is hn hs) hl
theorem st_in {cA : ClassId} {ad : Nat → Nat} {σ : gS} {L : List gSh} {k : Nat} (h : k < L.length) : ∃ q : va_E, (g_w cA ad σ 0 L)[k]? = some (ad k, q) := ⟨_, g_w_at (List.getElem?_eq_getElem h)⟩
theorem st_B (C0 : lw_At p s m meth c b L xs) (hK : va_K D vwCl [(cA, .int)] s) (hZ : va_Z "SwapNames" "ORDER" "[I" (.ref (ax 1000)) (fun q : Nat => s.heap.size ≤ q) s s.heap ∧ va_T .int (ax 1000) 24 (fun j => .int (g_ord j)) (fun q : Nat => s.heap.size ≤ q) s s.heap) (hx : am 1000 = ax 1000) {σx σm : gS} (hD : va_D (fun q : Nat => s.heap.size ≤ q) (g_w cA ax σx 0 LX ++ g_w cA am σm 0 LM)) : lwB (XC l D cA ax) (XM l D cA am) s := by
  have lx : (g_w cA ax σx 0 LX).length = 42 := g_w_len cA ax σx LX 0
  have gx : ∀ {k : Nat}, k < 42 → ∃ q : va_E, (g_w cA ax σx 0 LX ++ g_w cA am σm 0 LM)[k]? = some (ax k, q) := fun {k} h => by
    obtain ⟨q, hq⟩ := st_in (cA := cA) (ad := ax) (σ := σx) (L := LX) (k := k) h
    exact ⟨q, by rw [List.getElem?_append_left (by omega)]; exact hq⟩
  have gm : ∀ {k : Nat}, k < 29 → ∃ q : va_E, (g_w cA ax σx 0 LX ++ g_w cA am σm 0 LM)[42 + k]? = some (am k, q) := fun {k} h => by
    obtain ⟨q, hq⟩ := st_in (cA := cA) (ad := am) (σ := σm) (L := LM) (k := k) h
    exact ⟨q, by rw [List.getElem?_append_right (by omega), lx, show 42 + k - 42 = k by omega]; exact hq⟩
  have ax_A : ∀ q, g_A (XC l D cA ax) q → s.heap.size ≤ q := by
    intro q ⟨k, hk, hq⟩
    obtain ⟨r, hr⟩ := gx (k := k) hk
    rw [hq]
    exact hD.2 _ _ hr
  have am_A : ∀ q, g_A (XM l D cA am) q → s.heap.size ≤ q := by
    intro q ⟨k, hk, hq⟩
    obtain ⟨r, hr⟩ := gm (k := k) hk
    rw [hq]
    exact hD.2 _ _ hr
  refine ⟨rfl, ⟨hK, st_N C0, ⟨hZ.1.narrow ax_A, hZ.2.narrow ax_A⟩, ?_⟩, ⟨hK, st_N C0, ⟨?_, ?_⟩, ?_⟩, ax_A, am_A, ?_⟩
  · intro i j hi hj h
    obtain ⟨r, hr⟩ := gx (k := i) hi
    obtain ⟨t, ht⟩ := gx (k := j) hj
    exact hD.1 _ _ _ _ hr ht h
  · show va_Z _ _ _ (.ref (am 1000)) _ _ _
    rw [hx]
    exact hZ.1.narrow am_A
  · show va_T _ (am 1000) _ _ _ _ _
    rw [hx]
    exact hZ.2.narrow am_A
  · intro i j hi hj h
    obtain ⟨r, hr⟩ := gm (k := i) hi
    obtain ⟨t, ht⟩ := gm (k := j) hj
    have := hD.1 _ _ _ _ hr ht h
    omega
  · intro q ⟨i, hi, h1⟩ ⟨j, hj, h2⟩
    obtain ⟨r, hr⟩ := gx (k := i) hi
    obtain ⟨t, ht⟩ := gm (k := j) hj
    have h3 := hD.1 _ _ _ _ hr ht (show ax i = am j from h1.symm.trans h2)
    have hi' : i < 42 := hi
    omega
set_option maxHeartbeats 4000000 in
set_option maxRecDepth 100000 in
theorem st_end (hL : L ≤ 3072) (C0 : lw_At p s m meth c b L xs) (hK : va_K D vwCl [(cA, .int)] s) (hZ : va_Z "SwapNames" "ORDER" "[I" (.ref (ax 1000)) (fun q : Nat => s.heap.size ≤ q) s s.heap ∧ va_T .int (ax 1000) 24 (fun j => .int (g_ord j)) (fun q : Nat => s.heap.size ≤ q) s s.heap) (hx : am 1000 = ax 1000) : CW (l, D, cA) (x, code, 4, ret, room_1) (fun q : Nat => s.heap.size ≤ q) p e s m #[Value.ref b] below meth c (lw_Z below #[Value.ref b] s) 18 [some (.ref b), some (.ref (ax 0)), some (.ref (am 0)), some (.int (nI 0))] [] (g_w cA ax sx0 0 LX ++ g_w cA am sm0 0 LM) 71 13010 := by
  intro H locs lsA hS hP hD hl
  have hB := st_B (l := l) C0 hK hZ hx hD
  have lx : (g_w cA ax sx0 0 LX).length = 42 := g_w_len cA ax sx0 LX 0
  have h1 : va_P D vwCl (g_w cA ax sx0 0 LX) H := fun k q hq => hP k q (by rw [List.getElem?_append_left (List.getElem?_eq_some_iff.mp hq).1]; exact hq)
  have h2 : va_P D vwCl (g_w cA am sm0 0 LM) H := fun k q hq => hP (42 + k) q (by rw [List.getElem?_append_right (by omega), lx, show 42 + k - 42 = k by omega]; exact hq)
  exact law_loop hL C0 hB 513 0 sx0 sm0 (by omega) (by omega) start_R H locs lsA hS h1 h2 hl
set_option maxHeartbeats 4000000 in
set_option maxRecDepth 100000 in
theorem st_two (hL : L ≤ 3072) (C0 : lw_At p s m meth c b L xs) (C : c_at (l, D, cA) (x, code, 4, ret, room_1) (fun q : Nat => s.heap.size ≤ q) p s m #[Value.ref b] meth c) (hK : va_K D vwCl [(cA, .int)] s) (hZ : va_Z "SwapNames" "ORDER" "[I" (.ref (ax 1000)) (fun q : Nat => s.heap.size ≤ q) s s.heap ∧ va_T .int (ax 1000) 24 (fun j => .int (g_ord j)) (fun q : Nat => s.heap.size ≤ q) s s.heap) : CW (l, D, cA) (x, code, 4, ret, room_1) (fun q : Nat => s.heap.size ≤ q) p e s m #[Value.ref b] below meth c (lw_Z below #[Value.ref b] s) 7 [some (.ref b), none, none, none] [.ref (ax 0)] (g_w cA ax sx0 0 LX) 42 5647 := by
  refine CW.ast C (k := 1) (by decide) (fun j v h1 h2 => by have hj : j = 0 := (by omega); subst hj; cases h1; rfl) dL_law_7 ?_
  refine CW.new C (fs := [.null, .null, .null, .null, .int 0, .null, .null, .null, .null, .null, .null, .null, .null, .int 0, .null, .int 0, .null, .null, .int 0, .null, .null, .null, .null, .int 0, .null, .null, .null, .null, .int 0, .int 0, .int 0, .int 0, .int 0, .int 0, .int 0, .int 0, .null, .null, .null, .null, .null]) gci_X7 gcp_X7 cl_L_10 in_X7 wi_X7 df_X7 (Nat.le_of_ble_eq_true rfl) (Nat.le_of_ble_eq_true rfl) dL_law_8 (fun h0 => ?_)
  refine CW.dup C dL_law_11 ?_
  refine CW.ctor (n := 0) (as := []) (b := h0) (st := [.ref h0]) (wr := g_w cA ax sx0 0 LX) C (c_X7_init h0) ⟨wi_X7, wc_yX7_init, ⟨by decide, by decide, by decide +kernel⟩, rfl, rfl⟩ rfl rfl ml_L_12 im_yX7_init ⟨by decide, by decide⟩ rfl rfl [42] [0, 1, 2, 3, 4, 5, 6, 7, 8, 9, 10, 11, 12, 13, 14, 15, 16, 17, 18, 19, 20, 21, 22, 23, 24, 25, 26, 27, 28, 29, 30, 31, 32, 33, 34, 35, 36, 37, 38, 39, 40, 41] rfl rfl rfl rfl (by decide) (Nat.le_of_ble_eq_true rfl) (Nat.le_of_ble_eq_true rfl) (Nat.le_of_ble_eq_true rfl) dL_law_12 (fun w1 hw1 => ?_)
  obtain ⟨q6, q13, q22, q30, q39, q47, q55, q64, q73, q82, q91, q99, q107, q116, q125, q133, q141, q150, q158, q167, q176, q185, q194, q203, q212, q221, q229, q237, rfl⟩ := hw1
  refine CW.chg (w2 := g_w cA ax sx0 0 LX ++ g_w cA (fun k => [h0, q6, q13, q22, q30, q39, q47, q55, q64, q73, q82, q91, q99, q107, q116, q125, q133, q141, q150, q158, q167, q176, q185, q194, q203, q212, q221, q229, q237].getD k (ax 1000)) sm0 0 LM) rfl ?_
  refine CW.ast C (k := 2) (by decide) (fun j v h1 h2 => by have hj : j = 1 := (by omega); subst hj; cases h1; rfl) dL_law_15 ?_
  refine CW.iconst C (v := 0) (by decide) dL_law_16 ?_
  refine CW.ist C (k := 3) (by decide) (fun j v h1 h2 => by have hj : j = 2 := (by omega); subst hj; cases h1; rfl) dL_law_17 ?_
  exact st_end (ax := ax) (am := fun k => [h0, q6, q13, q22, q30, q39, q47, q55, q64, q73, q82, q91, q99, q107, q116, q125, q133, q141, q150, q158, q167, q176, q185, q194, q203, q212, q221, q229, q237].getD k (ax 1000)) hL C0 hK hZ rfl
end ST
set_option maxHeartbeats 4000000 in
set_option maxRecDepth 100000 in
theorem whole_start {p : Program} {e : Env} {s : State} {m : MethodId} {below : List Frame} {meth : Method} {c : Code} (l : Launch) (hflags : l.flags = flags0) {b L : Nat} {xs : Nat → Int32} (hL : L ≤ 3072) (C0 : lw_At p s m meth c b L xs) : W p l e room_1 s m #[Value.ref b] below meth c s.heap [] 0 0 (lw_Z below #[Value.ref b] s) (entryFrame m ([Value.ref b] : List Value).toArray 4) := by
  obtain ⟨D, cA, hK⟩ := st_K C0
  obtain ⟨t, hZ⟩ := st_O C0
  have C : c_at (l, D, cA) (x, code, 4, ret, room_1) (fun q : Nat => s.heap.size ≤ q) p s m #[Value.ref b] meth c := ⟨C0.1, C0.2.1, C0.2.2.1, C0.2.2.2.2.2.2.2.2.1, C0.2.2.2.1, C0.2.2.2.2.1, st_tw C0, ⟨hK, va_Nw.of rfl (C0.2.2.2.2.2.1 _ nw_33)⟩, fun _ h => h⟩
  have key : CW (l, D, cA) (x, code, 4, ret, room_1) (fun q : Nat => s.heap.size ≤ q) p e s m #[Value.ref b] below meth c (lw_Z below #[Value.ref b] s) 0 [some (.ref b), none, none, none] [] [] 0 0 := by
    refine CW.new C (fs := [.null, .null, .null, .null, .int 0, .null, .int 0, .null, .null, .null, .null, .null]) gci_X6 gcp_X6 cl_L_7 in_X6 wi_X6 df_X6 (Nat.le_of_ble_eq_true rfl) (Nat.le_of_ble_eq_true rfl) dL_law_0 (fun h0 => ?_)
    refine CW.dup C dL_law_3 ?_
    refine CW.ctor (n := 0) (as := []) (b := h0) (st := [.ref h0]) (wr := []) C (c_X6_init h0) ⟨wi_X6, wc_yX6_init, ⟨by decide, by decide, by decide +kernel⟩, rfl, rfl⟩ rfl rfl ml_L_9 im_yX6_init ⟨by decide, by decide⟩ rfl rfl [0] [] rfl rfl rfl rfl (by decide) (Nat.le_of_ble_eq_true rfl) (Nat.le_of_ble_eq_true rfl) (Nat.le_of_ble_eq_true rfl) dL_law_4 (fun w1 hw1 => ?_)
    obtain ⟨q5, q13_9, q22_9, q6_9, q23, q42, q7_46, q25_46, q53, q7_57, q25_57, q64, q7_68, q25_68, q75, q7_79, q25_79, q85, q8_89, q17_89, q25_89, q42_89, q51_89, q60_89, q69_89, q78_89, q86_89, q33_89, q99, q7_104, q21_104, q30_104, q44_104, q52_104, q111, q7_116, q21_116, q30_116, q44_116, q52_116, q36, rfl⟩ := hw1
    refine CW.sub (w2 := g_w cA (fun k => [h0, q85, q8_89, q17_89, q25_89, q33_89, q42_89, q51_89, q60_89, q69_89, q78_89, q86_89, q5, q6_9, q13_9, q22_9, q99, q7_104, q21_104, q30_104, q44_104, q52_104, q111, q7_116, q21_116, q30_116, q44_116, q52_116, q23, q36, q42, q7_46, q25_46, q53, q7_57, q25_57, q64, q7_68, q25_68, q75, q7_79, q25_79].getD k t) sx0 0 LX) [0, 18, 19, 20, 21, 28, 22, 23, 24, 25, 26, 27, 1, 4, 2, 3, 29, 30, 31, 32, 33, 34, 35, 36, 37, 38, 39, 40, 5, 41, 6, 7, 8, 9, 10, 11, 12, 13, 14, 15, 16, 17] rfl rfl ?_
    exact st_two (ax := fun k => [h0, q85, q8_89, q17_89, q25_89, q33_89, q42_89, q51_89, q60_89, q69_89, q78_89, q86_89, q5, q6_9, q13_9, q22_9, q99, q7_104, q21_104, q30_104, q44_104, q52_104, q111, q7_116, q21_116, q30_116, q44_116, q52_116, q23, q36, q42, q7_46, q25_46, q53, q7_57, q25_57, q64, q7_68, q25_68, q75, q7_79, q25_79].getD k t) hL C0 C hK hZ
  have hl := lv_entry [.ref b] (n := 4) (Nat.le_of_ble_eq_true rfl)
  rw [lg_entry_eq]
  generalize (lg_sl ([.ref b]) ++ List.replicate (4 - (lg_sl ([.ref b])).length) Slot.unset).toArray = lsA at hl ⊢
  have hl : lv_has lsA 4 [(0, .ref b)] := hl
  refine key s.heap [] lsA va_S.rf (fun k q h => by cases h) ⟨fun i j p q h => (by cases h), fun k q h => (by cases h)⟩ ⟨hl.1, hl.2.1, fun i v hi => ?_⟩
  match i, hi with
  | 0, hi => cases hi; exact hl.2.2 (0, .ref b) (List.mem_singleton.mpr rfl)
  | 1, hi => cases hi
  | 2, hi => cases hi
  | 3, hi => cases hi
  | i + 4, hi => cases hi

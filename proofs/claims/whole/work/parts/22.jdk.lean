def upA (σ : gS) (k : Nat) (f : Nat → Int32) : gS := fun k' => if k' = k then f else σ k'
theorem upA_same (σ : gS) (k : Nat) (f : Nat → Int32) : upA σ k f k = f := if_pos rfl
theorem upA_ne (σ : gS) {k k' : Nat} (f : Nat → Int32) (h : k' ≠ k) : upA σ k f k' = σ k' := if_neg h
theorem up2_eq (σ : gS) (k i : Nat) (x : Int32) : up2 σ k i x = upA σ k (upd (σ k) i x) := rfl
theorem g_w_row {cA : ClassId} {ad : Nat → Nat} {σ : gS} {L : List gSh} {k n : Nat} {f : Nat → Int32} (h : L[k]? = some (.inl n)) : (g_w cA ad σ 0 L).set k (ad k, .inl (cA, n, .inl f)) = g_w cA ad (upA σ k f) 0 L := by
  refine List.ext_getElem? fun j => ?_
  rw [List.getElem?_set, g_w_get, g_w_get]
  by_cases hj : k = j
  · subst hj
    have hlt2 : k < (g_w cA ad σ 0 L).length := (List.getElem?_eq_some_iff.mp (g_w_at h)).1
    simp [hlt2, h, g_ce, upA_same]
  · simp only [hj, if_false, Nat.zero_add]
    congr 1
    funext sh
    rw [g_ce_congr (upA_ne σ f (fun e => hj e.symm)).symm sh]
theorem GM.ofF {X : gX} {M : gM} {Q : Option Value → gS → Prop} {σ : gS} {as : List Value} {ls : List (Option Value)} (hy : plainFor M.1 = true) (hn : (lg_sl (as.map (g_c X.2.2.2.1))).length ≤ M.2.2.1) (hls : g_en M.2.2.1 as = ls) (h : G X M Q 0 ls [] σ) : GM X M as σ Q := by
  refine va_MetF (cc := M.2.1) (maxL := M.2.2.1) (ret := M.2.2.2.1) hy rfl ?_
  intro p e s m args below meth c s₁ B hml hv
  obtain ⟨rfl, hB, hP⟩ := hv
  have hts := atoms_spec (ws := g_ws M) B.pre
  have hown : s.vm.findClass M.1.cls = some m.cls := findClass_of_methodNamed B.named
  have hl := lv_entry (as.map (g_c X.2.2.2.1)) hn
  rw [lg_entry_eq]
  refine h p e s m _ below meth c s.heap [] _ ⟨B.exec, B.bytes, B.returns, B.notSynchronized, hml, hown, fun w hw => hts w (List.mem_cons_of_mem _ hw), hB⟩ va_S.rf hP ⟨hl.1, hl.2.1, fun i v hi => ?_⟩
  rw [← hls] at hi
  refine hl.2.2 (i, g_c X.2.2.2.1 v) ?_
  have h1 : (g_ex as)[i]? = some (some v) := by
    unfold g_en at hi
    rw [List.getElem?_append] at hi
    split at hi
    · exact hi
    · rw [List.getElem?_replicate] at hi
      split at hi <;> simp at hi
  have h2 := g_ex_in X.2.2.2.1 as 0 i v h1
  rwa [Nat.zero_add] at h2
theorem G.acopy {X : gX} {M : gM} {Q : Option Value → gS → Prop} {pc : Nat} {ls : List (Option Value)} {st : List Value} {σ : gS} {index a b n0 n1 sp dp n : Nat} {isp idp i : Int32} (hL0 : X.2.2.2.2[a]? = some (.inl n0)) (hL1 : X.2.2.2.2[b]? = some (.inl n1)) (hsp : isp = nI sp) (hdp : idp = nI dp) (hi : i = nI n) (h4 : sp + n ≤ n0) (h5 : dp + n ≤ n1) (hn0 : n0 < 2 ^ 31) (hn1 : n1 < 2 ^ 31) (hw : Cond.methodLink M.1.cls index arraycopyName ∈ tw) (hfr : 1 ≤ M.2.2.2.2.frames) (hlo : (st.map fun v => v.category).sum + (nativeFrameWords "java/lang/System" "arraycopy" 5 + 11) ≤ M.2.2.2.2.locals) (hd : decode M.2.1 pc = .ok (.invokestatic index, 3)) (k : G X M Q (pc + 3) ls st (upA σ b (va_cpy (σ a) (σ b) sp dp n))) : G X M Q pc ls (.int i :: .int idp :: .ref b :: .int isp :: .ref a :: st) σ := by
  intro p e s m args below meth c H locs lsA C hS hP hl
  subst hsp hdp hi
  have e1 : (nI sp).toNatClampNeg = sp := nI_clamp (by omega)
  have e2 : (nI dp).toNatClampNeg = dp := nI_clamp (by omega)
  have e3 : (nI n).toNatClampNeg = n := nI_clamp (by omega)
  refine va_copyi C.1 C.2.1 (C.2.2.2.2.1.trans hl.1.symm) C.2.2.2.2.2.1 (C.2.2.2.2.2.2.1 _ hw) (C.2.2.2.2.2.2.1 _ wn_arraycopyName) (C.2.2.2.2.2.2.1 _ ws_arraycopyName) (C.2.2.2.2.2.2.1 _ wi_J10) C.2.2.2.2.2.2.2.1 hP (g_D C.2.2.2.2.2.2.2 σ) hS a b 0 0 (g_w_at hL0) (g_w_at hL1) rfl rfl rfl (nI_pos (by omega)) (nI_pos (by omega)) (nI_pos (by omega)) (by rw [e1, e3]; exact h4) (by rw [e2, e3]; exact h5) (fun _ _ => rfl) hfr (by rw [g_catsum]; exact hlo) hd (fun H1 locs1 hP1 hD1 hS1 => ?_)
  rw [e1, e2, e3] at hP1
  exact k p e s m args below meth c H1 locs1 lsA C hS1 ((g_w_row (cA := X.2.2.1) (ad := X.2.2.2.1) (σ := σ) (f := va_cpy (σ a) (σ b) sp dp n) hL1).subst (motive := fun w => va_P X.2.1 vwCl w H1) hP1) hl
/-- a stretch of a row becomes v -/
def flr (σ : gS) (a lo hi : Nat) (v : Int32) : gS := upA σ a (fun i => if lo ≤ i ∧ i < hi then v else σ a i)
theorem flr_0 (σ : gS) (a lo : Nat) (v : Int32) : flr σ a lo lo v = σ := by
  funext k
  unfold flr upA
  by_cases h : k = a
  · subst h
    rw [if_pos rfl]
    funext i
    exact if_neg (by omega)
  · rw [if_neg h]
theorem flr_s (σ : gS) (a : Nat) {lo j : Nat} (v : Int32) (h : lo ≤ j) : up2 (flr σ a lo j v) a j v = flr σ a lo (j + 1) v := by
  funext k
  unfold flr up2 upA upd
  by_cases hk : k = a
  · subst hk
    simp only [if_true]
    funext i
    by_cases hi : i = j
    · subst hi
      rw [if_pos rfl, if_pos (by omega)]
    · rw [if_neg hi]
      by_cases h2 : lo ≤ i ∧ i < j
      · rw [if_pos h2, if_pos (by omega)]
      · rw [if_neg h2, if_neg (by omega)]
  · rw [if_neg hk, if_neg hk, if_neg hk]
section T11
variable {l : Launch} {D : va_G} {cA : ClassId} {ad : Nat → Nat}
variable {σ : gS}
set_option maxHeartbeats 4000000 in
set_option maxRecDepth 100000 in
theorem l_J7_fill_53178 {a n : Nat} {v : Int32} (hL : LX[a]? = some (.inl n)) (hn : n < 2 ^ 31) : ∀ j q, q + j = n → G (XC l D cA ad) mJ7_fill_53178 (g_rv (fun s => s = flr σ a 0 n v)) 5 [some (.ref a), some (.int v), some (.int (nI q)), some (.int (nI n))] [] (flr σ a 0 q v) := by
  intro j
  induction j with
  | zero =>
    intro q hq
    have hq : q = n := by omega
    subst hq
    refine G.iload_n (k := 2) rfl dJ7_fill_53178_5 ?_
    refine G.iload_n (k := 3) rfl dJ7_fill_53178_6 ?_
    refine G.icmp_ge (tgt := 20) (by decide) dJ7_fill_53178_7 (fun c_7 => ?_) (fun c_7 => absurd (nI_le (Nat.le_refl _) hn) c_7)
    exact G.vret rfl (rfl) dJ7_fill_53178_20
  | succ j ih =>
    intro q hq
    refine G.iload_n (k := 2) rfl dJ7_fill_53178_5 ?_
    refine G.iload_n (k := 3) rfl dJ7_fill_53178_6 ?_
    refine G.icmp_ge (tgt := 20) (by decide) dJ7_fill_53178_7 (fun c_7 => absurd c_7 (nI_ge (by omega) hn)) (fun c_7 => ?_)
    refine G.aload_n (k := 0) rfl dJ7_fill_53178_10 ?_
    refine G.iload_n (k := 2) rfl dJ7_fill_53178_11 ?_
    refine G.iload_n (k := 1) rfl dJ7_fill_53178_12 ?_
    refine G.iastN (k := q) hL rfl (by omega) hn dJ7_fill_53178_13 ?_
    refine G.inc2 (d := 1) (by decide) (by decide) rfl dJ7_fill_53178_14 ?_
    refine G.goto (tgt := 5) (by decide) dJ7_fill_53178_17 ?_
    rw [nI_1, flr_s σ a v (Nat.zero_le _)]
    exact ih (q + 1) (by omega)
set_option maxHeartbeats 4000000 in
set_option maxRecDepth 100000 in
theorem c_J7_fill_53178 {a n : Nat} {v : Int32} (hL : LX[a]? = some (.inl n)) (hn : n < 2 ^ 31) : GM (XC l D cA ad) mJ7_fill_53178 [.ref a, .int v] σ (g_rv (fun s => s = flr σ a 0 n v)) := by
  refine GM.of (ls := [some (.ref a), some (.int v), none, none]) (by decide) (Nat.le_of_ble_eq_true rfl) rfl ?_
  refine G.iconst (v := 0) (by decide) dJ7_fill_53178_0 ?_
  refine G.ist2 (by decide) rfl dJ7_fill_53178_1 ?_
  refine G.aload_n (k := 0) rfl dJ7_fill_53178_2 ?_
  refine G.alen hL rfl dJ7_fill_53178_3 ?_
  refine G.ist3 (by decide) rfl dJ7_fill_53178_4 ?_
  have h := l_J7_fill_53178 (l := l) (D := D) (cA := cA) (ad := ad) (σ := σ) (v := v) hL hn n 0 (by omega)
  rw [flr_0] at h
  exact h
set_option maxHeartbeats 4000000 in
set_option maxRecDepth 100000 in
theorem c_J7_rangeCheck_23922 {n lo hi : Nat} (h1 : lo ≤ hi) (h2 : hi ≤ n) (hn : n < 2 ^ 31) : GM (XC l D cA ad) mJ7_rangeCheck_23922 [.int (nI n), .int (nI lo), .int (nI hi)] σ (g_rv (fun s => s = σ)) := by
  refine GM.of (ls := [some (.int (nI n)), some (.int (nI lo)), some (.int (nI hi))]) (by decide) (Nat.le_of_ble_eq_true rfl) rfl ?_
  refine G.iload_n (k := 1) rfl dJ7_rangeCheck_23922_0 ?_
  refine G.iload_n (k := 2) rfl dJ7_rangeCheck_23922_1 ?_
  refine G.icmp_le (tgt := 46) (by decide) dJ7_rangeCheck_23922_2 (fun c_2 => ?_) (fun c_2 => absurd (nI_le h1 (by omega)) c_2)
  refine G.iload_n (k := 1) rfl dJ7_rangeCheck_23922_46 ?_
  refine G.if_ge (tgt := 59) (by decide) dJ7_rangeCheck_23922_47 (fun c_47 => ?_) (fun c_47 => absurd (nI_pos' (by omega)) c_47)
  refine G.iload_n (k := 2) rfl dJ7_rangeCheck_23922_59 ?_
  refine G.iload_n (k := 0) rfl dJ7_rangeCheck_23922_60 ?_
  refine G.icmp_le (tgt := 73) (by decide) dJ7_rangeCheck_23922_61 (fun c_61 => ?_) (fun c_61 => absurd (nI_le h2 hn) c_61)
  exact G.vret rfl (rfl) dJ7_rangeCheck_23922_73
set_option maxHeartbeats 4000000 in
set_option maxRecDepth 100000 in
theorem l_J7_fill_fda19 {a n lo hi : Nat} {v : Int32} (hL : LX[a]? = some (.inl n)) (hn : n < 2 ^ 31) (h2 : hi ≤ n) : ∀ j q, q + j = hi → lo ≤ q → G (XC l D cA ad) mJ7_fill_fda19 (g_rv (fun s => s = flr σ a lo hi v)) 10 [some (.ref a), some (.int (nI lo)), some (.int (nI hi)), some (.int v), some (.int (nI q))] [] (flr σ a lo q v) := by
  intro j
  induction j with
  | zero =>
    intro q hq hlo
    have hq : q = hi := by omega
    subst hq
    refine G.iload (i := 4) rfl dJ7_fill_fda19_10 ?_
    refine G.iload_n (k := 2) rfl dJ7_fill_fda19_12 ?_
    refine G.icmp_ge (tgt := 27) (by decide) dJ7_fill_fda19_13 (fun c_13 => ?_) (fun c_13 => absurd (nI_le (Nat.le_refl _) (by omega)) c_13)
    exact G.vret rfl (rfl) dJ7_fill_fda19_27
  | succ j ih =>
    intro q hq hlo
    refine G.iload (i := 4) rfl dJ7_fill_fda19_10 ?_
    refine G.iload_n (k := 2) rfl dJ7_fill_fda19_12 ?_
    refine G.icmp_ge (tgt := 27) (by decide) dJ7_fill_fda19_13 (fun c_13 => absurd c_13 (nI_ge (by omega) (by omega))) (fun c_13 => ?_)
    refine G.aload_n (k := 0) rfl dJ7_fill_fda19_16 ?_
    refine G.iload (i := 4) rfl dJ7_fill_fda19_17 ?_
    refine G.iload_n (k := 3) rfl dJ7_fill_fda19_19 ?_
    refine G.iastN (k := q) hL rfl (by omega) hn dJ7_fill_fda19_20 ?_
    refine G.inc4 (d := 1) (by decide) (by decide) rfl dJ7_fill_fda19_21 ?_
    refine G.goto (tgt := 10) (by decide) dJ7_fill_fda19_24 ?_
    rw [nI_1, flr_s σ a v hlo]
    exact ih (q + 1) (by omega) (by omega)
set_option maxHeartbeats 4000000 in
set_option maxRecDepth 100000 in
theorem c_J7_fill_fda19 {a n lo hi : Nat} {v : Int32} (hL : LX[a]? = some (.inl n)) (hn : n < 2 ^ 31) (h1 : lo ≤ hi) (h2 : hi ≤ n) : GM (XC l D cA ad) mJ7_fill_fda19 [.ref a, .int (nI lo), .int (nI hi), .int v] σ (g_rv (fun s => s = flr σ a lo hi v)) := by
  refine GM.of (ls := [some (.ref a), some (.int (nI lo)), some (.int (nI hi)), some (.int v), none]) (by decide) (Nat.le_of_ble_eq_true rfl) rfl ?_
  refine G.aload_n (k := 0) rfl dJ7_fill_fda19_0 ?_
  refine G.alen hL rfl dJ7_fill_fda19_1 ?_
  refine G.iload_n (k := 1) rfl dJ7_fill_fda19_2 ?_
  refine G.iload_n (k := 2) rfl dJ7_fill_fda19_3 ?_
  refine G.callSvf (c_J7_rangeCheck_23922 h1 h2 hn) ml_J7_13 ws_yJ7_rangeCheck_23922 gcl_J7_rangeCheck_23922 (by decide) rfl rfl (Nat.le_of_ble_eq_true rfl) dJ7_fill_fda19_4 ?_
  refine G.iload_n (k := 1) rfl dJ7_fill_fda19_7 ?_
  refine G.ist4 (by decide) rfl dJ7_fill_fda19_8 ?_
  have h := l_J7_fill_fda19 (l := l) (D := D) (cA := cA) (ad := ad) (σ := σ) (v := v) (lo := lo) hL hn h2 (hi - lo) lo (by omega) (Nat.le_refl _)
  rw [flr_0] at h
  exact h
set_option maxHeartbeats 4000000 in
set_option maxRecDepth 100000 in
theorem c_J9_max_7cf53 {x y : Int32} : GM (XC l D cA ad) mJ9_max_7cf53 [.int x, .int y] σ (g_ri (fun r s => r = (if x < y then y else x) ∧ s = σ)) := by
  refine GM.ofF (ls := [some (.int x), some (.int y)]) (by decide +kernel) (Nat.le_of_ble_eq_true rfl) rfl ?_
  refine G.iload_n (k := 0) rfl dJ9_max_7cf53_0 ?_
  refine G.iload_n (k := 1) rfl dJ9_max_7cf53_1 ?_
  refine G.icmp_lt (tgt := 9) (by decide) dJ9_max_7cf53_2 (fun c_2 => ?_) (fun c_2 => ?_)
  · have hr : y = if x < y then y else x := (if_pos c_2).symm
    refine G.iload_n (k := 1) rfl dJ9_max_7cf53_9 ?_
    exact G.iret rfl ⟨hr, rfl⟩ dJ9_max_7cf53_10
  · have hr : x = if x < y then y else x := (if_neg c_2).symm
    refine G.iload_n (k := 0) rfl dJ9_max_7cf53_5 ?_
    refine G.goto (tgt := 10) (by decide) dJ9_max_7cf53_6 ?_
    exact G.iret rfl ⟨hr, rfl⟩ dJ9_max_7cf53_10
set_option maxHeartbeats 4000000 in
set_option maxRecDepth 100000 in
theorem c_J9_min_7cf53 {x y : Int32} : GM (XC l D cA ad) mJ9_min_7cf53 [.int x, .int y] σ (g_ri (fun r s => r = (if y < x then y else x) ∧ s = σ)) := by
  refine GM.ofF (ls := [some (.int x), some (.int y)]) (by decide +kernel) (Nat.le_of_ble_eq_true rfl) rfl ?_
  refine G.iload_n (k := 0) rfl dJ9_min_7cf53_0 ?_
  refine G.iload_n (k := 1) rfl dJ9_min_7cf53_1 ?_
  refine G.icmp_gt (tgt := 9) (by decide) dJ9_min_7cf53_2 (fun c_2 => ?_) (fun c_2 => ?_)
  · have hr : y = if y < x then y else x := (if_pos c_2).symm
    refine G.iload_n (k := 1) rfl dJ9_min_7cf53_9 ?_
    exact G.iret rfl ⟨hr, rfl⟩ dJ9_min_7cf53_10
  · have hr : x = if y < x then y else x := (if_neg c_2).symm
    refine G.iload_n (k := 0) rfl dJ9_min_7cf53_5 ?_
    refine G.goto (tgt := 10) (by decide) dJ9_min_7cf53_6 ?_
    exact G.iret rfl ⟨hr, rfl⟩ dJ9_min_7cf53_10
def fm60 (k : Int32) : Int32 := if k - k / 60 * 60 < 0 then k - k / 60 * 60 + 60 else k - k / 60 * 60
theorem xor_neg (x : Int32) : (0 ≤ x ^^^ 60) ↔ 0 ≤ x := by
  have h : ∀ y : Int32, (0 ≤ y) ↔ y.toBitVec.msb = false := by
    intro y
    rw [Int32.le_iff_toInt_le]
    show (0 : Int) ≤ y.toBitVec.toInt ↔ _
    rw [BitVec.msb_eq_toInt]; simp
  rw [h, h, Int32.toBitVec_xor, BitVec.msb_xor]
  have h60 : (60 : Int32).toBitVec.msb = false := by decide
  rw [h60]; simp
theorem rem_sign (x : Int32) : (0 ≤ x → 0 ≤ x - x / 60 * 60) ∧ (¬ 0 ≤ x → x - x / 60 * 60 ≤ 0) := by
  have e := rem_toInt x 60
  have e60 : (60 : Int32).toInt = 60 := by decide
  rw [e60] at e
  constructor
  · intro h
    rw [Int32.le_iff_toInt_le] at h ⊢
    rw [e]
    have h0 : (0 : Int32).toInt = 0 := by decide
    rw [h0] at h ⊢
    exact Int.tmod_nonneg _ h
  · intro h
    rw [Int32.le_iff_toInt_le] at h ⊢
    rw [e]
    have h0 : (0 : Int32).toInt = 0 := by decide
    rw [h0] at h ⊢
    have e2 : x.toInt.tmod 60 = -((-x.toInt).tmod 60) := by rw [Int.neg_tmod, Int.neg_neg]
    have := Int.tmod_nonneg 60 (a := -x.toInt) (by omega)
    omega
set_option maxHeartbeats 4000000 in
set_option maxRecDepth 100000 in
theorem c_J9_floorMod_7cf53 {x : Int32} : GM (XC l D cA ad) mJ9_floorMod_7cf53 [.int x, .int 60] σ (g_ri (fun r s => r = fm60 x ∧ s = σ)) := by
  refine GM.ofF (ls := [some (.int x), some (.int 60), none]) (by decide +kernel) (Nat.le_of_ble_eq_true rfl) rfl ?_
  refine G.iload_n (k := 0) rfl dJ9_floorMod_7cf53_0 ?_
  refine G.iload_n (k := 1) rfl dJ9_floorMod_7cf53_1 ?_
  refine G.irem (by decide) dJ9_floorMod_7cf53_2 ?_
  refine G.ist2 (by decide) rfl dJ9_floorMod_7cf53_3 ?_
  refine G.iload_n (k := 0) rfl dJ9_floorMod_7cf53_4 ?_
  refine G.iload_n (k := 1) rfl dJ9_floorMod_7cf53_5 ?_
  refine G.ixor dJ9_floorMod_7cf53_6 ?_
  refine G.if_ge (tgt := 18) (by decide) dJ9_floorMod_7cf53_7 (fun c_7 => ?_) (fun c_7 => ?_)
  · have hx : 0 ≤ x := (xor_neg x).mp c_7
    have hr : x - x / 60 * 60 = fm60 x := (if_neg (Int32.not_lt.mpr ((rem_sign x).1 hx))).symm
    refine G.iload_n (k := 2) rfl dJ9_floorMod_7cf53_18 ?_
    exact G.iret rfl (⟨hr, rfl⟩) dJ9_floorMod_7cf53_19
  · have hx : ¬ 0 ≤ x := fun h => c_7 ((xor_neg x).mpr h)
    have hs := (rem_sign x).2 hx
    refine G.iload_n (k := 2) rfl dJ9_floorMod_7cf53_10 ?_
    refine G.if_eq (tgt := 18) (by decide) dJ9_floorMod_7cf53_11 (fun c_11 => ?_) (fun c_11 => ?_)
    · have hr : x - x / 60 * 60 = fm60 x := by unfold fm60; rw [c_11]; rfl
      refine G.iload_n (k := 2) rfl dJ9_floorMod_7cf53_18 ?_
      exact G.iret rfl (⟨hr, rfl⟩) dJ9_floorMod_7cf53_19
    · have hr : x - x / 60 * 60 + 60 = fm60 x := (if_pos (Int32.lt_of_le_of_ne hs c_11)).symm
      refine G.iload_n (k := 2) rfl dJ9_floorMod_7cf53_14 ?_
      refine G.iload_n (k := 1) rfl dJ9_floorMod_7cf53_15 ?_
      refine G.iadd dJ9_floorMod_7cf53_16 ?_
      exact G.iret rfl (⟨hr, rfl⟩) dJ9_floorMod_7cf53_17
def bc6 (m : Nat) : Nat := (if m.testBit 0 then 1 else 0) + (if m.testBit 1 then 1 else 0) + (if m.testBit 2 then 1 else 0) + (if m.testBit 3 then 1 else 0) + (if m.testBit 4 then 1 else 0) + (if m.testBit 5 then 1 else 0)
set_option maxHeartbeats 4000000 in
set_option maxRecDepth 100000 in
theorem c_J6_bitCount_0f7a4 {m : Nat} (hm : m < 64) : GM (XC l D cA ad) mJ6_bitCount_0f7a4 [.int (nI m)] σ (g_ri (fun r s => r = nI (bc6 m) ∧ s = σ)) := by
  refine GM.of (ls := [some (.int (nI m))]) (by decide) (Nat.le_of_ble_eq_true rfl) rfl ?_
  refine G.iload_n (k := 0) rfl dJ6_bitCount_0f7a4_0 ?_
  refine G.iload_n (k := 0) rfl dJ6_bitCount_0f7a4_1 ?_
  refine G.iconst (v := 1) (by decide) dJ6_bitCount_0f7a4_2 ?_
  refine G.iushr rfl dJ6_bitCount_0f7a4_3 ?_
  refine G.ldcw ct_J6_265 dJ6_bitCount_0f7a4_4 ?_
  refine G.iand dJ6_bitCount_0f7a4_7 ?_
  refine G.isub dJ6_bitCount_0f7a4_8 ?_
  refine G.ist0 (by decide) dJ6_bitCount_0f7a4_9 ?_
  refine G.iload_n (k := 0) rfl dJ6_bitCount_0f7a4_10 ?_
  refine G.ldcw ct_J6_266 dJ6_bitCount_0f7a4_11 ?_
  refine G.iand dJ6_bitCount_0f7a4_14 ?_
  refine G.iload_n (k := 0) rfl dJ6_bitCount_0f7a4_15 ?_
  refine G.iconst (v := 2) (by decide) dJ6_bitCount_0f7a4_16 ?_
  refine G.iushr rfl dJ6_bitCount_0f7a4_17 ?_
  refine G.ldcw ct_J6_266 dJ6_bitCount_0f7a4_18 ?_
  refine G.iand dJ6_bitCount_0f7a4_21 ?_
  refine G.iadd dJ6_bitCount_0f7a4_22 ?_
  refine G.ist0 (by decide) dJ6_bitCount_0f7a4_23 ?_
  refine G.iload_n (k := 0) rfl dJ6_bitCount_0f7a4_24 ?_
  refine G.iload_n (k := 0) rfl dJ6_bitCount_0f7a4_25 ?_
  refine G.iconst (v := 4) (by decide) dJ6_bitCount_0f7a4_26 ?_
  refine G.iushr rfl dJ6_bitCount_0f7a4_27 ?_
  refine G.iadd dJ6_bitCount_0f7a4_28 ?_
  refine G.ldcw ct_J6_267 dJ6_bitCount_0f7a4_29 ?_
  refine G.iand dJ6_bitCount_0f7a4_32 ?_
  refine G.ist0 (by decide) dJ6_bitCount_0f7a4_33 ?_
  refine G.iload_n (k := 0) rfl dJ6_bitCount_0f7a4_34 ?_
  refine G.iload_n (k := 0) rfl dJ6_bitCount_0f7a4_35 ?_
  refine G.bipush (v := 8) (by decide) dJ6_bitCount_0f7a4_36 ?_
  refine G.iushr rfl dJ6_bitCount_0f7a4_38 ?_
  refine G.iadd dJ6_bitCount_0f7a4_39 ?_
  refine G.ist0 (by decide) dJ6_bitCount_0f7a4_40 ?_
  refine G.iload_n (k := 0) rfl dJ6_bitCount_0f7a4_41 ?_
  refine G.iload_n (k := 0) rfl dJ6_bitCount_0f7a4_42 ?_
  refine G.bipush (v := 16) (by decide) dJ6_bitCount_0f7a4_43 ?_
  refine G.iushr rfl dJ6_bitCount_0f7a4_45 ?_
  refine G.iadd dJ6_bitCount_0f7a4_46 ?_
  refine G.ist0 (by decide) dJ6_bitCount_0f7a4_47 ?_
  refine G.iload_n (k := 0) rfl dJ6_bitCount_0f7a4_48 ?_
  refine G.bipush (v := 63) (by decide) dJ6_bitCount_0f7a4_49 ?_
  refine G.iand dJ6_bitCount_0f7a4_51 ?_
  exact G.iret rfl (⟨by revert hm; revert m; decide +kernel, rfl⟩) dJ6_bitCount_0f7a4_52
end T11

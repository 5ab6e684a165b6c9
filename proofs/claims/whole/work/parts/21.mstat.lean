section T21
variable {l : Launch} {D : va_G} {cA : ClassId} {ad : Nat → Nat}
variable {σ : gS}
theorem bo_0 {P : Prop} {_ : Decidable P} : ((if P then (1 : Int32) else 0) = 0) ↔ ¬ P := by by_cases h : P <;> simp [h]
theorem bo_n {P : Prop} {_ : Decidable P} : (¬ ((if P then (1 : Int32) else 0) = 0)) ↔ P := by by_cases h : P <;> simp [h]
theorem bo_01 {P : Prop} {_ : Decidable P} : (if P then (1 : Int32) else 0) = 0 ∨ (if P then (1 : Int32) else 0) = 1 := by by_cases h : P <;> simp [h]
theorem lg_lt {x y : Int64} : lg_cmp x y < 0 ↔ x < y := by
  unfold lg_cmp
  by_cases h : x > y
  · rw [if_pos h]; exact ⟨fun q => absurd q (by decide), fun q => absurd q (Int64.lt_asymm h)⟩
  · rw [if_neg h]
    by_cases h2 : x = y
    · rw [if_pos h2, h2]; exact ⟨fun q => absurd q (by decide), fun q => absurd q (Int64.lt_irrefl)⟩
    · rw [if_neg h2]
      refine ⟨fun _ => ?_, fun _ => by decide⟩
      have hne : x.toInt ≠ y.toInt := fun e => h2 (Int64.toInt_inj.mp e)
      have h3 : ¬ y.toInt < x.toInt := fun e => h (Int64.lt_iff_toInt_lt.mpr e)
      exact Int64.lt_iff_toInt_lt.mpr (by omega)
theorem lg_gt {x y : Int64} : 0 < lg_cmp x y ↔ y < x := by
  unfold lg_cmp
  by_cases h : x > y
  · rw [if_pos h]; exact ⟨fun _ => h, fun _ => by decide⟩
  · rw [if_neg h]
    by_cases h2 : x = y
    · rw [if_pos h2, h2]; exact ⟨fun q => absurd q (by decide), fun q => absurd q (Int64.lt_irrefl)⟩
    · rw [if_neg h2]; exact ⟨fun q => absurd q (by decide), fun q => absurd q h⟩
theorem l64_lt (x y : Int32) : x.toInt64 < y.toInt64 ↔ x < y := by
  rw [Int64.lt_iff_toInt_lt, Int32.lt_iff_toInt_lt, Int32.toInt_toInt64, Int32.toInt_toInt64]
set_option maxHeartbeats 4000000 in
set_option maxRecDepth 100000 in
theorem c_X7_in {x a b : Int32} {la lb : Int64} (ha : la = a.toInt64) (hb : lb = b.toInt64) : GM (XM l D cA ad) mX7_in [.long x.toInt64, .long la, .long lb] σ (g_ri (fun r s => r = (if a ≤ x ∧ x ≤ b then 1 else 0) ∧ s = σ)) := by
  refine GM.of (ls := [some (.long x.toInt64), none, some (.long la), none, some (.long lb), none]) (by decide) (Nat.le_of_ble_eq_true rfl) rfl ?_
  refine G.lload_n (k := 0) rfl dX7_in_0 ?_
  refine G.lload_n (k := 2) rfl dX7_in_1 ?_
  refine G.lcmp dX7_in_2 ?_
  refine G.if_lt (tgt := 17) (by decide) dX7_in_3 (fun c_3 => ?_) (fun c_3 => ?_)
  · have h1 : ¬ a ≤ x := by rw [lg_lt, ha, l64_lt] at c_3; exact Int32.not_le.mpr c_3
    have hQ : ¬ (a ≤ x ∧ x ≤ b) := fun h => h1 h.1
    refine G.iconst (v := 0) (by decide) dX7_in_17 ?_
    exact G.zret rfl (by decide) ⟨by first | exact (if_pos hQ).symm | exact (if_neg hQ).symm, rfl⟩ dX7_in_18
  · have h1 : a ≤ x := by rw [lg_lt, ha, l64_lt] at c_3; exact Int32.not_lt.mp c_3
    refine G.lload_n (k := 0) rfl dX7_in_6 ?_
    refine G.lload (i := 4) rfl dX7_in_7 ?_
    refine G.lcmp dX7_in_9 ?_
    refine G.if_gt (tgt := 17) (by decide) dX7_in_10 (fun c_10 => ?_) (fun c_10 => ?_)
    · have h2 : ¬ x ≤ b := by rw [lg_gt, hb, l64_lt] at c_10; exact Int32.not_le.mpr c_10
      have hQ : ¬ (a ≤ x ∧ x ≤ b) := fun h => h2 h.2
      refine G.iconst (v := 0) (by decide) dX7_in_17 ?_
      exact G.zret rfl (by decide) ⟨by first | exact (if_pos hQ).symm | exact (if_neg hQ).symm, rfl⟩ dX7_in_18
    · have h2 : x ≤ b := by rw [lg_gt, hb, l64_lt] at c_10; exact Int32.not_lt.mp c_10
      have hQ : a ≤ x ∧ x ≤ b := ⟨h1, h2⟩
      refine G.iconst (v := 1) (by decide) dX7_in_13 ?_
      refine G.goto (tgt := 18) (by decide) dX7_in_14 ?_
      exact G.zret rfl (by decide) ⟨by first | exact (if_pos hQ).symm | exact (if_neg hQ).symm, rfl⟩ dX7_in_18
set_option maxHeartbeats 4000000 in
set_option maxRecDepth 100000 in
theorem c_X7_isTwo {x : Int32} : GM (XM l D cA ad) mX7_isTwo [.int x] σ (g_ri (fun r s => r = (if 0 ≤ x ∧ x ≤ 1 then 1 else 0) ∧ s = σ)) := by
  refine GM.of (ls := [some (.int x)]) (by decide) (Nat.le_of_ble_eq_true rfl) rfl ?_
  refine G.iload_n (k := 0) rfl dX7_isTwo_0 ?_
  refine G.i2l dX7_isTwo_1 ?_
  refine G.lconst (v := 0) (by decide) dX7_isTwo_2 ?_
  refine G.lconst (v := 1) (by decide) dX7_isTwo_3 ?_
  refine G.callSif (c_X7_in (a := 0) (b := 1) rfl rfl) ml_X7_94 ws_yX7_in gcl_X7_in (by decide) rfl rfl (Nat.le_of_ble_eq_true rfl) dX7_isTwo_4 ?_
  exact G.zret rfl (bo_01) (⟨rfl, rfl⟩) dX7_isTwo_7
set_option maxHeartbeats 4000000 in
set_option maxRecDepth 100000 in
theorem c_X7_isSheet {x : Int32} : GM (XM l D cA ad) mX7_isSheet [.int x] σ (g_ri (fun r s => r = (if 0 ≤ x ∧ x ≤ 3 then 1 else 0) ∧ s = σ)) := by
  refine GM.of (ls := [some (.int x)]) (by decide) (Nat.le_of_ble_eq_true rfl) rfl ?_
  refine G.iload_n (k := 0) rfl dX7_isSheet_0 ?_
  refine G.i2l dX7_isSheet_1 ?_
  refine G.lconst (v := 0) (by decide) dX7_isSheet_2 ?_
  refine G.ldc2 ct_X7_102 dX7_isSheet_3 ?_
  refine G.callSif (c_X7_in (a := 0) (b := 3) rfl rfl) ml_X7_94 ws_yX7_in gcl_X7_in (by decide) rfl rfl (Nat.le_of_ble_eq_true rfl) dX7_isSheet_6 ?_
  exact G.zret rfl (bo_01) (⟨rfl, rfl⟩) dX7_isSheet_9
set_option maxHeartbeats 4000000 in
set_option maxRecDepth 100000 in
theorem c_X7_isText {x : Int32} : GM (XM l D cA ad) mX7_isText [.int x] σ (g_ri (fun r s => r = (if 0 ≤ x ∧ x ≤ 9 then 1 else 0) ∧ s = σ)) := by
  refine GM.of (ls := [some (.int x)]) (by decide) (Nat.le_of_ble_eq_true rfl) rfl ?_
  refine G.iload_n (k := 0) rfl dX7_isText_0 ?_
  refine G.i2l dX7_isText_1 ?_
  refine G.lconst (v := 0) (by decide) dX7_isText_2 ?_
  refine G.ldc2 ct_X7_126 dX7_isText_3 ?_
  refine G.callSif (c_X7_in (a := 0) (b := 9) rfl rfl) ml_X7_94 ws_yX7_in gcl_X7_in (by decide) rfl rfl (Nat.le_of_ble_eq_true rfl) dX7_isText_6 ?_
  exact G.zret rfl (bo_01) (⟨rfl, rfl⟩) dX7_isText_9
set_option maxHeartbeats 4000000 in
set_option maxRecDepth 100000 in
theorem c_X7_isName {x : Int32} : GM (XM l D cA ad) mX7_isName [.int x] σ (g_ri (fun r s => r = (if 0 ≤ x ∧ x ≤ 5 then 1 else 0) ∧ s = σ)) := by
  refine GM.of (ls := [some (.int x)]) (by decide) (Nat.le_of_ble_eq_true rfl) rfl ?_
  refine G.iload_n (k := 0) rfl dX7_isName_0 ?_
  refine G.i2l dX7_isName_1 ?_
  refine G.lconst (v := 0) (by decide) dX7_isName_2 ?_
  refine G.ldc2 ct_X7_180 dX7_isName_3 ?_
  refine G.callSif (c_X7_in (a := 0) (b := 5) rfl rfl) ml_X7_94 ws_yX7_in gcl_X7_in (by decide) rfl rfl (Nat.le_of_ble_eq_true rfl) dX7_isName_6 ?_
  exact G.zret rfl (bo_01) (⟨rfl, rfl⟩) dX7_isName_9
set_option maxHeartbeats 4000000 in
set_option maxRecDepth 100000 in
theorem c_X7_isTerm {x : Int32} : GM (XM l D cA ad) mX7_isTerm [.int x] σ (g_ri (fun r s => r = (if 0 ≤ x ∧ x ≤ 7 then 1 else 0) ∧ s = σ)) := by
  refine GM.of (ls := [some (.int x)]) (by decide) (Nat.le_of_ble_eq_true rfl) rfl ?_
  refine G.iload_n (k := 0) rfl dX7_isTerm_0 ?_
  refine G.i2l dX7_isTerm_1 ?_
  refine G.lconst (v := 0) (by decide) dX7_isTerm_2 ?_
  refine G.ldc2 ct_X7_269 dX7_isTerm_3 ?_
  refine G.callSif (c_X7_in (a := 0) (b := 7) rfl rfl) ml_X7_94 ws_yX7_in gcl_X7_in (by decide) rfl rfl (Nat.le_of_ble_eq_true rfl) dX7_isTerm_6 ?_
  exact G.zret rfl (bo_01) (⟨rfl, rfl⟩) dX7_isTerm_9
set_option maxHeartbeats 4000000 in
set_option maxRecDepth 100000 in
theorem c_X7_isEquation {x : Int32} : GM (XM l D cA ad) mX7_isEquation [.int x] σ (g_ri (fun r s => r = (if 0 ≤ x ∧ x ≤ 3 then 1 else 0) ∧ s = σ)) := by
  refine GM.of (ls := [some (.int x)]) (by decide) (Nat.le_of_ble_eq_true rfl) rfl ?_
  refine G.iload_n (k := 0) rfl dX7_isEquation_0 ?_
  refine G.i2l dX7_isEquation_1 ?_
  refine G.lconst (v := 0) (by decide) dX7_isEquation_2 ?_
  refine G.ldc2 ct_X7_102 dX7_isEquation_3 ?_
  refine G.callSif (c_X7_in (a := 0) (b := 3) rfl rfl) ml_X7_94 ws_yX7_in gcl_X7_in (by decide) rfl rfl (Nat.le_of_ble_eq_true rfl) dX7_isEquation_6 ?_
  exact G.zret rfl (bo_01) (⟨rfl, rfl⟩) dX7_isEquation_9
set_option maxHeartbeats 4000000 in
set_option maxRecDepth 100000 in
theorem c_X7_isIn {b n : Nat} (hb : b < 2 ^ 31) (hn : n < 31) : GM (XM l D cA ad) mX7_isIn [.int (nI b), .int (nI n)] σ (g_ri (fun r s => r = (if b.testBit n then 1 else 0) ∧ s = σ)) := by
  refine GM.of (ls := [some (.int (nI b)), some (.int (nI n))]) (by decide) (Nat.le_of_ble_eq_true rfl) rfl ?_
  refine G.iload_n (k := 0) rfl dX7_isIn_0 ?_
  refine G.iload_n (k := 1) rfl dX7_isIn_1 ?_
  refine G.ishr dX7_isIn_2 ?_
  refine G.iconst (v := 1) (by decide) dX7_isIn_3 ?_
  refine G.iand dX7_isIn_4 ?_
  rw [nu_shr hb (by omega), nu_a1, nu_tb]
  refine G.iconst (v := 1) (by decide) dX7_isIn_5 ?_
  refine G.icmp_ne (tgt := 13) (by decide) dX7_isIn_6 (fun c_6 => ?_) (fun c_6 => ?_)
  · have h : ¬ b.testBit n = true := fun h => c_6 (by rw [if_pos h]; rfl)
    refine G.iconst (v := 0) (by decide) dX7_isIn_13 ?_
    exact G.zret rfl (by decide) (by refine ⟨?_, rfl⟩; first | rw [if_pos h] | rw [if_neg h]) dX7_isIn_14
  · have h : b.testBit n = true := by
      by_cases q : b.testBit n = true
      · exact q
      · rw [if_neg q] at c_6; exact absurd c_6 (by decide)
    refine G.iconst (v := 1) (by decide) dX7_isIn_9 ?_
    refine G.goto (tgt := 14) (by decide) dX7_isIn_10 ?_
    exact G.zret rfl (by decide) (by refine ⟨?_, rfl⟩; first | rw [if_pos h] | rw [if_neg h]) dX7_isIn_14
set_option maxHeartbeats 4000000 in
set_option maxRecDepth 100000 in
theorem c_X7_lesser {x y : Int32} : GM (XM l D cA ad) mX7_lesser [.int x, .int y] σ (g_ri (fun r s => r = (if x < y then x else y) ∧ s = σ)) := by
  refine GM.of (ls := [some (.int x), some (.int y)]) (by decide) (Nat.le_of_ble_eq_true rfl) rfl ?_
  refine G.iload_n (k := 0) rfl dX7_lesser_0 ?_
  refine G.iload_n (k := 1) rfl dX7_lesser_1 ?_
  refine G.icmp_ge (tgt := 9) (by decide) dX7_lesser_2 (fun c_2 => ?_) (fun c_2 => ?_)
  · refine G.iload_n (k := 1) rfl dX7_lesser_9 ?_
    exact G.iret rfl (by refine ⟨?_, rfl⟩; first | rw [if_pos (Int32.not_le.mp c_2)] | rw [if_neg (Int32.not_lt.mpr c_2)]) dX7_lesser_10
  · refine G.iload_n (k := 0) rfl dX7_lesser_5 ?_
    refine G.goto (tgt := 10) (by decide) dX7_lesser_6 ?_
    exact G.iret rfl (by refine ⟨?_, rfl⟩; first | rw [if_pos (Int32.not_le.mp c_2)] | rw [if_neg (Int32.not_lt.mpr c_2)]) dX7_lesser_10
set_option maxHeartbeats 4000000 in
set_option maxRecDepth 100000 in
theorem c_X7_greater {x y : Int32} : GM (XM l D cA ad) mX7_greater [.int x, .int y] σ (g_ri (fun r s => r = (if y < x then x else y) ∧ s = σ)) := by
  refine GM.of (ls := [some (.int x), some (.int y)]) (by decide) (Nat.le_of_ble_eq_true rfl) rfl ?_
  refine G.iload_n (k := 0) rfl dX7_greater_0 ?_
  refine G.iload_n (k := 1) rfl dX7_greater_1 ?_
  refine G.icmp_le (tgt := 9) (by decide) dX7_greater_2 (fun c_2 => ?_) (fun c_2 => ?_)
  · refine G.iload_n (k := 1) rfl dX7_greater_9 ?_
    exact G.iret rfl (by refine ⟨?_, rfl⟩; first | rw [if_pos (Int32.not_le.mp c_2)] | rw [if_neg (Int32.not_lt.mpr c_2)]) dX7_greater_10
  · refine G.iload_n (k := 0) rfl dX7_greater_5 ?_
    refine G.goto (tgt := 10) (by decide) dX7_greater_6 ?_
    exact G.iret rfl (by refine ⟨?_, rfl⟩; first | rw [if_pos (Int32.not_le.mp c_2)] | rw [if_neg (Int32.not_lt.mpr c_2)]) dX7_greater_10
set_option maxHeartbeats 4000000 in
set_option maxRecDepth 100000 in
theorem c_X7_image {c n : Nat} (hc : c < 262144) (hn : n < 6) : GM (XM l D cA ad) mX7_image [.int (nI c), .int (nI n)] σ (g_ri (fun r s => r = nI (tn_im c n) ∧ s = σ)) := by
  refine GM.of (ls := [some (.int (nI c)), some (.int (nI n))]) (by decide) (Nat.le_of_ble_eq_true rfl) rfl ?_
  refine G.iload_n (k := 0) rfl dX7_image_0 ?_
  refine G.iconst (v := 3) (by decide) dX7_image_1 ?_
  refine G.iload_n (k := 1) rfl dX7_image_2 ?_
  refine G.imul dX7_image_3 ?_
  refine G.ishr dX7_image_4 ?_
  refine G.bipush (v := 7) (by decide) dX7_image_5 ?_
  refine G.iand dX7_image_7 ?_
  exact G.iret rfl (⟨tn_jim hc hn, rfl⟩) dX7_image_8
set_option maxHeartbeats 4000000 in
set_option maxRecDepth 100000 in
theorem l_X7_behind {c d : Nat} (hc : tn_P c) (hd : tn_P d) : ∀ j n out, n + j = 6 → out = nI (tn_eN (fun n => tn_im c (tn_im d n)) n) → G (XM l D cA ad) mX7_behind (g_ri (fun r s => r = nI (tn_cmp c d) ∧ s = σ)) 4 [some (.int (nI c)), some (.int (nI d)), some (.int out), some (.int (nI n))] [] σ := by
  intro j
  induction j with
  | zero =>
    intro n out hn ho
    have hn : n = 6 := by omega
    subst hn
    refine G.iload_n (k := 3) rfl dX7_behind_4 ?_
    refine G.bipush (v := 6) (by decide) dX7_behind_5 ?_
    refine G.icmp_ge (tgt := 32) (by decide) dX7_behind_7 (fun c_7 => ?_) (fun c_7 => absurd (by decide) c_7)
    refine G.iload_n (k := 2) rfl dX7_behind_32 ?_
    exact G.iret rfl (⟨ho, rfl⟩) dX7_behind_33
  | succ j ih =>
    intro n out hn ho
    have hn6 : n < 6 := by omega
    refine G.iload_n (k := 3) rfl dX7_behind_4 ?_
    refine G.bipush (v := 6) (by decide) dX7_behind_5 ?_
    refine G.icmp_ge (tgt := 32) (by decide) dX7_behind_7 (fun c_7 => absurd c_7 (nI_ge (b := 6) (by omega) (by decide))) (fun c_7 => ?_)
    refine G.iload_n (k := 2) rfl dX7_behind_10 ?_
    refine G.iload_n (k := 0) rfl dX7_behind_11 ?_
    refine G.iload_n (k := 1) rfl dX7_behind_12 ?_
    refine G.iload_n (k := 3) rfl dX7_behind_13 ?_
    refine G.callSif (c_X7_image hd.1 hn6) ml_X7_123 ws_yX7_image gcl_X7_image (by decide) rfl rfl (Nat.le_of_ble_eq_true rfl) dX7_behind_14 ?_
    refine G.callSif (c_X7_image hc.1 (hd.2.1 n hn6)) ml_X7_123 ws_yX7_image gcl_X7_image (by decide) rfl rfl (Nat.le_of_ble_eq_true rfl) dX7_behind_17 ?_
    refine G.iconst (v := 3) (by decide) dX7_behind_20 ?_
    refine G.iload_n (k := 3) rfl dX7_behind_21 ?_
    refine G.imul dX7_behind_22 ?_
    refine G.ishl dX7_behind_23 ?_
    refine G.ior dX7_behind_24 ?_
    rw [ho, tn_or (tn_eN_lt (f := (fun n => tn_im c (tn_im d n))) n (fun _ _ => tn_im8 _ _)) hn6]
    refine G.ist2 (by decide) rfl dX7_behind_25 ?_
    refine G.inc3 (d := 1) (by decide) (by decide) rfl dX7_behind_26 ?_
    refine G.goto (tgt := 4) (by decide) dX7_behind_29 ?_
    rw [nI_1]
    exact ih (n + 1) _ (by omega) rfl
set_option maxHeartbeats 4000000 in
set_option maxRecDepth 100000 in
theorem c_X7_behind {c d : Nat} (hc : tn_P c) (hd : tn_P d) : GM (XM l D cA ad) mX7_behind [.int (nI c), .int (nI d)] σ (g_ri (fun r s => r = nI (tn_cmp c d) ∧ s = σ)) := by
  refine GM.of (ls := [some (.int (nI c)), some (.int (nI d)), none, none]) (by decide) (Nat.le_of_ble_eq_true rfl) rfl ?_
  refine G.iconst (v := 0) (by decide) dX7_behind_0 ?_
  refine G.ist2 (by decide) rfl dX7_behind_1 ?_
  refine G.iconst (v := 0) (by decide) dX7_behind_2 ?_
  refine G.ist3 (by decide) rfl dX7_behind_3 ?_
  exact l_X7_behind hc hd 6 0 0 rfl rfl
set_option maxHeartbeats 4000000 in
set_option maxRecDepth 100000 in
theorem l_X7_turnedBack {c : Nat} (hc : tn_P c) : ∀ j n out, n + j = 6 → out = nI (tn_enc (fun m => if tn_src c m < n then tn_src c m else 0)) → G (XM l D cA ad) mX7_turnedBack (g_ri (fun r s => r = nI (tn_bk c) ∧ s = σ)) 4 [some (.int (nI c)), some (.int out), some (.int (nI n))] [] σ := by
  have hf : ∀ n q, q < 6 → (fun m => if tn_src c m < n then tn_src c m else 0) q < 8 := fun n q hq => by have := tn_src_lt (c := c) hq; show (if tn_src c q < n then tn_src c q else 0) < 8; split <;> omega
  intro j
  induction j with
  | zero =>
    intro n out hn ho
    have hn : n = 6 := by omega
    subst hn
    refine G.iload_n (k := 2) rfl dX7_turnedBack_4 ?_
    refine G.bipush (v := 6) (by decide) dX7_turnedBack_5 ?_
    refine G.icmp_ge (tgt := 28) (by decide) dX7_turnedBack_7 (fun c_7 => ?_) (fun c_7 => absurd (by decide) c_7)
    refine G.iload_n (k := 1) rfl dX7_turnedBack_28 ?_
    exact G.iret rfl (⟨by rw [ho]; exact congrArg nI (tn_enc_congr (fun m hm => if_pos (tn_src_lt hm))), rfl⟩) dX7_turnedBack_29
  | succ j ih =>
    intro n out hn ho
    have hn6 : n < 6 := by omega
    have h0 : (fun m => if tn_src c m < n then tn_src c m else 0) (tn_im c n) = 0 := by show (if tn_src c (tn_im c n) < n then tn_src c (tn_im c n) else 0) = 0; rw [tn_src_im hc hn6, if_neg (by omega)]
    have hs : tn_enc (fun q => if q = tn_im c n then n else (fun m => if tn_src c m < n then tn_src c m else 0) q) = tn_enc (fun m => if tn_src c m < n + 1 then tn_src c m else 0) := tn_enc_congr (fun m hm => by
      show (if m = tn_im c n then n else if tn_src c m < n then tn_src c m else 0) = if tn_src c m < n + 1 then tn_src c m else 0
      by_cases h : m = tn_im c n
      · rw [if_pos h, h, tn_src_im hc hn6, if_pos (by omega)]
      · have h2 : tn_src c m ≠ n := fun e => h (by rw [← e, tn_im_src hc hm])
        rw [if_neg h]
        by_cases h3 : tn_src c m < n
        · rw [if_pos h3, if_pos (by omega)]
        · rw [if_neg h3, if_neg (by omega)])
    refine G.iload_n (k := 2) rfl dX7_turnedBack_4 ?_
    refine G.bipush (v := 6) (by decide) dX7_turnedBack_5 ?_
    refine G.icmp_ge (tgt := 28) (by decide) dX7_turnedBack_7 (fun c_7 => absurd c_7 (nI_ge (b := 6) (by omega) (by decide))) (fun c_7 => ?_)
    refine G.iload_n (k := 1) rfl dX7_turnedBack_10 ?_
    refine G.iload_n (k := 2) rfl dX7_turnedBack_11 ?_
    refine G.iconst (v := 3) (by decide) dX7_turnedBack_12 ?_
    refine G.iload_n (k := 0) rfl dX7_turnedBack_13 ?_
    refine G.iload_n (k := 2) rfl dX7_turnedBack_14 ?_
    refine G.callSif (c_X7_image hc.1 hn6) ml_X7_123 ws_yX7_image gcl_X7_image (by decide) rfl rfl (Nat.le_of_ble_eq_true rfl) dX7_turnedBack_15 ?_
    refine G.imul dX7_turnedBack_18 ?_
    refine G.ishl dX7_turnedBack_19 ?_
    refine G.ior dX7_turnedBack_20 ?_
    rw [ho, tn_orf (hf n) (hc.2.1 n hn6) h0 (by omega), hs]
    refine G.ist1 (by decide) rfl dX7_turnedBack_21 ?_
    refine G.inc2 (d := 1) (by decide) (by decide) rfl dX7_turnedBack_22 ?_
    refine G.goto (tgt := 4) (by decide) dX7_turnedBack_25 ?_
    rw [nI_1]
    exact ih (n + 1) _ (by omega) rfl
set_option maxHeartbeats 4000000 in
set_option maxRecDepth 100000 in
theorem c_X7_turnedBack {c : Nat} (hc : tn_P c) : GM (XM l D cA ad) mX7_turnedBack [.int (nI c)] σ (g_ri (fun r s => r = nI (tn_bk c) ∧ s = σ)) := by
  refine GM.of (ls := [some (.int (nI c)), none, none]) (by decide) (Nat.le_of_ble_eq_true rfl) rfl ?_
  refine G.iconst (v := 0) (by decide) dX7_turnedBack_0 ?_
  refine G.ist1 (by decide) rfl dX7_turnedBack_1 ?_
  refine G.iconst (v := 0) (by decide) dX7_turnedBack_2 ?_
  refine G.ist2 (by decide) rfl dX7_turnedBack_3 ?_
  exact l_X7_turnedBack hc 6 0 0 rfl (by rw [tn_enc_congr (f := fun m => if tn_src c m < 0 then tn_src c m else 0) (g := fun _ => 0) (fun m hm => if_neg (by omega))]; rfl)
set_option maxHeartbeats 4000000 in
set_option maxRecDepth 100000 in
theorem l_X7_swap {a b : Nat} (ha : a < 6) (hb : b < 6) : ∀ j n out, n + j = 6 → out = nI (tn_eN (fun n => if n = a then b else if n = b then a else n) n) → G (XM l D cA ad) mX7_swap (g_ri (fun r s => r = nI (tn_sw a b) ∧ s = σ)) 4 [some (.int (nI a)), some (.int (nI b)), some (.int out), some (.int (nI n))] [] σ := by
  intro j
  induction j with
  | zero =>
    intro n out hn ho
    have hn : n = 6 := by omega
    subst hn
    refine G.iload_n (k := 3) rfl dX7_swap_4 ?_
    refine G.bipush (v := 6) (by decide) dX7_swap_5 ?_
    refine G.icmp_ge (tgt := 42) (by decide) dX7_swap_7 (fun c_7 => ?_) (fun c_7 => absurd (by decide) c_7)
    refine G.iload_n (k := 2) rfl dX7_swap_42 ?_
    exact G.iret rfl (⟨ho, rfl⟩) dX7_swap_43
  | succ j ih =>
    intro n out hn ho
    have hn6 : n < 6 := by omega
    refine G.iload_n (k := 3) rfl dX7_swap_4 ?_
    refine G.bipush (v := 6) (by decide) dX7_swap_5 ?_
    refine G.icmp_ge (tgt := 42) (by decide) dX7_swap_7 (fun c_7 => absurd c_7 (nI_ge (b := 6) (by omega) (by decide))) (fun c_7 => ?_)
    refine G.iload_n (k := 2) rfl dX7_swap_10 ?_
    refine G.iload_n (k := 3) rfl dX7_swap_11 ?_
    refine G.iload_n (k := 0) rfl dX7_swap_12 ?_
    refine G.icmp_ne (tgt := 20) (by decide) dX7_swap_13 (fun c_13 => ?_) (fun c_13 => ?_)
    · have e1 : ¬ n = a := fun e => c_13 (by rw [e])
      refine G.iload_n (k := 3) rfl dX7_swap_20 ?_
      refine G.iload_n (k := 1) rfl dX7_swap_21 ?_
      refine G.icmp_ne (tgt := 29) (by decide) dX7_swap_22 (fun c_22 => ?_) (fun c_22 => ?_)
      · have e2 : ¬ n = b := fun e => c_22 (by rw [e])
        have e3 : n = (fun n => if n = a then b else if n = b then a else n) n := by show n = if n = a then b else if n = b then a else n; rw [if_neg e1, if_neg e2]
        refine G.iload_n (k := 3) rfl dX7_swap_29 ?_
        refine G.iconst (v := 3) (by decide) dX7_swap_30 ?_
        refine G.iload_n (k := 3) rfl dX7_swap_31 ?_
        refine G.imul dX7_swap_32 ?_
        refine G.ishl dX7_swap_33 ?_
        refine G.ior dX7_swap_34 ?_
        rw [ho, tn_or (tn_eN_lt (f := (fun n => if n = a then b else if n = b then a else n)) n (fun q hq => by show (if q = a then b else if q = b then a else q) < 8; split; omega; split <;> omega)) hn6]
        refine G.ist2 (by decide) rfl dX7_swap_35 ?_
        refine G.inc3 (d := 1) (by decide) (by decide) rfl dX7_swap_36 ?_
        refine G.goto (tgt := 4) (by decide) dX7_swap_39 ?_
        rw [nI_1]
        exact ih (n + 1) _ (by omega) (congrArg (fun q => nI (tn_eN (fun n => if n = a then b else if n = b then a else n) n + q * 8 ^ n)) e3)
      · have e2 : n = b := (nI_eq (by omega) (by omega)).mp c_22
        have e3 : a = (fun n => if n = a then b else if n = b then a else n) n := by show a = if n = a then b else if n = b then a else n; rw [if_neg e1, if_pos e2]
        refine G.iload_n (k := 0) rfl dX7_swap_25 ?_
        refine G.goto (tgt := 30) (by decide) dX7_swap_26 ?_
        refine G.iconst (v := 3) (by decide) dX7_swap_30 ?_
        refine G.iload_n (k := 3) rfl dX7_swap_31 ?_
        refine G.imul dX7_swap_32 ?_
        refine G.ishl dX7_swap_33 ?_
        refine G.ior dX7_swap_34 ?_
        rw [ho, tn_or (tn_eN_lt (f := (fun n => if n = a then b else if n = b then a else n)) n (fun q hq => by show (if q = a then b else if q = b then a else q) < 8; split; omega; split <;> omega)) hn6]
        refine G.ist2 (by decide) rfl dX7_swap_35 ?_
        refine G.inc3 (d := 1) (by decide) (by decide) rfl dX7_swap_36 ?_
        refine G.goto (tgt := 4) (by decide) dX7_swap_39 ?_
        rw [nI_1]
        exact ih (n + 1) _ (by omega) (congrArg (fun q => nI (tn_eN (fun n => if n = a then b else if n = b then a else n) n + q * 8 ^ n)) e3)
    · have e1 : n = a := (nI_eq (by omega) (by omega)).mp c_13
      have e3 : b = (fun n => if n = a then b else if n = b then a else n) n := (if_pos e1).symm
      refine G.iload_n (k := 1) rfl dX7_swap_16 ?_
      refine G.goto (tgt := 30) (by decide) dX7_swap_17 ?_
      refine G.iconst (v := 3) (by decide) dX7_swap_30 ?_
      refine G.iload_n (k := 3) rfl dX7_swap_31 ?_
      refine G.imul dX7_swap_32 ?_
      refine G.ishl dX7_swap_33 ?_
      refine G.ior dX7_swap_34 ?_
      rw [ho, tn_or (tn_eN_lt (f := (fun n => if n = a then b else if n = b then a else n)) n (fun q hq => by show (if q = a then b else if q = b then a else q) < 8; split; omega; split <;> omega)) hn6]
      refine G.ist2 (by decide) rfl dX7_swap_35 ?_
      refine G.inc3 (d := 1) (by decide) (by decide) rfl dX7_swap_36 ?_
      refine G.goto (tgt := 4) (by decide) dX7_swap_39 ?_
      rw [nI_1]
      exact ih (n + 1) _ (by omega) (congrArg (fun q => nI (tn_eN (fun n => if n = a then b else if n = b then a else n) n + q * 8 ^ n)) e3)
set_option maxHeartbeats 4000000 in
set_option maxRecDepth 100000 in
theorem c_X7_swap {a b : Nat} (ha : a < 6) (hb : b < 6) : GM (XM l D cA ad) mX7_swap [.int (nI a), .int (nI b)] σ (g_ri (fun r s => r = nI (tn_sw a b) ∧ s = σ)) := by
  refine GM.of (ls := [some (.int (nI a)), some (.int (nI b)), none, none]) (by decide) (Nat.le_of_ble_eq_true rfl) rfl ?_
  refine G.iconst (v := 0) (by decide) dX7_swap_0 ?_
  refine G.ist2 (by decide) rfl dX7_swap_1 ?_
  refine G.iconst (v := 0) (by decide) dX7_swap_2 ?_
  refine G.ist3 (by decide) rfl dX7_swap_3 ?_
  exact l_X7_swap ha hb 6 0 0 rfl rfl
set_option maxHeartbeats 4000000 in
set_option maxRecDepth 100000 in
theorem l_X7_unlike {c d : Nat} (hc : c < 262144) (hd : d < 262144) : ∀ j n out, n + j = 6 → out = nI (ms_N (fun n => decide (tn_im c n ≠ tn_im d n)) n) → G (XM l D cA ad) mX7_unlike (g_ri (fun r s => r = nI (tn_un c d) ∧ s = σ)) 4 [some (.int (nI c)), some (.int (nI d)), some (.int out), some (.int (nI n))] [] σ := by
  intro j
  induction j with
  | zero =>
    intro n out hn ho
    have hn : n = 6 := by omega
    subst hn
    refine G.iload_n (k := 3) rfl dX7_unlike_4 ?_
    refine G.bipush (v := 6) (by decide) dX7_unlike_5 ?_
    refine G.icmp_ge (tgt := 39) (by decide) dX7_unlike_7 (fun c_7 => ?_) (fun c_7 => absurd (by decide) c_7)
    refine G.iload_n (k := 2) rfl dX7_unlike_39 ?_
    exact G.iret rfl (⟨ho, rfl⟩) dX7_unlike_40
  | succ j ih =>
    intro n out hn ho
    have hn6 : n < 6 := by omega
    refine G.iload_n (k := 3) rfl dX7_unlike_4 ?_
    refine G.bipush (v := 6) (by decide) dX7_unlike_5 ?_
    refine G.icmp_ge (tgt := 39) (by decide) dX7_unlike_7 (fun c_7 => absurd c_7 (nI_ge (b := 6) (by omega) (by decide))) (fun c_7 => ?_)
    refine G.iload_n (k := 2) rfl dX7_unlike_10 ?_
    refine G.iload_n (k := 0) rfl dX7_unlike_11 ?_
    refine G.iload_n (k := 3) rfl dX7_unlike_12 ?_
    refine G.callSif (c_X7_image hc hn6) ml_X7_123 ws_yX7_image gcl_X7_image (by decide) rfl rfl (Nat.le_of_ble_eq_true rfl) dX7_unlike_13 ?_
    refine G.iload_n (k := 1) rfl dX7_unlike_16 ?_
    refine G.iload_n (k := 3) rfl dX7_unlike_17 ?_
    refine G.callSif (c_X7_image hd hn6) ml_X7_123 ws_yX7_image gcl_X7_image (by decide) rfl rfl (Nat.le_of_ble_eq_true rfl) dX7_unlike_18 ?_
    refine G.icmp_eq (tgt := 30) (by decide) dX7_unlike_21 (fun c_21 => ?_) (fun c_21 => ?_)
    · have he : tn_im c n = tn_im d n := (nI_eq (by have := tn_im8 c n; omega) (by have := tn_im8 d n; omega)).mp c_21
      have hb : ms_N (fun n => decide (tn_im c n ≠ tn_im d n)) (n + 1) = ms_N (fun n => decide (tn_im c n ≠ tn_im d n)) n := by simp [ms_N, he]
      have hq : out ||| 0 = nI (ms_N (fun n => decide (tn_im c n ≠ tn_im d n)) (n + 1)) := by rw [hb, ho]; exact Int32.or_zero
      refine G.iconst (v := 0) (by decide) dX7_unlike_30 ?_
      refine G.ior dX7_unlike_31 ?_
      rw [hq]
      refine G.ist2 (by decide) rfl dX7_unlike_32 ?_
      refine G.inc3 (d := 1) (by decide) (by decide) rfl dX7_unlike_33 ?_
      refine G.goto (tgt := 4) (by decide) dX7_unlike_36 ?_
      rw [nI_1]
      exact ih (n + 1) _ (by omega) rfl
    · have he : tn_im c n ≠ tn_im d n := fun e => c_21 (by rw [e])
      have hb : ms_N (fun n => decide (tn_im c n ≠ tn_im d n)) (n + 1) = ms_N (fun n => decide (tn_im c n ≠ tn_im d n)) n + 1 * 2 ^ n := by simp [ms_N, he]
      have hq : out ||| (1 : Int32) <<< (nI n &&& 31) = nI (ms_N (fun n => decide (tn_im c n ≠ tn_im d n)) (n + 1)) := by rw [hb, ho, show ((1 : Int32) <<< (nI n &&& 31)) = nI 1 <<< (nI n &&& 31) from rfl, ms_or (ms_N_lt _ n) (by omega)]
      refine G.iconst (v := 1) (by decide) dX7_unlike_24 ?_
      refine G.iload_n (k := 3) rfl dX7_unlike_25 ?_
      refine G.ishl dX7_unlike_26 ?_
      refine G.goto (tgt := 31) (by decide) dX7_unlike_27 ?_
      refine G.ior dX7_unlike_31 ?_
      rw [hq]
      refine G.ist2 (by decide) rfl dX7_unlike_32 ?_
      refine G.inc3 (d := 1) (by decide) (by decide) rfl dX7_unlike_33 ?_
      refine G.goto (tgt := 4) (by decide) dX7_unlike_36 ?_
      rw [nI_1]
      exact ih (n + 1) _ (by omega) rfl
set_option maxHeartbeats 4000000 in
set_option maxRecDepth 100000 in
theorem c_X7_unlike {c d : Nat} (hc : c < 262144) (hd : d < 262144) : GM (XM l D cA ad) mX7_unlike [.int (nI c), .int (nI d)] σ (g_ri (fun r s => r = nI (tn_un c d) ∧ s = σ)) := by
  refine GM.of (ls := [some (.int (nI c)), some (.int (nI d)), none, none]) (by decide) (Nat.le_of_ble_eq_true rfl) rfl ?_
  refine G.iconst (v := 0) (by decide) dX7_unlike_0 ?_
  refine G.ist2 (by decide) rfl dX7_unlike_1 ?_
  refine G.iconst (v := 0) (by decide) dX7_unlike_2 ?_
  refine G.ist3 (by decide) rfl dX7_unlike_3 ?_
  exact l_X7_unlike hc hd 6 0 0 rfl rfl
def sh_cut (f v : Int32) : Int32 := if f = 0 then v.toInt8.toInt32 else if f = 1 then v.toInt16.toInt32 else v
set_option maxHeartbeats 4000000 in
set_option maxRecDepth 100000 in
theorem c_X7_cut {f v : Int32} : GM (XM l D cA ad) mX7_cut [.int f, .int v] σ (g_ri (fun r s => r = sh_cut f v ∧ s = σ)) := by
  refine GM.of (ls := [some (.int f), some (.int v)]) (by decide) (Nat.le_of_ble_eq_true rfl) rfl ?_
  refine G.iload_n (k := 0) rfl dX7_cut_0 ?_
  refine G.if_ne (tgt := 9) (by decide) dX7_cut_1 (fun c_1 => ?_) (fun c_1 => ?_)
  · refine G.iload_n (k := 0) rfl dX7_cut_9 ?_
    refine G.iconst (v := 1) (by decide) dX7_cut_10 ?_
    refine G.icmp_ne (tgt := 19) (by decide) dX7_cut_11 (fun c_11 => ?_) (fun c_11 => ?_)
    · refine G.iload_n (k := 1) rfl dX7_cut_19 ?_
      exact G.iret rfl (by refine ⟨?_, rfl⟩; unfold sh_cut; first | rw [if_pos c_1] | rw [if_neg c_1, if_pos c_11] | rw [if_neg c_1, if_neg c_11]) dX7_cut_20
    · refine G.iload_n (k := 1) rfl dX7_cut_14 ?_
      refine G.i2s dX7_cut_15 ?_
      refine G.goto (tgt := 20) (by decide) dX7_cut_16 ?_
      exact G.iret rfl (by refine ⟨?_, rfl⟩; unfold sh_cut; first | rw [if_pos c_1] | rw [if_neg c_1, if_pos c_11] | rw [if_neg c_1, if_neg c_11]) dX7_cut_20
  · refine G.iload_n (k := 1) rfl dX7_cut_4 ?_
    refine G.i2b dX7_cut_5 ?_
    refine G.goto (tgt := 20) (by decide) dX7_cut_6 ?_
    exact G.iret rfl (by refine ⟨?_, rfl⟩; unfold sh_cut; first | rw [if_pos c_1] | rw [if_neg c_1, if_pos c_11] | rw [if_neg c_1, if_neg c_11]) dX7_cut_20
/-- kinds of bytes: 0 other, 1 name, 2 unknown, 3 nothing, 4 sign, 5 pair, 6 binder, 7 swap -/
def kd (b : Nat) : Nat := if 97 ≤ b ∧ b ≤ 102 then 1 else if 80 ≤ b ∧ b ≤ 85 then 2 else if b = 42 then 3 else if 48 ≤ b ∧ b ≤ 52 then 4 else if b = 44 then 5 else if b = 46 then 6 else if b = 33 then 7 else 0
def kdM (b : Nat) : Int32 := if kd b = 0 then -9 else nI (kd b - 1)
def nmM (b : Nat) : Int32 := if kd b = 1 then nI (b - 97) else -9
theorem kd_no : ∀ b, b < 256 → kdM b ≠ -9 → (nmM b ≠ -9 ∨ (80 ≤ nI b ∧ nI b ≤ 85) ∨ nI b = 42 ∨ (48 ≤ nI b ∧ nI b ≤ 52) ∨ nI b = 44 ∨ nI b = 46 ∨ nI b = 33) := by decide +kernel
set_option maxHeartbeats 4000000 in
set_option maxRecDepth 100000 in
theorem c_X7_nameOf {b : Nat} (hb : b < 256) : GM (XM l D cA ad) mX7_nameOf [.int (nI b)] σ (g_ri (fun r s => r = nmM b ∧ s = σ)) := by
  refine GM.of (ls := [some (.int (nI b))]) (by decide) (Nat.le_of_ble_eq_true rfl) rfl ?_
  refine G.iload_n (k := 0) rfl dX7_nameOf_0 ?_
  refine G.i2l dX7_nameOf_1 ?_
  refine G.ldc2 ct_X7_133 dX7_nameOf_2 ?_
  refine G.ldc2 ct_X7_135 dX7_nameOf_5 ?_
  refine G.callSif (c_X7_in (a := 97) (b := 102) rfl rfl) ml_X7_94 ws_yX7_in gcl_X7_in (by decide) rfl rfl (Nat.le_of_ble_eq_true rfl) dX7_nameOf_8 ?_
  refine G.if_eq (tgt := 21) (by decide) dX7_nameOf_11 (fun c_11 => ?_) (fun c_11 => ?_)
  · refine G.bipush (v := (-9)) (by decide) dX7_nameOf_21 ?_
    exact G.iret rfl (by refine ⟨?_, rfl⟩; revert c_11; revert hb; revert b; decide +kernel) dX7_nameOf_23
  · refine G.iload_n (k := 0) rfl dX7_nameOf_14 ?_
    refine G.bipush (v := 97) (by decide) dX7_nameOf_15 ?_
    refine G.isub dX7_nameOf_17 ?_
    refine G.goto (tgt := 23) (by decide) dX7_nameOf_18 ?_
    exact G.iret rfl (by refine ⟨?_, rfl⟩; revert c_11; revert hb; revert b; decide +kernel) dX7_nameOf_23
set_option maxHeartbeats 4000000 in
set_option maxRecDepth 100000 in
theorem c_X7_kindOf {b : Nat} (hb : b < 256) : GM (XM l D cA ad) mX7_kindOf [.int (nI b)] σ (g_ri (fun r s => r = kdM b ∧ s = σ)) := by
  refine GM.of (ls := [some (.int (nI b))]) (by decide) (Nat.le_of_ble_eq_true rfl) rfl ?_
  refine G.iload_n (k := 0) rfl dX7_kindOf_0 ?_
  refine G.callSif (c_X7_nameOf hb) ml_X7_137 ws_yX7_nameOf gcl_X7_nameOf (by decide) rfl rfl (Nat.le_of_ble_eq_true rfl) dX7_kindOf_1 ?_
  refine G.bipush (v := (-9)) (by decide) dX7_kindOf_4 ?_
  refine G.icmp_eq (tgt := 13) (by decide) dX7_kindOf_6 (fun c_6 => ?_) (fun c_6 => ?_)
  · refine G.iload_n (k := 0) rfl dX7_kindOf_13 ?_
    refine G.i2l dX7_kindOf_14 ?_
    refine G.ldc2 ct_X7_140 dX7_kindOf_15 ?_
    refine G.ldc2 ct_X7_142 dX7_kindOf_18 ?_
    refine G.callSif (c_X7_in (a := 80) (b := 85) rfl rfl) ml_X7_94 ws_yX7_in gcl_X7_in (by decide) rfl rfl (Nat.le_of_ble_eq_true rfl) dX7_kindOf_21 ?_
    refine G.if_eq (tgt := 31) (by decide) dX7_kindOf_24 (fun c_24 => ?_) (fun c_24 => ?_)
    · refine G.iload_n (k := 0) rfl dX7_kindOf_31 ?_
      refine G.bipush (v := 42) (by decide) dX7_kindOf_32 ?_
      refine G.icmp_ne (tgt := 41) (by decide) dX7_kindOf_34 (fun c_34 => ?_) (fun c_34 => ?_)
      · refine G.iload_n (k := 0) rfl dX7_kindOf_41 ?_
        refine G.i2l dX7_kindOf_42 ?_
        refine G.ldc2 ct_X7_144 dX7_kindOf_43 ?_
        refine G.ldc2 ct_X7_146 dX7_kindOf_46 ?_
        refine G.callSif (c_X7_in (a := 48) (b := 52) rfl rfl) ml_X7_94 ws_yX7_in gcl_X7_in (by decide) rfl rfl (Nat.le_of_ble_eq_true rfl) dX7_kindOf_49 ?_
        refine G.if_eq (tgt := 59) (by decide) dX7_kindOf_52 (fun c_52 => ?_) (fun c_52 => ?_)
        · refine G.iload_n (k := 0) rfl dX7_kindOf_59 ?_
          refine G.bipush (v := 44) (by decide) dX7_kindOf_60 ?_
          refine G.icmp_ne (tgt := 69) (by decide) dX7_kindOf_62 (fun c_62 => ?_) (fun c_62 => ?_)
          · refine G.iload_n (k := 0) rfl dX7_kindOf_69 ?_
            refine G.bipush (v := 46) (by decide) dX7_kindOf_70 ?_
            refine G.icmp_ne (tgt := 79) (by decide) dX7_kindOf_72 (fun c_72 => ?_) (fun c_72 => ?_)
            · refine G.iload_n (k := 0) rfl dX7_kindOf_79 ?_
              refine G.bipush (v := 33) (by decide) dX7_kindOf_80 ?_
              refine G.icmp_ne (tgt := 90) (by decide) dX7_kindOf_82 (fun c_82 => ?_) (fun c_82 => ?_)
              · have hr : (-9 : Int32) = kdM b := by
                  refine Decidable.byContradiction fun h => ?_
                  rcases kd_no b hb (fun e => h e.symm) with q | q | q | q | q | q | q
                  · exact q c_6
                  · exact (bo_0.mp c_24) q
                  · exact c_34 q
                  · exact (bo_0.mp c_52) q
                  · exact c_62 q
                  · exact c_72 q
                  · exact c_82 q
                refine G.bipush (v := (-9)) (by decide) dX7_kindOf_90 ?_
                exact G.iret rfl ⟨hr, rfl⟩ dX7_kindOf_92
              · refine G.bipush (v := 6) (by decide) dX7_kindOf_85 ?_
                refine G.goto (tgt := 92) (by decide) dX7_kindOf_87 ?_
                exact G.iret rfl (by refine ⟨?_, rfl⟩; clear c_6 c_24 c_34 c_52 c_62 c_72; revert c_82; revert hb; revert b; decide +kernel) dX7_kindOf_92
            · refine G.iconst (v := 5) (by decide) dX7_kindOf_75 ?_
              refine G.goto (tgt := 92) (by decide) dX7_kindOf_76 ?_
              exact G.iret rfl (by refine ⟨?_, rfl⟩; clear c_6 c_24 c_34 c_52 c_62; revert c_72; revert hb; revert b; decide +kernel) dX7_kindOf_92
          · refine G.iconst (v := 4) (by decide) dX7_kindOf_65 ?_
            refine G.goto (tgt := 92) (by decide) dX7_kindOf_66 ?_
            exact G.iret rfl (by refine ⟨?_, rfl⟩; clear c_6 c_24 c_34 c_52; revert c_62; revert hb; revert b; decide +kernel) dX7_kindOf_92
        · refine G.iconst (v := 3) (by decide) dX7_kindOf_55 ?_
          refine G.goto (tgt := 92) (by decide) dX7_kindOf_56 ?_
          exact G.iret rfl (by refine ⟨?_, rfl⟩; clear c_6 c_24 c_34; revert c_52; revert hb; revert b; decide +kernel) dX7_kindOf_92
      · refine G.iconst (v := 2) (by decide) dX7_kindOf_37 ?_
        refine G.goto (tgt := 92) (by decide) dX7_kindOf_38 ?_
        exact G.iret rfl (by refine ⟨?_, rfl⟩; clear c_6 c_24; revert c_34; revert hb; revert b; decide +kernel) dX7_kindOf_92
    · refine G.iconst (v := 1) (by decide) dX7_kindOf_27 ?_
      refine G.goto (tgt := 92) (by decide) dX7_kindOf_28 ?_
      exact G.iret rfl (by refine ⟨?_, rfl⟩; clear c_6; revert c_24; revert hb; revert b; decide +kernel) dX7_kindOf_92
  · refine G.iconst (v := 0) (by decide) dX7_kindOf_9 ?_
    refine G.goto (tgt := 92) (by decide) dX7_kindOf_10 ?_
    exact G.iret rfl (by refine ⟨?_, rfl⟩; revert c_6; revert hb; revert b; decide +kernel) dX7_kindOf_92
def nbM (w : Int32) (b : Int32) : Int32 := if w = 0 then b - 97 else if w = 1 then b - 80 else if w = 3 then b - 48 else 0
set_option maxHeartbeats 4000000 in
set_option maxRecDepth 100000 in
theorem c_X7_numberOf {w b : Int32} : GM (XM l D cA ad) mX7_numberOf [.int w, .int b] σ (g_ri (fun r s => r = nbM w b ∧ s = σ)) := by
  refine GM.of (ls := [some (.int w), some (.int b)]) (by decide) (Nat.le_of_ble_eq_true rfl) rfl ?_
  refine G.iload_n (k := 0) rfl dX7_numberOf_0 ?_
  refine G.if_ne (tgt := 11) (by decide) dX7_numberOf_1 (fun c_1 => ?_) (fun c_1 => ?_)
  · refine G.iload_n (k := 0) rfl dX7_numberOf_11 ?_
    refine G.iconst (v := 1) (by decide) dX7_numberOf_12 ?_
    refine G.icmp_ne (tgt := 23) (by decide) dX7_numberOf_13 (fun c_13 => ?_) (fun c_13 => ?_)
    · refine G.iload_n (k := 0) rfl dX7_numberOf_23 ?_
      refine G.iconst (v := 3) (by decide) dX7_numberOf_24 ?_
      refine G.icmp_ne (tgt := 35) (by decide) dX7_numberOf_25 (fun c_25 => ?_) (fun c_25 => ?_)
      · refine G.iconst (v := 0) (by decide) dX7_numberOf_35 ?_
        exact G.iret rfl (by refine ⟨?_, rfl⟩; unfold nbM; first | rw [if_pos c_1] | rw [if_neg c_1, if_pos c_13] | rw [if_neg c_1, if_neg c_13, if_pos c_25] | rw [if_neg c_1, if_neg c_13, if_neg c_25]) dX7_numberOf_36
      · refine G.iload_n (k := 1) rfl dX7_numberOf_28 ?_
        refine G.bipush (v := 48) (by decide) dX7_numberOf_29 ?_
        refine G.isub dX7_numberOf_31 ?_
        refine G.goto (tgt := 36) (by decide) dX7_numberOf_32 ?_
        exact G.iret rfl (by refine ⟨?_, rfl⟩; unfold nbM; first | rw [if_pos c_1] | rw [if_neg c_1, if_pos c_13] | rw [if_neg c_1, if_neg c_13, if_pos c_25] | rw [if_neg c_1, if_neg c_13, if_neg c_25]) dX7_numberOf_36
    · refine G.iload_n (k := 1) rfl dX7_numberOf_16 ?_
      refine G.bipush (v := 80) (by decide) dX7_numberOf_17 ?_
      refine G.isub dX7_numberOf_19 ?_
      refine G.goto (tgt := 36) (by decide) dX7_numberOf_20 ?_
      exact G.iret rfl (by refine ⟨?_, rfl⟩; unfold nbM; first | rw [if_pos c_1] | rw [if_neg c_1, if_pos c_13] | rw [if_neg c_1, if_neg c_13, if_pos c_25] | rw [if_neg c_1, if_neg c_13, if_neg c_25]) dX7_numberOf_36
  · refine G.iload_n (k := 1) rfl dX7_numberOf_4 ?_
    refine G.bipush (v := 97) (by decide) dX7_numberOf_5 ?_
    refine G.isub dX7_numberOf_7 ?_
    refine G.goto (tgt := 36) (by decide) dX7_numberOf_8 ?_
    exact G.iret rfl (by refine ⟨?_, rfl⟩; unfold nbM; first | rw [if_pos c_1] | rw [if_neg c_1, if_pos c_13] | rw [if_neg c_1, if_neg c_13, if_pos c_25] | rw [if_neg c_1, if_neg c_13, if_neg c_25]) dX7_numberOf_36
end T21

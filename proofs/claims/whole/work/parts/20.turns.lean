section T20
variable {l : Launch} {D : va_G} {cA : ClassId} {ad : Nat → Nat}
variable {σ : gS}
set_option maxHeartbeats 4000000 in
set_option maxRecDepth 100000 in
theorem c_X6_isOutside {x b : Int32} : GM (XC l D cA ad) mX6_isOutside [.int x, .int b] σ (g_ri (fun r s => r = (if x < 0 ∨ b ≤ x then 1 else 0) ∧ s = σ)) := by
  refine GM.of (ls := [some (.int x), some (.int b)]) (by decide) (Nat.le_of_ble_eq_true rfl) rfl ?_
  refine G.iload_n (k := 0) rfl dX6_isOutside_0 ?_
  refine G.if_lt (tgt := 9) (by decide) dX6_isOutside_1 (fun c_1 => ?_) (fun c_1 => ?_)
  · refine G.iconst (v := 1) (by decide) dX6_isOutside_9 ?_
    refine G.goto (tgt := 14) (by decide) dX6_isOutside_10 ?_
    exact G.zret rfl (by decide) (by first | (refine ⟨?_, rfl⟩; rw [if_pos (Or.inl (by assumption))]) | (refine ⟨?_, rfl⟩; rw [if_pos (Or.inr (Int32.not_lt.mp (by assumption)))]) | (refine ⟨?_, rfl⟩; rw [if_neg (by intro h; rcases h with h | h; exact absurd h (by assumption); exact absurd (by assumption) (Int32.not_lt.mpr h))])) dX6_isOutside_14
  · refine G.iload_n (k := 0) rfl dX6_isOutside_4 ?_
    refine G.iload_n (k := 1) rfl dX6_isOutside_5 ?_
    refine G.icmp_lt (tgt := 13) (by decide) dX6_isOutside_6 (fun c_6 => ?_) (fun c_6 => ?_)
    · refine G.iconst (v := 0) (by decide) dX6_isOutside_13 ?_
      exact G.zret rfl (by decide) (by first | (refine ⟨?_, rfl⟩; rw [if_pos (Or.inl (by assumption))]) | (refine ⟨?_, rfl⟩; rw [if_pos (Or.inr (Int32.not_lt.mp (by assumption)))]) | (refine ⟨?_, rfl⟩; rw [if_neg (by intro h; rcases h with h | h; exact absurd h (by assumption); exact absurd (by assumption) (Int32.not_lt.mpr h))])) dX6_isOutside_14
    · refine G.iconst (v := 1) (by decide) dX6_isOutside_9 ?_
      refine G.goto (tgt := 14) (by decide) dX6_isOutside_10 ?_
      exact G.zret rfl (by decide) (by first | (refine ⟨?_, rfl⟩; rw [if_pos (Or.inl (by assumption))]) | (refine ⟨?_, rfl⟩; rw [if_pos (Or.inr (Int32.not_lt.mp (by assumption)))]) | (refine ⟨?_, rfl⟩; rw [if_neg (by intro h; rcases h with h | h; exact absurd h (by assumption); exact absurd (by assumption) (Int32.not_lt.mpr h))])) dX6_isOutside_14
set_option maxHeartbeats 4000000 in
set_option maxRecDepth 100000 in
theorem c_X6_isNoPlace {x : Int32} : GM (XC l D cA ad) mX6_isNoPlace [.int x] σ (g_ri (fun r s => r = (if x < -1 ∨ 60 ≤ x then 1 else 0) ∧ s = σ)) := by
  refine GM.of (ls := [some (.int x)]) (by decide) (Nat.le_of_ble_eq_true rfl) rfl ?_
  refine G.iload_n (k := 0) rfl dX6_isNoPlace_0 ?_
  refine G.iconst (v := (-1)) (by decide) dX6_isNoPlace_1 ?_
  refine G.icmp_lt (tgt := 11) (by decide) dX6_isNoPlace_2 (fun c_2 => ?_) (fun c_2 => ?_)
  · refine G.iconst (v := 1) (by decide) dX6_isNoPlace_11 ?_
    refine G.goto (tgt := 16) (by decide) dX6_isNoPlace_12 ?_
    exact G.zret rfl (by decide) (by first | (refine ⟨?_, rfl⟩; rw [if_pos (Or.inl (by assumption))]) | (refine ⟨?_, rfl⟩; rw [if_pos (Or.inr (Int32.not_lt.mp (by assumption)))]) | (refine ⟨?_, rfl⟩; rw [if_neg (by intro h; rcases h with h | h; exact absurd h (by assumption); exact absurd (by assumption) (Int32.not_lt.mpr h))])) dX6_isNoPlace_16
  · refine G.iload_n (k := 0) rfl dX6_isNoPlace_5 ?_
    refine G.bipush (v := 60) (by decide) dX6_isNoPlace_6 ?_
    refine G.icmp_lt (tgt := 15) (by decide) dX6_isNoPlace_8 (fun c_8 => ?_) (fun c_8 => ?_)
    · refine G.iconst (v := 0) (by decide) dX6_isNoPlace_15 ?_
      exact G.zret rfl (by decide) (by first | (refine ⟨?_, rfl⟩; rw [if_pos (Or.inl (by assumption))]) | (refine ⟨?_, rfl⟩; rw [if_pos (Or.inr (Int32.not_lt.mp (by assumption)))]) | (refine ⟨?_, rfl⟩; rw [if_neg (by intro h; rcases h with h | h; exact absurd h (by assumption); exact absurd (by assumption) (Int32.not_lt.mpr h))])) dX6_isNoPlace_16
    · refine G.iconst (v := 1) (by decide) dX6_isNoPlace_11 ?_
      refine G.goto (tgt := 16) (by decide) dX6_isNoPlace_12 ?_
      exact G.zret rfl (by decide) (by first | (refine ⟨?_, rfl⟩; rw [if_pos (Or.inl (by assumption))]) | (refine ⟨?_, rfl⟩; rw [if_pos (Or.inr (Int32.not_lt.mp (by assumption)))]) | (refine ⟨?_, rfl⟩; rw [if_neg (by intro h; rcases h with h | h; exact absurd h (by assumption); exact absurd (by assumption) (Int32.not_lt.mpr h))])) dX6_isNoPlace_16
set_option maxHeartbeats 4000000 in
set_option maxRecDepth 100000 in
theorem c_X3_make {n c : Nat} (hc : c < 262144) : GM (XC l D cA ad) mX3_make [.int (nI n), .int (nI c)] σ (g_ri (fun r s => r = nI (n * 262144 + c) ∧ s = σ)) := by
  refine GM.of (ls := [some (.int (nI n)), some (.int (nI c))]) (by decide) (Nat.le_of_ble_eq_true rfl) rfl ?_
  refine G.iload_n (k := 0) rfl dX3_make_0 ?_
  refine G.bipush (v := 18) (by decide) dX3_make_1 ?_
  refine G.ishl dX3_make_3 ?_
  refine G.iload_n (k := 1) rfl dX3_make_4 ?_
  refine G.ior dX3_make_5 ?_
  have e : nI n <<< ((18 : Int32) &&& 31) ||| nI c = nI (n * 262144 + c) := by
    rw [show ((18 : Int32) &&& 31) = (nI 18 &&& 31) from rfl, nu_shl n (by omega), nu_or]
    congr 1
    have h := Nat.two_pow_add_eq_or_of_lt (i := 18) (b := c) (by omega) n
    rw [Nat.mul_comm n, ← h, Nat.mul_comm]
  exact G.iret rfl (⟨e, rfl⟩) dX3_make_6
set_option maxHeartbeats 4000000 in
set_option maxRecDepth 100000 in
theorem c_X3_node {n c : Nat} (hn : n < 4096) (hc : c < 262144) : GM (XC l D cA ad) mX3_node [.int (nI (n * 262144 + c))] σ (g_ri (fun r s => r = nI n ∧ s = σ)) := by
  refine GM.of (ls := [some (.int (nI (n * 262144 + c)))]) (by decide) (Nat.le_of_ble_eq_true rfl) rfl ?_
  refine G.iload_n (k := 0) rfl dX3_node_0 ?_
  refine G.bipush (v := 18) (by decide) dX3_node_1 ?_
  refine G.ishr dX3_node_3 ?_
  exact G.iret rfl (⟨by rw [show ((18 : Int32) &&& 31) = (nI 18 &&& 31) from rfl, nu_shr (by omega) (by omega)]; congr 1; omega, rfl⟩) dX3_node_4
set_option maxHeartbeats 4000000 in
set_option maxRecDepth 100000 in
theorem c_X3_by {n c : Nat} (hc : c < 262144) : GM (XC l D cA ad) mX3_by [.int (nI (n * 262144 + c))] σ (g_ri (fun r s => r = nI c ∧ s = σ)) := by
  refine GM.of (ls := [some (.int (nI (n * 262144 + c)))]) (by decide) (Nat.le_of_ble_eq_true rfl) rfl ?_
  refine G.iload_n (k := 0) rfl dX3_by_0 ?_
  refine G.ldc ct_X3_7 dX3_by_1 ?_
  refine G.iand dX3_by_3 ?_
  exact G.iret rfl (⟨by show nI _ &&& nI 262143 = _; rw [nu_and]; congr 1; rw [show (262143 : Nat) = 2 ^ 18 - 1 from rfl, Nat.and_two_pow_sub_one_eq_mod]; omega, rfl⟩) dX3_by_4
set_option maxHeartbeats 4000000 in
set_option maxRecDepth 100000 in
theorem c_X3_further {n c b : Nat} : GM (XC l D cA ad) mX3_further [.int (nI (n * 262144 + c)), .int (nI b)] σ (g_ri (fun r s => r = nI ((n + b) * 262144 + c) ∧ s = σ)) := by
  refine GM.of (ls := [some (.int (nI (n * 262144 + c))), some (.int (nI b))]) (by decide) (Nat.le_of_ble_eq_true rfl) rfl ?_
  refine G.iload_n (k := 0) rfl dX3_further_0 ?_
  refine G.iload_n (k := 1) rfl dX3_further_1 ?_
  refine G.bipush (v := 18) (by decide) dX3_further_2 ?_
  refine G.ishl dX3_further_4 ?_
  refine G.iadd dX3_further_5 ?_
  exact G.iret rfl (⟨by rw [show ((18 : Int32) &&& 31) = (nI 18 &&& 31) from rfl, nu_shl b (by omega), nI_add]; exact congrArg nI (by rw [show (2 : Nat) ^ 18 = 262144 from rfl]; omega), rfl⟩) dX3_further_6
set_option maxHeartbeats 4000000 in
set_option maxRecDepth 100000 in
theorem c_X5_image {c n : Nat} (hc : c < 262144) (hn : n < 6) : GM (XC l D cA ad) mX5_image [.int (nI c), .int (nI n)] σ (g_ri (fun r s => r = nI (tn_im c n) ∧ s = σ)) := by
  refine GM.of (ls := [some (.int (nI c)), some (.int (nI n))]) (by decide) (Nat.le_of_ble_eq_true rfl) rfl ?_
  refine G.iload_n (k := 0) rfl dX5_image_0 ?_
  refine G.iconst (v := 3) (by decide) dX5_image_1 ?_
  refine G.iload_n (k := 1) rfl dX5_image_2 ?_
  refine G.imul dX5_image_3 ?_
  refine G.ishr dX5_image_4 ?_
  refine G.bipush (v := 7) (by decide) dX5_image_5 ?_
  refine G.iand dX5_image_7 ?_
  exact G.iret rfl (⟨tn_jim hc hn, rfl⟩) dX5_image_8
set_option maxHeartbeats 4000000 in
set_option maxRecDepth 100000 in
theorem c_X5_swapFirst {c x y : Nat} (hc : tn_P c) (hx : x < 6) (hy : y < 6) : GM (XC l D cA ad) mX5_swapFirst [.int (nI c), .int (nI x), .int (nI y)] σ (g_ri (fun r s => r = nI (tn_cmp c (tn_sw x y)) ∧ s = σ)) := by
  refine GM.of (ls := [some (.int (nI c)), some (.int (nI x)), some (.int (nI y)), none]) (by decide) (Nat.le_of_ble_eq_true rfl) rfl ?_
  refine G.iload_n (k := 0) rfl dX5_swapFirst_0 ?_
  refine G.iconst (v := 3) (by decide) dX5_swapFirst_1 ?_
  refine G.iload_n (k := 1) rfl dX5_swapFirst_2 ?_
  refine G.imul dX5_swapFirst_3 ?_
  refine G.ishr dX5_swapFirst_4 ?_
  refine G.iload_n (k := 0) rfl dX5_swapFirst_5 ?_
  refine G.iconst (v := 3) (by decide) dX5_swapFirst_6 ?_
  refine G.iload_n (k := 2) rfl dX5_swapFirst_7 ?_
  refine G.imul dX5_swapFirst_8 ?_
  refine G.ishr dX5_swapFirst_9 ?_
  refine G.ixor dX5_swapFirst_10 ?_
  refine G.bipush (v := 7) (by decide) dX5_swapFirst_11 ?_
  refine G.iand dX5_swapFirst_13 ?_
  have e3 : ∀ z : Nat, (3 : Int32) * nI z = nI (3 * z) := fun z => nu_mul 3 z
  have e8 : ∀ z : Nat, (2 : Nat) ^ (3 * z) = 8 ^ z := fun z => by rw [Nat.pow_mul]
  have h1 := hc.1
  rw [e3, e3, nu_shr (by omega) (by omega), nu_shr (by omega) (by omega), nu_xor, nu_a7, e8, e8]
  refine G.ist3 (by decide) rfl dX5_swapFirst_14 ?_
  refine G.iload_n (k := 0) rfl dX5_swapFirst_15 ?_
  refine G.iload_n (k := 3) rfl dX5_swapFirst_16 ?_
  refine G.iconst (v := 3) (by decide) dX5_swapFirst_17 ?_
  refine G.iload_n (k := 1) rfl dX5_swapFirst_18 ?_
  refine G.imul dX5_swapFirst_19 ?_
  refine G.ishl dX5_swapFirst_20 ?_
  refine G.ixor dX5_swapFirst_21 ?_
  refine G.iload_n (k := 3) rfl dX5_swapFirst_22 ?_
  refine G.iconst (v := 3) (by decide) dX5_swapFirst_23 ?_
  refine G.iload_n (k := 2) rfl dX5_swapFirst_24 ?_
  refine G.imul dX5_swapFirst_25 ?_
  refine G.ishl dX5_swapFirst_26 ?_
  refine G.ixor dX5_swapFirst_27 ?_
  rw [e3, e3, nu_shl _ (by omega), nu_shl _ (by omega), nu_xor, nu_xor, e8, e8]
  exact G.iret rfl (⟨congrArg nI (tn_xf_eq hc hx hy), rfl⟩) dX5_swapFirst_28
set_option maxHeartbeats 4000000 in
set_option maxRecDepth 100000 in
theorem l_X5_source {c m : Nat} (hc : c < 262144) (hm : m < 6) : ∀ j n, n + j = 6 → (∀ q, q < n → tn_im c q ≠ m) → G (XC l D cA ad) mX5_source (g_ri (fun r s => r = nI (tn_src c m) ∧ s = σ)) 2 [some (.int (nI c)), some (.int (nI m)), some (.int (nI n))] [] σ := by
  intro j
  induction j with
  | zero =>
    intro n hn hq
    have hn : n = 6 := by omega
    subst hn
    refine G.iload_n (k := 2) rfl dX5_source_2 ?_
    refine G.bipush (v := 6) (by decide) dX5_source_3 ?_
    refine G.icmp_ge (tgt := 28) (by decide) dX5_source_5 (fun c_5 => ?_) (fun c_5 => absurd (by decide) c_5)
    refine G.iload_n (k := 1) rfl dX5_source_28 ?_
    exact G.iret rfl (⟨by rw [tn_src, if_neg (hq 0 (by omega)), if_neg (hq 1 (by omega)), if_neg (hq 2 (by omega)), if_neg (hq 3 (by omega)), if_neg (hq 4 (by omega)), if_neg (hq 5 (by omega))], rfl⟩) dX5_source_29
  | succ j ih =>
    intro n hn hq
    refine G.iload_n (k := 2) rfl dX5_source_2 ?_
    refine G.bipush (v := 6) (by decide) dX5_source_3 ?_
    refine G.icmp_ge (tgt := 28) (by decide) dX5_source_5 (fun c_5 => absurd c_5 (nI_ge (b := 6) (by omega) (by decide))) (fun c_5 => ?_)
    refine G.iload_n (k := 0) rfl dX5_source_8 ?_
    refine G.iconst (v := 3) (by decide) dX5_source_9 ?_
    refine G.iload_n (k := 2) rfl dX5_source_10 ?_
    refine G.imul dX5_source_11 ?_
    refine G.ishr dX5_source_12 ?_
    refine G.bipush (v := 7) (by decide) dX5_source_13 ?_
    refine G.iand dX5_source_15 ?_
    rw [tn_jim hc (by omega)]
    refine G.iload_n (k := 1) rfl dX5_source_16 ?_
    refine G.icmp_ne (tgt := 22) (by decide) dX5_source_17 (fun c_17 => ?_) (fun c_17 => ?_)
    · have hne : tn_im c n ≠ m := fun e => c_17 (by rw [e])
      refine G.inc2 (d := 1) (by decide) (by decide) rfl dX5_source_22 ?_
      refine G.goto (tgt := 2) (by decide) dX5_source_25 ?_
      rw [nI_1]
      exact ih (n + 1) (by omega) (fun q hq1 => by
        rcases Nat.lt_or_ge q n with h | h
        · exact hq q h
        · rw [show q = n by omega]; exact hne)
    · have he : tn_im c n = m := by
        have h8 := tn_im8 c n
        exact (nI_eq (by omega) (by omega)).mp c_17
      have hs : tn_src c m = n := by
        have hn6 : n < 6 := by omega
        clear c_17 ih
        match n, hn6 with
        | 0, _ => rw [tn_src, if_pos he]
        | 1, _ => rw [tn_src, if_neg (hq 0 (by omega)), if_pos he]
        | 2, _ => rw [tn_src, if_neg (hq 0 (by omega)), if_neg (hq 1 (by omega)), if_pos he]
        | 3, _ => rw [tn_src, if_neg (hq 0 (by omega)), if_neg (hq 1 (by omega)), if_neg (hq 2 (by omega)), if_pos he]
        | 4, _ => rw [tn_src, if_neg (hq 0 (by omega)), if_neg (hq 1 (by omega)), if_neg (hq 2 (by omega)), if_neg (hq 3 (by omega)), if_pos he]
        | 5, _ => rw [tn_src, if_neg (hq 0 (by omega)), if_neg (hq 1 (by omega)), if_neg (hq 2 (by omega)), if_neg (hq 3 (by omega)), if_neg (hq 4 (by omega)), if_pos he]
      refine G.iload_n (k := 2) rfl dX5_source_20 ?_
      exact G.iret rfl (⟨by rw [hs], rfl⟩) dX5_source_21
set_option maxHeartbeats 4000000 in
set_option maxRecDepth 100000 in
theorem c_X5_source {c m : Nat} (hc : c < 262144) (hm : m < 6) : GM (XC l D cA ad) mX5_source [.int (nI c), .int (nI m)] σ (g_ri (fun r s => r = nI (tn_src c m) ∧ s = σ)) := by
  refine GM.of (ls := [some (.int (nI c)), some (.int (nI m)), none]) (by decide) (Nat.le_of_ble_eq_true rfl) rfl ?_
  refine G.iconst (v := 0) (by decide) dX5_source_0 ?_
  refine G.ist2 (by decide) rfl dX5_source_1 ?_
  exact l_X5_source hc hm 6 0 rfl (fun q h => by omega)
set_option maxHeartbeats 4000000 in
set_option maxRecDepth 100000 in
theorem c_X5_swapLast {c x y : Nat} (hc : tn_P c) (hx : x < 6) (hy : y < 6) : GM (XC l D cA ad) mX5_swapLast [.int (nI c), .int (nI x), .int (nI y)] σ (g_ri (fun r s => r = nI (tn_cmp (tn_sw x y) c) ∧ s = σ)) := by
  refine GM.of (ls := [some (.int (nI c)), some (.int (nI x)), some (.int (nI y))]) (by decide) (Nat.le_of_ble_eq_true rfl) rfl ?_
  refine G.iload_n (k := 0) rfl dX5_swapLast_0 ?_
  refine G.iload_n (k := 0) rfl dX5_swapLast_1 ?_
  refine G.iload_n (k := 1) rfl dX5_swapLast_2 ?_
  refine G.callSif (c_X5_source hc.1 hx) ml_X5_9 ws_yX5_source gcl_X5_source (by decide) rfl rfl (Nat.le_of_ble_eq_true rfl) dX5_swapLast_3 ?_
  refine G.iload_n (k := 0) rfl dX5_swapLast_6 ?_
  refine G.iload_n (k := 2) rfl dX5_swapLast_7 ?_
  refine G.callSif (c_X5_source hc.1 hy) ml_X5_9 ws_yX5_source gcl_X5_source (by decide) rfl rfl (Nat.le_of_ble_eq_true rfl) dX5_swapLast_8 ?_
  refine G.callSif (c_X5_swapFirst hc (tn_src_lt hx) (tn_src_lt hy)) ml_X5_15 ws_yX5_swapFirst gcl_X5_swapFirst (by decide) rfl rfl (Nat.le_of_ble_eq_true rfl) dX5_swapLast_11 ?_
  rw [tn_last hc hx hy]
  exact G.iret rfl (⟨rfl, rfl⟩) dX5_swapLast_14
set_option maxHeartbeats 4000000 in
set_option maxRecDepth 100000 in
theorem l_X5_join {c d : Nat} (hc : tn_P c) (hd : tn_P d) : ∀ j n, n + j = 6 → G (XC l D cA ad) mX5_join (g_ri (fun r s => r = nI (tn_cmp c d) ∧ s = σ)) 4 [some (.int (nI c)), some (.int (nI d)), some (.int (nI (tn_eN (fun n => tn_im c (tn_im d n)) n))), some (.int (nI n))] [] σ := by
  intro j
  induction j with
  | zero =>
    intro n hn
    have hn : n = 6 := by omega
    subst hn
    refine G.iload_n (k := 3) rfl dX5_join_4 ?_
    refine G.bipush (v := 6) (by decide) dX5_join_5 ?_
    refine G.icmp_ge (tgt := 38) (by decide) dX5_join_7 (fun c_7 => ?_) (fun c_7 => absurd (by decide) c_7)
    refine G.iload_n (k := 2) rfl dX5_join_38 ?_
    exact G.iret rfl (⟨rfl, rfl⟩) dX5_join_39
  | succ j ih =>
    intro n hn
    refine G.iload_n (k := 3) rfl dX5_join_4 ?_
    refine G.bipush (v := 6) (by decide) dX5_join_5 ?_
    refine G.icmp_ge (tgt := 38) (by decide) dX5_join_7 (fun c_7 => absurd c_7 (nI_ge (b := 6) (by omega) (by decide))) (fun c_7 => ?_)
    refine G.iload_n (k := 2) rfl dX5_join_10 ?_
    refine G.iload_n (k := 0) rfl dX5_join_11 ?_
    refine G.iconst (v := 3) (by decide) dX5_join_12 ?_
    refine G.iload_n (k := 1) rfl dX5_join_13 ?_
    refine G.iconst (v := 3) (by decide) dX5_join_14 ?_
    refine G.iload_n (k := 3) rfl dX5_join_15 ?_
    refine G.imul dX5_join_16 ?_
    refine G.ishr dX5_join_17 ?_
    refine G.bipush (v := 7) (by decide) dX5_join_18 ?_
    refine G.iand dX5_join_20 ?_
    refine G.imul dX5_join_21 ?_
    refine G.ishr dX5_join_22 ?_
    refine G.bipush (v := 7) (by decide) dX5_join_23 ?_
    refine G.iand dX5_join_25 ?_
    refine G.iconst (v := 3) (by decide) dX5_join_26 ?_
    refine G.iload_n (k := 3) rfl dX5_join_27 ?_
    refine G.imul dX5_join_28 ?_
    refine G.ishl dX5_join_29 ?_
    refine G.ior dX5_join_30 ?_
    rw [tn_jim hd.1 (by omega), tn_jim hc.1 (hd.2.1 n (by omega)), tn_or (tn_eN_lt (f := (fun n => tn_im c (tn_im d n))) n (fun _ _ => tn_im8 _ _)) (by omega)]
    refine G.ist2 (by decide) rfl dX5_join_31 ?_
    refine G.inc3 (d := 1) (by decide) (by decide) rfl dX5_join_32 ?_
    refine G.goto (tgt := 4) (by decide) dX5_join_35 ?_
    rw [nI_1]
    exact ih (n + 1) (by omega)
set_option maxHeartbeats 4000000 in
set_option maxRecDepth 100000 in
theorem c_X5_join {c d : Nat} (hc : tn_P c) (hd : tn_P d) : GM (XC l D cA ad) mX5_join [.int (nI c), .int (nI d)] σ (g_ri (fun r s => r = nI (tn_cmp c d) ∧ s = σ)) := by
  refine GM.of (ls := [some (.int (nI c)), some (.int (nI d)), none, none]) (by decide) (Nat.le_of_ble_eq_true rfl) rfl ?_
  refine G.iconst (v := 0) (by decide) dX5_join_0 ?_
  refine G.ist2 (by decide) rfl dX5_join_1 ?_
  refine G.iconst (v := 0) (by decide) dX5_join_2 ?_
  refine G.ist3 (by decide) rfl dX5_join_3 ?_
  exact l_X5_join hc hd 6 0 rfl
set_option maxHeartbeats 4000000 in
set_option maxRecDepth 100000 in
theorem l_X5_back {c : Nat} (hc : tn_P c) : ∀ j n out, n + j = 6 → out = nI (tn_enc (fun m => if tn_src c m < n then tn_src c m else 0)) → G (XC l D cA ad) mX5_back (g_ri (fun r s => r = nI (tn_bk c) ∧ s = σ)) 4 [some (.int (nI c)), some (.int out), some (.int (nI n))] [] σ := by
  have hf : ∀ n q, q < 6 → (fun m => if tn_src c m < n then tn_src c m else 0) q < 8 := fun n q hq => by have := tn_src_lt (c := c) hq; show (if tn_src c q < n then tn_src c q else 0) < 8; split <;> omega
  intro j
  induction j with
  | zero =>
    intro n out hn ho
    have hn : n = 6 := by omega
    subst hn
    refine G.iload_n (k := 2) rfl dX5_back_4 ?_
    refine G.bipush (v := 6) (by decide) dX5_back_5 ?_
    refine G.icmp_ge (tgt := 31) (by decide) dX5_back_7 (fun c_7 => ?_) (fun c_7 => absurd (by decide) c_7)
    refine G.iload_n (k := 1) rfl dX5_back_31 ?_
    exact G.iret rfl (⟨by rw [ho]; exact congrArg nI (tn_enc_congr (fun m hm => if_pos (tn_src_lt hm))), rfl⟩) dX5_back_32
  | succ j ih =>
    intro n out hn ho
    have hn6 : n < 6 := by omega
    have h0 : (fun m => if tn_src c m < n then tn_src c m else 0) (tn_im c n) = 0 := by show (if tn_src c (tn_im c n) < n then tn_src c (tn_im c n) else 0) = 0; rw [tn_src_im hc hn6, if_neg (by omega)]
    have hs : tn_enc (fun q => if q = tn_im c n then n else (fun m => if tn_src c m < n then tn_src c m else 0) q) = tn_enc (fun m => if tn_src c m < n + 1 then tn_src c m else 0) := tn_enc_congr (fun m hm => by
      show (if m = tn_im c n then n else if tn_src c m < n then tn_src c m else 0) = if tn_src c m < n + 1 then tn_src c m else 0
      by_cases h : m = tn_im c n
      · rw [if_pos h, h, tn_src_im hc hn6, if_pos (by omega)]
      · have h2 : tn_src c m ≠ n := fun e => h (by rw [← e, tn_im_src hc hm])
        rw [if_neg h]
        by_cases h3 : tn_src c m < n
        · rw [if_pos h3, if_pos (by omega)]
        · rw [if_neg h3, if_neg (by omega)])
    refine G.iload_n (k := 2) rfl dX5_back_4 ?_
    refine G.bipush (v := 6) (by decide) dX5_back_5 ?_
    refine G.icmp_ge (tgt := 31) (by decide) dX5_back_7 (fun c_7 => absurd c_7 (nI_ge (b := 6) (by omega) (by decide))) (fun c_7 => ?_)
    refine G.iload_n (k := 1) rfl dX5_back_10 ?_
    refine G.iload_n (k := 2) rfl dX5_back_11 ?_
    refine G.iconst (v := 3) (by decide) dX5_back_12 ?_
    refine G.iload_n (k := 0) rfl dX5_back_13 ?_
    refine G.iconst (v := 3) (by decide) dX5_back_14 ?_
    refine G.iload_n (k := 2) rfl dX5_back_15 ?_
    refine G.imul dX5_back_16 ?_
    refine G.ishr dX5_back_17 ?_
    refine G.bipush (v := 7) (by decide) dX5_back_18 ?_
    refine G.iand dX5_back_20 ?_
    refine G.imul dX5_back_21 ?_
    refine G.ishl dX5_back_22 ?_
    refine G.ior dX5_back_23 ?_
    rw [tn_jim hc.1 hn6, ho, tn_orf (hf n) (hc.2.1 n hn6) h0 (by omega), hs]
    refine G.ist1 (by decide) rfl dX5_back_24 ?_
    refine G.inc2 (d := 1) (by decide) (by decide) rfl dX5_back_25 ?_
    refine G.goto (tgt := 4) (by decide) dX5_back_28 ?_
    rw [nI_1]
    exact ih (n + 1) _ (by omega) rfl
set_option maxHeartbeats 4000000 in
set_option maxRecDepth 100000 in
theorem c_X5_back {c : Nat} (hc : tn_P c) : GM (XC l D cA ad) mX5_back [.int (nI c)] σ (g_ri (fun r s => r = nI (tn_bk c) ∧ s = σ)) := by
  refine GM.of (ls := [some (.int (nI c)), none, none]) (by decide) (Nat.le_of_ble_eq_true rfl) rfl ?_
  refine G.iconst (v := 0) (by decide) dX5_back_0 ?_
  refine G.ist1 (by decide) rfl dX5_back_1 ?_
  refine G.iconst (v := 0) (by decide) dX5_back_2 ?_
  refine G.ist2 (by decide) rfl dX5_back_3 ?_
  exact l_X5_back hc 6 0 0 rfl (by rw [tn_enc_congr (f := fun m => if tn_src c m < 0 then tn_src c m else 0) (g := fun _ => 0) (fun m hm => if_neg (by omega))]; rfl)
set_option maxHeartbeats 4000000 in
set_option maxRecDepth 100000 in
theorem l_X5_unlike {c d : Nat} (hc : c < 262144) (hd : d < 262144) : ∀ j n, n + j = 6 → G (XC l D cA ad) mX5_unlike (g_ri (fun r s => r = nI (tn_un c d) ∧ s = σ)) 4 [some (.int (nI c)), some (.int (nI d)), some (.int (nI (ms_N (fun n => decide (tn_im c n ≠ tn_im d n)) n))), some (.int (nI n))] [] σ := by
  intro j
  induction j with
  | zero =>
    intro n hn
    have hn : n = 6 := by omega
    subst hn
    refine G.iload_n (k := 3) rfl dX5_unlike_4 ?_
    refine G.bipush (v := 6) (by decide) dX5_unlike_5 ?_
    refine G.icmp_ge (tgt := 35) (by decide) dX5_unlike_7 (fun c_7 => ?_) (fun c_7 => absurd (by decide) c_7)
    refine G.iload_n (k := 2) rfl dX5_unlike_35 ?_
    exact G.iret rfl (⟨rfl, rfl⟩) dX5_unlike_36
  | succ j ih =>
    intro n hn
    refine G.iload_n (k := 3) rfl dX5_unlike_4 ?_
    refine G.bipush (v := 6) (by decide) dX5_unlike_5 ?_
    refine G.icmp_ge (tgt := 35) (by decide) dX5_unlike_7 (fun c_7 => absurd c_7 (nI_ge (b := 6) (by omega) (by decide))) (fun c_7 => ?_)
    refine G.iload_n (k := 0) rfl dX5_unlike_10 ?_
    refine G.iload_n (k := 1) rfl dX5_unlike_11 ?_
    refine G.ixor dX5_unlike_12 ?_
    refine G.iconst (v := 3) (by decide) dX5_unlike_13 ?_
    refine G.iload_n (k := 3) rfl dX5_unlike_14 ?_
    refine G.imul dX5_unlike_15 ?_
    refine G.ishr dX5_unlike_16 ?_
    refine G.bipush (v := 7) (by decide) dX5_unlike_17 ?_
    refine G.iand dX5_unlike_19 ?_
    have hx : (c ^^^ d) < 262144 := Nat.xor_lt_two_pow (n := 18) hc hd
    rw [nu_xor, show (3 : Int32) * nI n = nI (3 * n) from nu_mul 3 n, nu_shr (by omega) (by omega), nu_a7, Nat.pow_mul, show (2 : Nat) ^ 3 = 8 from rfl]
    refine G.if_eq (tgt := 29) (by decide) dX5_unlike_20 (fun c_20 => ?_) (fun c_20 => ?_)
    · have he : tn_im c n = tn_im d n := tn_unx.mp ((nI_eq (by omega) (by decide)).mp c_20)
      have hb : ms_N (fun n => decide (tn_im c n ≠ tn_im d n)) (n + 1) = ms_N (fun n => decide (tn_im c n ≠ tn_im d n)) n := by simp [ms_N, he]
      rw [← hb]
      refine G.inc3 (d := 1) (by decide) (by decide) rfl dX5_unlike_29 ?_
      refine G.goto (tgt := 4) (by decide) dX5_unlike_32 ?_
      rw [nI_1]
      exact ih (n + 1) (by omega)
    · have he : tn_im c n ≠ tn_im d n := fun e => c_20 (by rw [tn_unx.mpr e]; rfl)
      have hb : ms_N (fun n => decide (tn_im c n ≠ tn_im d n)) (n + 1) = ms_N (fun n => decide (tn_im c n ≠ tn_im d n)) n + 1 * 2 ^ n := by simp [ms_N, he]
      refine G.iload_n (k := 2) rfl dX5_unlike_23 ?_
      refine G.iconst (v := 1) (by decide) dX5_unlike_24 ?_
      refine G.iload_n (k := 3) rfl dX5_unlike_25 ?_
      refine G.ishl dX5_unlike_26 ?_
      refine G.ior dX5_unlike_27 ?_
      rw [show ((1 : Int32) <<< (nI n &&& 31)) = nI 1 <<< (nI n &&& 31) from rfl, ms_or (ms_N_lt _ n) (by omega), ← hb]
      refine G.ist2 (by decide) rfl dX5_unlike_28 ?_
      refine G.inc3 (d := 1) (by decide) (by decide) rfl dX5_unlike_29 ?_
      refine G.goto (tgt := 4) (by decide) dX5_unlike_32 ?_
      rw [nI_1]
      exact ih (n + 1) (by omega)
set_option maxHeartbeats 4000000 in
set_option maxRecDepth 100000 in
theorem c_X5_unlike {c d : Nat} (hc : c < 262144) (hd : d < 262144) : GM (XC l D cA ad) mX5_unlike [.int (nI c), .int (nI d)] σ (g_ri (fun r s => r = nI (tn_un c d) ∧ s = σ)) := by
  refine GM.of (ls := [some (.int (nI c)), some (.int (nI d)), none, none]) (by decide) (Nat.le_of_ble_eq_true rfl) rfl ?_
  refine G.iconst (v := 0) (by decide) dX5_unlike_0 ?_
  refine G.ist2 (by decide) rfl dX5_unlike_1 ?_
  refine G.iconst (v := 0) (by decide) dX5_unlike_2 ?_
  refine G.ist3 (by decide) rfl dX5_unlike_3 ?_
  exact l_X5_unlike hc hd 6 0 rfl
set_option maxHeartbeats 4000000 in
set_option maxRecDepth 100000 in
theorem l_X5_sources {c b : Nat} (hc : c < 262144) (hb : b < 2 ^ 31) : ∀ j n, n + j = 6 → G (XC l D cA ad) mX5_sources (g_ri (fun r s => r = nI (tn_ss c b) ∧ s = σ)) 4 [some (.int (nI c)), some (.int (nI b)), some (.int (nI (ms_N (fun n => b.testBit (tn_im c n)) n))), some (.int (nI n))] [] σ := by
  intro j
  induction j with
  | zero =>
    intro n hn
    have hn : n = 6 := by omega
    subst hn
    refine G.iload_n (k := 3) rfl dX5_sources_4 ?_
    refine G.bipush (v := 6) (by decide) dX5_sources_5 ?_
    refine G.icmp_ge (tgt := 33) (by decide) dX5_sources_7 (fun c_7 => ?_) (fun c_7 => absurd (by decide) c_7)
    refine G.iload_n (k := 2) rfl dX5_sources_33 ?_
    exact G.iret rfl (⟨rfl, rfl⟩) dX5_sources_34
  | succ j ih =>
    intro n hn
    refine G.iload_n (k := 3) rfl dX5_sources_4 ?_
    refine G.bipush (v := 6) (by decide) dX5_sources_5 ?_
    refine G.icmp_ge (tgt := 33) (by decide) dX5_sources_7 (fun c_7 => absurd c_7 (nI_ge (b := 6) (by omega) (by decide))) (fun c_7 => ?_)
    refine G.iload_n (k := 2) rfl dX5_sources_10 ?_
    refine G.iload_n (k := 1) rfl dX5_sources_11 ?_
    refine G.iload_n (k := 0) rfl dX5_sources_12 ?_
    refine G.iconst (v := 3) (by decide) dX5_sources_13 ?_
    refine G.iload_n (k := 3) rfl dX5_sources_14 ?_
    refine G.imul dX5_sources_15 ?_
    refine G.ishr dX5_sources_16 ?_
    refine G.bipush (v := 7) (by decide) dX5_sources_17 ?_
    refine G.iand dX5_sources_19 ?_
    refine G.ishr dX5_sources_20 ?_
    refine G.iconst (v := 1) (by decide) dX5_sources_21 ?_
    refine G.iand dX5_sources_22 ?_
    refine G.iload_n (k := 3) rfl dX5_sources_23 ?_
    refine G.ishl dX5_sources_24 ?_
    refine G.ior dX5_sources_25 ?_
    have h8 := tn_im8 c n
    rw [tn_jim hc (by omega), nu_shr hb (by omega), nu_a1, nu_tb, ms_or (ms_N_lt _ n) (by omega), show ms_N (fun n => b.testBit (tn_im c n)) n + (if b.testBit (tn_im c n) = true then 1 else 0) * 2 ^ n = ms_N (fun n => b.testBit (tn_im c n)) (n + 1) by simp only [ms_N]; split <;> simp]
    refine G.ist2 (by decide) rfl dX5_sources_26 ?_
    refine G.inc3 (d := 1) (by decide) (by decide) rfl dX5_sources_27 ?_
    refine G.goto (tgt := 4) (by decide) dX5_sources_30 ?_
    rw [nI_1]
    exact ih (n + 1) (by omega)
set_option maxHeartbeats 4000000 in
set_option maxRecDepth 100000 in
theorem c_X5_sources {c b : Nat} (hc : c < 262144) (hb : b < 2 ^ 31) : GM (XC l D cA ad) mX5_sources [.int (nI c), .int (nI b)] σ (g_ri (fun r s => r = nI (tn_ss c b) ∧ s = σ)) := by
  refine GM.of (ls := [some (.int (nI c)), some (.int (nI b)), none, none]) (by decide) (Nat.le_of_ble_eq_true rfl) rfl ?_
  refine G.iconst (v := 0) (by decide) dX5_sources_0 ?_
  refine G.ist2 (by decide) rfl dX5_sources_1 ?_
  refine G.iconst (v := 0) (by decide) dX5_sources_2 ?_
  refine G.ist3 (by decide) rfl dX5_sources_3 ?_
  exact l_X5_sources hc hb 6 0 rfl
set_option maxHeartbeats 4000000 in
set_option maxRecDepth 100000 in
theorem l_X5_swaps {c : Nat} (hc : tn_P c) : ∀ j n z, n + j = 6 → G (XC l D cA ad) mX5_swaps (g_ri (fun r s => r = nI (tn_mn c 6) ∧ s = σ)) 6 [some (.int (nI c)), some (.int (nI (tn_st c n))), some (.int (nI (tn_mn c n))), some (.int (nI n)), z] [] σ := by
  intro j
  induction j with
  | zero =>
    intro n z hn
    have hn : n = 6 := by omega
    subst hn
    refine G.iload_n (k := 3) rfl dX5_swaps_6 ?_
    refine G.bipush (v := 6) (by decide) dX5_swaps_7 ?_
    refine G.icmp_ge (tgt := 42) (by decide) dX5_swaps_9 (fun c_9 => ?_) (fun c_9 => absurd (by decide) c_9)
    refine G.iload_n (k := 2) rfl dX5_swaps_42 ?_
    exact G.iret rfl (⟨rfl, rfl⟩) dX5_swaps_43
  | succ j ih =>
    intro n z hn
    have hn6 : n < 6 := by omega
    have hP := tn_P_st hc n (by omega)
    refine G.iload_n (k := 3) rfl dX5_swaps_6 ?_
    refine G.bipush (v := 6) (by decide) dX5_swaps_7 ?_
    refine G.icmp_ge (tgt := 42) (by decide) dX5_swaps_9 (fun c_9 => absurd c_9 (nI_ge (b := 6) (by omega) (by decide))) (fun c_9 => ?_)
    refine G.iload_n (k := 1) rfl dX5_swaps_12 ?_
    refine G.iload_n (k := 3) rfl dX5_swaps_13 ?_
    refine G.callSif (c_X5_image hP.1 hn6) ml_X5_23 ws_yX5_image gcl_X5_image (by decide) rfl rfl (Nat.le_of_ble_eq_true rfl) dX5_swaps_14 ?_
    refine G.ist4 (by decide) rfl dX5_swaps_17 ?_
    refine G.iload (i := 4) rfl dX5_swaps_19 ?_
    refine G.iload_n (k := 3) rfl dX5_swaps_21 ?_
    refine G.icmp_eq (tgt := 36) (by decide) dX5_swaps_22 (fun c_22 => ?_) (fun c_22 => ?_)
    · have he : tn_im (tn_st c n) n = n := (nI_eq (by have := tn_im8 (tn_st c n) n; omega) (by omega)).mp c_22
      have e1 : tn_st c (n + 1) = tn_st c n := if_pos he
      have e2 : tn_mn c (n + 1) = tn_mn c n := if_pos he
      rw [← e1, ← e2]
      refine G.inc3 (d := 1) (by decide) (by decide) rfl dX5_swaps_36 ?_
      refine G.goto (tgt := 6) (by decide) dX5_swaps_39 ?_
      rw [nI_1]
      exact ih (n + 1) _ (by omega)
    · have he : ¬ tn_im (tn_st c n) n = n := fun e => c_22 (by rw [e])
      have e1 : tn_st c (n + 1) = tn_cmp (tn_sw n (tn_im (tn_st c n) n)) (tn_st c n) := if_neg he
      have e2 : tn_mn c (n + 1) = tn_mn c n + 1 := if_neg he
      refine G.iload_n (k := 1) rfl dX5_swaps_25 ?_
      refine G.iload_n (k := 3) rfl dX5_swaps_26 ?_
      refine G.iload (i := 4) rfl dX5_swaps_27 ?_
      refine G.callSif (c_X5_swapLast hP hn6 (hP.2.1 n hn6)) ml_X5_26 ws_yX5_swapLast gcl_X5_swapLast (by decide) rfl rfl (Nat.le_of_ble_eq_true rfl) dX5_swaps_29 ?_
      refine G.ist1 (by decide) rfl dX5_swaps_32 ?_
      refine G.inc2 (d := 1) (by decide) (by decide) rfl dX5_swaps_33 ?_
      rw [← e1, nI_1, ← e2]
      refine G.inc3 (d := 1) (by decide) (by decide) rfl dX5_swaps_36 ?_
      refine G.goto (tgt := 6) (by decide) dX5_swaps_39 ?_
      rw [nI_1]
      exact ih (n + 1) _ (by omega)
set_option maxHeartbeats 4000000 in
set_option maxRecDepth 100000 in
theorem c_X5_swaps {c : Nat} (hc : tn_P c) : GM (XC l D cA ad) mX5_swaps [.int (nI c)] σ (g_ri (fun r s => r = nI (tn_mn c 6) ∧ s = σ)) := by
  refine GM.of (ls := [some (.int (nI c)), none, none, none, none]) (by decide) (Nat.le_of_ble_eq_true rfl) rfl ?_
  refine G.iload_n (k := 0) rfl dX5_swaps_0 ?_
  refine G.ist1 (by decide) rfl dX5_swaps_1 ?_
  refine G.iconst (v := 0) (by decide) dX5_swaps_2 ?_
  refine G.ist2 (by decide) rfl dX5_swaps_3 ?_
  refine G.iconst (v := 0) (by decide) dX5_swaps_4 ?_
  refine G.ist3 (by decide) rfl dX5_swaps_5 ?_
  exact l_X5_swaps hc 6 0 _ rfl
set_option maxHeartbeats 4000000 in
set_option maxRecDepth 100000 in
theorem l_X5_order {c : Nat} (hc : tn_P c) : ∀ j n, n + j = 6 → 1 ≤ n → (∀ q, 1 ≤ q → q < n → tn_pw c q ≠ tn_id) → G (XC l D cA ad) mX5_order (g_ri (fun r s => r = nI (tn_or0 c) ∧ s = σ)) 4 [some (.int (nI c)), some (.int (nI (tn_pw c n))), some (.int (nI n))] [] σ := by
  intro j
  have hor : ∀ n, 1 ≤ n → n ≤ 6 → (∀ q, 1 ≤ q → q < n → tn_pw c q ≠ tn_id) → (tn_pw c n = tn_id ∨ n = 6) → tn_or0 c = n := by
    intro n h1 h6 hq he
    have e1 := tn_pw1 hc
    unfold tn_or0
    match n, h1, h6 with
    | 1, _, _ => rcases he with he | he
                 · rw [e1] at he; rw [if_pos he]
                 · omega
    | 2, _, _ => rcases he with he | he
                 · rw [if_neg (by rw [← e1]; exact hq 1 (by omega) (by omega)), if_pos he]
                 · omega
    | 3, _, _ => rcases he with he | he
                 · rw [if_neg (by rw [← e1]; exact hq 1 (by omega) (by omega)), if_neg (hq 2 (by omega) (by omega)), if_pos he]
                 · omega
    | 4, _, _ => rcases he with he | he
                 · rw [if_neg (by rw [← e1]; exact hq 1 (by omega) (by omega)), if_neg (hq 2 (by omega) (by omega)), if_neg (hq 3 (by omega) (by omega)), if_pos he]
                 · omega
    | 5, _, _ => rcases he with he | he
                 · rw [if_neg (by rw [← e1]; exact hq 1 (by omega) (by omega)), if_neg (hq 2 (by omega) (by omega)), if_neg (hq 3 (by omega) (by omega)), if_neg (hq 4 (by omega) (by omega)), if_pos he]
                 · omega
    | 6, _, _ => rw [if_neg (by rw [← e1]; exact hq 1 (by omega) (by omega)), if_neg (hq 2 (by omega) (by omega)), if_neg (hq 3 (by omega) (by omega)), if_neg (hq 4 (by omega) (by omega)), if_neg (hq 5 (by omega) (by omega))]
  induction j with
  | zero =>
    intro n hn h1 hq
    have hn : n = 6 := by omega
    subst hn
    refine G.iload_n (k := 1) rfl dX5_order_4 ?_
    refine G.ldc ct_X5_19 dX5_order_5 ?_
    refine G.icmp_eq (tgt := 28) (by decide) dX5_order_7 (fun c_7 => ?_) (fun c_7 => ?_)
    · refine G.iload_n (k := 2) rfl dX5_order_28 ?_
      exact G.iret rfl (⟨by rw [hor 6 (by omega) (by omega) hq (Or.inr rfl)], rfl⟩) dX5_order_29
    · refine G.iload_n (k := 2) rfl dX5_order_10 ?_
      refine G.bipush (v := 6) (by decide) dX5_order_11 ?_
      refine G.icmp_ge (tgt := 28) (by decide) dX5_order_13 (fun c_13 => ?_) (fun c_13 => absurd (by decide) c_13)
      refine G.iload_n (k := 2) rfl dX5_order_28 ?_
      exact G.iret rfl (⟨by rw [hor 6 (by omega) (by omega) hq (Or.inr rfl)], rfl⟩) dX5_order_29
  | succ j ih =>
    intro n hn h1 hq
    have hP := tn_P_pw hc n
    refine G.iload_n (k := 1) rfl dX5_order_4 ?_
    refine G.ldc ct_X5_19 dX5_order_5 ?_
    refine G.icmp_eq (tgt := 28) (by decide) dX5_order_7 (fun c_7 => ?_) (fun c_7 => ?_)
    · have he := (tn_id_eq hP.1).mp c_7
      refine G.iload_n (k := 2) rfl dX5_order_28 ?_
      exact G.iret rfl (⟨by rw [hor n h1 (by omega) hq (Or.inl he)], rfl⟩) dX5_order_29
    · have he : tn_pw c n ≠ tn_id := fun e => c_7 (by rw [e]; rfl)
      refine G.iload_n (k := 2) rfl dX5_order_10 ?_
      refine G.bipush (v := 6) (by decide) dX5_order_11 ?_
      refine G.icmp_ge (tgt := 28) (by decide) dX5_order_13 (fun c_13 => absurd c_13 (nI_ge (b := 6) (by omega) (by decide))) (fun c_13 => ?_)
      refine G.iload_n (k := 0) rfl dX5_order_16 ?_
      refine G.iload_n (k := 1) rfl dX5_order_17 ?_
      refine G.callSif (c_X5_join hc hP) ml_X5_20 ws_yX5_join gcl_X5_join (by decide) rfl rfl (Nat.le_of_ble_eq_true rfl) dX5_order_18 ?_
      refine G.ist1 (by decide) rfl dX5_order_21 ?_
      refine G.inc2 (d := 1) (by decide) (by decide) rfl dX5_order_22 ?_
      refine G.goto (tgt := 4) (by decide) dX5_order_25 ?_
      rw [nI_1]
      exact ih (n + 1) (by omega) (by omega) (fun q h2 h3 => by
        rcases Nat.lt_or_ge q n with h | h
        · exact hq q h2 h
        · rw [show q = n by omega]; exact he)
set_option maxHeartbeats 4000000 in
set_option maxRecDepth 100000 in
theorem c_X5_order {c : Nat} (hc : tn_P c) : GM (XC l D cA ad) mX5_order [.int (nI c)] σ (g_ri (fun r s => r = nI (tn_or0 c) ∧ s = σ)) := by
  refine GM.of (ls := [some (.int (nI c)), none, none]) (by decide) (Nat.le_of_ble_eq_true rfl) rfl ?_
  refine G.iload_n (k := 0) rfl dX5_order_0 ?_
  refine G.ist1 (by decide) rfl dX5_order_1 ?_
  refine G.iconst (v := 1) (by decide) dX5_order_2 ?_
  refine G.ist2 (by decide) rfl dX5_order_3 ?_
  rw [show nI c = nI (tn_pw c 1) by rw [tn_pw1 hc]]
  rw [show ([some (Value.int (nI (tn_pw c 1))), some (Value.int (nI (tn_pw c 1))), some (Value.int 1)] : List (Option Value)) = [some (.int (nI c)), some (.int (nI (tn_pw c 1))), some (.int (nI 1))] by rw [tn_pw1 hc]; rfl]
  exact l_X5_order hc 5 1 rfl (by omega) (fun q h2 h3 => by omega)
end T20

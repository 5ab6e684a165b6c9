/-! ===== sheets: what a call does, by the numbers of its three rows F (forms), Z (sizes), I (items) and the place O l of the latest finding ===== -/
def inB (x : Int32) (N : Nat) : Bool := decide (0 ≤ x.toInt ∧ x.toInt < N)
abbrev ix (x : Int32) : Nat := x.toNatClampNeg
theorem inB_iff {x : Int32} {N : Nat} : inB x N = true ↔ 0 ≤ x.toInt ∧ x.toInt < N := by simp [inB]
theorem inB_of {x : Int32} {N : Nat} (hN : N < 2 ^ 31) (h : inB x N = true) : ∃ k, k < N ∧ x = nI k := vp_in_of (vp_in_iff.mpr (inB_iff.mp h)) hN
theorem inB_nI {k N : Nat} (hN : N < 2 ^ 31) (h : k < N) : inB (nI k) N = true := by rw [inB_iff, nI_toInt (by omega)]; omega
theorem ix_nI {k : Nat} (h : k < 2 ^ 31) : ix (nI k) = k := nI_clamp h
theorem ou_iff {x : Int32} {N : Nat} (hN : N < 2 ^ 31) : (x < 0 ∨ nI N ≤ x) ↔ inB x N = false := by
  have h0 : (0 : Int32).toInt = 0 := by decide
  rw [Int32.lt_iff_toInt_lt, Int32.le_iff_toInt_le, nI_toInt hN, h0]
  simp only [inB, decide_eq_false_iff_not]
  omega
theorem in_iff {x : Int32} {N : Nat} (hN : N + 1 < 2 ^ 31) : (0 ≤ x ∧ x ≤ nI N) ↔ inB x (N + 1) = true := by
  have h0 : (0 : Int32).toInt = 0 := by decide
  rw [Int32.le_iff_toInt_le, Int32.le_iff_toInt_le, nI_toInt (by omega), h0]
  simp only [inB, decide_eq_true_eq]
  omega
theorem ou_t {x : Int32} (N : Nat) {_ : Decidable (x < 0 ∨ nI N ≤ x)} (hN : N < 2 ^ 31) (h : ¬ (if x < 0 ∨ nI N ≤ x then (1 : Int32) else 0) = 0) : inB x N = false := (ou_iff hN).mp (bo_n.mp h)
theorem ou_f {x : Int32} (N : Nat) {_ : Decidable (x < 0 ∨ nI N ≤ x)} (hN : N < 2 ^ 31) (h : (if x < 0 ∨ nI N ≤ x then (1 : Int32) else 0) = 0) : inB x N = true := by
  have h1 := bo_0.mp h
  rw [ou_iff hN] at h1
  simpa using h1
theorem in_t {x : Int32} (N : Nat) {_ : Decidable (0 ≤ x ∧ x ≤ nI N)} (hN : N + 1 < 2 ^ 31) (h : ¬ (if 0 ≤ x ∧ x ≤ nI N then (1 : Int32) else 0) = 0) : inB x (N + 1) = true := (in_iff hN).mp (bo_n.mp h)
theorem in_f {x : Int32} (N : Nat) {_ : Decidable (0 ≤ x ∧ x ≤ nI N)} (hN : N + 1 < 2 ^ 31) (h : (if 0 ≤ x ∧ x ≤ nI N then (1 : Int32) else 0) = 0) : inB x (N + 1) = false := by
  have h1 := bo_0.mp h
  rw [in_iff hN] at h1
  simpa using h1
def shI (F Z : Nat) (σ : gS) : Prop := ∀ s, s < 4 → (σ F s = -1 ∨ σ F s = 0 ∨ σ F s = 1 ∨ σ F s = 2) ∧ ∃ z, z ≤ 60 ∧ σ Z s = nI z
def sp_find (O l : Nat) (σ : gS) (f : Int32) : Int32 × gS := (-10 - f, up2 σ O l f)
def sp_sheet (F Z I O l : Nat) (σ : gS) (s form n : Int32) : Int32 × gS := if (inB s 4 && inB form 3 && decide (n ≤ 60)) = true then (if n < 0 then sp_find O l σ 5 else (n, flr (up2 (up2 σ F (ix s) form) Z (ix s) n) I (60 * ix s) (60 * ix s + ix n) 0)) else (-2, σ)
def sp_wr (F Z : Nat) (σ : gS) (s : Nat) (form i : Int32) : Int32 := if σ F s = -1 then 1 else if σ F s = form then (if 0 ≤ i ∧ i < σ Z s then 0 else 2) else 3
def sp_lay (F Z I O l : Nat) (σ : gS) (s form i v : Int32) : Int32 × gS := if (inB s 4 && inB form 3) = true then (if sp_wr F Z σ (ix s) form i = 0 then (1, up2 σ I (60 * ix s + ix i) (sh_cut form v)) else sp_find O l σ (sp_wr F Z σ (ix s) form i)) else (-2, σ)
def sp_get (F Z I O l : Nat) (σ : gS) (s form i : Int32) : Int32 × gS := if (inB s 4 && inB form 3) = true then (if sp_wr F Z σ (ix s) form i = 0 then (σ I (60 * ix s + ix i), σ) else (-2147483648, up2 σ O l (sp_wr F Z σ (ix s) form i))) else (-2147483648, σ)
def sp_has (z : Int32) (i n : Int32) : Bool := decide (0 ≤ n.toInt ∧ 0 ≤ i.toInt ∧ i.toInt + n.toInt ≤ z.toInt)
def sp_copy (F Z I O l : Nat) (σ : gS) (s i t j n : Int32) : Int32 × gS := if (inB s 4 && inB t 4) = true then (if σ F (ix s) = -1 ∨ σ F (ix t) = -1 then sp_find O l σ 1 else if σ F (ix s) = σ F (ix t) then (if (sp_has (σ Z (ix s)) i n && sp_has (σ Z (ix t)) j n) = true then (1, upA σ I (va_cpy (σ I) (σ I) (60 * ix s + ix i) (60 * ix t + ix j) (ix n))) else sp_find O l σ 2) else sp_find O l σ 4) else (-2, σ)
theorem nu_60 (s : Nat) : nI s * 60 = nI (60 * s) := by rw [Nat.mul_comm]; exact nu_mul s 60
theorem nu_60' (s : Nat) : (60 : Int32) * nI s = nI (60 * s) := nu_mul 60 s
section T23
variable {l : Launch} {D : va_G} {cA : ClassId} {ad : Nat → Nat}
variable {σ : gS}
set_option maxHeartbeats 4000000 in
set_option maxRecDepth 100000 in
theorem c_X1_find {f : Int32} : GM (XC l D cA ad) mX1_find [.ref 12, .int f] σ (g_ri (fun r τ => r = -10 - f ∧ τ = up2 σ 12 3 f)) := by
  refine GM.of (ls := [some (.ref 12), some (.int f)]) (by decide) (Nat.le_of_ble_eq_true rfl) rfl ?_
  refine G.aload_n (k := 0) rfl dX1_find_0 ?_
  refine G.iload_n (k := 1) rfl dX1_find_1 ?_
  refine G.put (j := 3) rfl gci_X1 gcp_X1 (by decide) rfl rfl rfl rfl fl_X1_21 dX1_find_2 ?_
  refine G.bipush (v := (-10)) (by decide) dX1_find_5 ?_
  refine G.iload_n (k := 1) rfl dX1_find_7 ?_
  refine G.isub dX1_find_8 ?_
  exact G.iret rfl (⟨rfl, rfl⟩) dX1_find_9
set_option maxHeartbeats 4000000 in
set_option maxRecDepth 100000 in
theorem c_X1_isLost {s : Nat} (hs : s < 4) : GM (XC l D cA ad) mX1_isLost [.ref 12, .int (nI s)] σ (g_ri (fun r τ => r = (if σ 13 s = -1 then 1 else 0) ∧ τ = σ)) := by
  refine GM.of (ls := [some (.ref 12), some (.int (nI s))]) (by decide) (Nat.le_of_ble_eq_true rfl) rfl ?_
  refine G.aload_n (k := 0) rfl dX1_isLost_0 ?_
  refine G.getr (j := 0) rfl gci_X1 (by decide) rfl fl_X1_9 dX1_isLost_1 ?_
  refine G.iload_n (k := 1) rfl dX1_isLost_4 ?_
  refine G.ialdN (k := s) rfl (rfl) (hs) (by decide) dX1_isLost_5 ?_
  refine G.iconst (v := (-1)) (by decide) dX1_isLost_6 ?_
  refine G.icmp_ne (tgt := 14) (by decide) dX1_isLost_7 (fun c_7 => ?_) (fun c_7 => ?_)
  · have hr : (0 : Int32) = if σ 13 s = -1 then 1 else 0 := (if_neg c_7).symm
    refine G.iconst (v := 0) (by decide) dX1_isLost_14 ?_
    exact G.zret rfl (by decide) ⟨hr, rfl⟩ dX1_isLost_15
  · have hr : (1 : Int32) = if σ 13 s = -1 then 1 else 0 := (if_pos c_7).symm
    refine G.iconst (v := 1) (by decide) dX1_isLost_10 ?_
    refine G.goto (tgt := 15) (by decide) dX1_isLost_11 ?_
    exact G.zret rfl (by decide) ⟨hr, rfl⟩ dX1_isLost_15
set_option maxHeartbeats 4000000 in
set_option maxRecDepth 100000 in
theorem c_X1_formOf {s : Nat} (hs : s < 4) : GM (XC l D cA ad) mX1_formOf [.ref 12, .int (nI s)] σ (g_ri (fun r τ => r = σ 13 s ∧ τ = σ)) := by
  refine GM.of (ls := [some (.ref 12), some (.int (nI s))]) (by decide) (Nat.le_of_ble_eq_true rfl) rfl ?_
  refine G.aload_n (k := 0) rfl dX1_formOf_0 ?_
  refine G.getr (j := 0) rfl gci_X1 (by decide) rfl fl_X1_9 dX1_formOf_1 ?_
  refine G.iload_n (k := 1) rfl dX1_formOf_4 ?_
  refine G.ialdN (k := s) rfl (rfl) (hs) (by decide) dX1_formOf_5 ?_
  exact G.iret rfl (⟨rfl, rfl⟩) dX1_formOf_6
set_option maxHeartbeats 4000000 in
set_option maxRecDepth 100000 in
theorem c_X1_sizeOf {s : Nat} (hs : s < 4) : GM (XC l D cA ad) mX1_sizeOf [.ref 12, .int (nI s)] σ (g_ri (fun r τ => r = σ 14 s ∧ τ = σ)) := by
  refine GM.of (ls := [some (.ref 12), some (.int (nI s))]) (by decide) (Nat.le_of_ble_eq_true rfl) rfl ?_
  refine G.aload_n (k := 0) rfl dX1_sizeOf_0 ?_
  refine G.getr (j := 1) rfl gci_X1 (by decide) rfl fl_X1_15 dX1_sizeOf_1 ?_
  refine G.iload_n (k := 1) rfl dX1_sizeOf_4 ?_
  refine G.ialdN (k := s) rfl (rfl) (hs) (by decide) dX1_sizeOf_5 ?_
  exact G.iret rfl (⟨rfl, rfl⟩) dX1_sizeOf_6
set_option maxHeartbeats 4000000 in
set_option maxRecDepth 100000 in
theorem c_X1_make {s n : Nat} {f : Int32} (hs : s < 4) (hn : n ≤ 60) : GM (XC l D cA ad) mX1_make [.ref 12, .int (nI s), .int f, .int (nI n)] σ (g_rv (fun τ => τ = flr (up2 (up2 σ 13 s f) 14 s (nI n)) 15 (60 * s) (60 * s + n) 0)) := by
  refine GM.of (ls := [some (.ref 12), some (.int (nI s)), some (.int f), some (.int (nI n))]) (by decide) (Nat.le_of_ble_eq_true rfl) rfl ?_
  refine G.aload_n (k := 0) rfl dX1_make_0 ?_
  refine G.getr (j := 0) rfl gci_X1 (by decide) rfl fl_X1_9 dX1_make_1 ?_
  refine G.iload_n (k := 1) rfl dX1_make_4 ?_
  refine G.iload_n (k := 2) rfl dX1_make_5 ?_
  refine G.iastN (k := s) rfl (rfl) (hs) (by decide) dX1_make_6 ?_
  refine G.aload_n (k := 0) rfl dX1_make_7 ?_
  refine G.getr (j := 1) rfl gci_X1 (by decide) rfl fl_X1_15 dX1_make_8 ?_
  refine G.iload_n (k := 1) rfl dX1_make_11 ?_
  refine G.iload_n (k := 3) rfl dX1_make_12 ?_
  refine G.iastN (k := s) rfl (rfl) (hs) (by decide) dX1_make_13 ?_
  refine G.aload_n (k := 0) rfl dX1_make_14 ?_
  refine G.getr (j := 2) rfl gci_X1 (by decide) rfl fl_X1_18 dX1_make_15 ?_
  refine G.iload_n (k := 1) rfl dX1_make_18 ?_
  refine G.bipush (v := 60) (by decide) dX1_make_19 ?_
  refine G.imul dX1_make_21 ?_
  refine G.iload_n (k := 1) rfl dX1_make_22 ?_
  refine G.bipush (v := 60) (by decide) dX1_make_23 ?_
  refine G.imul dX1_make_25 ?_
  refine G.iload_n (k := 3) rfl dX1_make_26 ?_
  refine G.iadd dX1_make_27 ?_
  rw [nu_60, nI_add]
  refine G.iconst (v := 0) (by decide) dX1_make_28 ?_
  refine G.callSvf (c_J7_fill_fda19 (n := 240) rfl (by decide) (by omega) (by omega)) ml_X1_31 ws_yJ7_fill_fda19 gcl_J7_fill_fda19 (by decide) rfl rfl (Nat.le_of_ble_eq_true rfl) dX1_make_29 ?_
  exact G.vret rfl (rfl) dX1_make_32
set_option maxHeartbeats 4000000 in
set_option maxRecDepth 100000 in
theorem c_X1_wrongWith {s : Nat} {f i : Int32} (hs : s < 4) : GM (XC l D cA ad) mX1_wrongWith [.ref 12, .int (nI s), .int f, .int i] σ (g_ri (fun r τ => r = sp_wr 13 14 σ s f i ∧ τ = σ)) := by
  refine GM.of (ls := [some (.ref 12), some (.int (nI s)), some (.int f), some (.int i)]) (by decide) (Nat.le_of_ble_eq_true rfl) rfl ?_
  refine G.aload_n (k := 0) rfl dX1_wrongWith_0 ?_
  refine G.iload_n (k := 1) rfl dX1_wrongWith_1 ?_
  refine G.callVif (c_X1_isLost hs) rfl (gci_X1).1 ml_X1_34 im_yX1_isLost se_yX1_isLost gcl_X1_isLost (by decide) rfl rfl (Nat.le_of_ble_eq_true rfl) dX1_wrongWith_2 ?_
  refine G.if_eq (tgt := 10) (by decide) dX1_wrongWith_5 (fun c_5 => ?_) (fun c_5 => ?_)
  · have h1 := bo_0.mp c_5
    refine G.aload_n (k := 0) rfl dX1_wrongWith_10 ?_
    refine G.getr (j := 0) rfl gci_X1 (by decide) rfl fl_X1_9 dX1_wrongWith_11 ?_
    refine G.iload_n (k := 1) rfl dX1_wrongWith_14 ?_
    refine G.ialdN (k := s) rfl (rfl) (hs) (by decide) dX1_wrongWith_15 ?_
    refine G.iload_n (k := 2) rfl dX1_wrongWith_16 ?_
    refine G.icmp_eq (tgt := 22) (by decide) dX1_wrongWith_17 (fun c_17 => ?_) (fun c_17 => ?_)
    · have h2 := c_17
      refine G.iload_n (k := 3) rfl dX1_wrongWith_22 ?_
      refine G.aload_n (k := 0) rfl dX1_wrongWith_23 ?_
      refine G.getr (j := 1) rfl gci_X1 (by decide) rfl fl_X1_15 dX1_wrongWith_24 ?_
      refine G.iload_n (k := 1) rfl dX1_wrongWith_27 ?_
      refine G.ialdN (k := s) rfl (rfl) (hs) (by decide) dX1_wrongWith_28 ?_
      refine G.callSNif (c_X6_isOutside) (fun _ h => h.2.2.2.2.1) ws_yX6_isOutside gcl_X6_isOutside (by decide) rfl rfl (Nat.le_of_ble_eq_true rfl) dX1_wrongWith_29 ?_
      refine G.if_eq (tgt := 39) (by decide) dX1_wrongWith_32 (fun c_32 => ?_) (fun c_32 => ?_)
      · have hr : (0 : Int32) = sp_wr 13 14 σ s f i := by
          have q := bo_0.mp c_32
          unfold sp_wr
          rw [if_neg h1, if_pos h2, if_pos ⟨Int32.not_lt.mp (fun z => q (Or.inl z)), Int32.not_le.mp (fun z => q (Or.inr z))⟩]
        refine G.iconst (v := 0) (by decide) dX1_wrongWith_39 ?_
        exact G.iret rfl ⟨hr, rfl⟩ dX1_wrongWith_40
      · have hr : (2 : Int32) = sp_wr 13 14 σ s f i := by
          have q := bo_n.mp c_32
          unfold sp_wr
          rw [if_neg h1, if_pos h2, if_neg (fun z => q.elim (fun y => absurd z.1 (Int32.not_le.mpr y)) (fun y => absurd z.2 (Int32.not_lt.mpr y)))]
        refine G.iconst (v := 2) (by decide) dX1_wrongWith_35 ?_
        refine G.goto (tgt := 40) (by decide) dX1_wrongWith_36 ?_
        exact G.iret rfl ⟨hr, rfl⟩ dX1_wrongWith_40
    · have h2 := c_17
      refine G.iconst (v := 3) (by decide) dX1_wrongWith_20 ?_
      exact G.iret rfl (⟨by unfold sp_wr; rw [if_neg h1, if_neg h2], rfl⟩) dX1_wrongWith_21
  · have h1 := bo_n.mp c_5
    refine G.iconst (v := 1) (by decide) dX1_wrongWith_8 ?_
    exact G.iret rfl (⟨(if_pos h1).symm, rfl⟩) dX1_wrongWith_9
set_option maxHeartbeats 4000000 in
set_option maxRecDepth 100000 in
theorem c_X1_hasItems {s z : Nat} {i n : Int32} (hs : s < 4) (hz : z ≤ 60) (he : σ 14 s = nI z) : GM (XC l D cA ad) mX1_hasItems [.ref 12, .int (nI s), .int i, .int n] σ (g_ri (fun r τ => r = (if sp_has (nI z) i n = true then 1 else 0) ∧ τ = σ)) := by
  refine GM.of (ls := [some (.ref 12), some (.int (nI s)), some (.int i), some (.int n)]) (by decide) (Nat.le_of_ble_eq_true rfl) rfl ?_
  refine G.iload_n (k := 3) rfl dX1_hasItems_0 ?_
  refine G.if_lt (tgt := 24) (by decide) dX1_hasItems_1 (fun c_1 => ?_) (fun c_1 => ?_)
  · have hr : (0 : Int32) = if sp_has (nI z) i n = true then 1 else 0 := (if_neg (fun h => by
      rw [sp_has, decide_eq_true_eq] at h
      rw [Int32.lt_iff_toInt_lt, show (0 : Int32).toInt = 0 from by decide] at c_1
      omega)).symm
    refine G.iconst (v := 0) (by decide) dX1_hasItems_24 ?_
    exact G.zret rfl (by decide) ⟨hr, rfl⟩ dX1_hasItems_25
  · have h1 : 0 ≤ n.toInt := by rw [Int32.lt_iff_toInt_lt, show (0 : Int32).toInt = 0 from by decide] at c_1; omega
    refine G.iload_n (k := 2) rfl dX1_hasItems_4 ?_
    refine G.if_lt (tgt := 24) (by decide) dX1_hasItems_5 (fun c_5 => ?_) (fun c_5 => ?_)
    · have hr : (0 : Int32) = if sp_has (nI z) i n = true then 1 else 0 := (if_neg (fun h => by
        rw [sp_has, decide_eq_true_eq] at h
        rw [Int32.lt_iff_toInt_lt, show (0 : Int32).toInt = 0 from by decide] at c_5
        omega)).symm
      refine G.iconst (v := 0) (by decide) dX1_hasItems_24 ?_
      exact G.zret rfl (by decide) ⟨hr, rfl⟩ dX1_hasItems_25
    · have h2 : 0 ≤ i.toInt := by rw [Int32.lt_iff_toInt_lt, show (0 : Int32).toInt = 0 from by decide] at c_5; omega
      have h3 : (nI z - n).toInt = z - n.toInt := by
        have b1 := Int32.toInt_lt n
        rw [Int32.toInt_sub, nI_toInt (by omega)]
        exact Int.bmod_eq_of_le (by omega) (by omega)
      refine G.iload_n (k := 2) rfl dX1_hasItems_8 ?_
      refine G.aload_n (k := 0) rfl dX1_hasItems_9 ?_
      refine G.getr (j := 1) rfl gci_X1 (by decide) rfl fl_X1_15 dX1_hasItems_10 ?_
      refine G.iload_n (k := 1) rfl dX1_hasItems_13 ?_
      refine G.ialdN (k := s) rfl (rfl) (hs) (by decide) dX1_hasItems_14 ?_
      rw [he]
      refine G.iload_n (k := 3) rfl dX1_hasItems_15 ?_
      refine G.isub dX1_hasItems_16 ?_
      refine G.icmp_gt (tgt := 24) (by decide) dX1_hasItems_17 (fun c_17 => ?_) (fun c_17 => ?_)
      · have hr : (0 : Int32) = if sp_has (nI z) i n = true then 1 else 0 := (if_neg (fun h => by
          rw [sp_has, decide_eq_true_eq, nI_toInt (by omega)] at h
          rw [Int32.lt_iff_toInt_lt, h3] at c_17
          omega)).symm
        refine G.iconst (v := 0) (by decide) dX1_hasItems_24 ?_
        exact G.zret rfl (by decide) ⟨hr, rfl⟩ dX1_hasItems_25
      · have hr : (1 : Int32) = if sp_has (nI z) i n = true then 1 else 0 := (if_pos (by
          rw [sp_has, decide_eq_true_eq, nI_toInt (by omega)]
          rw [Int32.lt_iff_toInt_lt, h3] at c_17
          omega)).symm
        refine G.iconst (v := 1) (by decide) dX1_hasItems_20 ?_
        refine G.goto (tgt := 25) (by decide) dX1_hasItems_21 ?_
        exact G.zret rfl (by decide) ⟨hr, rfl⟩ dX1_hasItems_25
set_option maxHeartbeats 4000000 in
set_option maxRecDepth 100000 in
theorem c_X1_item {s z i : Nat} (hs : s < 4) (hz : z ≤ 60) (he : σ 14 s = nI z) (hi : i < z) : GM (XC l D cA ad) mX1_item [.ref 12, .int (nI s), .int (nI i)] σ (g_ri (fun r τ => r = σ 15 (60 * s + i) ∧ τ = σ)) := by
  refine GM.of (ls := [some (.ref 12), some (.int (nI s)), some (.int (nI i))]) (by decide) (Nat.le_of_ble_eq_true rfl) rfl ?_
  refine G.iload_n (k := 2) rfl dX1_item_0 ?_
  refine G.aload_n (k := 0) rfl dX1_item_1 ?_
  refine G.getr (j := 1) rfl gci_X1 (by decide) rfl fl_X1_15 dX1_item_2 ?_
  refine G.iload_n (k := 1) rfl dX1_item_5 ?_
  refine G.ialdN (k := s) rfl (rfl) (hs) (by decide) dX1_item_6 ?_
  rw [he]
  refine G.callSNif (c_X6_isOutside) (fun _ h => h.2.2.2.2.1) ws_yX6_isOutside gcl_X6_isOutside (by decide) rfl rfl (Nat.le_of_ble_eq_true rfl) dX1_item_7 ?_
  refine G.if_eq (tgt := 17) (by decide) dX1_item_10 (fun c_10 => ?_) (fun c_10 => absurd (bo_n.mp c_10) (fun q => q.elim (fun y => nI_pos (by omega) y) (fun y => nI_ge hi (by omega) y)))
  refine G.aload_n (k := 0) rfl dX1_item_17 ?_
  refine G.getr (j := 2) rfl gci_X1 (by decide) rfl fl_X1_18 dX1_item_18 ?_
  refine G.iload_n (k := 1) rfl dX1_item_21 ?_
  refine G.bipush (v := 60) (by decide) dX1_item_22 ?_
  refine G.imul dX1_item_24 ?_
  refine G.iload_n (k := 2) rfl dX1_item_25 ?_
  rw [nu_60]
  refine G.iadd dX1_item_26 ?_
  rw [nI_add]
  refine G.ialdN (k := 60 * s + i) rfl (rfl) (by omega) (by decide) dX1_item_27 ?_
  exact G.iret rfl (⟨rfl, rfl⟩) dX1_item_28
set_option maxHeartbeats 4000000 in
set_option maxRecDepth 100000 in
theorem c_X1_put {s z i : Nat} {v : Int32} (hs : s < 4) (hz : z ≤ 60) (he : σ 14 s = nI z) (hi : i < z) : GM (XC l D cA ad) mX1_put [.ref 12, .int (nI s), .int (nI i), .int v] σ (g_rv (fun τ => τ = up2 σ 15 (60 * s + i) (sh_cut (σ 13 s) v))) := by
  refine GM.of (ls := [some (.ref 12), some (.int (nI s)), some (.int (nI i)), some (.int v)]) (by decide) (Nat.le_of_ble_eq_true rfl) rfl ?_
  refine G.iload_n (k := 2) rfl dX1_put_0 ?_
  refine G.aload_n (k := 0) rfl dX1_put_1 ?_
  refine G.getr (j := 1) rfl gci_X1 (by decide) rfl fl_X1_15 dX1_put_2 ?_
  refine G.iload_n (k := 1) rfl dX1_put_5 ?_
  refine G.ialdN (k := s) rfl (rfl) (hs) (by decide) dX1_put_6 ?_
  rw [he]
  refine G.callSNif (c_X6_isOutside) (fun _ h => h.2.2.2.2.1) ws_yX6_isOutside gcl_X6_isOutside (by decide) rfl rfl (Nat.le_of_ble_eq_true rfl) dX1_put_7 ?_
  refine G.if_ne (tgt := 54) (by decide) dX1_put_10 (fun c_10 => absurd (bo_n.mp c_10) (fun q => q.elim (fun y => nI_pos (by omega) y) (fun y => nI_ge hi (by omega) y))) (fun c_10 => ?_)
  refine G.aload_n (k := 0) rfl dX1_put_13 ?_
  refine G.getr (j := 2) rfl gci_X1 (by decide) rfl fl_X1_18 dX1_put_14 ?_
  refine G.iload_n (k := 1) rfl dX1_put_17 ?_
  refine G.bipush (v := 60) (by decide) dX1_put_18 ?_
  refine G.imul dX1_put_20 ?_
  refine G.iload_n (k := 2) rfl dX1_put_21 ?_
  rw [nu_60]
  refine G.iadd dX1_put_22 ?_
  rw [nI_add]
  refine G.aload_n (k := 0) rfl dX1_put_23 ?_
  refine G.getr (j := 0) rfl gci_X1 (by decide) rfl fl_X1_9 dX1_put_24 ?_
  refine G.iload_n (k := 1) rfl dX1_put_27 ?_
  refine G.ialdN (k := s) rfl (rfl) (hs) (by decide) dX1_put_28 ?_
  refine G.if_ne (tgt := 37) (by decide) dX1_put_29 (fun c_29 => ?_) (fun c_29 => ?_)
  · have h1 := c_29
    refine G.aload_n (k := 0) rfl dX1_put_37 ?_
    refine G.getr (j := 0) rfl gci_X1 (by decide) rfl fl_X1_9 dX1_put_38 ?_
    refine G.iload_n (k := 1) rfl dX1_put_41 ?_
    refine G.ialdN (k := s) rfl (rfl) (hs) (by decide) dX1_put_42 ?_
    refine G.iconst (v := 1) (by decide) dX1_put_43 ?_
    refine G.icmp_ne (tgt := 52) (by decide) dX1_put_44 (fun c_44 => ?_) (fun c_44 => ?_)
    · have hr : v = sh_cut (σ 13 s) v := by unfold sh_cut; rw [if_neg h1, if_neg c_44]
      refine G.iload_n (k := 3) rfl dX1_put_52 ?_
      refine G.iastN (k := 60 * s + i) rfl (rfl) (by omega) (by decide) dX1_put_53 ?_
      exact G.vret rfl (by rw [← hr]) dX1_put_54
    · have hr : v.toInt16.toInt32 = sh_cut (σ 13 s) v := by unfold sh_cut; rw [if_neg h1, if_pos c_44]
      refine G.iload_n (k := 3) rfl dX1_put_47 ?_
      refine G.i2s dX1_put_48 ?_
      refine G.goto (tgt := 53) (by decide) dX1_put_49 ?_
      refine G.iastN (k := 60 * s + i) rfl (rfl) (by omega) (by decide) dX1_put_53 ?_
      exact G.vret rfl (by rw [← hr]) dX1_put_54
  · have hr : v.toInt8.toInt32 = sh_cut (σ 13 s) v := (if_pos c_29).symm
    refine G.iload_n (k := 3) rfl dX1_put_32 ?_
    refine G.i2b dX1_put_33 ?_
    refine G.goto (tgt := 53) (by decide) dX1_put_34 ?_
    refine G.iastN (k := 60 * s + i) rfl (rfl) (by omega) (by decide) dX1_put_53 ?_
    exact G.vret rfl (by rw [← hr]) dX1_put_54
set_option maxHeartbeats 4000000 in
set_option maxRecDepth 100000 in
theorem c_X1_move {s t i j n : Nat} (hs : s < 4) (ht : t < 4) (h1 : i + n ≤ 60) (h2 : j + n ≤ 60) : GM (XC l D cA ad) mX1_move [.ref 12, .int (nI s), .int (nI i), .int (nI t), .int (nI j), .int (nI n)] σ (g_rv (fun τ => τ = upA σ 15 (va_cpy (σ 15) (σ 15) (60 * s + i) (60 * t + j) n))) := by
  refine GM.of (ls := [some (.ref 12), some (.int (nI s)), some (.int (nI i)), some (.int (nI t)), some (.int (nI j)), some (.int (nI n))]) (by decide) (Nat.le_of_ble_eq_true rfl) rfl ?_
  refine G.aload_n (k := 0) rfl dX1_move_0 ?_
  refine G.getr (j := 2) rfl gci_X1 (by decide) rfl fl_X1_18 dX1_move_1 ?_
  refine G.iload_n (k := 1) rfl dX1_move_4 ?_
  refine G.bipush (v := 60) (by decide) dX1_move_5 ?_
  refine G.imul dX1_move_7 ?_
  refine G.iload_n (k := 2) rfl dX1_move_8 ?_
  refine G.iadd dX1_move_9 ?_
  refine G.aload_n (k := 0) rfl dX1_move_10 ?_
  refine G.getr (j := 2) rfl gci_X1 (by decide) rfl fl_X1_18 dX1_move_11 ?_
  refine G.iload_n (k := 3) rfl dX1_move_14 ?_
  refine G.bipush (v := 60) (by decide) dX1_move_15 ?_
  refine G.imul dX1_move_17 ?_
  refine G.iload (i := 4) rfl dX1_move_18 ?_
  refine G.iadd dX1_move_20 ?_
  refine G.iload (i := 5) rfl dX1_move_21 ?_
  rw [nu_60, nI_add, nu_60, nI_add]
  refine G.acopy (n0 := 240) (n1 := 240) rfl rfl rfl rfl rfl (by omega) (by omega) (by decide) (by decide) ml_X1_42 (by decide) (by decide) dX1_move_23 ?_
  exact G.vret rfl (rfl) dX1_move_26
set_option maxHeartbeats 4000000 in
set_option maxRecDepth 100000 in
theorem c_X6_sheet {s f n : Int32} : GM (XC l D cA ad) mX6_sheet [.ref 0, .int s, .int f, .int n] σ (g_ri (fun r τ => (r, τ) = sp_sheet 13 14 15 12 3 σ s f n)) := by
  refine GM.of (ls := [some (.ref 0), some (.int s), some (.int f), some (.int n)]) (by decide) (Nat.le_of_ble_eq_true rfl) rfl ?_
  refine G.iload_n (k := 1) rfl dX6_sheet_0 ?_
  refine G.iconst (v := 4) (by decide) dX6_sheet_1 ?_
  refine G.callSif (c_X6_isOutside) ml_X6_72 ws_yX6_isOutside gcl_X6_isOutside (by decide) rfl rfl (Nat.le_of_ble_eq_true rfl) dX6_sheet_2 ?_
  refine G.if_ne (tgt := 22) (by decide) dX6_sheet_5 (fun c_5 => ?_) (fun c_5 => ?_)
  · have h1 := ou_t 4 (by decide) c_5
    refine G.bipush (v := (-2)) (by decide) dX6_sheet_22 ?_
    exact G.iret rfl (by unfold sp_sheet; first | (rw [h1]; rfl) | (rw [h1, h2]; rfl) | (rw [if_neg (by simp [h1, h2, h3])])) dX6_sheet_24
  · have h1 := ou_f 4 (by decide) c_5
    refine G.iload_n (k := 2) rfl dX6_sheet_8 ?_
    refine G.iconst (v := 3) (by decide) dX6_sheet_9 ?_
    refine G.callSif (c_X6_isOutside) ml_X6_72 ws_yX6_isOutside gcl_X6_isOutside (by decide) rfl rfl (Nat.le_of_ble_eq_true rfl) dX6_sheet_10 ?_
    refine G.if_ne (tgt := 22) (by decide) dX6_sheet_13 (fun c_13 => ?_) (fun c_13 => ?_)
    · have h2 := ou_t 3 (by decide) c_13
      refine G.bipush (v := (-2)) (by decide) dX6_sheet_22 ?_
      exact G.iret rfl (by unfold sp_sheet; first | (rw [h1]; rfl) | (rw [h1, h2]; rfl) | (rw [if_neg (by simp [h1, h2, h3])])) dX6_sheet_24
    · have h2 := ou_f 3 (by decide) c_13
      refine G.iload_n (k := 3) rfl dX6_sheet_16 ?_
      refine G.bipush (v := 60) (by decide) dX6_sheet_17 ?_
      refine G.icmp_le (tgt := 25) (by decide) dX6_sheet_19 (fun c_19 => ?_) (fun c_19 => ?_)
      · have h3 := c_19
        refine G.iload_n (k := 3) rfl dX6_sheet_25 ?_
        refine G.if_ge (tgt := 38) (by decide) dX6_sheet_26 (fun c_26 => ?_) (fun c_26 => ?_)
        · have h4 : ¬ n < 0 := Int32.not_lt.mpr c_26
          obtain ⟨z, hz, ez⟩ := nI_of2 (M := 60) (n := 60) (by decide) h4 h3
          subst ez
          have xz : ix (nI z) = z := ix_nI (by omega)
          have h1s := h1
          obtain ⟨q, hq, eq⟩ := inB_of (by decide) h1
          subst eq
          have xq : ix (nI q) = q := ix_nI (by omega)
          refine G.aload_n (k := 0) rfl dX6_sheet_38 ?_
          refine G.getr (j := 1) rfl gci_X6 (by decide) rfl fl_X6_12 dX6_sheet_39 ?_
          refine G.iload_n (k := 1) rfl dX6_sheet_42 ?_
          refine G.iload_n (k := 2) rfl dX6_sheet_43 ?_
          refine G.iload_n (k := 3) rfl dX6_sheet_44 ?_
          refine G.callVvf (c_X1_make hq hz) rfl (gci_X1).1 ml_X6_195 im_yX1_make se_yX1_make gcl_X1_make (by decide) rfl rfl (Nat.le_of_ble_eq_true rfl) dX6_sheet_45 ?_
          refine G.iload_n (k := 3) rfl dX6_sheet_48 ?_
          exact G.iret rfl (by unfold sp_sheet; rw [h1, h2, if_pos (by simp [h3]), if_neg h4, xq, xz]) dX6_sheet_49
        · have h4 : n < 0 := Int32.not_le.mp c_26
          refine G.aload_n (k := 0) rfl dX6_sheet_29 ?_
          refine G.getr (j := 1) rfl gci_X6 (by decide) rfl fl_X6_12 dX6_sheet_30 ?_
          refine G.iconst (v := 5) (by decide) dX6_sheet_33 ?_
          refine G.callVif (c_X1_find) rfl (gci_X1).1 ml_X6_98 im_yX1_find se_yX1_find gcl_X1_find (by decide) rfl rfl (Nat.le_of_ble_eq_true rfl) dX6_sheet_34 ?_
          exact G.iret rfl (by unfold sp_sheet sp_find; rw [h1, h2, if_pos (by simp [h3]), if_pos h4]) dX6_sheet_37
      · have h3 := c_19
        refine G.bipush (v := (-2)) (by decide) dX6_sheet_22 ?_
        exact G.iret rfl (by unfold sp_sheet; first | (rw [h1]; rfl) | (rw [h1, h2]; rfl) | (rw [if_neg (by simp [h1, h2, h3])])) dX6_sheet_24
set_option maxHeartbeats 4000000 in
set_option maxRecDepth 100000 in
theorem c_X6_lose {s : Int32} (hI : shI 13 14 σ) : GM (XC l D cA ad) mX6_lose [.ref 0, .int s] σ (g_ri (fun r τ => (r, τ) = (if inB s 4 = true then (if σ 13 (ix s) = -1 then sp_find 12 3 σ 1 else (σ 14 (ix s), up2 (up2 σ 13 (ix s) (-1)) 14 (ix s) 0)) else (-2, σ)))) := by
  refine GM.of (ls := [some (.ref 0), some (.int s), none]) (by decide) (Nat.le_of_ble_eq_true rfl) rfl ?_
  refine G.iload_n (k := 1) rfl dX6_lose_0 ?_
  refine G.iconst (v := 4) (by decide) dX6_lose_1 ?_
  refine G.callSif (c_X6_isOutside) ml_X6_72 ws_yX6_isOutside gcl_X6_isOutside (by decide) rfl rfl (Nat.le_of_ble_eq_true rfl) dX6_lose_2 ?_
  refine G.if_eq (tgt := 11) (by decide) dX6_lose_5 (fun c_5 => ?_) (fun c_5 => ?_)
  · have h1 := ou_f 4 (by decide) c_5
    obtain ⟨q, hq, eq⟩ := inB_of (by decide) h1
    subst eq
    have xq : ix (nI q) = q := ix_nI (by omega)
    refine G.aload_n (k := 0) rfl dX6_lose_11 ?_
    refine G.getr (j := 1) rfl gci_X6 (by decide) rfl fl_X6_12 dX6_lose_12 ?_
    refine G.iload_n (k := 1) rfl dX6_lose_15 ?_
    refine G.callVif (c_X1_isLost hq) rfl (gci_X1).1 ml_X6_94 im_yX1_isLost se_yX1_isLost gcl_X1_isLost (by decide) rfl rfl (Nat.le_of_ble_eq_true rfl) dX6_lose_16 ?_
    refine G.if_eq (tgt := 31) (by decide) dX6_lose_19 (fun c_19 => ?_) (fun c_19 => ?_)
    · have h2 := bo_0.mp c_19
      refine G.aload_n (k := 0) rfl dX6_lose_31 ?_
      refine G.getr (j := 1) rfl gci_X6 (by decide) rfl fl_X6_12 dX6_lose_32 ?_
      refine G.iload_n (k := 1) rfl dX6_lose_35 ?_
      refine G.callVif (c_X1_sizeOf hq) rfl (gci_X1).1 ml_X6_101 im_yX1_sizeOf se_yX1_sizeOf gcl_X1_sizeOf (by decide) rfl rfl (Nat.le_of_ble_eq_true rfl) dX6_lose_36 ?_
      refine G.ist2 (by decide) rfl dX6_lose_39 ?_
      refine G.aload_n (k := 0) rfl dX6_lose_40 ?_
      refine G.getr (j := 1) rfl gci_X6 (by decide) rfl fl_X6_12 dX6_lose_41 ?_
      refine G.iload_n (k := 1) rfl dX6_lose_44 ?_
      refine G.iconst (v := (-1)) (by decide) dX6_lose_45 ?_
      refine G.iconst (v := 0) (by decide) dX6_lose_46 ?_
      refine G.callVvf (c_X1_make (n := 0) hq (by omega)) rfl (gci_X1).1 ml_X6_195 im_yX1_make se_yX1_make gcl_X1_make (by decide) rfl rfl (Nat.le_of_ble_eq_true rfl) dX6_lose_47 ?_
      refine G.iload_n (k := 2) rfl dX6_lose_50 ?_
      exact G.iret rfl (by rw [if_pos h1, xq, if_neg h2, Nat.add_zero, flr_0]; rfl) dX6_lose_51
    · have h2 := bo_n.mp c_19
      refine G.aload_n (k := 0) rfl dX6_lose_22 ?_
      refine G.getr (j := 1) rfl gci_X6 (by decide) rfl fl_X6_12 dX6_lose_23 ?_
      refine G.iconst (v := 1) (by decide) dX6_lose_26 ?_
      refine G.callVif (c_X1_find) rfl (gci_X1).1 ml_X6_98 im_yX1_find se_yX1_find gcl_X1_find (by decide) rfl rfl (Nat.le_of_ble_eq_true rfl) dX6_lose_27 ?_
      exact G.iret rfl (by rw [if_pos h1, xq, if_pos h2]; rfl) dX6_lose_30
  · have h1 := ou_t 4 (by decide) c_5
    refine G.bipush (v := (-2)) (by decide) dX6_lose_8 ?_
    exact G.iret rfl (by rw [if_neg (by rw [h1]; decide)]) dX6_lose_10
set_option maxHeartbeats 4000000 in
set_option maxRecDepth 100000 in
theorem c_X6_lay {s f i v : Int32} (hI : shI 13 14 σ) : GM (XC l D cA ad) mX6_lay [.ref 0, .int s, .int f, .int i, .int v] σ (g_ri (fun r τ => (r, τ) = sp_lay 13 14 15 12 3 σ s f i v)) := by
  refine GM.of (ls := [some (.ref 0), some (.int s), some (.int f), some (.int i), some (.int v), none]) (by decide) (Nat.le_of_ble_eq_true rfl) rfl ?_
  refine G.iload_n (k := 1) rfl dX6_lay_0 ?_
  refine G.iconst (v := 4) (by decide) dX6_lay_1 ?_
  refine G.callSif (c_X6_isOutside) ml_X6_72 ws_yX6_isOutside gcl_X6_isOutside (by decide) rfl rfl (Nat.le_of_ble_eq_true rfl) dX6_lay_2 ?_
  refine G.if_ne (tgt := 16) (by decide) dX6_lay_5 (fun c_5 => ?_) (fun c_5 => ?_)
  · have h1 := ou_t 4 (by decide) c_5
    refine G.bipush (v := (-2)) (by decide) dX6_lay_16 ?_
    exact G.iret rfl (by unfold sp_lay; rw [if_neg (by first | (simp [h1]; done) | simp [h1, h2])]) dX6_lay_18
  · have h1 := ou_f 4 (by decide) c_5
    refine G.iload_n (k := 2) rfl dX6_lay_8 ?_
    refine G.iconst (v := 3) (by decide) dX6_lay_9 ?_
    refine G.callSif (c_X6_isOutside) ml_X6_72 ws_yX6_isOutside gcl_X6_isOutside (by decide) rfl rfl (Nat.le_of_ble_eq_true rfl) dX6_lay_10 ?_
    refine G.if_eq (tgt := 19) (by decide) dX6_lay_13 (fun c_13 => ?_) (fun c_13 => ?_)
    · have h2 := ou_f 3 (by decide) c_13
      obtain ⟨q, hq, eq⟩ := inB_of (by decide) h1
      subst eq
      have xq : ix (nI q) = q := ix_nI (by omega)
      obtain ⟨hfm, z, hz, ez⟩ := hI q hq
      refine G.aload_n (k := 0) rfl dX6_lay_19 ?_
      refine G.getr (j := 1) rfl gci_X6 (by decide) rfl fl_X6_12 dX6_lay_20 ?_
      refine G.iload_n (k := 1) rfl dX6_lay_23 ?_
      refine G.iload_n (k := 2) rfl dX6_lay_24 ?_
      refine G.iload_n (k := 3) rfl dX6_lay_25 ?_
      refine G.callVif (c_X1_wrongWith hq) rfl (gci_X1).1 ml_X6_198 im_yX1_wrongWith se_yX1_wrongWith gcl_X1_wrongWith (by decide) rfl rfl (Nat.le_of_ble_eq_true rfl) dX6_lay_26 ?_
      refine G.ist5 (by decide) rfl dX6_lay_29 ?_
      refine G.iload (i := 5) rfl dX6_lay_31 ?_
      refine G.if_eq (tgt := 46) (by decide) dX6_lay_33 (fun c_33 => ?_) (fun c_33 => ?_)
      · have h3 : sp_wr 13 14 σ q f i = 0 := c_33
        have h4 : σ 13 q = f ∧ 0 ≤ i ∧ i < σ 14 q := by
          unfold sp_wr at h3
          by_cases a1 : σ 13 q = -1
          · rw [if_pos a1] at h3; exact absurd h3 (by decide)
          · rw [if_neg a1] at h3
            by_cases a2 : σ 13 q = f
            · rw [if_pos a2] at h3
              by_cases a3 : 0 ≤ i ∧ i < σ 14 q
              · exact ⟨a2, a3⟩
              · rw [if_neg a3] at h3; exact absurd h3 (by decide)
            · rw [if_neg a2] at h3; exact absurd h3 (by decide)
        obtain ⟨w, hw, ew⟩ := nI_of (Int32.not_lt.mpr h4.2.1)
        subst ew
        have hwz : w < z := by have h5 := h4.2.2; rw [ez] at h5; exact (nI_ltI hw (by omega)).mp h5
        have xw : ix (nI w) = w := ix_nI (by omega)
        refine G.aload_n (k := 0) rfl dX6_lay_46 ?_
        refine G.getr (j := 1) rfl gci_X6 (by decide) rfl fl_X6_12 dX6_lay_47 ?_
        refine G.iload_n (k := 1) rfl dX6_lay_50 ?_
        refine G.iload_n (k := 3) rfl dX6_lay_51 ?_
        refine G.iload (i := 4) rfl dX6_lay_52 ?_
        refine G.callVvf (c_X1_put hq hz ez hwz) rfl (gci_X1).1 ml_X6_202 im_yX1_put se_yX1_put gcl_X1_put (by decide) rfl rfl (Nat.le_of_ble_eq_true rfl) dX6_lay_54 ?_
        refine G.iconst (v := 1) (by decide) dX6_lay_57 ?_
        exact G.iret rfl (by unfold sp_lay; rw [if_pos (by simp [h1, h2]), xq, if_pos h3, xw, h4.1]) dX6_lay_58
      · have h3 : ¬ sp_wr 13 14 σ q f i = 0 := c_33
        refine G.aload_n (k := 0) rfl dX6_lay_36 ?_
        refine G.getr (j := 1) rfl gci_X6 (by decide) rfl fl_X6_12 dX6_lay_37 ?_
        refine G.iload (i := 5) rfl dX6_lay_40 ?_
        refine G.callVif (c_X1_find) rfl (gci_X1).1 ml_X6_98 im_yX1_find se_yX1_find gcl_X1_find (by decide) rfl rfl (Nat.le_of_ble_eq_true rfl) dX6_lay_42 ?_
        exact G.iret rfl (by unfold sp_lay; rw [if_pos (by simp [h1, h2]), xq, if_neg h3]; rfl) dX6_lay_45
    · have h2 := ou_t 3 (by decide) c_13
      refine G.bipush (v := (-2)) (by decide) dX6_lay_16 ?_
      exact G.iret rfl (by unfold sp_lay; rw [if_neg (by first | (simp [h1]; done) | simp [h1, h2])]) dX6_lay_18
set_option maxHeartbeats 4000000 in
set_option maxRecDepth 100000 in
theorem c_X6_get {s f i : Int32} (hI : shI 13 14 σ) : GM (XC l D cA ad) mX6_get [.ref 0, .int s, .int f, .int i] σ (g_ri (fun r τ => (r, τ) = sp_get 13 14 15 12 3 σ s f i)) := by
  refine GM.of (ls := [some (.ref 0), some (.int s), some (.int f), some (.int i), none]) (by decide) (Nat.le_of_ble_eq_true rfl) rfl ?_
  refine G.iload_n (k := 1) rfl dX6_get_0 ?_
  refine G.iconst (v := 4) (by decide) dX6_get_1 ?_
  refine G.callSif (c_X6_isOutside) ml_X6_72 ws_yX6_isOutside gcl_X6_isOutside (by decide) rfl rfl (Nat.le_of_ble_eq_true rfl) dX6_get_2 ?_
  refine G.if_ne (tgt := 16) (by decide) dX6_get_5 (fun c_5 => ?_) (fun c_5 => ?_)
  · have h1 := ou_t 4 (by decide) c_5
    refine G.ldc ct_X6_205 dX6_get_16 ?_
    exact G.iret rfl (by unfold sp_get; rw [if_neg (by first | (simp [h1]; done) | simp [h1, h2])]) dX6_get_18
  · have h1 := ou_f 4 (by decide) c_5
    refine G.iload_n (k := 2) rfl dX6_get_8 ?_
    refine G.iconst (v := 3) (by decide) dX6_get_9 ?_
    refine G.callSif (c_X6_isOutside) ml_X6_72 ws_yX6_isOutside gcl_X6_isOutside (by decide) rfl rfl (Nat.le_of_ble_eq_true rfl) dX6_get_10 ?_
    refine G.if_eq (tgt := 19) (by decide) dX6_get_13 (fun c_13 => ?_) (fun c_13 => ?_)
    · have h2 := ou_f 3 (by decide) c_13
      obtain ⟨q, hq, eq⟩ := inB_of (by decide) h1
      subst eq
      have xq : ix (nI q) = q := ix_nI (by omega)
      obtain ⟨hfm, z, hz, ez⟩ := hI q hq
      refine G.aload_n (k := 0) rfl dX6_get_19 ?_
      refine G.getr (j := 1) rfl gci_X6 (by decide) rfl fl_X6_12 dX6_get_20 ?_
      refine G.iload_n (k := 1) rfl dX6_get_23 ?_
      refine G.iload_n (k := 2) rfl dX6_get_24 ?_
      refine G.iload_n (k := 3) rfl dX6_get_25 ?_
      refine G.callVif (c_X1_wrongWith hq) rfl (gci_X1).1 ml_X6_198 im_yX1_wrongWith se_yX1_wrongWith gcl_X1_wrongWith (by decide) rfl rfl (Nat.le_of_ble_eq_true rfl) dX6_get_26 ?_
      refine G.ist4 (by decide) rfl dX6_get_29 ?_
      refine G.iload (i := 4) rfl dX6_get_31 ?_
      refine G.if_eq (tgt := 49) (by decide) dX6_get_33 (fun c_33 => ?_) (fun c_33 => ?_)
      · have h3 : sp_wr 13 14 σ q f i = 0 := c_33
        have h4 : σ 13 q = f ∧ 0 ≤ i ∧ i < σ 14 q := by
          unfold sp_wr at h3
          by_cases a1 : σ 13 q = -1
          · rw [if_pos a1] at h3; exact absurd h3 (by decide)
          · rw [if_neg a1] at h3
            by_cases a2 : σ 13 q = f
            · rw [if_pos a2] at h3
              by_cases a3 : 0 ≤ i ∧ i < σ 14 q
              · exact ⟨a2, a3⟩
              · rw [if_neg a3] at h3; exact absurd h3 (by decide)
            · rw [if_neg a2] at h3; exact absurd h3 (by decide)
        obtain ⟨w, hw, ew⟩ := nI_of (Int32.not_lt.mpr h4.2.1)
        subst ew
        have hwz : w < z := by have h5 := h4.2.2; rw [ez] at h5; exact (nI_ltI hw (by omega)).mp h5
        have xw : ix (nI w) = w := ix_nI (by omega)
        refine G.aload_n (k := 0) rfl dX6_get_49 ?_
        refine G.getr (j := 1) rfl gci_X6 (by decide) rfl fl_X6_12 dX6_get_50 ?_
        refine G.iload_n (k := 1) rfl dX6_get_53 ?_
        refine G.iload_n (k := 3) rfl dX6_get_54 ?_
        refine G.callVif (c_X1_item hq hz ez hwz) rfl (gci_X1).1 ml_X6_104 im_yX1_item se_yX1_item gcl_X1_item (by decide) rfl rfl (Nat.le_of_ble_eq_true rfl) dX6_get_55 ?_
        exact G.iret rfl (by unfold sp_get; rw [if_pos (by simp [h1, h2]), xq, if_pos h3, xw]) dX6_get_58
      · have h3 : ¬ sp_wr 13 14 σ q f i = 0 := c_33
        refine G.aload_n (k := 0) rfl dX6_get_36 ?_
        refine G.getr (j := 1) rfl gci_X6 (by decide) rfl fl_X6_12 dX6_get_37 ?_
        refine G.iload (i := 4) rfl dX6_get_40 ?_
        refine G.callVif (c_X1_find) rfl (gci_X1).1 ml_X6_98 im_yX1_find se_yX1_find gcl_X1_find (by decide) rfl rfl (Nat.le_of_ble_eq_true rfl) dX6_get_42 ?_
        refine G.popi dX6_get_45 ?_
        refine G.ldc ct_X6_205 dX6_get_46 ?_
        exact G.iret rfl (by unfold sp_get; rw [if_pos (by simp [h1, h2]), xq, if_neg h3]) dX6_get_48
    · have h2 := ou_t 3 (by decide) c_13
      refine G.ldc ct_X6_205 dX6_get_16 ?_
      exact G.iret rfl (by unfold sp_get; rw [if_neg (by first | (simp [h1]; done) | simp [h1, h2])]) dX6_get_18
set_option maxHeartbeats 4000000 in
set_option maxRecDepth 100000 in
theorem c_X6_copy {s i t j n : Int32} (hI : shI 13 14 σ) : GM (XC l D cA ad) mX6_copy [.ref 0, .int s, .int i, .int t, .int j, .int n] σ (g_ri (fun r τ => (r, τ) = sp_copy 13 14 15 12 3 σ s i t j n)) := by
  refine GM.of (ls := [some (.ref 0), some (.int s), some (.int i), some (.int t), some (.int j), some (.int n)]) (by decide) (Nat.le_of_ble_eq_true rfl) rfl ?_
  refine G.iload_n (k := 1) rfl dX6_copy_0 ?_
  refine G.iconst (v := 4) (by decide) dX6_copy_1 ?_
  refine G.callSif (c_X6_isOutside) ml_X6_72 ws_yX6_isOutside gcl_X6_isOutside (by decide) rfl rfl (Nat.le_of_ble_eq_true rfl) dX6_copy_2 ?_
  refine G.if_ne (tgt := 16) (by decide) dX6_copy_5 (fun c_5 => ?_) (fun c_5 => ?_)
  · have h1 := ou_t 4 (by decide) c_5
    refine G.bipush (v := (-2)) (by decide) dX6_copy_16 ?_
    exact G.iret rfl (by unfold sp_copy; rw [if_neg (by first | (simp [h1]; done) | simp [h1, h2])]) dX6_copy_18
  · have h1 := ou_f 4 (by decide) c_5
    refine G.iload_n (k := 3) rfl dX6_copy_8 ?_
    refine G.iconst (v := 4) (by decide) dX6_copy_9 ?_
    refine G.callSif (c_X6_isOutside) ml_X6_72 ws_yX6_isOutside gcl_X6_isOutside (by decide) rfl rfl (Nat.le_of_ble_eq_true rfl) dX6_copy_10 ?_
    refine G.if_eq (tgt := 19) (by decide) dX6_copy_13 (fun c_13 => ?_) (fun c_13 => ?_)
    · have h2 := ou_f 4 (by decide) c_13
      obtain ⟨q, hq, eq⟩ := inB_of (by decide) h1
      subst eq
      have xq : ix (nI q) = q := ix_nI (by omega)
      obtain ⟨g, hg, eg⟩ := inB_of (by decide) h2
      subst eg
      have xg : ix (nI g) = g := ix_nI (by omega)
      obtain ⟨hfm, z, hz, ez⟩ := hI q hq
      obtain ⟨hfn, y, hy, ey⟩ := hI g hg
      refine G.aload_n (k := 0) rfl dX6_copy_19 ?_
      refine G.getr (j := 1) rfl gci_X6 (by decide) rfl fl_X6_12 dX6_copy_20 ?_
      refine G.iload_n (k := 1) rfl dX6_copy_23 ?_
      refine G.callVif (c_X1_isLost hq) rfl (gci_X1).1 ml_X6_94 im_yX1_isLost se_yX1_isLost gcl_X1_isLost (by decide) rfl rfl (Nat.le_of_ble_eq_true rfl) dX6_copy_24 ?_
      refine G.if_ne (tgt := 41) (by decide) dX6_copy_27 (fun c_27 => ?_) (fun c_27 => ?_)
      · have h3 : σ 13 q = -1 ∨ σ 13 g = -1 := Or.inl (bo_n.mp c_27)
        refine G.aload_n (k := 0) rfl dX6_copy_41 ?_
        refine G.getr (j := 1) rfl gci_X6 (by decide) rfl fl_X6_12 dX6_copy_42 ?_
        refine G.iconst (v := 1) (by decide) dX6_copy_45 ?_
        refine G.callVif (c_X1_find) rfl (gci_X1).1 ml_X6_98 im_yX1_find se_yX1_find gcl_X1_find (by decide) rfl rfl (Nat.le_of_ble_eq_true rfl) dX6_copy_46 ?_
        exact G.iret rfl (by unfold sp_copy; rw [if_pos (by simp [h1, h2]), xq, xg, if_pos h3]; rfl) dX6_copy_49
      · have h3a := bo_0.mp c_27
        refine G.aload_n (k := 0) rfl dX6_copy_30 ?_
        refine G.getr (j := 1) rfl gci_X6 (by decide) rfl fl_X6_12 dX6_copy_31 ?_
        refine G.iload_n (k := 3) rfl dX6_copy_34 ?_
        refine G.callVif (c_X1_isLost hg) rfl (gci_X1).1 ml_X6_94 im_yX1_isLost se_yX1_isLost gcl_X1_isLost (by decide) rfl rfl (Nat.le_of_ble_eq_true rfl) dX6_copy_35 ?_
        refine G.if_eq (tgt := 50) (by decide) dX6_copy_38 (fun c_38 => ?_) (fun c_38 => ?_)
        · have h3 : ¬ (σ 13 q = -1 ∨ σ 13 g = -1) := fun z => z.elim h3a (bo_0.mp c_38)
          refine G.aload_n (k := 0) rfl dX6_copy_50 ?_
          refine G.getr (j := 1) rfl gci_X6 (by decide) rfl fl_X6_12 dX6_copy_51 ?_
          refine G.iload_n (k := 1) rfl dX6_copy_54 ?_
          refine G.callVif (c_X1_formOf hq) rfl (gci_X1).1 ml_X6_206 im_yX1_formOf se_yX1_formOf gcl_X1_formOf (by decide) rfl rfl (Nat.le_of_ble_eq_true rfl) dX6_copy_55 ?_
          refine G.aload_n (k := 0) rfl dX6_copy_58 ?_
          refine G.getr (j := 1) rfl gci_X6 (by decide) rfl fl_X6_12 dX6_copy_59 ?_
          refine G.iload_n (k := 3) rfl dX6_copy_62 ?_
          refine G.callVif (c_X1_formOf hg) rfl (gci_X1).1 ml_X6_206 im_yX1_formOf se_yX1_formOf gcl_X1_formOf (by decide) rfl rfl (Nat.le_of_ble_eq_true rfl) dX6_copy_63 ?_
          refine G.icmp_eq (tgt := 78) (by decide) dX6_copy_66 (fun c_66 => ?_) (fun c_66 => ?_)
          · have h4 := c_66
            refine G.aload_n (k := 0) rfl dX6_copy_78 ?_
            refine G.getr (j := 1) rfl gci_X6 (by decide) rfl fl_X6_12 dX6_copy_79 ?_
            refine G.iload_n (k := 1) rfl dX6_copy_82 ?_
            refine G.iload_n (k := 2) rfl dX6_copy_83 ?_
            refine G.iload (i := 5) rfl dX6_copy_84 ?_
            refine G.callVif (c_X1_hasItems hq hz ez) rfl (gci_X1).1 ml_X6_209 im_yX1_hasItems se_yX1_hasItems gcl_X1_hasItems (by decide) rfl rfl (Nat.le_of_ble_eq_true rfl) dX6_copy_86 ?_
            refine G.if_eq (tgt := 107) (by decide) dX6_copy_89 (fun c_89 => ?_) (fun c_89 => ?_)
            · have h5 : ¬ sp_has (nI z) i n = true := bo_0.mp c_89
              have h6 : ¬ (sp_has (nI z) i n && sp_has (nI y) j n) = true := by simp [h5]
              refine G.aload_n (k := 0) rfl dX6_copy_107 ?_
              refine G.getr (j := 1) rfl gci_X6 (by decide) rfl fl_X6_12 dX6_copy_108 ?_
              refine G.iconst (v := 2) (by decide) dX6_copy_111 ?_
              refine G.callVif (c_X1_find) rfl (gci_X1).1 ml_X6_98 im_yX1_find se_yX1_find gcl_X1_find (by decide) rfl rfl (Nat.le_of_ble_eq_true rfl) dX6_copy_112 ?_
              exact G.iret rfl (by unfold sp_copy; rw [if_pos (by simp [h1, h2]), xq, xg, if_neg h3, if_pos h4, ez, ey, if_neg h6]; rfl) dX6_copy_115
            · have h5 : sp_has (nI z) i n = true := bo_n.mp c_89
              refine G.aload_n (k := 0) rfl dX6_copy_92 ?_
              refine G.getr (j := 1) rfl gci_X6 (by decide) rfl fl_X6_12 dX6_copy_93 ?_
              refine G.iload_n (k := 3) rfl dX6_copy_96 ?_
              refine G.iload (i := 4) rfl dX6_copy_97 ?_
              refine G.iload (i := 5) rfl dX6_copy_99 ?_
              refine G.callVif (c_X1_hasItems hg hy ey) rfl (gci_X1).1 ml_X6_209 im_yX1_hasItems se_yX1_hasItems gcl_X1_hasItems (by decide) rfl rfl (Nat.le_of_ble_eq_true rfl) dX6_copy_101 ?_
              refine G.if_ne (tgt := 116) (by decide) dX6_copy_104 (fun c_104 => ?_) (fun c_104 => ?_)
              · have h6 : sp_has (nI y) j n = true := bo_n.mp c_104
                have hh : ∀ {z : Nat} {a b : Int32}, z ≤ 60 → sp_has (nI z) a b = true → ∃ u w, a = nI u ∧ b = nI w ∧ u + w ≤ z := fun {z a b} hz h => by
                  rw [sp_has, decide_eq_true_eq, nI_toInt (by omega)] at h
                  obtain ⟨u, hu, eu⟩ := nI_of (x := a) (by rw [Int32.lt_iff_toInt_lt, show (0 : Int32).toInt = 0 from by decide]; omega)
                  obtain ⟨w, hw, ew⟩ := nI_of (x := b) (by rw [Int32.lt_iff_toInt_lt, show (0 : Int32).toInt = 0 from by decide]; omega)
                  subst eu ew
                  rw [nI_toInt hu, nI_toInt hw] at h
                  exact ⟨u, w, rfl, rfl, by omega⟩
                obtain ⟨u, w, eu, ew, huw⟩ := hh hz h5
                obtain ⟨u2, w2, eu2, ew2, huw2⟩ := hh hy h6
                subst eu ew eu2
                have e9 : w = w2 := by
                  have a1 : w < 2 ^ 31 := by omega
                  have a2 : w2 < 2 ^ 31 := by omega
                  exact (nI_eq a1 a2).mp ew2
                subst e9
                have xu : ix (nI u) = u := ix_nI (by omega)
                have xw : ix (nI w) = w := ix_nI (by omega)
                have xu2 : ix (nI u2) = u2 := ix_nI (by omega)
                refine G.aload_n (k := 0) rfl dX6_copy_116 ?_
                refine G.getr (j := 1) rfl gci_X6 (by decide) rfl fl_X6_12 dX6_copy_117 ?_
                refine G.iload_n (k := 1) rfl dX6_copy_120 ?_
                refine G.iload_n (k := 2) rfl dX6_copy_121 ?_
                refine G.iload_n (k := 3) rfl dX6_copy_122 ?_
                refine G.iload (i := 4) rfl dX6_copy_123 ?_
                refine G.iload (i := 5) rfl dX6_copy_125 ?_
                refine G.callVvf (c_X1_move hq hg (by omega) (by omega)) rfl (gci_X1).1 ml_X6_213 im_yX1_move se_yX1_move gcl_X1_move (by decide) rfl rfl (Nat.le_of_ble_eq_true rfl) dX6_copy_127 ?_
                refine G.iconst (v := 1) (by decide) dX6_copy_130 ?_
                exact G.iret rfl (by unfold sp_copy; rw [if_pos (by simp [h1, h2]), xq, xg, if_neg h3, if_pos h4, ez, ey, if_pos (by simp [h5, h6]), xu, xw, xu2]) dX6_copy_131
              · have h6 : ¬ (sp_has (nI z) i n && sp_has (nI y) j n) = true := by have := bo_0.mp c_104; simp [this]
                refine G.aload_n (k := 0) rfl dX6_copy_107 ?_
                refine G.getr (j := 1) rfl gci_X6 (by decide) rfl fl_X6_12 dX6_copy_108 ?_
                refine G.iconst (v := 2) (by decide) dX6_copy_111 ?_
                refine G.callVif (c_X1_find) rfl (gci_X1).1 ml_X6_98 im_yX1_find se_yX1_find gcl_X1_find (by decide) rfl rfl (Nat.le_of_ble_eq_true rfl) dX6_copy_112 ?_
                exact G.iret rfl (by unfold sp_copy; rw [if_pos (by simp [h1, h2]), xq, xg, if_neg h3, if_pos h4, ez, ey, if_neg h6]; rfl) dX6_copy_115
          · have h4 := c_66
            refine G.aload_n (k := 0) rfl dX6_copy_69 ?_
            refine G.getr (j := 1) rfl gci_X6 (by decide) rfl fl_X6_12 dX6_copy_70 ?_
            refine G.iconst (v := 4) (by decide) dX6_copy_73 ?_
            refine G.callVif (c_X1_find) rfl (gci_X1).1 ml_X6_98 im_yX1_find se_yX1_find gcl_X1_find (by decide) rfl rfl (Nat.le_of_ble_eq_true rfl) dX6_copy_74 ?_
            exact G.iret rfl (by unfold sp_copy; rw [if_pos (by simp [h1, h2]), xq, xg, if_neg h3, if_neg h4]; rfl) dX6_copy_77
        · have h3 : σ 13 q = -1 ∨ σ 13 g = -1 := Or.inr (bo_n.mp c_38)
          refine G.aload_n (k := 0) rfl dX6_copy_41 ?_
          refine G.getr (j := 1) rfl gci_X6 (by decide) rfl fl_X6_12 dX6_copy_42 ?_
          refine G.iconst (v := 1) (by decide) dX6_copy_45 ?_
          refine G.callVif (c_X1_find) rfl (gci_X1).1 ml_X6_98 im_yX1_find se_yX1_find gcl_X1_find (by decide) rfl rfl (Nat.le_of_ble_eq_true rfl) dX6_copy_46 ?_
          exact G.iret rfl (by unfold sp_copy; rw [if_pos (by simp [h1, h2]), xq, xg, if_pos h3]; rfl) dX6_copy_49
    · have h2 := ou_t 4 (by decide) c_13
      refine G.bipush (v := (-2)) (by decide) dX6_copy_16 ?_
      exact G.iret rfl (by unfold sp_copy; rw [if_neg (by first | (simp [h1]; done) | simp [h1, h2])]) dX6_copy_18
end T23

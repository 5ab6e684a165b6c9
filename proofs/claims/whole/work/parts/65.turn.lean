/-! ===== THE TURN and the terms ===== -/
def sp_turn (ln B : Nat → Nat) (n w : Int32) : Int32 := if (inB n 6 && inB w 2) = true then (if w = 0 then nI (tn_im (ttA ln B) (ix n)) else nI (tn_src (ttA ln B) (ix n))) else -2
def itr (c n : Nat) : Nat → Nat
  | 0 => n
  | k + 1 => tn_im c (itr c n k)
theorem itr_lt {c n : Nat} (hP : tn_P c) (hn : n < 6) : ∀ k, itr c n k < 6 := by
  intro k
  induction k with
  | zero => exact hn
  | succ k ih => exact hP.2.1 _ ih
theorem fm60_lt (k : Int32) : ∃ z, z < 60 ∧ fm60 k = nI z := by
  have h := rem_toInt k 60
  rw [show (60 : Int32).toInt = 60 from by decide] at h
  have h1 : k.toInt.tmod 60 < 60 := Int.tmod_lt_of_pos _ (by decide)
  have h2 : -60 < k.toInt.tmod 60 := by
    rcases Int.le_total 0 k.toInt with q | q
    · have := Int.tmod_nonneg 60 q; omega
    · have e := Int.neg_tmod (-k.toInt) 60
      rw [Int.neg_neg] at e
      have := Int.tmod_lt_of_pos (-k.toInt) (show (0 : Int) < 60 by decide)
      omega
  refine inB_of (by decide) (inB_iff.mpr ?_)
  unfold fm60
  generalize k - k / 60 * 60 = y at h
  by_cases q : y < 0
  · rw [if_pos q]
    have q2 := Int32.lt_iff_toInt_lt.mp q
    rw [show (0 : Int32).toInt = 0 from by decide] at q2
    rw [Int32.toInt_add, show (60 : Int32).toInt = 60 from by decide, Int.bmod_eq_of_le (by omega) (by omega)]
    omega
  · rw [if_neg q]
    have q2 : ¬ y.toInt < 0 := fun z => q (Int32.lt_iff_toInt_lt.mpr z)
    omega
def sp_power (ln B : Nat → Nat) (n k : Int32) : Int32 := if inB n 6 = true then nI (itr (ttA ln B) (ix n) (ix (fm60 k))) else -2
def sp_rounds (ln B : Nat → Nat) (w : Int32) : Int32 := if w = 0 then nI (tn_or0 (ttA ln B)) else if w = 1 then (if tn_mn (ttA ln B) 6 % 2 = 0 then 1 else 0) else if w = 2 then nI (bc6 (tn_un (ttA ln B) tn_id)) - nI (tn_mn (ttA ln B) 6) else if w = 3 then nI (63 ^^^ tn_un (ttA ln B) tn_id) else -2
abbrev noPl (i : Int32) : Prop := i < -1 ∨ 60 ≤ i
def sp_shows (ln B : Nat → Nat) (i : Int32) : Int32 := if noPl i then -2 else lnT ((tn_by (ttA ln B) 6).take 60) i
def sp_term (ln B : Nat → Nat) (t w : Int32) : Int32 := if (inB t 8 && inB w 4) = true then (if wlA ln B (ix t) = true then (if w = 0 then nI (tsz B (30 * ix t)) else if w = 1 then nI (tdp B (30 * ix t)) else if w = 2 then nI (tlo B (30 * ix t)) else nI (tuk B (30 * ix t))) else 0) else -2
def sp_shown (ln B : Nat → Nat) (c : Nat) (t i : Int32) : Int32 := if inB t 8 = true ∧ ¬ noPl i then lnT (shT ln B (ix t) c) i else -2
def aQ (σ : gS) (ln B : Nat → Nat) (x : Int32) (r : Int32) (τ : gS) : Prop := r = x ∧ IX τ ln B ∧ qF σ τ
theorem in2 {w : Int32} (h : inB w 2 = true) : w = 0 ∨ w = 1 := by
  obtain ⟨k, hk, e⟩ := inB_of (by decide) h
  subst e
  have : k = 0 ∨ k = 1 := by omega
  rcases this with q | q <;> subst q
  · exact Or.inl rfl
  · exact Or.inr rfl
theorem in4w {w : Int32} (h : inB w 4 = true) : w = 0 ∨ w = 1 ∨ w = 2 ∨ w = 3 := by
  obtain ⟨k, hk, e⟩ := inB_of (by decide) h
  subst e
  have : k = 0 ∨ k = 1 ∨ k = 2 ∨ k = 3 := by omega
  rcases this with q | q | q | q <;> subst q
  · exact Or.inl rfl
  · exact Or.inr (Or.inl rfl)
  · exact Or.inr (Or.inr (Or.inl rfl))
  · exact Or.inr (Or.inr (Or.inr rfl))
theorem un63 : ∀ x, x < 64 → (nI x ^^^ (-1)) &&& 63 = nI (63 ^^^ x) := by decide +kernel
/-- a line's cells change; all else stays -/
theorem IX_ln3 {σ τ : gS} {ln B : Nat → Nat} {b : Nat} (hb : b = 30 ∨ b = 33 ∨ b = 36 ∨ b = 39) (h : ∀ k, k ≠ b → k ≠ b + 1 → k ≠ b + 2 → τ k = σ k) (hI : IX σ ln B)
    (h30 : b = 30 → cL τ 30 8 (fun t => shT ln B t tn_id)) (h33 : b = 33 → cL τ 33 8 (fun t => shT ln B t (ttA ln B))) (h36 : b = 36 → cL τ 36 6 (fun u => vaU ln B u)) (h39 : b = 39 → cL τ 39 1 (fun _ => (tn_by (ttA ln B) 6).take 60)) : IX τ ln B ∧ qF σ τ := by
  obtain ⟨a1, a2, a3, a4, a5, a6, a7, a8, a9⟩ := hI
  have r : ∀ k, k < 30 → τ k = σ k := fun k q => h k (by omega) (by omega) (by omega)
  have r' : ∀ k, 1 ≤ k → k ≤ 11 → τ k = σ k := fun k _ q => r k (by omega)
  refine ⟨⟨TX_F r' a1, fun t ht => FX_F r' (a2 t ht), cS_congr (by rw [r 0 (by decide)]) (fun k a q => r k (by omega)) a3, cW_congr (by rw [r 0 (by decide)]) (r 28 (by decide)) a4, ?_, ?_, ?_, ?_, fun u hu => by rw [r 29 (by decide)]; exact a9 u hu⟩, fun k hk => r k (by omega)⟩
  · by_cases e : b = 30
    · exact h30 e
    · exact cL_congr (fun _ _ => by rw [h 30 (by omega) (by omega) (by omega)]) (h 31 (by omega) (by omega) (by omega)) a5
  · by_cases e : b = 33
    · exact h33 e
    · exact cL_congr (fun _ _ => by rw [h 33 (by omega) (by omega) (by omega)]) (h 34 (by omega) (by omega) (by omega)) a6
  · by_cases e : b = 36
    · exact h36 e
    · exact cL_congr (fun _ _ => by rw [h 36 (by omega) (by omega) (by omega)]) (h 37 (by omega) (by omega) (by omega)) a7
  · by_cases e : b = 39
    · exact h39 e
    · exact cL_congr (fun _ _ => by rw [h 39 (by omega) (by omega) (by omega)]) (h 40 (by omega) (by omega) (by omega)) a8
theorem LnH_0 (σ : gS) (b : Nat) (x : Int32) : LnH (up2 (up2 σ b 2 x) b 1 0) b [] := ⟨up2_at _ _ _ _, by decide, fun i x h => by simp at h⟩
theorem up_nb {σ : gS} {b k : Nat} {x : Int32} (h : k ≠ b) : up2 (up2 σ b 2 x) b 1 0 k = σ k := by rw [up2_ne _ _ _ h, up2_ne _ _ _ h]
theorem up_h2 {σ : gS} {b : Nat} {x : Int32} : up2 (up2 σ b 2 x) b 1 0 b 2 = x := by
  rw [up2_same]
  show (if 2 = 1 then _ else up2 σ b 2 x b 2) = x
  rw [if_neg (by decide), up2_at]
theorem cL_hit {σ : gS} {b N t : Nat} {f : Nat → List Nat} (hN : N < 2 ^ 31) (ht : t < N) (h : cL σ b N f) (e : σ b 2 = nI t) : LnH σ b (f t) := by
  rcases h with q | ⟨s, hs, es, hL⟩
  · exact absurd (e.symm.trans q) (ne_m1 (by omega))
  · have : s = t := (nI_eq (by omega) (by omega)).mp (es.symm.trans e)
    rw [← this]; exact hL
section T65
variable {l : Launch} {D : va_G} {cA : ClassId} {ad : Nat → Nat}
variable {σ : gS}
set_option maxHeartbeats 4000000 in
set_option maxRecDepth 100000 in
theorem c_X6_turn {ln B : Nat → Nat} (h : IX σ ln B) {n w : Int32} : GM (XC l D cA ad) mX6_turn [.ref 0, .int n, .int w] σ (g_ri (fun r τ => r = sp_turn ln B n w ∧ τ = σ)) := by
  refine GM.of (ls := [some (.ref 0), some (.int n), some (.int w)]) (by decide) (Nat.le_of_ble_eq_true rfl) rfl ?_
  refine G.iload_n (k := 1) rfl dX6_turn_0 ?_
  refine G.bipush (v := 6) (by decide) dX6_turn_1 ?_
  refine G.callSif (c_X6_isOutside) ml_X6_72 ws_yX6_isOutside gcl_X6_isOutside (by decide) rfl rfl (Nat.le_of_ble_eq_true rfl) dX6_turn_3 ?_
  refine G.if_ne (tgt := 17) (by decide) dX6_turn_6 (fun c_6 => ?_) (fun c_6 => ?_)
  · have h1 := ou_t 6 (by decide) c_6
    refine G.bipush (v := (-2)) (by decide) dX6_turn_17 ?_
    exact G.iret rfl (by unfold sp_turn; rw [if_neg (by first | (simp [h1]; done) | simp [h1, h2])]; exact ⟨rfl, rfl⟩) dX6_turn_19
  · have h1 := ou_f 6 (by decide) c_6
    refine G.iload_n (k := 2) rfl dX6_turn_9 ?_
    refine G.iconst (v := 2) (by decide) dX6_turn_10 ?_
    refine G.callSif (c_X6_isOutside) ml_X6_72 ws_yX6_isOutside gcl_X6_isOutside (by decide) rfl rfl (Nat.le_of_ble_eq_true rfl) dX6_turn_11 ?_
    refine G.if_eq (tgt := 20) (by decide) dX6_turn_14 (fun c_14 => ?_) (fun c_14 => ?_)
    · have h2 := ou_f 2 (by decide) c_14
      obtain ⟨q, hq, eq⟩ := inB_of (by decide) h1
      subst eq
      have xq : ix (nI q) = q := ix_nI (by omega)
      have hP := IX_ttP h
      refine G.iload_n (k := 2) rfl dX6_turn_20 ?_
      refine G.if_ne (tgt := 38) (by decide) dX6_turn_21 (fun c_21 => ?_) (fun c_21 => ?_)
      · refine G.aload_n (k := 0) rfl dX6_turn_38 ?_
        refine G.getr (j := 0) rfl gci_X6 (by decide) rfl fl_X6_50 dX6_turn_39 ?_
        refine G.getiN (j := 10) rfl gci_X4 (by decide) rfl (fun _ h => h.1) dX6_turn_42 ?_
        rw [IX_tt h]
        refine G.iload_n (k := 1) rfl dX6_turn_45 ?_
        refine G.callSif (c_X5_source hP.1 hq) ml_X6_116 ws_yX5_source gcl_X5_source (by decide) rfl rfl (Nat.le_of_ble_eq_true rfl) dX6_turn_46 ?_
        exact G.iret rfl (by unfold sp_turn; rw [if_pos (by simp [h1, h2]), xq]; first | (rw [if_pos c_21]; exact ⟨rfl, rfl⟩) | (rw [if_neg c_21]; exact ⟨rfl, rfl⟩)) dX6_turn_49
      · refine G.aload_n (k := 0) rfl dX6_turn_24 ?_
        refine G.getr (j := 0) rfl gci_X6 (by decide) rfl fl_X6_50 dX6_turn_25 ?_
        refine G.getiN (j := 10) rfl gci_X4 (by decide) rfl (fun _ h => h.1) dX6_turn_28 ?_
        rw [IX_tt h]
        refine G.iload_n (k := 1) rfl dX6_turn_31 ?_
        refine G.callSif (c_X5_image hP.1 hq) ml_X6_111 ws_yX5_image gcl_X5_image (by decide) rfl rfl (Nat.le_of_ble_eq_true rfl) dX6_turn_32 ?_
        refine G.goto (tgt := 49) (by decide) dX6_turn_35 ?_
        exact G.iret rfl (by unfold sp_turn; rw [if_pos (by simp [h1, h2]), xq]; first | (rw [if_pos c_21]; exact ⟨rfl, rfl⟩) | (rw [if_neg c_21]; exact ⟨rfl, rfl⟩)) dX6_turn_49
    · have h2 := ou_t 2 (by decide) c_14
      refine G.bipush (v := (-2)) (by decide) dX6_turn_17 ?_
      exact G.iret rfl (by unfold sp_turn; rw [if_neg (by first | (simp [h1]; done) | simp [h1, h2])]; exact ⟨rfl, rfl⟩) dX6_turn_19
set_option maxHeartbeats 4000000 in
set_option maxRecDepth 100000 in
theorem l_X6_power {ln B : Nat → Nat} (h : IX σ ln B) {q z : Nat} {y2 : Int32} (hq : q < 6) (hz : z < 60) : ∀ j i, i + j = z → G (XC l D cA ad) mX6_power (g_ri (fun r τ => r = nI (itr (ttA ln B) q z) ∧ τ = σ)) 25 [some (.ref 0), some (.int (nI q)), some (.int y2), some (.int (nI z)), some (.int (nI (itr (ttA ln B) q i))), some (.int (nI i))] [] σ := by
  have hP := IX_ttP h
  intro j
  induction j with
  | zero =>
    intro i hi
    have hi2 : i = z := by omega
    subst hi2
    refine G.iload (i := 5) rfl dX6_power_25 ?_
    refine G.iload_n (k := 3) rfl dX6_power_27 ?_
    refine G.icmp_ge (tgt := 51) (by decide) dX6_power_28 (fun c_28 => ?_) (fun c_28 => absurd (Int32.le_refl _) c_28)
    refine G.iload (i := 4) rfl dX6_power_51 ?_
    exact G.iret rfl (⟨rfl, rfl⟩) dX6_power_53
  | succ j ih =>
    intro i hi
    refine G.iload (i := 5) rfl dX6_power_25 ?_
    refine G.iload_n (k := 3) rfl dX6_power_27 ?_
    refine G.icmp_ge (tgt := 51) (by decide) dX6_power_28 (fun c_28 => absurd c_28 (nI_ge (by omega) (by omega))) (fun c_28 => ?_)
    refine G.aload_n (k := 0) rfl dX6_power_31 ?_
    refine G.getr (j := 0) rfl gci_X6 (by decide) rfl fl_X6_50 dX6_power_32 ?_
    refine G.getiN (j := 10) rfl gci_X4 (by decide) rfl (fun _ h => h.1) dX6_power_35 ?_
    rw [IX_tt h]
    refine G.iload (i := 4) rfl dX6_power_38 ?_
    refine G.callSif (c_X5_image (n := itr (ttA ln B) q i) hP.1 (itr_lt hP hq i)) ml_X6_111 ws_yX5_image gcl_X5_image (by decide) rfl rfl (Nat.le_of_ble_eq_true rfl) dX6_power_40 ?_
    refine G.ist4 (by decide) rfl dX6_power_43 ?_
    refine G.inc5 (d := 1) (by decide) (by decide) rfl dX6_power_45 ?_
    refine G.goto (tgt := 25) (by decide) dX6_power_48 ?_
    rw [nI_1]
    exact ih (i + 1) (by omega)
set_option maxHeartbeats 4000000 in
set_option maxRecDepth 100000 in
theorem c_X6_power {ln B : Nat → Nat} (h : IX σ ln B) {n k : Int32} : GM (XC l D cA ad) mX6_power [.ref 0, .int n, .int k] σ (g_ri (fun r τ => r = sp_power ln B n k ∧ τ = σ)) := by
  refine GM.of (ls := [some (.ref 0), some (.int n), some (.int k), none, none, none]) (by decide) (Nat.le_of_ble_eq_true rfl) rfl ?_
  refine G.iload_n (k := 1) rfl dX6_power_0 ?_
  refine G.bipush (v := 6) (by decide) dX6_power_1 ?_
  refine G.callSif (c_X6_isOutside) ml_X6_72 ws_yX6_isOutside gcl_X6_isOutside (by decide) rfl rfl (Nat.le_of_ble_eq_true rfl) dX6_power_3 ?_
  refine G.if_eq (tgt := 12) (by decide) dX6_power_6 (fun c_6 => ?_) (fun c_6 => ?_)
  · have h1 := ou_f 6 (by decide) c_6
    obtain ⟨q, hq, eq⟩ := inB_of (by decide) h1
    subst eq
    have xq : ix (nI q) = q := ix_nI (by omega)
    obtain ⟨z, hz, ez⟩ := fm60_lt k
    refine G.iload_n (k := 2) rfl dX6_power_12 ?_
    refine G.bipush (v := 60) (by decide) dX6_power_13 ?_
    refine G.callSif (c_J9_floorMod_7cf53) ml_X6_119 ws_yJ9_floorMod_7cf53 gcl_J9_floorMod_7cf53 (by decide) rfl rfl (Nat.le_of_ble_eq_true rfl) dX6_power_15 ?_
    rw [ez]
    refine G.ist3 (by decide) rfl dX6_power_18 ?_
    refine G.iload_n (k := 1) rfl dX6_power_19 ?_
    refine G.ist4 (by decide) rfl dX6_power_20 ?_
    refine G.iconst (v := 0) (by decide) dX6_power_22 ?_
    refine G.ist5 (by decide) rfl dX6_power_23 ?_
    have key := l_X6_power (l := l) (D := D) (cA := cA) (ad := ad) h (y2 := k) hq hz z 0 (by omega)
    unfold sp_power
    rw [if_pos h1, xq, ez, ix_nI (show z < 2 ^ 31 by omega)]
    exact key
  · have h1 := ou_t 6 (by decide) c_6
    refine G.bipush (v := (-2)) (by decide) dX6_power_9 ?_
    exact G.iret rfl (by unfold sp_power; rw [if_neg (by simp [h1])]; exact ⟨rfl, rfl⟩) dX6_power_11
set_option maxHeartbeats 4000000 in
set_option maxRecDepth 100000 in
theorem c_X6_term {ln B : Nat → Nat} (h : IX σ ln B) {t w : Int32} : GM (XC l D cA ad) mX6_term [.ref 0, .int t, .int w] σ (g_ri (fun r τ => r = sp_term ln B t w ∧ τ = σ)) := by
  refine GM.of (ls := [some (.ref 0), some (.int t), some (.int w)]) (by decide) (Nat.le_of_ble_eq_true rfl) rfl ?_
  refine G.iload_n (k := 1) rfl dX6_term_0 ?_
  refine G.bipush (v := 8) (by decide) dX6_term_1 ?_
  refine G.callSif (c_X6_isOutside) ml_X6_72 ws_yX6_isOutside gcl_X6_isOutside (by decide) rfl rfl (Nat.le_of_ble_eq_true rfl) dX6_term_3 ?_
  refine G.if_ne (tgt := 17) (by decide) dX6_term_6 (fun c_6 => ?_) (fun c_6 => ?_)
  · have h1 := ou_t 8 (by decide) c_6
    refine G.bipush (v := (-2)) (by decide) dX6_term_17 ?_
    exact G.iret rfl (by unfold sp_term; rw [if_neg (by first | (simp [h1]; done) | simp [h1, h2])]; exact ⟨rfl, rfl⟩) dX6_term_19
  · have h1 := ou_f 8 (by decide) c_6
    refine G.iload_n (k := 2) rfl dX6_term_9 ?_
    refine G.iconst (v := 4) (by decide) dX6_term_10 ?_
    refine G.callSif (c_X6_isOutside) ml_X6_72 ws_yX6_isOutside gcl_X6_isOutside (by decide) rfl rfl (Nat.le_of_ble_eq_true rfl) dX6_term_11 ?_
    refine G.if_eq (tgt := 20) (by decide) dX6_term_14 (fun c_14 => ?_) (fun c_14 => ?_)
    · have h2 := ou_f 4 (by decide) c_14
      obtain ⟨q, hq, eq⟩ := inB_of (by decide) h1
      subst eq
      have xq : ix (nI q) = q := ix_nI (by omega)
      have e1 := IX_wl h hq
      refine G.aload_n (k := 0) rfl dX6_term_20 ?_
      refine G.getr (j := 0) rfl gci_X6 (by decide) rfl fl_X6_50 dX6_term_21 ?_
      refine G.iload_n (k := 1) rfl dX6_term_24 ?_
      refine G.callVif (c_X4_isWell (t := q) (by omega)) rfl (gci_X4).1 ml_X6_151 im_yX4_isWell se_yX4_isWell gcl_X4_isWell (by decide) rfl rfl (Nat.le_of_ble_eq_true rfl) dX6_term_25 ?_
      rw [e1]
      refine G.if_eq (tgt := 43) (by decide) dX6_term_28 (fun c_28 => ?_) (fun c_28 => ?_)
      · have hw := bo_0.mp c_28
        refine G.iconst (v := 0) (by decide) dX6_term_43 ?_
        exact G.iret rfl (by unfold sp_term; rw [if_pos (show (inB (nI q) 8 && inB w 4) = true by simp [h1, h2]), xq]; first | (rw [if_pos hw]; exact ⟨rfl, rfl⟩) | (rw [if_neg hw]; exact ⟨rfl, rfl⟩)) dX6_term_44
      · have hw := bo_n.mp c_28
        have hM := (h.2.1 q (by omega))
        rw [FX, if_pos hq] at hM
        have M := hM.2 (wlA_iff.mp hw) 0 (wlA_iff.mp hw).1
        rw [Nat.add_zero] at M
        refine G.aload_n (k := 0) rfl dX6_term_31 ?_
        refine G.getr (j := 0) rfl gci_X6 (by decide) rfl fl_X6_50 dX6_term_32 ?_
        refine G.iload_n (k := 1) rfl dX6_term_35 ?_
        refine G.iload_n (k := 2) rfl dX6_term_36 ?_
        refine G.callVif (c_X4_measureOf hq (in4w h2)) rfl (gci_X4).1 ml_X6_154 im_yX4_measureOf se_yX4_measureOf gcl_X4_measureOf (by decide) rfl rfl (Nat.le_of_ble_eq_true rfl) dX6_term_37 ?_
        rw [M.2.1, M.2.2.1, M.2.2.2.1, M.2.2.2.2]
        refine G.goto (tgt := 44) (by decide) dX6_term_40 ?_
        exact G.iret rfl (by unfold sp_term; rw [if_pos (show (inB (nI q) 8 && inB w 4) = true by simp [h1, h2]), xq]; first | (rw [if_pos hw]; exact ⟨rfl, rfl⟩) | (rw [if_neg hw]; exact ⟨rfl, rfl⟩)) dX6_term_44
    · have h2 := ou_t 4 (by decide) c_14
      refine G.bipush (v := (-2)) (by decide) dX6_term_17 ?_
      exact G.iret rfl (by unfold sp_term; rw [if_neg (by first | (simp [h1]; done) | simp [h1, h2])]; exact ⟨rfl, rfl⟩) dX6_term_19
set_option maxHeartbeats 4000000 in
set_option maxRecDepth 100000 in
theorem c_X6_rounds {ln B : Nat → Nat} (h : IX σ ln B) {w : Int32} : GM (XC l D cA ad) mX6_rounds [.ref 0, .int w] σ (g_ri (fun r τ => r = sp_rounds ln B w ∧ τ = σ)) := by
  refine GM.of (ls := [some (.ref 0), some (.int w), none, none]) (by decide) (Nat.le_of_ble_eq_true rfl) rfl ?_
  have hP := IX_ttP h
  refine G.aload_n (k := 0) rfl dX6_rounds_0 ?_
  refine G.getr (j := 0) rfl gci_X6 (by decide) rfl fl_X6_50 dX6_rounds_1 ?_
  refine G.getiN (j := 10) rfl gci_X4 (by decide) rfl (fun _ h => h.1) dX6_rounds_4 ?_
  rw [IX_tt h]
  refine G.ist2 (by decide) rfl dX6_rounds_7 ?_
  refine G.iload_n (k := 2) rfl dX6_rounds_8 ?_
  refine G.ldc ct_X6_124 dX6_rounds_9 ?_
  refine G.callSif (c_X5_unlike (d := tn_id) hP.1 (by decide)) ml_X6_125 ws_yX5_unlike gcl_X5_unlike (by decide) rfl rfl (Nat.le_of_ble_eq_true rfl) dX6_rounds_11 ?_
  refine G.ist3 (by decide) rfl dX6_rounds_14 ?_
  refine G.iload_n (k := 1) rfl dX6_rounds_15 ?_
  by_cases hw : inB w 4 = true
  · rcases in4w hw with e | e | e | e
    · subst e
      refine G.tableIn (tgt := 48) dX6_rounds_16 (by decide) (by decide) rfl (by decide) ?_
      refine G.iload_n (k := 2) rfl dX6_rounds_48 ?_
      refine G.callSif (c_X5_order hP) ml_X6_128 ws_yX5_order gcl_X5_order (by decide) rfl rfl (Nat.le_of_ble_eq_true rfl) dX6_rounds_49 ?_
      exact G.iret rfl (by unfold sp_rounds; rw [if_pos rfl]; exact ⟨rfl, rfl⟩) dX6_rounds_52
    · subst e
      refine G.tableIn (tgt := 53) dX6_rounds_16 (by decide) (by decide) rfl (by decide) ?_
      refine G.iload_n (k := 2) rfl dX6_rounds_53 ?_
      refine G.callSif (c_X5_swaps hP) ml_X6_131 ws_yX5_swaps gcl_X5_swaps (by decide) rfl rfl (Nat.le_of_ble_eq_true rfl) dX6_rounds_54 ?_
      refine G.iconst (v := 2) (by decide) dX6_rounds_57 ?_
      refine G.irem (by decide) dX6_rounds_58 ?_
      rw [nu_rem2 (show tn_mn (ttA ln B) 6 < 2 ^ 31 by have := tn_mn_le (ttA ln B) 6; omega)]
      refine G.if_ne (tgt := 66) (by decide) dX6_rounds_59 (fun c_59 => ?_) (fun c_59 => ?_)
      · have hr : ¬ tn_mn (ttA ln B) 6 % 2 = 0 := fun e => c_59 (by rw [e]; rfl)
        refine G.iconst (v := 0) (by decide) dX6_rounds_66 ?_
        exact G.iret rfl (by unfold sp_rounds; rw [if_neg (by decide), if_pos rfl]; first | (rw [if_pos hr]; exact ⟨rfl, rfl⟩) | (rw [if_neg hr]; exact ⟨rfl, rfl⟩)) dX6_rounds_67
      · have hr : tn_mn (ttA ln B) 6 % 2 = 0 := (nI_eq (show tn_mn (ttA ln B) 6 % 2 < 2 ^ 31 by omega) (show 0 < 2 ^ 31 by decide)).mp c_59
        refine G.iconst (v := 1) (by decide) dX6_rounds_62 ?_
        refine G.goto (tgt := 67) (by decide) dX6_rounds_63 ?_
        exact G.iret rfl (by unfold sp_rounds; rw [if_neg (by decide), if_pos rfl]; first | (rw [if_pos hr]; exact ⟨rfl, rfl⟩) | (rw [if_neg hr]; exact ⟨rfl, rfl⟩)) dX6_rounds_67
    · subst e
      refine G.tableIn (tgt := 68) dX6_rounds_16 (by decide) (by decide) rfl (by decide) ?_
      refine G.iload_n (k := 3) rfl dX6_rounds_68 ?_
      refine G.callSif (c_J6_bitCount_0f7a4 (ms_lt _)) ml_X6_134 ws_yJ6_bitCount_0f7a4 gcl_J6_bitCount_0f7a4 (by decide) rfl rfl (Nat.le_of_ble_eq_true rfl) dX6_rounds_69 ?_
      refine G.iload_n (k := 2) rfl dX6_rounds_72 ?_
      refine G.callSif (c_X5_swaps hP) ml_X6_131 ws_yX5_swaps gcl_X5_swaps (by decide) rfl rfl (Nat.le_of_ble_eq_true rfl) dX6_rounds_73 ?_
      refine G.isub dX6_rounds_76 ?_
      exact G.iret rfl (by unfold sp_rounds; rw [if_neg (by decide), if_neg (by decide), if_pos rfl]; exact ⟨rfl, rfl⟩) dX6_rounds_77
    · subst e
      refine G.tableIn (tgt := 78) dX6_rounds_16 (by decide) (by decide) rfl (by decide) ?_
      refine G.iload_n (k := 3) rfl dX6_rounds_78 ?_
      refine G.iconst (v := (-1)) (by decide) dX6_rounds_79 ?_
      refine G.ixor dX6_rounds_80 ?_
      refine G.bipush (v := 63) (by decide) dX6_rounds_81 ?_
      refine G.iand dX6_rounds_83 ?_
      rw [un63 (tn_un (ttA ln B) tn_id) (ms_lt _)]
      exact G.iret rfl (by unfold sp_rounds; rw [if_neg (by decide), if_neg (by decide), if_neg (by decide), if_pos rfl]; exact ⟨rfl, rfl⟩) dX6_rounds_84
  · have hb : w.toInt < 0 ∨ 3 < w.toInt := by rw [inB_iff] at hw; omega
    have hn : ¬ w = 0 ∧ ¬ w = 1 ∧ ¬ w = 2 ∧ ¬ w = 3 := ⟨fun e => by subst e; exact absurd hb (by decide), fun e => by subst e; exact absurd hb (by decide), fun e => by subst e; exact absurd hb (by decide), fun e => by subst e; exact absurd hb (by decide)⟩
    refine G.tableOut (tgt := 85) dX6_rounds_16 hb (by decide) ?_
    refine G.bipush (v := (-2)) (by decide) dX6_rounds_85 ?_
    exact G.iret rfl (by unfold sp_rounds; rw [if_neg hn.1, if_neg hn.2.1, if_neg hn.2.2.1, if_neg hn.2.2.2]; exact ⟨rfl, rfl⟩) dX6_rounds_87
end T65

/-! ===== reading a sheet into a text ===== -/
def rdS (f : Nat → Int32) (t : Nat) : Nat → Nat → (Nat → Nat) → (Nat → Nat) → Nat × (Nat → Nat) × (Nat → Nat)
  | 0, i, ln, B => (i, ln, B)
  | j + 1, i, ln, B => if inB (f i) 256 = true ∧ ln t < tcap t then rdS f t j (i + 1) (apL ln t (ln t + 1)) (apB B (30 * t + ln t) (ix (f i))) else (i, ln, B)
theorem IX_F {σ τ : gS} {ln B : Nat → Nat} (h : ∀ k, k < 12 ∨ 15 < k → τ k = σ k) (hI : IX σ ln B) : IX τ ln B := by
  obtain ⟨a1, a2, a3, a4, a5, a6, a7, a8, a9⟩ := hI
  have r : ∀ k, 1 ≤ k → k ≤ 11 → τ k = σ k := fun k _ b => h k (by omega)
  exact ⟨TX_F r a1, fun t ht => FX_F r (a2 t ht), cS_congr (by rw [h 0 (by decide)]) (fun k a _ => h k (by omega)) a3, cW_congr (by rw [h 0 (by decide)]) (h 28 (by decide)) a4, cL_congr (fun _ _ => by rw [h 30 (by decide)]) (h 31 (by decide)) a5, cL_congr (fun _ _ => by rw [h 33 (by decide)]) (h 34 (by decide)) a6, cL_congr (fun _ _ => by rw [h 36 (by decide)]) (h 37 (by decide)) a7, cL_congr (fun _ _ => by rw [h 39 (by decide)]) (h 40 (by decide)) a8, fun u hu => by rw [h 29 (by decide)]; exact a9 u hu⟩
theorem shF_ap {σ0 σ : gS} {t n b : Nat} (h : shF σ0 σ) : shF σ0 (apS σ t n b) := fun k a c => by show up2 (up2 (up2 σ 2 (30 * t + n) (nI b)) 3 (30 * t + n) (nI (kd b))) 4 t (nI (n + 1)) k = σ0 k; rw [up2_ne _ _ _ (by omega), up2_ne _ _ _ (by omega), up2_ne _ _ _ (by omega)]; exact h k a c
def rdP (σ : gS) (ln B : Nat → Nat) (t s : Int32) (r : Int32) (τ : gS) : Prop := if (inB t 10 && inB s 4) = true then (if σ 13 (ix s) = -1 then r = -11 ∧ τ = up2 σ 12 3 1 else aP σ (nI (rdS (fun i => σ 15 (60 * ix s + i)) (ix t) (ix (σ 14 (ix s))) 0 ln B).1, (rdS (fun i => σ 15 (60 * ix s + i)) (ix t) (ix (σ 14 (ix s))) 0 ln B).2) r τ) else r = -2 ∧ τ = σ
section T64
variable {l : Launch} {D : va_G} {cA : ClassId} {ad : Nat → Nat}
variable {σ σ0 : gS}
set_option maxHeartbeats 4000000 in
set_option maxRecDepth 100000 in
theorem e_X6_read {ln B : Nat → Nat} {q g z i : Nat} {y5 y6 : Option Value} (hq : q < 10) (h : IT σ ln B q) (hs : shF σ0 σ) : G (XC l D cA ad) mX6_read (g_ri (aP σ0 (nI i, ln, B))) 109 [some (.ref 0), some (.int (nI q)), some (.int (nI g)), some (.int (nI z)), some (.int (nI i)), y5, y6] [] σ := by
  refine G.aload_n (k := 0) rfl dX6_read_109 ?_
  refine G.iload_n (k := 1) rfl dX6_read_110 ?_
  refine G.callVv (c_X6_noteChange hq h) rfl (gci_X6).1 ml_X6_79 im_yX6_noteChange se_yX6_noteChange gcl_X6_noteChange (by decide) rfl rfl (Nat.le_of_ble_eq_true rfl) dX6_read_111 (fun υ hu => ?_)
  refine G.iload (i := 4) rfl dX6_read_114 ?_
  exact G.iret rfl (⟨rfl, hu.1, shF_tr hs hu.2.1⟩) dX6_read_116
set_option maxHeartbeats 4000000 in
set_option maxRecDepth 100000 in
theorem l_X6_read {f : Nat → Int32} {q g z : Nat} (hq : q < 10) (hg : g < 4) (hz : z ≤ 60) : ∀ j i (ln B : Nat → Nat) (σ : gS) (y6 : Option Value), i + j = z → IT σ ln B q → shF σ0 σ → σ0 14 g = nI z → (∀ i, σ0 15 (60 * g + i) = f i) → G (XC l D cA ad) mX6_read (g_ri (aP σ0 (nI (rdS f q j i ln B).1, (rdS f q j i ln B).2))) 55 [some (.ref 0), some (.int (nI q)), some (.int (nI g)), some (.int (nI z)), some (.int (nI i)), some (.int (nI i)), y6] [] σ := by
  intro j
  induction j with
  | zero =>
    intro i ln B σ y6 hi h hs e14 hf
    have hi2 : i = z := by omega
    subst hi2
    refine G.iload (i := 5) rfl dX6_read_55 ?_
    refine G.iload_n (k := 3) rfl dX6_read_57 ?_
    refine G.icmp_ge (tgt := 109) (by decide) dX6_read_58 (fun c_58 => ?_) (fun c_58 => absurd (Int32.le_refl _) c_58)
    exact e_X6_read hq h hs
  | succ j ih =>
    intro i ln B σ y6 hi h hs e14 hf
    have e14' : σ 14 g = nI z := by rw [hs 14 (by decide) (by decide)]; exact e14
    have ef : σ 15 (60 * g + i) = f i := by rw [hs 15 (by decide) (by decide)]; exact hf i
    have hlq := h.1 q hq
    rw [rdS]
    refine G.iload (i := 5) rfl dX6_read_55 ?_
    refine G.iload_n (k := 3) rfl dX6_read_57 ?_
    refine G.icmp_ge (tgt := 109) (by decide) dX6_read_58 (fun c_58 => absurd c_58 (nI_ge (by omega) (by omega))) (fun c_58 => ?_)
    refine G.aload_n (k := 0) rfl dX6_read_61 ?_
    refine G.getr (j := 1) rfl gci_X6 (by decide) rfl fl_X6_12 dX6_read_62 ?_
    refine G.iload_n (k := 2) rfl dX6_read_65 ?_
    refine G.iload (i := 5) rfl dX6_read_66 ?_
    refine G.callVif (c_X1_item hg hz e14' (i := i) (by omega)) rfl (gci_X1).1 ml_X6_104 im_yX1_item se_yX1_item gcl_X1_item (by decide) rfl rfl (Nat.le_of_ble_eq_true rfl) dX6_read_68 ?_
    rw [ef]
    refine G.ist6 (by decide) rfl dX6_read_71 ?_
    refine G.iload (i := 6) rfl dX6_read_73 ?_
    refine G.sipush (v := 256) (by decide) dX6_read_75 ?_
    refine G.callSif (c_X6_isOutside) ml_X6_72 ws_yX6_isOutside gcl_X6_isOutside (by decide) rfl rfl (Nat.le_of_ble_eq_true rfl) dX6_read_78 ?_
    refine G.if_ne (tgt := 109) (by decide) dX6_read_81 (fun c_81 => ?_) (fun c_81 => ?_)
    · have h2 := ou_t 256 (by decide) c_81
      rw [if_neg (by simp [h2])]
      exact e_X6_read hq h hs
    · have h2 := ou_f 256 (by decide) c_81
      refine G.aload_n (k := 0) rfl dX6_read_84 ?_
      refine G.getr (j := 0) rfl gci_X6 (by decide) rfl fl_X6_50 dX6_read_85 ?_
      refine G.iload_n (k := 1) rfl dX6_read_88 ?_
      refine G.iload (i := 6) rfl dX6_read_89 ?_
      obtain ⟨x, hx, ex⟩ := inB_of (by decide) h2
      have xx : ix (f i) = x := by rw [ex]; exact ix_nI (by omega)
      rw [ex]
      refine G.callVi (c_X4_append hq hlq.2.1 hlq.1 hx) rfl (gci_X4).1 ml_X6_76 im_yX4_append se_yX4_append gcl_X4_append (by decide) rfl rfl (Nat.le_of_ble_eq_true rfl) dX6_read_91 (fun r τ hr => ?_)
      by_cases hn : ln q < tcap q
      · rw [if_pos hn] at hr
        obtain ⟨e1, e2⟩ := Prod.mk.inj hr
        subst e1 e2
        refine G.if_ne (tgt := 100) (by decide) dX6_read_94 (fun c_94 => ?_) (fun c_94 => absurd c_94 (by decide))
        refine G.inc4 (d := 1) (by decide) (by decide) rfl dX6_read_100 ?_
        refine G.inc5 (d := 1) (by decide) (by decide) rfl dX6_read_103 ?_
        refine G.goto (tgt := 55) (by decide) dX6_read_106 ?_
        rw [nI_1, if_pos ⟨inB_nI (by decide) hx, hn⟩, show ix (nI x) = x from ix_nI (by omega)]
        exact ih (i + 1) _ _ _ _ (by omega) (IT_ap h hq hn hx) (shF_ap hs) e14 hf
      · rw [if_neg hn] at hr
        obtain ⟨e1, e2⟩ := Prod.mk.inj hr
        subst e1
        rw [e2]
        refine G.if_ne (tgt := 100) (by decide) dX6_read_94 (fun c_94 => absurd rfl c_94) (fun c_94 => ?_)
        refine G.goto (tgt := 109) (by decide) dX6_read_97 ?_
        rw [if_neg (by simp [hn])]
        exact e_X6_read hq h hs
set_option maxHeartbeats 4000000 in
set_option maxRecDepth 100000 in
theorem c_X6_read {ln B : Nat → Nat} {t s : Int32} (h : IX σ ln B) (hS : shI 13 14 σ) : GM (XC l D cA ad) mX6_read [.ref 0, .int t, .int s] σ (g_ri (rdP σ ln B t s)) := by
  refine GM.of (ls := [some (.ref 0), some (.int t), some (.int s), none, none, none, none]) (by decide) (Nat.le_of_ble_eq_true rfl) rfl ?_
  refine G.iload_n (k := 1) rfl dX6_read_0 ?_
  refine G.bipush (v := 10) (by decide) dX6_read_1 ?_
  refine G.callSif (c_X6_isOutside) ml_X6_72 ws_yX6_isOutside gcl_X6_isOutside (by decide) rfl rfl (Nat.le_of_ble_eq_true rfl) dX6_read_3 ?_
  refine G.if_ne (tgt := 17) (by decide) dX6_read_6 (fun c_6 => ?_) (fun c_6 => ?_)
  · have h1 := ou_t 10 (by decide) c_6
    refine G.bipush (v := (-2)) (by decide) dX6_read_17 ?_
    exact G.iret rfl (by unfold rdP; rw [if_neg (by first | (simp [h1]; done) | simp [h1, h2])]; exact ⟨rfl, rfl⟩) dX6_read_19
  · have h1 := ou_f 10 (by decide) c_6
    refine G.iload_n (k := 2) rfl dX6_read_9 ?_
    refine G.iconst (v := 4) (by decide) dX6_read_10 ?_
    refine G.callSif (c_X6_isOutside) ml_X6_72 ws_yX6_isOutside gcl_X6_isOutside (by decide) rfl rfl (Nat.le_of_ble_eq_true rfl) dX6_read_11 ?_
    refine G.if_eq (tgt := 20) (by decide) dX6_read_14 (fun c_14 => ?_) (fun c_14 => ?_)
    · have h2 := ou_f 4 (by decide) c_14
      obtain ⟨q, hq, eq⟩ := inB_of (by decide) h1
      subst eq
      have xq : ix (nI q) = q := ix_nI (by omega)
      obtain ⟨g, hg, eg⟩ := inB_of (by decide) h2
      subst eg
      have xg : ix (nI g) = g := ix_nI (by omega)
      obtain ⟨hfm, z, hz, ez⟩ := hS g hg
      refine G.aload_n (k := 0) rfl dX6_read_20 ?_
      refine G.getr (j := 1) rfl gci_X6 (by decide) rfl fl_X6_12 dX6_read_21 ?_
      refine G.iload_n (k := 2) rfl dX6_read_24 ?_
      refine G.callVif (c_X1_isLost hg) rfl (gci_X1).1 ml_X6_94 im_yX1_isLost se_yX1_isLost gcl_X1_isLost (by decide) rfl rfl (Nat.le_of_ble_eq_true rfl) dX6_read_25 ?_
      refine G.if_eq (tgt := 40) (by decide) dX6_read_28 (fun c_28 => ?_) (fun c_28 => ?_)
      · have h3 := bo_0.mp c_28
        refine G.aload_n (k := 0) rfl dX6_read_40 ?_
        refine G.getr (j := 1) rfl gci_X6 (by decide) rfl fl_X6_12 dX6_read_41 ?_
        refine G.iload_n (k := 2) rfl dX6_read_44 ?_
        refine G.callVif (c_X1_sizeOf hg) rfl (gci_X1).1 ml_X6_101 im_yX1_sizeOf se_yX1_sizeOf gcl_X1_sizeOf (by decide) rfl rfl (Nat.le_of_ble_eq_true rfl) dX6_read_45 ?_
        rw [ez]
        refine G.ist3 (by decide) rfl dX6_read_48 ?_
        refine G.iconst (v := 0) (by decide) dX6_read_49 ?_
        refine G.ist4 (by decide) rfl dX6_read_50 ?_
        refine G.iconst (v := 0) (by decide) dX6_read_52 ?_
        refine G.ist5 (by decide) rfl dX6_read_53 ?_
        have key := l_X6_read (l := l) (D := D) (cA := cA) (ad := ad) (σ0 := σ) (f := fun i => σ 15 (60 * g + i)) hq hg hz z 0 ln B σ none (by omega) (IX_IT h q) (shF_rf σ) ez (fun _ => rfl)
        have eQ : rdP σ ln B (nI q) (nI g) = aP σ (nI (rdS (fun i => σ 15 (60 * g + i)) q z 0 ln B).1, (rdS (fun i => σ 15 (60 * g + i)) q z 0 ln B).2) := by
          funext r τ
          unfold rdP
          rw [if_pos (by simp [h1, h2]), xg, if_neg h3, xq, ez, ix_nI (show z < 2 ^ 31 by omega)]
        rw [eQ]
        exact key
      · have h3 := bo_n.mp c_28
        refine G.aload_n (k := 0) rfl dX6_read_31 ?_
        refine G.getr (j := 1) rfl gci_X6 (by decide) rfl fl_X6_12 dX6_read_32 ?_
        refine G.iconst (v := 1) (by decide) dX6_read_35 ?_
        refine G.callVif (c_X1_find) rfl (gci_X1).1 ml_X6_98 im_yX1_find se_yX1_find gcl_X1_find (by decide) rfl rfl (Nat.le_of_ble_eq_true rfl) dX6_read_36 ?_
        exact G.iret rfl (by unfold rdP; rw [if_pos (by simp [h1, h2]), xg, if_pos h3]; exact ⟨by decide, rfl⟩) dX6_read_39
    · have h2 := ou_t 4 (by decide) c_14
      refine G.bipush (v := (-2)) (by decide) dX6_read_17 ?_
      exact G.iret rfl (by unfold rdP; rw [if_neg (by first | (simp [h1]; done) | simp [h1, h2])]; exact ⟨rfl, rfl⟩) dX6_read_19
end T64

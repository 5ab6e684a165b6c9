/-! ===== the model: spare, write, count ===== -/
def DI (σ0 σ : gS) (ln B : Nat → Nat) : Prop := TM σ ln B ∧ MR σ ln B ∧ mQ σ0 σ
theorem DI_v {σ0 σ τ : gS} {ln B : Nat → Nat} (h : DI σ0 σ ln B) (hF : vF σ τ) : DI σ0 τ ln B := ⟨(vF_M hF h.1 h.2.1).1, (vF_M hF h.1 h.2.1).2, mQ_tr h.2.2 (vF_Q hF)⟩
theorem DI_rd {σ0 σ τ : gS} {ln B : Nat → Nat} {t : Nat} (h : DI σ0 σ ln B) (hr : rd1 σ τ ln B t) : DI σ0 τ ln B := ⟨TM_rd hr.1 h.1, fun s hs => if e : s = t then (by rw [e]; exact hr.2.1) else hr.2.2 s hs e (h.2.1 s hs), mQ_tr h.2.2 (rdF_Q hr.1)⟩
noncomputable def wrN (σ : gS) (ln B : Nat → Nat) (u s : Int32) : Nat := min (vaU ln B (ix u)).length (ix (σ 2 (ix s)))
noncomputable def wrPM (σ : gS) (ln B : Nat → Nat) (u s : Int32) (r : Int32) (τ : gS) : Prop := if (inB u 6 && inB s 4) = true then (if σ 1 (ix s) = -1 then r = -11 ∧ τ = up2 σ 0 4 1 else r = nI (wrN σ ln B u s) ∧ TM τ ln B ∧ τ 0 4 = σ 0 4 ∧ τ 1 = σ 1 ∧ τ 2 = σ 2 ∧ τ 3 = wrS (σ 3) (60 * ix s) (σ 1 (ix s)) (vaU ln B (ix u)) (wrN σ ln B u s)) else r = -2 ∧ τ = σ
section TA2
variable {l : Launch} {D : va_G} {cA : ClassId} {ad : Nat → Nat}
variable {σ σ0 : gS}
set_option maxHeartbeats 4000000 in
set_option maxRecDepth 100000 in
theorem l_X7_spareNow {ln B : Nat → Nat} {R : Int32} (hT : TM σ0 ln B) (hM : MR σ0 ln B) : ∀ j i (σ : gS), i + j = 4 → vF σ0 σ → R = spr ln B j i → G (XM l D cA ad) mX7_spareNow (g_ri (fun r τ => r = R ∧ vF σ0 τ)) 17 [some (.ref 0), some (.int (nI i))] [] σ := by
  intro j
  induction j with
  | zero =>
    intro i σ hj hF hR
    have hi : i = 4 := by omega
    subst hi
    rw [spr] at hR
    refine G.iload_n (k := 1) rfl dX7_spareNow_17 ?_
    refine G.iconst (v := 4) (by decide) dX7_spareNow_18 ?_
    refine G.icmp_ge (tgt := 43) (by decide) dX7_spareNow_19 (fun c_19 => ?_) (fun c_19 => absurd (by decide) c_19)
    refine G.iconst (v := (-1)) (by decide) dX7_spareNow_43 ?_
    exact G.iret rfl (⟨hR.symm, hF⟩) dX7_spareNow_44
  | succ j ih =>
    intro i σ hj hF hR
    rw [spr] at hR
    obtain ⟨hT2, hM2⟩ := vF_M hF hT hM
    refine G.iload_n (k := 1) rfl dX7_spareNow_17 ?_
    refine G.iconst (v := 4) (by decide) dX7_spareNow_18 ?_
    refine G.icmp_ge (tgt := 43) (by decide) dX7_spareNow_19 (fun c_19 => absurd c_19 (nI_ge (b := 4) (by omega) (by decide))) (fun c_19 => ?_)
    refine G.aload_n (k := 0) rfl dX7_spareNow_22 ?_
    refine G.iconst (v := 0) (by decide) dX7_spareNow_23 ?_
    refine G.iload_n (k := 1) rfl dX7_spareNow_24 ?_
    refine G.callVv (c_X7_solving (wm := 15 - 2 ^ i) (k := 0) hT2 hM2 (bt_e i (by omega)) (by decide)) rfl (gci_X7).1 ml_X7_354 im_yX7_solving se_yX7_solving gcl_X7_solving (by decide) rfl rfl (Nat.le_of_ble_eq_true rfl) dX7_spareNow_25 (fun τ hq => ?_)
    have hG := usM_G hT2 0 (15 - 2 ^ i)
    refine G.aload_n (k := 0) rfl dX7_spareNow_28 ?_
    refine G.geti (j := 32) rfl gci_X7 (by decide) rfl fl_X7_335 dX7_spareNow_29 ?_
    refine G.if_ne (tgt := 37) (by decide) dX7_spareNow_32 (fun c_32 => ?_) (fun c_32 => ?_)
    · have hy : ¬ uwhy B (usol ln B 0 (15 - 2 ^ i)) = 0 := fun e => c_32 ((uw_0 hG hq.1).mpr e)
      rw [if_neg hy] at hR
      refine G.inc1 (d := 1) (by decide) (by decide) rfl dX7_spareNow_37 ?_
      refine G.goto (tgt := 17) (by decide) dX7_spareNow_40 ?_
      rw [nI_1]
      exact ih (i + 1) _ (by omega) (vF_tr hF (gF_v hq.2)) hR
    · have hy : uwhy B (usol ln B 0 (15 - 2 ^ i)) = 0 := (uw_0 hG hq.1).mp c_32
      rw [if_pos hy] at hR
      refine G.iload_n (k := 1) rfl dX7_spareNow_35 ?_
      exact G.iret rfl (⟨hR.symm, vF_tr hF (gF_v hq.2)⟩) dX7_spareNow_36
set_option maxHeartbeats 4000000 in
set_option maxRecDepth 100000 in
theorem c_X7_spareNow {ln B : Nat → Nat} (hT : TM σ ln B) (hM : MR σ ln B) : GM (XM l D cA ad) mX7_spareNow [.ref 0] σ (g_ri (fun r τ => r = sp_spare ln B ∧ vF σ τ)) := by
  refine GM.of (ls := [some (.ref 0), none]) (by decide) (Nat.le_of_ble_eq_true rfl) rfl ?_
  refine G.aload_n (k := 0) rfl dX7_spareNow_0 ?_
  refine G.iconst (v := 0) (by decide) dX7_spareNow_1 ?_
  refine G.iconst (v := (-1)) (by decide) dX7_spareNow_2 ?_
  refine G.callVv (c_X7_solving (wm := 15) (k := 0) hT hM bt15 (by decide)) rfl (gci_X7).1 ml_X7_354 im_yX7_solving se_yX7_solving gcl_X7_solving (by decide) rfl rfl (Nat.le_of_ble_eq_true rfl) dX7_spareNow_3 (fun τ hq => ?_)
  have hG := usM_G hT 0 15
  refine G.aload_n (k := 0) rfl dX7_spareNow_6 ?_
  refine G.geti (j := 32) rfl gci_X7 (by decide) rfl fl_X7_335 dX7_spareNow_7 ?_
  refine G.if_ne (tgt := 15) (by decide) dX7_spareNow_10 (fun c_10 => ?_) (fun c_10 => ?_)
  · have hy : ¬ uwhy B (usol ln B 0 15) = 0 := fun e => c_10 ((uw_0 hG hq.1).mpr e)
    refine G.iconst (v := 0) (by decide) dX7_spareNow_15 ?_
    refine G.ist1 (by decide) rfl dX7_spareNow_16 ?_
    exact l_X7_spareNow hT hM 4 0 τ rfl (gF_v hq.2) (by unfold sp_spare; rw [if_neg hy])
  · have hy : uwhy B (usol ln B 0 15) = 0 := (uw_0 hG hq.1).mp c_10
    refine G.iconst (v := (-1)) (by decide) dX7_spareNow_13 ?_
    exact G.iret rfl (⟨by unfold sp_spare; rw [if_pos hy], gF_v hq.2⟩) dX7_spareNow_14
set_option maxHeartbeats 4000000 in
set_option maxRecDepth 100000 in
theorem c_X7_spare {ln B : Nat → Nat} (hT : TM σ ln B) : GM (XM l D cA ad) mX7_spare [.ref 0] σ (g_ri (fun r τ => r = sp_spare ln B ∧ mQ σ τ)) := by
  refine GM.of (ls := [some (.ref 0)]) (by decide) (Nat.le_of_ble_eq_true rfl) rfl ?_
  refine G.aload_n (k := 0) rfl dX7_spare_0 ?_
  refine G.callVv (c_X7_readsAll hT) rfl (gci_X7).1 ml_X7_271 im_yX7_readsAll se_yX7_readsAll gcl_X7_readsAll (by decide) rfl rfl (Nat.le_of_ble_eq_true rfl) dX7_spare_1 (fun τ hr => ?_)
  have hT1 := TM_rd hr.1 hT
  refine G.aload_n (k := 0) rfl dX7_spare_4 ?_
  refine G.callVi (c_X7_spareNow hT1 hr.2) rfl (gci_X7).1 ml_X7_377 im_yX7_spareNow se_yX7_spareNow gcl_X7_spareNow (by decide) rfl rfl (Nat.le_of_ble_eq_true rfl) dX7_spare_5 (fun r τ2 hq2 => ?_)
  exact G.iret rfl (⟨hq2.1, mQ_tr (rdF_Q hr.1) (vF_Q hq2.2)⟩) dX7_spare_8
set_option maxHeartbeats 4000000 in
set_option maxRecDepth 100000 in
theorem c_X7_count {ln B : Nat → Nat} {w : Int32} (hT : TM σ ln B) : GM (XM l D cA ad) mX7_count [.ref 0, .int w] σ (g_ri (fun r τ => r = sp_count ln B (σ 0 4) w ∧ DI σ τ ln B)) := by
  refine GM.of (ls := [some (.ref 0), some (.int w)]) (by decide) (Nat.le_of_ble_eq_true rfl) rfl ?_
  by_cases h : inB w 9 = true
  · obtain ⟨q, hq, e⟩ := inB_of (by decide) h
    have c9 : q = 0 ∨ q = 1 ∨ q = 2 ∨ q = 3 ∨ q = 4 ∨ q = 5 ∨ q = 6 ∨ q = 7 ∨ q = 8 := by omega
    rcases c9 with z | z | z | z | z | z | z | z | z
    · subst z
      subst e
      rw [show sp_count ln B (σ 0 4) (nI 0) = (if thA ln B 0 = true then 1 else 0) from rfl]
      refine G.aload_n (k := 0) rfl dX7_count_0 ?_
      refine G.callVv (c_X7_readsAll hT) rfl (gci_X7).1 ml_X7_271 im_yX7_readsAll se_yX7_readsAll gcl_X7_readsAll (by decide) rfl rfl (Nat.le_of_ble_eq_true rfl) dX7_count_1 (fun τ hr => ?_)
      have hT1 := TM_rd hr.1 hT
      have hD : DI σ τ ln B := ⟨hT1, hr.2, rdF_Q hr.1⟩
      refine G.iload_n (k := 1) rfl dX7_count_4 ?_
      refine G.tableIn (tgt := 56) dX7_count_5 (by decide) (by decide) rfl (by decide) ?_
      refine G.aload_n (k := 0) rfl dX7_count_56 ?_
      refine G.iload_n (k := 1) rfl dX7_count_57 ?_
      refine G.callVif (c_X7_isThere (e := 0) hT1 hr.2 (by decide)) rfl (gci_X7).1 ml_X7_320 im_yX7_isThere se_yX7_isThere gcl_X7_isThere (by decide) rfl rfl (Nat.le_of_ble_eq_true rfl) dX7_count_58 ?_
      refine G.if_eq (tgt := 68) (by decide) dX7_count_61 (fun c_61 => ?_) (fun c_61 => ?_)
      · have ht := bo_0.mp c_61
        refine G.iconst (v := 0) (by decide) dX7_count_68 ?_
        exact G.iret rfl (⟨by first | exact (if_pos ht).symm | exact (if_neg ht).symm, hD⟩) dX7_count_69
      · have ht : thA ln B 0 = true := bo_n.mp c_61
        refine G.iconst (v := 1) (by decide) dX7_count_64 ?_
        refine G.goto (tgt := 69) (by decide) dX7_count_65 ?_
        exact G.iret rfl (⟨by first | exact (if_pos ht).symm | exact (if_neg ht).symm, hD⟩) dX7_count_69
    · subst z
      subst e
      rw [show sp_count ln B (σ 0 4) (nI 1) = (if thA ln B 1 = true then 1 else 0) from rfl]
      refine G.aload_n (k := 0) rfl dX7_count_0 ?_
      refine G.callVv (c_X7_readsAll hT) rfl (gci_X7).1 ml_X7_271 im_yX7_readsAll se_yX7_readsAll gcl_X7_readsAll (by decide) rfl rfl (Nat.le_of_ble_eq_true rfl) dX7_count_1 (fun τ hr => ?_)
      have hT1 := TM_rd hr.1 hT
      have hD : DI σ τ ln B := ⟨hT1, hr.2, rdF_Q hr.1⟩
      refine G.iload_n (k := 1) rfl dX7_count_4 ?_
      refine G.tableIn (tgt := 56) dX7_count_5 (by decide) (by decide) rfl (by decide) ?_
      refine G.aload_n (k := 0) rfl dX7_count_56 ?_
      refine G.iload_n (k := 1) rfl dX7_count_57 ?_
      refine G.callVif (c_X7_isThere (e := 1) hT1 hr.2 (by decide)) rfl (gci_X7).1 ml_X7_320 im_yX7_isThere se_yX7_isThere gcl_X7_isThere (by decide) rfl rfl (Nat.le_of_ble_eq_true rfl) dX7_count_58 ?_
      refine G.if_eq (tgt := 68) (by decide) dX7_count_61 (fun c_61 => ?_) (fun c_61 => ?_)
      · have ht := bo_0.mp c_61
        refine G.iconst (v := 0) (by decide) dX7_count_68 ?_
        exact G.iret rfl (⟨by first | exact (if_pos ht).symm | exact (if_neg ht).symm, hD⟩) dX7_count_69
      · have ht : thA ln B 1 = true := bo_n.mp c_61
        refine G.iconst (v := 1) (by decide) dX7_count_64 ?_
        refine G.goto (tgt := 69) (by decide) dX7_count_65 ?_
        exact G.iret rfl (⟨by first | exact (if_pos ht).symm | exact (if_neg ht).symm, hD⟩) dX7_count_69
    · subst z
      subst e
      rw [show sp_count ln B (σ 0 4) (nI 2) = (if thA ln B 2 = true then 1 else 0) from rfl]
      refine G.aload_n (k := 0) rfl dX7_count_0 ?_
      refine G.callVv (c_X7_readsAll hT) rfl (gci_X7).1 ml_X7_271 im_yX7_readsAll se_yX7_readsAll gcl_X7_readsAll (by decide) rfl rfl (Nat.le_of_ble_eq_true rfl) dX7_count_1 (fun τ hr => ?_)
      have hT1 := TM_rd hr.1 hT
      have hD : DI σ τ ln B := ⟨hT1, hr.2, rdF_Q hr.1⟩
      refine G.iload_n (k := 1) rfl dX7_count_4 ?_
      refine G.tableIn (tgt := 56) dX7_count_5 (by decide) (by decide) rfl (by decide) ?_
      refine G.aload_n (k := 0) rfl dX7_count_56 ?_
      refine G.iload_n (k := 1) rfl dX7_count_57 ?_
      refine G.callVif (c_X7_isThere (e := 2) hT1 hr.2 (by decide)) rfl (gci_X7).1 ml_X7_320 im_yX7_isThere se_yX7_isThere gcl_X7_isThere (by decide) rfl rfl (Nat.le_of_ble_eq_true rfl) dX7_count_58 ?_
      refine G.if_eq (tgt := 68) (by decide) dX7_count_61 (fun c_61 => ?_) (fun c_61 => ?_)
      · have ht := bo_0.mp c_61
        refine G.iconst (v := 0) (by decide) dX7_count_68 ?_
        exact G.iret rfl (⟨by first | exact (if_pos ht).symm | exact (if_neg ht).symm, hD⟩) dX7_count_69
      · have ht : thA ln B 2 = true := bo_n.mp c_61
        refine G.iconst (v := 1) (by decide) dX7_count_64 ?_
        refine G.goto (tgt := 69) (by decide) dX7_count_65 ?_
        exact G.iret rfl (⟨by first | exact (if_pos ht).symm | exact (if_neg ht).symm, hD⟩) dX7_count_69
    · subst z
      subst e
      rw [show sp_count ln B (σ 0 4) (nI 3) = (if thA ln B 3 = true then 1 else 0) from rfl]
      refine G.aload_n (k := 0) rfl dX7_count_0 ?_
      refine G.callVv (c_X7_readsAll hT) rfl (gci_X7).1 ml_X7_271 im_yX7_readsAll se_yX7_readsAll gcl_X7_readsAll (by decide) rfl rfl (Nat.le_of_ble_eq_true rfl) dX7_count_1 (fun τ hr => ?_)
      have hT1 := TM_rd hr.1 hT
      have hD : DI σ τ ln B := ⟨hT1, hr.2, rdF_Q hr.1⟩
      refine G.iload_n (k := 1) rfl dX7_count_4 ?_
      refine G.tableIn (tgt := 56) dX7_count_5 (by decide) (by decide) rfl (by decide) ?_
      refine G.aload_n (k := 0) rfl dX7_count_56 ?_
      refine G.iload_n (k := 1) rfl dX7_count_57 ?_
      refine G.callVif (c_X7_isThere (e := 3) hT1 hr.2 (by decide)) rfl (gci_X7).1 ml_X7_320 im_yX7_isThere se_yX7_isThere gcl_X7_isThere (by decide) rfl rfl (Nat.le_of_ble_eq_true rfl) dX7_count_58 ?_
      refine G.if_eq (tgt := 68) (by decide) dX7_count_61 (fun c_61 => ?_) (fun c_61 => ?_)
      · have ht := bo_0.mp c_61
        refine G.iconst (v := 0) (by decide) dX7_count_68 ?_
        exact G.iret rfl (⟨by first | exact (if_pos ht).symm | exact (if_neg ht).symm, hD⟩) dX7_count_69
      · have ht : thA ln B 3 = true := bo_n.mp c_61
        refine G.iconst (v := 1) (by decide) dX7_count_64 ?_
        refine G.goto (tgt := 69) (by decide) dX7_count_65 ?_
        exact G.iret rfl (⟨by first | exact (if_pos ht).symm | exact (if_neg ht).symm, hD⟩) dX7_count_69
    · subst z
      subst e
      refine G.aload_n (k := 0) rfl dX7_count_0 ?_
      refine G.callVv (c_X7_readsAll hT) rfl (gci_X7).1 ml_X7_271 im_yX7_readsAll se_yX7_readsAll gcl_X7_readsAll (by decide) rfl rfl (Nat.le_of_ble_eq_true rfl) dX7_count_1 (fun τ hr => ?_)
      have hT1 := TM_rd hr.1 hT
      have hD : DI σ τ ln B := ⟨hT1, hr.2, rdF_Q hr.1⟩
      refine G.iload_n (k := 1) rfl dX7_count_4 ?_
      refine G.tableIn (tgt := 70) dX7_count_5 (by decide) (by decide) rfl (by decide) ?_
      refine G.aload_n (k := 0) rfl dX7_count_70 ?_
      refine G.callVif (c_X7_allTyped hT1) rfl (gci_X7).1 ml_X7_383 im_yX7_allTyped se_yX7_allTyped gcl_X7_allTyped (by decide) rfl rfl (Nat.le_of_ble_eq_true rfl) dX7_count_71 ?_
      exact G.iret rfl (⟨rfl, hD⟩) dX7_count_74
    · subst z
      subst e
      refine G.aload_n (k := 0) rfl dX7_count_0 ?_
      refine G.callVv (c_X7_readsAll hT) rfl (gci_X7).1 ml_X7_271 im_yX7_readsAll se_yX7_readsAll gcl_X7_readsAll (by decide) rfl rfl (Nat.le_of_ble_eq_true rfl) dX7_count_1 (fun τ hr => ?_)
      have hT1 := TM_rd hr.1 hT
      have hD : DI σ τ ln B := ⟨hT1, hr.2, rdF_Q hr.1⟩
      refine G.iload_n (k := 1) rfl dX7_count_4 ?_
      refine G.tableIn (tgt := 75) dX7_count_5 (by decide) (by decide) rfl (by decide) ?_
      refine G.aload_n (k := 0) rfl dX7_count_75 ?_
      refine G.iconst (v := 0) (by decide) dX7_count_76 ?_
      refine G.iconst (v := 0) (by decide) dX7_count_77 ?_
      refine G.callVi (c_X7_wayBy (k := 0) (w := 0) hT1 hr.2 (by decide) (by decide)) rfl (gci_X7).1 ml_X7_360 im_yX7_wayBy se_yX7_wayBy gcl_X7_wayBy (by decide) rfl rfl (Nat.le_of_ble_eq_true rfl) dX7_count_78 (fun r τ2 hq2 => ?_)
      exact G.iret rfl (⟨hq2.1, DI_v hD hq2.2⟩) dX7_count_81
    · subst z
      subst e
      refine G.aload_n (k := 0) rfl dX7_count_0 ?_
      refine G.callVv (c_X7_readsAll hT) rfl (gci_X7).1 ml_X7_271 im_yX7_readsAll se_yX7_readsAll gcl_X7_readsAll (by decide) rfl rfl (Nat.le_of_ble_eq_true rfl) dX7_count_1 (fun τ hr => ?_)
      have hT1 := TM_rd hr.1 hT
      have hD : DI σ τ ln B := ⟨hT1, hr.2, rdF_Q hr.1⟩
      refine G.iload_n (k := 1) rfl dX7_count_4 ?_
      refine G.tableIn (tgt := 82) dX7_count_5 (by decide) (by decide) rfl (by decide) ?_
      refine G.aload_n (k := 0) rfl dX7_count_82 ?_
      refine G.iconst (v := 0) (by decide) dX7_count_83 ?_
      refine G.iconst (v := 2) (by decide) dX7_count_84 ?_
      refine G.callVi (c_X7_wayBy (k := 0) (w := 2) hT1 hr.2 (by decide) (by decide)) rfl (gci_X7).1 ml_X7_360 im_yX7_wayBy se_yX7_wayBy gcl_X7_wayBy (by decide) rfl rfl (Nat.le_of_ble_eq_true rfl) dX7_count_85 (fun r τ2 hq2 => ?_)
      exact G.iret rfl (⟨hq2.1, DI_v hD hq2.2⟩) dX7_count_88
    · subst z
      subst e
      refine G.aload_n (k := 0) rfl dX7_count_0 ?_
      refine G.callVv (c_X7_readsAll hT) rfl (gci_X7).1 ml_X7_271 im_yX7_readsAll se_yX7_readsAll gcl_X7_readsAll (by decide) rfl rfl (Nat.le_of_ble_eq_true rfl) dX7_count_1 (fun τ hr => ?_)
      have hT1 := TM_rd hr.1 hT
      have hD : DI σ τ ln B := ⟨hT1, hr.2, rdF_Q hr.1⟩
      refine G.iload_n (k := 1) rfl dX7_count_4 ?_
      refine G.tableIn (tgt := 89) dX7_count_5 (by decide) (by decide) rfl (by decide) ?_
      refine G.aload_n (k := 0) rfl dX7_count_89 ?_
      refine G.callVi (c_X7_manySwaps (TM_ttP hT1) (MR_13 hr.2)) rfl (gci_X7).1 ml_X7_217 im_yX7_manySwaps se_yX7_manySwaps gcl_X7_manySwaps (by decide) rfl rfl (Nat.le_of_ble_eq_true rfl) dX7_count_90 (fun r τ2 hq2 => ?_)
      exact G.iret rfl (⟨hq2.1, DI_v hD (lM_v hq2.2.2)⟩) dX7_count_93
    · subst z
      subst e
      refine G.aload_n (k := 0) rfl dX7_count_0 ?_
      refine G.callVv (c_X7_readsAll hT) rfl (gci_X7).1 ml_X7_271 im_yX7_readsAll se_yX7_readsAll gcl_X7_readsAll (by decide) rfl rfl (Nat.le_of_ble_eq_true rfl) dX7_count_1 (fun τ hr => ?_)
      have hT1 := TM_rd hr.1 hT
      have hD : DI σ τ ln B := ⟨hT1, hr.2, rdF_Q hr.1⟩
      refine G.iload_n (k := 1) rfl dX7_count_4 ?_
      refine G.tableIn (tgt := 94) dX7_count_5 (by decide) (by decide) rfl (by decide) ?_
      refine G.aload_n (k := 0) rfl dX7_count_94 ?_
      refine G.geti (j := 4) rfl gci_X7 (by decide) rfl fl_X7_98 dX7_count_95 ?_
      rw [hr.1.2 4 (by decide)]
      exact G.iret rfl (⟨rfl, hD⟩) dX7_count_98
  · have hout : w.toInt < 0 ∨ 8 < w.toInt := by
      by_cases y : w.toInt < 0
      · exact Or.inl y
      · by_cases y2 : 8 < w.toInt
        · exact Or.inr y2
        · exact absurd (decide_eq_true (show 0 ≤ w.toInt ∧ w.toInt < (9 : Nat) by omega)) h
    have h4 : ¬ inB w 4 = true := fun y => h (decide_eq_true (by have := of_decide_eq_true y; omega))
    have h9 : ∀ q, q < 9 → ¬ w = nI q := fun q hq e => h (by rw [e]; exact inB_nI (by omega) hq)
    refine G.aload_n (k := 0) rfl dX7_count_0 ?_
    refine G.callVv (c_X7_readsAll hT) rfl (gci_X7).1 ml_X7_271 im_yX7_readsAll se_yX7_readsAll gcl_X7_readsAll (by decide) rfl rfl (Nat.le_of_ble_eq_true rfl) dX7_count_1 (fun τ hr => ?_)
    have hT1 := TM_rd hr.1 hT
    have hD : DI σ τ ln B := ⟨hT1, hr.2, rdF_Q hr.1⟩
    refine G.iload_n (k := 1) rfl dX7_count_4 ?_
    refine G.tableOut (tgt := 99) dX7_count_5 hout (by decide) ?_
    refine G.bipush (v := (-2)) (by decide) dX7_count_99 ?_
    exact G.iret rfl (⟨by
        unfold sp_count
        rw [if_neg h4, if_neg (show ¬ w = 4 from h9 4 (by decide)), if_neg (show ¬ w = 5 from h9 5 (by decide)), if_neg (show ¬ w = 6 from h9 6 (by decide)), if_neg (show ¬ w = 7 from h9 7 (by decide)), if_neg (show ¬ w = 8 from h9 8 (by decide))], hD⟩) dX7_count_101
set_option maxHeartbeats 4000000 in
set_option maxRecDepth 100000 in
theorem l_X7_write {υ : gS} {x1 : Int32} {g z m : Nat} {L : List Nat} (hg : g < 4) (hz : z ≤ 60) (hL : LnM υ L) (hmL : m ≤ L.length) (hmz : m ≤ z) {P : Int32 → gS → Prop} (K : P (nI m) (upA υ 3 (wrS (υ 3) (60 * g) (υ 1 g) L m))) : ∀ j i, i + j = m → G (XM l D cA ad) mX7_write (g_ri P) 58 [some (.ref 0), some (.int x1), some (.int (nI g)), some (.int (nI m)), some (.int (nI i))] [] (upA υ 3 (wrS (υ 3) (60 * g) (υ 1 g) L i)) := by
  have hl60 := hL.2.1
  intro j
  induction j with
  | zero =>
    intro i hi
    have hi2 : i = m := by omega
    subst hi2
    refine G.iload (i := 4) rfl dX7_write_58 ?_
    refine G.iload_n (k := 3) rfl dX7_write_60 ?_
    refine G.icmp_ge (tgt := 98) (by decide) dX7_write_61 (fun c_61 => ?_) (fun c_61 => absurd (Int32.le_refl _) c_61)
    refine G.iload_n (k := 3) rfl dX7_write_98 ?_
    exact G.iret rfl (K) dX7_write_99
  | succ j ih =>
    intro i hi
    have hjl : i < L.length := by omega
    have hgt : L[i]? = some (L.getD i 0) := by rw [List.getD_eq_getElem?_getD, List.getElem?_eq_getElem hjl]; rfl
    refine G.iload (i := 4) rfl dX7_write_58 ?_
    refine G.iload_n (k := 3) rfl dX7_write_60 ?_
    refine G.icmp_ge (tgt := 98) (by decide) dX7_write_61 (fun c_61 => absurd c_61 (nI_ge (by omega) (by omega))) (fun c_61 => ?_)
    refine G.aload_n (k := 0) rfl dX7_write_64 ?_
    refine G.getr (j := 2) rfl gci_X7 (by decide) rfl fl_X7_16 dX7_write_65 ?_
    refine G.bipush (v := 60) (by decide) dX7_write_68 ?_
    refine G.iload_n (k := 2) rfl dX7_write_70 ?_
    refine G.imul dX7_write_71 ?_
    rw [nu_60']
    refine G.iload (i := 4) rfl dX7_write_72 ?_
    refine G.iadd dX7_write_74 ?_
    rw [nI_add]
    refine G.aload_n (k := 0) rfl dX7_write_75 ?_
    refine G.getr (j := 0) rfl gci_X7 (by decide) rfl fl_X7_7 dX7_write_76 ?_
    refine G.iload_n (k := 2) rfl dX7_write_79 ?_
    refine G.ialdN (k := g) rfl (rfl) (hg) (by decide) dX7_write_80 ?_
    rw [upA_ne _ _ (show (1 : Nat) ≠ 3 by decide)]
    refine G.aload_n (k := 0) rfl dX7_write_81 ?_
    refine G.getr (j := 14) rfl gci_X7 (by decide) rfl fl_X7_46 dX7_write_82 ?_
    refine G.iload (i := 4) rfl dX7_write_85 ?_
    refine G.ialdN (k := i) rfl (rfl) (by omega) (by decide) dX7_write_87 ?_
    rw [upA_ne _ _ (show (13 : Nat) ≠ 3 by decide), hL.2.2 i _ hgt]
    refine G.callSif (c_X7_cut) ml_X7_118 ws_yX7_cut gcl_X7_cut (by decide) rfl rfl (Nat.le_of_ble_eq_true rfl) dX7_write_88 ?_
    refine G.iastN (k := 60 * g + i) rfl (rfl) (by omega) (by decide) dX7_write_91 ?_
    rw [up2_eq, upA_same, upA_upA]
    refine G.inc4 (d := 1) (by decide) (by decide) rfl dX7_write_92 ?_
    refine G.goto (tgt := 58) (by decide) dX7_write_95 ?_
    rw [nI_1]
    exact ih (i + 1) (by omega)
set_option maxHeartbeats 4000000 in
set_option maxRecDepth 100000 in
theorem c_X7_write {ln B : Nat → Nat} {u s : Int32} (hT : TM σ ln B) (hI : shI 1 2 σ) : GM (XM l D cA ad) mX7_write [.ref 0, .int u, .int s] σ (g_ri (wrPM σ ln B u s)) := by
  refine GM.of (ls := [some (.ref 0), some (.int u), some (.int s), none, none]) (by decide) (Nat.le_of_ble_eq_true rfl) rfl ?_
  refine G.iload_n (k := 1) rfl dX7_write_0 ?_
  refine G.callSif (c_X7_isName) ml_X7_185 ws_yX7_isName gcl_X7_isName (by decide) rfl rfl (Nat.le_of_ble_eq_true rfl) dX7_write_1 ?_
  refine G.if_eq (tgt := 14) (by decide) dX7_write_4 (fun c_4 => ?_) (fun c_4 => ?_)
  · have h1 := in_f 5 (by decide) c_4
    refine G.bipush (v := (-2)) (by decide) dX7_write_14 ?_
    exact G.iret rfl (by unfold wrPM; rw [if_neg (by first | (simp [h1]; done) | simp [h1, h2])]; exact ⟨rfl, rfl⟩) dX7_write_16
  · have h1 := in_t 5 (by decide) c_4
    obtain ⟨q, hq, eq⟩ := inB_of (by decide) h1
    subst eq
    have xq : ix (nI q) = q := ix_nI (by omega)
    refine G.iload_n (k := 2) rfl dX7_write_7 ?_
    refine G.callSif (c_X7_isSheet) ml_X7_104 ws_yX7_isSheet gcl_X7_isSheet (by decide) rfl rfl (Nat.le_of_ble_eq_true rfl) dX7_write_8 ?_
    refine G.if_ne (tgt := 17) (by decide) dX7_write_11 (fun c_11 => ?_) (fun c_11 => ?_)
    · have h2 := in_t 3 (by decide) c_11
      obtain ⟨g, hg, eg⟩ := inB_of (by decide) h2
      subst eg
      have xg : ix (nI g) = g := ix_nI (by omega)
      obtain ⟨f1, z, hz, ez⟩ := hI g hg
      have hand : (inB (nI q) 6 && inB (nI g) 4) = true := by simp [h1, h2]
      refine G.aload_n (k := 0) rfl dX7_write_17 ?_
      refine G.getr (j := 0) rfl gci_X7 (by decide) rfl fl_X7_7 dX7_write_18 ?_
      refine G.iload_n (k := 2) rfl dX7_write_21 ?_
      refine G.ialdN (k := g) rfl (rfl) (hg) (by decide) dX7_write_22 ?_
      refine G.if_ge (tgt := 32) (by decide) dX7_write_23 (fun c_23 => ?_) (fun c_23 => ?_)
      · have hf : ¬ σ 1 g = -1 := fun e => by rw [e] at c_23; exact absurd c_23 (by decide)
        refine G.aload_n (k := 0) rfl dX7_write_32 ?_
        refine G.callVv (c_X7_readsAll hT) rfl (gci_X7).1 ml_X7_271 im_yX7_readsAll se_yX7_readsAll gcl_X7_readsAll (by decide) rfl rfl (Nat.le_of_ble_eq_true rfl) dX7_write_33 (fun τ hr => ?_)
        have hT1 := TM_rd hr.1 hT
        refine G.aload_n (k := 0) rfl dX7_write_36 ?_
        refine G.iload_n (k := 1) rfl dX7_write_37 ?_
        refine G.callVv (c_X7_tellsValue hT1 hr.2 hq) rfl (gci_X7).1 ml_X7_365 im_yX7_tellsValue se_yX7_tellsValue gcl_X7_tellsValue (by decide) rfl rfl (Nat.le_of_ble_eq_true rfl) dX7_write_38 (fun υ hq2 => ?_)
        have hQ := mQ_tr (rdF_Q hr.1) (vF_Q hq2.2)
        have e1 := hQ.1 1 (by decide) (by decide)
        have e2 := hQ.1 2 (by decide) (by decide)
        have e3 := hQ.1 3 (by decide) (by decide)
        have hT2 := (vF_M hq2.2 hT1 hr.2).1
        refine G.aload_n (k := 0) rfl dX7_write_41 ?_
        refine G.getr (j := 1) rfl gci_X7 (by decide) rfl fl_X7_13 dX7_write_42 ?_
        refine G.iload_n (k := 2) rfl dX7_write_45 ?_
        refine G.ialdN (k := g) rfl (rfl) (hg) (by decide) dX7_write_46 ?_
        rw [e2, ez]
        refine G.aload_n (k := 0) rfl dX7_write_47 ?_
        refine G.geti (j := 15) rfl gci_X7 (by decide) rfl fl_X7_204 dX7_write_48 ?_
        rw [hq2.1.1]
        refine G.callSif (c_X7_lesser) ml_X7_380 ws_yX7_lesser gcl_X7_lesser (by decide) rfl rfl (Nat.le_of_ble_eq_true rfl) dX7_write_51 ?_
        rw [min_nI hq2.1.2.1 hz]
        refine G.ist3 (by decide) rfl dX7_write_54 ?_
        refine G.iconst (v := 0) (by decide) dX7_write_55 ?_
        refine G.ist4 (by decide) rfl dX7_write_56 ?_
        refine l_X7_write (z := z) hg hz hq2.1 (Nat.min_le_left _ _) (Nat.min_le_right _ _) ?_ _ 0 (Nat.zero_add _)
        unfold wrPM wrN
        rw [if_pos hand, xg, xq, if_neg hf, ez, ix_nI (by omega)]
        refine ⟨rfl, TM_F (upA_ne _ _ (by decide)) (upA_ne _ _ (by decide)) hT2, ?_, ?_, ?_, ?_⟩
        · rw [upA_ne _ _ (by decide)]; exact hQ.2
        · rw [upA_ne _ _ (by decide)]; exact e1
        · rw [upA_ne _ _ (by decide)]; exact e2
        · rw [upA_same, e3, e1]
      · have hf : σ 1 g = -1 := by
          rcases f1 with y | y | y | y
          · exact y
          · rw [y] at c_23; exact absurd (by decide) c_23
          · rw [y] at c_23; exact absurd (by decide) c_23
          · rw [y] at c_23; exact absurd (by decide) c_23
        refine G.aload_n (k := 0) rfl dX7_write_26 ?_
        refine G.iconst (v := 1) (by decide) dX7_write_27 ?_
        refine G.callVif (c_X7_finds) rfl (gci_X7).1 ml_X7_110 im_yX7_finds se_yX7_finds gcl_X7_finds (by decide) rfl rfl (Nat.le_of_ble_eq_true rfl) dX7_write_28 ?_
        exact G.iret rfl (by unfold wrPM; rw [if_pos hand, xg, if_pos hf]; exact ⟨rfl, rfl⟩) dX7_write_31
    · have h2 := in_f 3 (by decide) c_11
      refine G.bipush (v := (-2)) (by decide) dX7_write_14 ?_
      exact G.iret rfl (by unfold wrPM; rw [if_neg (by first | (simp [h1]; done) | simp [h1, h2])]; exact ⟨rfl, rfl⟩) dX7_write_16
end TA2

/-! ===== typing ===== -/
abbrev tS := Int32 × (Nat → Nat) × (Nat → Nat)
def sp_type (ln B : Nat → Nat) (t b : Int32) : tS := if (inB t 10 && inB b 256) = true then (if ln (ix t) < tcap (ix t) then (nI (ln (ix t) + 1), apL ln (ix t) (ln (ix t) + 1), apB B (30 * ix t + ln (ix t)) (ix b)) else (-4, ln, B)) else (-2, ln, B)
def sp_wipe (ln B : Nat → Nat) (t : Int32) : tS := if inB t 10 = true then (nI (ln (ix t)), apL ln (ix t) 0, B) else (-2, ln, B)
def sp_undo (ln B : Nat → Nat) (t : Int32) : tS := if inB t 10 = true then (if ln (ix t) = 0 then (-3, ln, B) else (nI (ln (ix t) - 1), apL ln (ix t) (ln (ix t) - 1), B)) else (-2, ln, B)
def flA (ln B : Nat → Nat) (t : Nat) : Int32 := if t < 8 then flT B (30 * t) (ln t) else if t = 8 then fl2 B 240 (ln 8) 2 (ln 8) 0 else fl2 B 270 (ln 9) 1 (ln 9) 0
def sp_fault (ln B : Nat → Nat) (t : Int32) : Int32 := if inB t 10 = true then flA ln B (ix t) else -2
theorem IX_fl {σ : gS} {ln B : Nat → Nat} (h : IX σ ln B) {t : Nat} (ht : t < 10) : σ 5 t = flA ln B t := by
  have hF := h.2.1 t ht
  unfold FX at hF
  unfold flA
  by_cases c : t < 8
  · rw [if_pos c] at hF ⊢; exact hF.1
  · rw [if_neg c] at hF ⊢
    by_cases c8 : t = 8
    · subst c8; rw [if_pos rfl] at hF ⊢; exact hF.1
    · have c9 : t = 9 := by omega
      subst c9
      rw [if_neg (by decide)] at hF ⊢; exact hF.1
def aP (σ : gS) (R : tS) (r : Int32) (τ : gS) : Prop := r = R.1 ∧ IX τ R.2.1 R.2.2 ∧ shF σ τ
section T63
variable {l : Launch} {D : va_G} {cA : ClassId} {ad : Nat → Nat}
variable {σ : gS}
set_option maxHeartbeats 4000000 in
set_option maxRecDepth 100000 in
theorem c_X6_type {ln B : Nat → Nat} {t b : Int32} (h : IX σ ln B) : GM (XC l D cA ad) mX6_type [.ref 0, .int t, .int b] σ (g_ri (aP σ (sp_type ln B t b))) := by
  refine GM.of (ls := [some (.ref 0), some (.int t), some (.int b)]) (by decide) (Nat.le_of_ble_eq_true rfl) rfl ?_
  refine G.iload_n (k := 1) rfl dX6_type_0 ?_
  refine G.bipush (v := 10) (by decide) dX6_type_1 ?_
  refine G.callSif (c_X6_isOutside) ml_X6_72 ws_yX6_isOutside gcl_X6_isOutside (by decide) rfl rfl (Nat.le_of_ble_eq_true rfl) dX6_type_3 ?_
  refine G.if_ne (tgt := 19) (by decide) dX6_type_6 (fun c_6 => ?_) (fun c_6 => ?_)
  · have h1 := ou_t 10 (by decide) c_6
    refine G.bipush (v := (-2)) (by decide) dX6_type_19 ?_
    exact G.iret rfl (by unfold aP sp_type; rw [if_neg (by first | (simp [h1]; done) | simp [h1, h2])]; exact ⟨rfl, h, shF_rf _⟩) dX6_type_21
  · have h1 := ou_f 10 (by decide) c_6
    refine G.iload_n (k := 2) rfl dX6_type_9 ?_
    refine G.sipush (v := 256) (by decide) dX6_type_10 ?_
    refine G.callSif (c_X6_isOutside) ml_X6_72 ws_yX6_isOutside gcl_X6_isOutside (by decide) rfl rfl (Nat.le_of_ble_eq_true rfl) dX6_type_13 ?_
    refine G.if_eq (tgt := 22) (by decide) dX6_type_16 (fun c_16 => ?_) (fun c_16 => ?_)
    · have h2 := ou_f 256 (by decide) c_16
      obtain ⟨q, hq, eq⟩ := inB_of (by decide) h1
      subst eq
      have xq : ix (nI q) = q := ix_nI (by omega)
      obtain ⟨x, hx, ex⟩ := inB_of (by decide) h2
      subst ex
      have xx : ix (nI x) = x := ix_nI (by omega)
      have hlq := h.1 q hq
      refine G.aload_n (k := 0) rfl dX6_type_22 ?_
      refine G.getr (j := 0) rfl gci_X6 (by decide) rfl fl_X6_50 dX6_type_23 ?_
      refine G.iload_n (k := 1) rfl dX6_type_26 ?_
      refine G.iload_n (k := 2) rfl dX6_type_27 ?_
      refine G.callVi (c_X4_append hq hlq.2.1 hlq.1 hx) rfl (gci_X4).1 ml_X6_76 im_yX4_append se_yX4_append gcl_X4_append (by decide) rfl rfl (Nat.le_of_ble_eq_true rfl) dX6_type_28 (fun r τ hr => ?_)
      by_cases hn : ln q < tcap q
      · rw [if_pos hn] at hr
        obtain ⟨e1, e2⟩ := Prod.mk.inj hr
        subst e1 e2
        refine G.if_ne (tgt := 37) (by decide) dX6_type_31 (fun c_31 => ?_) (fun c_31 => absurd c_31 (by decide))
        refine G.aload_n (k := 0) rfl dX6_type_37 ?_
        refine G.iload_n (k := 1) rfl dX6_type_38 ?_
        refine G.callVv (c_X6_noteChange hq (IT_ap (IX_IT h q) hq hn hx)) rfl (gci_X6).1 ml_X6_79 im_yX6_noteChange se_yX6_noteChange gcl_X6_noteChange (by decide) rfl rfl (Nat.le_of_ble_eq_true rfl) dX6_type_39 (fun υ hu => ?_)
        refine G.aload_n (k := 0) rfl dX6_type_42 ?_
        refine G.getr (j := 0) rfl gci_X6 (by decide) rfl fl_X6_50 dX6_type_43 ?_
        refine G.iload_n (k := 1) rfl dX6_type_46 ?_
        refine G.callVif (c_X4_lengthOf hq) rfl (gci_X4).1 ml_X6_83 im_yX4_lengthOf se_yX4_lengthOf gcl_X4_lengthOf (by decide) rfl rfl (Nat.le_of_ble_eq_true rfl) dX6_type_47 ?_
        exact G.iret rfl (by unfold aP sp_type; rw [if_pos (by simp [h1, h2]), xq, xx, if_pos hn]; exact ⟨by rw [hu.2.2 4 (by decide) (by decide)]; exact if_pos rfl, hu.1, fun k a b => by rw [hu.2.1 k a b, up2_ne _ _ _ (by omega), up2_ne _ _ _ (by omega), up2_ne _ _ _ (by omega)]⟩) dX6_type_50
      · rw [if_neg hn] at hr
        obtain ⟨e1, e2⟩ := Prod.mk.inj hr
        subst e1 e2
        refine G.if_ne (tgt := 37) (by decide) dX6_type_31 (fun c_31 => absurd rfl c_31) (fun c_31 => ?_)
        refine G.bipush (v := (-4)) (by decide) dX6_type_34 ?_
        exact G.iret rfl (by unfold aP sp_type; rw [if_pos (by simp [h1, h2]), xq, if_neg hn]; exact ⟨rfl, h, shF_rf _⟩) dX6_type_36
    · have h2 := ou_t 256 (by decide) c_16
      refine G.bipush (v := (-2)) (by decide) dX6_type_19 ?_
      exact G.iret rfl (by unfold aP sp_type; rw [if_neg (by first | (simp [h1]; done) | simp [h1, h2])]; exact ⟨rfl, h, shF_rf _⟩) dX6_type_21
set_option maxHeartbeats 4000000 in
set_option maxRecDepth 100000 in
theorem c_X6_wipe {ln B : Nat → Nat} {t : Int32} (h : IX σ ln B) : GM (XC l D cA ad) mX6_wipe [.ref 0, .int t] σ (g_ri (aP σ (sp_wipe ln B t))) := by
  refine GM.of (ls := [some (.ref 0), some (.int t), none]) (by decide) (Nat.le_of_ble_eq_true rfl) rfl ?_
  refine G.iload_n (k := 1) rfl dX6_wipe_0 ?_
  refine G.bipush (v := 10) (by decide) dX6_wipe_1 ?_
  refine G.callSif (c_X6_isOutside) ml_X6_72 ws_yX6_isOutside gcl_X6_isOutside (by decide) rfl rfl (Nat.le_of_ble_eq_true rfl) dX6_wipe_3 ?_
  refine G.if_eq (tgt := 12) (by decide) dX6_wipe_6 (fun c_6 => ?_) (fun c_6 => ?_)
  · have h1 := ou_f 10 (by decide) c_6
    obtain ⟨q, hq, eq⟩ := inB_of (by decide) h1
    subst eq
    have xq : ix (nI q) = q := ix_nI (by omega)
    have hlq := h.1 q hq
    refine G.aload_n (k := 0) rfl dX6_wipe_12 ?_
    refine G.getr (j := 0) rfl gci_X6 (by decide) rfl fl_X6_50 dX6_wipe_13 ?_
    refine G.iload_n (k := 1) rfl dX6_wipe_16 ?_
    refine G.callVif (c_X4_lengthOf hq) rfl (gci_X4).1 ml_X6_83 im_yX4_lengthOf se_yX4_lengthOf gcl_X4_lengthOf (by decide) rfl rfl (Nat.le_of_ble_eq_true rfl) dX6_wipe_17 ?_
    refine G.ist2 (by decide) rfl dX6_wipe_20 ?_
    refine G.aload_n (k := 0) rfl dX6_wipe_21 ?_
    refine G.getr (j := 0) rfl gci_X6 (by decide) rfl fl_X6_50 dX6_wipe_22 ?_
    refine G.iload_n (k := 1) rfl dX6_wipe_25 ?_
    refine G.iconst (v := 0) (by decide) dX6_wipe_26 ?_
    refine G.callVvf (c_X4_shorten (v := nI 0) hq) rfl (gci_X4).1 ml_X6_87 im_yX4_shorten se_yX4_shorten gcl_X4_shorten (by decide) rfl rfl (Nat.le_of_ble_eq_true rfl) dX6_wipe_27 ?_
    refine G.aload_n (k := 0) rfl dX6_wipe_30 ?_
    refine G.iload_n (k := 1) rfl dX6_wipe_31 ?_
    refine G.callVv (c_X6_noteChange hq (IT_sh (IX_IT h q) (Nat.zero_le _))) rfl (gci_X6).1 ml_X6_79 im_yX6_noteChange se_yX6_noteChange gcl_X6_noteChange (by decide) rfl rfl (Nat.le_of_ble_eq_true rfl) dX6_wipe_32 (fun υ hu => ?_)
    refine G.iload_n (k := 2) rfl dX6_wipe_35 ?_
    exact G.iret rfl (by unfold aP sp_wipe; rw [if_pos h1, xq]; exact ⟨hlq.1, hu.1, fun k a b => by rw [hu.2.1 k a b, up2_ne _ _ _ (by omega)]⟩) dX6_wipe_36
  · have h1 := ou_t 10 (by decide) c_6
    refine G.bipush (v := (-2)) (by decide) dX6_wipe_9 ?_
    exact G.iret rfl (by unfold aP sp_wipe; rw [if_neg (by simp [h1])]; exact ⟨rfl, h, shF_rf _⟩) dX6_wipe_11
set_option maxHeartbeats 4000000 in
set_option maxRecDepth 100000 in
theorem c_X6_undo {ln B : Nat → Nat} {t : Int32} (h : IX σ ln B) : GM (XC l D cA ad) mX6_undo [.ref 0, .int t] σ (g_ri (aP σ (sp_undo ln B t))) := by
  refine GM.of (ls := [some (.ref 0), some (.int t), none]) (by decide) (Nat.le_of_ble_eq_true rfl) rfl ?_
  refine G.iload_n (k := 1) rfl dX6_undo_0 ?_
  refine G.bipush (v := 10) (by decide) dX6_undo_1 ?_
  refine G.callSif (c_X6_isOutside) ml_X6_72 ws_yX6_isOutside gcl_X6_isOutside (by decide) rfl rfl (Nat.le_of_ble_eq_true rfl) dX6_undo_3 ?_
  refine G.if_eq (tgt := 12) (by decide) dX6_undo_6 (fun c_6 => ?_) (fun c_6 => ?_)
  · have h1 := ou_f 10 (by decide) c_6
    obtain ⟨q, hq, eq⟩ := inB_of (by decide) h1
    subst eq
    have xq : ix (nI q) = q := ix_nI (by omega)
    have hlq := h.1 q hq
    have h30 := IX_ln h hq
    refine G.aload_n (k := 0) rfl dX6_undo_12 ?_
    refine G.getr (j := 0) rfl gci_X6 (by decide) rfl fl_X6_50 dX6_undo_13 ?_
    refine G.iload_n (k := 1) rfl dX6_undo_16 ?_
    refine G.callVif (c_X4_lengthOf hq) rfl (gci_X4).1 ml_X6_83 im_yX4_lengthOf se_yX4_lengthOf gcl_X4_lengthOf (by decide) rfl rfl (Nat.le_of_ble_eq_true rfl) dX6_undo_17 ?_
    rw [hlq.1]
    refine G.ist2 (by decide) rfl dX6_undo_20 ?_
    refine G.iload_n (k := 2) rfl dX6_undo_21 ?_
    refine G.if_ne (tgt := 28) (by decide) dX6_undo_22 (fun c_22 => ?_) (fun c_22 => ?_)
    · have hz : ¬ ln q = 0 := fun e => c_22 (by rw [e]; rfl)
      have e1 : nI (ln q) - 1 = nI (ln q - 1) := nu_sub (b := 1) (by omega)
      refine G.aload_n (k := 0) rfl dX6_undo_28 ?_
      refine G.getr (j := 0) rfl gci_X6 (by decide) rfl fl_X6_50 dX6_undo_29 ?_
      refine G.iload_n (k := 1) rfl dX6_undo_32 ?_
      refine G.iload_n (k := 2) rfl dX6_undo_33 ?_
      refine G.iconst (v := 1) (by decide) dX6_undo_34 ?_
      refine G.isub dX6_undo_35 ?_
      rw [e1]
      refine G.callVvf (c_X4_shorten (v := nI (ln q - 1)) hq) rfl (gci_X4).1 ml_X6_87 im_yX4_shorten se_yX4_shorten gcl_X4_shorten (by decide) rfl rfl (Nat.le_of_ble_eq_true rfl) dX6_undo_36 ?_
      refine G.aload_n (k := 0) rfl dX6_undo_39 ?_
      refine G.iload_n (k := 1) rfl dX6_undo_40 ?_
      refine G.callVv (c_X6_noteChange hq (IT_sh (IX_IT h q) (Nat.sub_le _ _))) rfl (gci_X6).1 ml_X6_79 im_yX6_noteChange se_yX6_noteChange gcl_X6_noteChange (by decide) rfl rfl (Nat.le_of_ble_eq_true rfl) dX6_undo_41 (fun υ hu => ?_)
      refine G.iload_n (k := 2) rfl dX6_undo_44 ?_
      refine G.iconst (v := 1) (by decide) dX6_undo_45 ?_
      refine G.isub dX6_undo_46 ?_
      exact G.iret rfl (by unfold aP sp_undo; rw [if_pos h1, xq, if_neg hz]; exact ⟨e1, hu.1, fun k a b => by rw [hu.2.1 k a b, up2_ne _ _ _ (by omega)]⟩) dX6_undo_47
    · have hz : ln q = 0 := (nI_eq (show ln q < 2 ^ 31 by omega) (show 0 < 2 ^ 31 by decide)).mp c_22
      refine G.bipush (v := (-3)) (by decide) dX6_undo_25 ?_
      exact G.iret rfl (by unfold aP sp_undo; rw [if_pos h1, xq, if_pos hz]; exact ⟨rfl, h, shF_rf _⟩) dX6_undo_27
  · have h1 := ou_t 10 (by decide) c_6
    refine G.bipush (v := (-2)) (by decide) dX6_undo_9 ?_
    exact G.iret rfl (by unfold aP sp_undo; rw [if_neg (by simp [h1])]; exact ⟨rfl, h, shF_rf _⟩) dX6_undo_11
set_option maxHeartbeats 4000000 in
set_option maxRecDepth 100000 in
theorem c_X6_fault {ln B : Nat → Nat} {t : Int32} (h : IX σ ln B) : GM (XC l D cA ad) mX6_fault [.ref 0, .int t] σ (g_ri (fun r τ => r = sp_fault ln B t ∧ τ = σ)) := by
  refine GM.of (ls := [some (.ref 0), some (.int t)]) (by decide) (Nat.le_of_ble_eq_true rfl) rfl ?_
  refine G.iload_n (k := 1) rfl dX6_fault_0 ?_
  refine G.bipush (v := 10) (by decide) dX6_fault_1 ?_
  refine G.callSif (c_X6_isOutside) ml_X6_72 ws_yX6_isOutside gcl_X6_isOutside (by decide) rfl rfl (Nat.le_of_ble_eq_true rfl) dX6_fault_3 ?_
  refine G.if_eq (tgt := 14) (by decide) dX6_fault_6 (fun c_6 => ?_) (fun c_6 => ?_)
  · have h1 := ou_f 10 (by decide) c_6
    obtain ⟨q, hq, eq⟩ := inB_of (by decide) h1
    subst eq
    have xq : ix (nI q) = q := ix_nI (by omega)
    refine G.aload_n (k := 0) rfl dX6_fault_14 ?_
    refine G.getr (j := 0) rfl gci_X6 (by decide) rfl fl_X6_50 dX6_fault_15 ?_
    refine G.iload_n (k := 1) rfl dX6_fault_18 ?_
    refine G.callVif (c_X4_faultOf hq) rfl (gci_X4).1 ml_X6_91 im_yX4_faultOf se_yX4_faultOf gcl_X4_faultOf (by decide) rfl rfl (Nat.le_of_ble_eq_true rfl) dX6_fault_19 ?_
    exact G.iret rfl (by unfold sp_fault; first | (rw [if_neg (by simp [h1])]; exact ⟨rfl, rfl⟩) | (rw [if_pos h1, xq]; exact ⟨IX_fl h hq, rfl⟩)) dX6_fault_22
  · have h1 := ou_t 10 (by decide) c_6
    refine G.bipush (v := (-2)) (by decide) dX6_fault_9 ?_
    refine G.goto (tgt := 22) (by decide) dX6_fault_11 ?_
    exact G.iret rfl (by unfold sp_fault; first | (rw [if_neg (by simp [h1])]; exact ⟨rfl, rfl⟩) | (rw [if_pos h1, xq]; exact ⟨IX_fl h hq, rfl⟩)) dX6_fault_22
end T63

/-! ===== the model's texts ===== -/
def TM (σ : gS) (ln B : Nat → Nat) : Prop := ∀ t, t < 10 → σ 6 t = nI (ln t) ∧ ln t ≤ tcap t ∧ ∀ i, i < ln t → B (30 * t + i) < 256 ∧ σ 5 (30 * t + i) = nI (B (30 * t + i))
theorem ge8 : ∀ q, q < 10 → 8 ≤ q → (8 : Int32) ≤ nI q := by decide +kernel
def mP (σ : gS) (R : tS) (r : Int32) (τ : gS) : Prop := r = R.1 ∧ TM τ R.2.1 R.2.2 ∧ ∀ k, k ≠ 5 → k ≠ 6 → τ k = σ k
theorem TM_ap {σ : gS} {ln B : Nat → Nat} {t b : Nat} (hT : TM σ ln B) (hn : ln t < tcap t) (hb : b < 256) : TM (up2 (up2 σ 5 (30 * t + ln t) (nI b)) 6 t (nI (ln t + 1))) (apL ln t (ln t + 1)) (apB B (30 * t + ln t) b) := by
  have hc := tcap_le t
  have r6 : ∀ s, up2 (up2 σ 5 (30 * t + ln t) (nI b)) 6 t (nI (ln t + 1)) 6 s = if s = t then nI (ln t + 1) else σ 6 s := fun s => rfl
  have r5 : ∀ i, up2 (up2 σ 5 (30 * t + ln t) (nI b)) 6 t (nI (ln t + 1)) 5 i = if i = 30 * t + ln t then nI b else σ 5 i := fun i => rfl
  intro s hs
  obtain ⟨a1, a2, a3⟩ := hT s hs
  have hc2 := tcap_le s
  by_cases e : s = t
  · subst e
    refine ⟨by rw [r6, if_pos rfl, apL, if_pos rfl], by rw [apL, if_pos rfl]; omega, fun i hi => ?_⟩
    rw [apL, if_pos rfl] at hi
    rw [r5]
    unfold apB
    by_cases ei : i = ln s
    · subst ei; rw [if_pos rfl, if_pos rfl]; exact ⟨hb, rfl⟩
    · rw [if_neg (by omega), if_neg (by omega)]; exact a3 i (by omega)
  · refine ⟨by rw [r6, if_neg e, apL, if_neg e]; exact a1, by rw [apL, if_neg e]; exact a2, fun i hi => ?_⟩
    rw [apL, if_neg e] at hi
    rw [r5]
    unfold apB
    rw [if_neg (by omega), if_neg (by omega)]; exact a3 i hi
theorem TM_sh {σ : gS} {ln B : Nat → Nat} {t n : Nat} (hT : TM σ ln B) (hn : n ≤ ln t) : TM (up2 σ 6 t (nI n)) (apL ln t n) B := by
  have r6 : ∀ s, up2 σ 6 t (nI n) 6 s = if s = t then nI n else σ 6 s := fun s => rfl
  have r5 : ∀ i, up2 σ 6 t (nI n) 5 i = σ 5 i := fun i => rfl
  intro s hs
  obtain ⟨a1, a2, a3⟩ := hT s hs
  by_cases e : s = t
  · subst e
    refine ⟨by rw [r6, if_pos rfl, apL, if_pos rfl], by rw [apL, if_pos rfl]; omega, fun i hi => ?_⟩
    rw [apL, if_pos rfl] at hi
    rw [r5]; exact a3 i (by omega)
  · refine ⟨by rw [r6, if_neg e, apL, if_neg e]; exact a1, by rw [apL, if_neg e]; exact a2, fun i hi => ?_⟩
    rw [apL, if_neg e] at hi
    rw [r5]; exact a3 i hi
theorem TM_F {σ τ : gS} {ln B : Nat → Nat} (h5 : τ 5 = σ 5) (h6 : τ 6 = σ 6) (hT : TM σ ln B) : TM τ ln B := fun t ht => by rw [h5, h6]; exact hT t ht
section T80
variable {l : Launch} {D : va_G} {cA : ClassId} {ad : Nat → Nat}
variable {σ : gS}
set_option maxHeartbeats 4000000 in
set_option maxRecDepth 100000 in
theorem c_X7_wipe {ln B : Nat → Nat} {t : Int32} (hT : TM σ ln B) : GM (XM l D cA ad) mX7_wipe [.ref 0, .int t] σ (g_ri (mP σ (sp_wipe ln B t))) := by
  refine GM.of (ls := [some (.ref 0), some (.int t), none]) (by decide) (Nat.le_of_ble_eq_true rfl) rfl ?_
  refine G.iload_n (k := 1) rfl dX7_wipe_0 ?_
  refine G.callSif (c_X7_isText) ml_X7_128 ws_yX7_isText gcl_X7_isText (by decide) rfl rfl (Nat.le_of_ble_eq_true rfl) dX7_wipe_1 ?_
  refine G.if_ne (tgt := 10) (by decide) dX7_wipe_4 (fun c_4 => ?_) (fun c_4 => ?_)
  · have h1 := in_t 9 (by decide) c_4
    obtain ⟨q, hq, eq⟩ := inB_of (by decide) h1
    subst eq
    have xq : ix (nI q) = q := ix_nI (by omega)
    have hl := (hT q hq).1
    have h30 := Nat.le_trans (hT q hq).2.1 (tcap_le q)
    refine G.aload_n (k := 0) rfl dX7_wipe_10 ?_
    refine G.getr (j := 6) rfl gci_X7 (by decide) rfl fl_X7_25 dX7_wipe_11 ?_
    refine G.iload_n (k := 1) rfl dX7_wipe_14 ?_
    refine G.ialdN (k := q) rfl (rfl) (hq) (by decide) dX7_wipe_15 ?_
    rw [hl]
    refine G.ist2 (by decide) rfl dX7_wipe_16 ?_
    refine G.aload_n (k := 0) rfl dX7_wipe_17 ?_
    refine G.getr (j := 6) rfl gci_X7 (by decide) rfl fl_X7_25 dX7_wipe_18 ?_
    refine G.iload_n (k := 1) rfl dX7_wipe_21 ?_
    refine G.iconst (v := 0) (by decide) dX7_wipe_22 ?_
    refine G.iastN (k := q) rfl (rfl) (hq) (by decide) dX7_wipe_23 ?_
    refine G.iload_n (k := 2) rfl dX7_wipe_24 ?_
    exact G.iret rfl (by unfold mP sp_wipe; rw [if_pos h1, xq]; exact ⟨rfl, TM_sh hT (Nat.zero_le _), fun k _ h6 => up2_ne _ _ _ h6⟩) dX7_wipe_25
  · have h1 := in_f 9 (by decide) c_4
    refine G.bipush (v := (-2)) (by decide) dX7_wipe_7 ?_
    exact G.iret rfl (by unfold mP sp_wipe; rw [if_neg (by simp [h1])]; exact ⟨rfl, hT, fun _ _ _ => rfl⟩) dX7_wipe_9
set_option maxHeartbeats 4000000 in
set_option maxRecDepth 100000 in
theorem c_X7_undo {ln B : Nat → Nat} {t : Int32} (hT : TM σ ln B) : GM (XM l D cA ad) mX7_undo [.ref 0, .int t] σ (g_ri (mP σ (sp_undo ln B t))) := by
  refine GM.of (ls := [some (.ref 0), some (.int t)]) (by decide) (Nat.le_of_ble_eq_true rfl) rfl ?_
  refine G.iload_n (k := 1) rfl dX7_undo_0 ?_
  refine G.callSif (c_X7_isText) ml_X7_128 ws_yX7_isText gcl_X7_isText (by decide) rfl rfl (Nat.le_of_ble_eq_true rfl) dX7_undo_1 ?_
  refine G.if_ne (tgt := 10) (by decide) dX7_undo_4 (fun c_4 => ?_) (fun c_4 => ?_)
  · have h1 := in_t 9 (by decide) c_4
    obtain ⟨q, hq, eq⟩ := inB_of (by decide) h1
    subst eq
    have xq : ix (nI q) = q := ix_nI (by omega)
    have hl := (hT q hq).1
    have h30 := Nat.le_trans (hT q hq).2.1 (tcap_le q)
    refine G.aload_n (k := 0) rfl dX7_undo_10 ?_
    refine G.getr (j := 6) rfl gci_X7 (by decide) rfl fl_X7_25 dX7_undo_11 ?_
    refine G.iload_n (k := 1) rfl dX7_undo_14 ?_
    refine G.ialdN (k := q) rfl (rfl) (hq) (by decide) dX7_undo_15 ?_
    rw [hl]
    refine G.if_ne (tgt := 22) (by decide) dX7_undo_16 (fun c_16 => ?_) (fun c_16 => ?_)
    · have hz : ¬ ln q = 0 := fun e => c_16 (by rw [e]; rfl)
      have e1 : nI (ln q) - 1 = nI (ln q - 1) := nu_sub (b := 1) (by omega)
      refine G.aload_n (k := 0) rfl dX7_undo_22 ?_
      refine G.getr (j := 6) rfl gci_X7 (by decide) rfl fl_X7_25 dX7_undo_23 ?_
      refine G.iload_n (k := 1) rfl dX7_undo_26 ?_
      refine G.dup2 dX7_undo_27 ?_
      refine G.ialdN (k := q) rfl (rfl) (hq) (by decide) dX7_undo_28 ?_
      rw [hl]
      refine G.iconst (v := 1) (by decide) dX7_undo_29 ?_
      refine G.isub dX7_undo_30 ?_
      rw [e1]
      refine G.iastN (k := q) rfl (rfl) (hq) (by decide) dX7_undo_31 ?_
      refine G.aload_n (k := 0) rfl dX7_undo_32 ?_
      refine G.getr (j := 6) rfl gci_X7 (by decide) rfl fl_X7_25 dX7_undo_33 ?_
      refine G.iload_n (k := 1) rfl dX7_undo_36 ?_
      refine G.ialdN (k := q) rfl (rfl) (hq) (by decide) dX7_undo_37 ?_
      rw [up2_at]
      exact G.iret rfl (by unfold mP sp_undo; rw [if_pos h1, xq, if_neg hz]; exact ⟨rfl, TM_sh hT (Nat.sub_le _ _), fun k _ h6 => up2_ne _ _ _ h6⟩) dX7_undo_38
    · have hz : ln q = 0 := (nI_eq (show ln q < 2 ^ 31 by omega) (show 0 < 2 ^ 31 by decide)).mp c_16
      refine G.bipush (v := (-3)) (by decide) dX7_undo_19 ?_
      exact G.iret rfl (by unfold mP sp_undo; rw [if_pos h1, xq, if_pos hz]; exact ⟨rfl, hT, fun _ _ _ => rfl⟩) dX7_undo_21
  · have h1 := in_f 9 (by decide) c_4
    refine G.bipush (v := (-2)) (by decide) dX7_undo_7 ?_
    exact G.iret rfl (by unfold mP sp_undo; rw [if_neg (by simp [h1])]; exact ⟨rfl, hT, fun _ _ _ => rfl⟩) dX7_undo_9
set_option maxHeartbeats 4000000 in
set_option maxRecDepth 100000 in
theorem c_X7_type {ln B : Nat → Nat} {t b : Int32} (hT : TM σ ln B) : GM (XM l D cA ad) mX7_type [.ref 0, .int t, .int b] σ (g_ri (mP σ (sp_type ln B t b))) := by
  refine GM.of (ls := [some (.ref 0), some (.int t), some (.int b)]) (by decide) (Nat.le_of_ble_eq_true rfl) rfl ?_
  refine G.iload_n (k := 1) rfl dX7_type_0 ?_
  refine G.callSif (c_X7_isText) ml_X7_128 ws_yX7_isText gcl_X7_isText (by decide) rfl rfl (Nat.le_of_ble_eq_true rfl) dX7_type_1 ?_
  refine G.if_eq (tgt := 19) (by decide) dX7_type_4 (fun c_4 => ?_) (fun c_4 => ?_)
  · have h1 := in_f 9 (by decide) c_4
    refine G.bipush (v := (-2)) (by decide) dX7_type_19 ?_
    exact G.iret rfl (by unfold mP sp_type; rw [if_neg (by first | (simp [h1]; done) | simp [h1, h2])]; exact ⟨rfl, hT, fun _ _ _ => rfl⟩) dX7_type_21
  · have h1 := in_t 9 (by decide) c_4
    refine G.iload_n (k := 2) rfl dX7_type_7 ?_
    refine G.i2l dX7_type_8 ?_
    refine G.lconst (v := 0) (by decide) dX7_type_9 ?_
    refine G.ldc2 ct_X7_131 dX7_type_10 ?_
    refine G.callSif (c_X7_in (x := b) (a := 0) (b := 255) (by decide) (by decide)) ml_X7_94 ws_yX7_in gcl_X7_in (by decide) rfl rfl (Nat.le_of_ble_eq_true rfl) dX7_type_13 ?_
    refine G.if_ne (tgt := 22) (by decide) dX7_type_16 (fun c_16 => ?_) (fun c_16 => ?_)
    · have h2 := in_t 255 (by decide) c_16
      obtain ⟨q, hq, eq⟩ := inB_of (by decide) h1
      subst eq
      have xq : ix (nI q) = q := ix_nI (by omega)
      obtain ⟨x, hx, ex⟩ := inB_of (by decide) h2
      subst ex
      have xx : ix (nI x) = x := ix_nI (by omega)
      have hl := (hT q hq).1
      have h30 := Nat.le_trans (hT q hq).2.1 (tcap_le q)
      refine G.aload_n (k := 0) rfl dX7_type_22 ?_
      refine G.getr (j := 6) rfl gci_X7 (by decide) rfl fl_X7_25 dX7_type_23 ?_
      refine G.iload_n (k := 1) rfl dX7_type_26 ?_
      refine G.ialdN (k := q) rfl (rfl) (hq) (by decide) dX7_type_27 ?_
      rw [hl]
      refine G.iload_n (k := 1) rfl dX7_type_28 ?_
      refine G.bipush (v := 8) (by decide) dX7_type_29 ?_
      refine G.icmp_ge (tgt := 39) (by decide) dX7_type_31 (fun c_31 => ?_) (fun c_31 => ?_)
      · have hc : tcap q = 24 := if_neg (fun e => nI_ge (b := 8) e (by decide) c_31)
        have hcI : (24 : Int32) = nI (tcap q) := by rw [hc]; rfl
        refine G.bipush (v := 24) (by decide) dX7_type_39 ?_
        refine G.icmp_ne (tgt := 47) (by decide) dX7_type_41 (fun c_41 => ?_) (fun c_41 => ?_)
        · have hn : ln q < tcap q := Nat.lt_of_le_of_ne (hT q hq).2.1 (fun e => c_41 (by rw [e, hc]; rfl))
          refine G.aload_n (k := 0) rfl dX7_type_47 ?_
          refine G.getr (j := 5) rfl gci_X7 (by decide) rfl fl_X7_22 dX7_type_48 ?_
          refine G.bipush (v := 30) (by decide) dX7_type_51 ?_
          refine G.iload_n (k := 1) rfl dX7_type_53 ?_
          refine G.imul dX7_type_54 ?_
          rw [show (30 : Int32) * nI q = nI (30 * q) from nu_mul 30 q]
          refine G.aload_n (k := 0) rfl dX7_type_55 ?_
          refine G.getr (j := 6) rfl gci_X7 (by decide) rfl fl_X7_25 dX7_type_56 ?_
          refine G.iload_n (k := 1) rfl dX7_type_59 ?_
          refine G.ialdN (k := q) rfl (rfl) (hq) (by decide) dX7_type_60 ?_
          rw [hl]
          refine G.iadd dX7_type_61 ?_
          rw [nI_add]
          refine G.iload_n (k := 2) rfl dX7_type_62 ?_
          refine G.iastN (k := 30 * q + ln q) rfl (rfl) (by omega) (by decide) dX7_type_63 ?_
          refine G.aload_n (k := 0) rfl dX7_type_64 ?_
          refine G.getr (j := 6) rfl gci_X7 (by decide) rfl fl_X7_25 dX7_type_65 ?_
          refine G.iload_n (k := 1) rfl dX7_type_68 ?_
          refine G.dup2 dX7_type_69 ?_
          refine G.ialdN (k := q) rfl (rfl) (hq) (by decide) dX7_type_70 ?_
          rw [up2_ne _ _ _ (show (6 : Nat) ≠ 5 by decide), hl]
          refine G.iconst (v := 1) (by decide) dX7_type_71 ?_
          refine G.iadd dX7_type_72 ?_
          rw [nI_1]
          refine G.iastN (k := q) rfl (rfl) (hq) (by decide) dX7_type_73 ?_
          refine G.aload_n (k := 0) rfl dX7_type_74 ?_
          refine G.getr (j := 6) rfl gci_X7 (by decide) rfl fl_X7_25 dX7_type_75 ?_
          refine G.iload_n (k := 1) rfl dX7_type_78 ?_
          refine G.ialdN (k := q) rfl (rfl) (hq) (by decide) dX7_type_79 ?_
          rw [up2_at]
          exact G.iret rfl (by unfold mP sp_type; rw [if_pos (by simp [h1, h2]), xq, xx, if_pos hn]; exact ⟨rfl, TM_ap hT hn hx, fun k h5 h6 => by rw [up2_ne _ _ _ h6, up2_ne _ _ _ h5]⟩) dX7_type_80
        · have hn : ¬ ln q < tcap q := by
            have e := (nI_eq (show ln q < 2 ^ 31 by omega) (show tcap q < 2 ^ 31 by omega)).mp (c_41.trans hcI)
            omega
          refine G.bipush (v := (-4)) (by decide) dX7_type_44 ?_
          exact G.iret rfl (by unfold mP sp_type; rw [if_pos (by simp [h1, h2]), xq, if_neg hn]; exact ⟨rfl, hT, fun _ _ _ => rfl⟩) dX7_type_46
      · have hc : tcap q = 30 := if_pos (Nat.lt_of_not_le (fun e => c_31 (ge8 q hq e)))
        have hcI : (30 : Int32) = nI (tcap q) := by rw [hc]; rfl
        refine G.bipush (v := 30) (by decide) dX7_type_34 ?_
        refine G.goto (tgt := 41) (by decide) dX7_type_36 ?_
        refine G.icmp_ne (tgt := 47) (by decide) dX7_type_41 (fun c_41 => ?_) (fun c_41 => ?_)
        · have hn : ln q < tcap q := Nat.lt_of_le_of_ne (hT q hq).2.1 (fun e => c_41 (by rw [e, hc]; rfl))
          refine G.aload_n (k := 0) rfl dX7_type_47 ?_
          refine G.getr (j := 5) rfl gci_X7 (by decide) rfl fl_X7_22 dX7_type_48 ?_
          refine G.bipush (v := 30) (by decide) dX7_type_51 ?_
          refine G.iload_n (k := 1) rfl dX7_type_53 ?_
          refine G.imul dX7_type_54 ?_
          rw [show (30 : Int32) * nI q = nI (30 * q) from nu_mul 30 q]
          refine G.aload_n (k := 0) rfl dX7_type_55 ?_
          refine G.getr (j := 6) rfl gci_X7 (by decide) rfl fl_X7_25 dX7_type_56 ?_
          refine G.iload_n (k := 1) rfl dX7_type_59 ?_
          refine G.ialdN (k := q) rfl (rfl) (hq) (by decide) dX7_type_60 ?_
          rw [hl]
          refine G.iadd dX7_type_61 ?_
          rw [nI_add]
          refine G.iload_n (k := 2) rfl dX7_type_62 ?_
          refine G.iastN (k := 30 * q + ln q) rfl (rfl) (by omega) (by decide) dX7_type_63 ?_
          refine G.aload_n (k := 0) rfl dX7_type_64 ?_
          refine G.getr (j := 6) rfl gci_X7 (by decide) rfl fl_X7_25 dX7_type_65 ?_
          refine G.iload_n (k := 1) rfl dX7_type_68 ?_
          refine G.dup2 dX7_type_69 ?_
          refine G.ialdN (k := q) rfl (rfl) (hq) (by decide) dX7_type_70 ?_
          rw [up2_ne _ _ _ (show (6 : Nat) ≠ 5 by decide), hl]
          refine G.iconst (v := 1) (by decide) dX7_type_71 ?_
          refine G.iadd dX7_type_72 ?_
          rw [nI_1]
          refine G.iastN (k := q) rfl (rfl) (hq) (by decide) dX7_type_73 ?_
          refine G.aload_n (k := 0) rfl dX7_type_74 ?_
          refine G.getr (j := 6) rfl gci_X7 (by decide) rfl fl_X7_25 dX7_type_75 ?_
          refine G.iload_n (k := 1) rfl dX7_type_78 ?_
          refine G.ialdN (k := q) rfl (rfl) (hq) (by decide) dX7_type_79 ?_
          rw [up2_at]
          exact G.iret rfl (by unfold mP sp_type; rw [if_pos (by simp [h1, h2]), xq, xx, if_pos hn]; exact ⟨rfl, TM_ap hT hn hx, fun k h5 h6 => by rw [up2_ne _ _ _ h6, up2_ne _ _ _ h5]⟩) dX7_type_80
        · have hn : ¬ ln q < tcap q := by
            have e := (nI_eq (show ln q < 2 ^ 31 by omega) (show tcap q < 2 ^ 31 by omega)).mp (c_41.trans hcI)
            omega
          refine G.bipush (v := (-4)) (by decide) dX7_type_44 ?_
          exact G.iret rfl (by unfold mP sp_type; rw [if_pos (by simp [h1, h2]), xq, if_neg hn]; exact ⟨rfl, hT, fun _ _ _ => rfl⟩) dX7_type_46
    · have h2 := in_f 255 (by decide) c_16
      refine G.bipush (v := (-2)) (by decide) dX7_type_19 ?_
      exact G.iret rfl (by unfold mP sp_type; rw [if_neg (by first | (simp [h1]; done) | simp [h1, h2])]; exact ⟨rfl, hT, fun _ _ _ => rfl⟩) dX7_type_21
end T80

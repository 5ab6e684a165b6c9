/-! ===== way ===== -/
section T70
variable {l : Launch} {D : va_G} {cA : ClassId} {ad : Nat → Nat}
variable {σ σ0 : gS}
set_option maxHeartbeats 4000000 in
set_option maxRecDepth 100000 in
theorem l_X6_way {τ : gS} {q : Nat} {w : Int32} {B : Nat → Nat} {R : uS × Nat × Int32} (hq : q < 24) (hR : RunQ τ 22 B R) {P : Int32 → gS → Prop} (K : ∀ σ, wyI τ σ q 4 (fnd B R) → G (XC l D cA ad) mX6_way (g_ri P) 77 [some (.ref 0), some (.int (nI q)), some (.int w), some (.int (nI 4))] [] σ) : ∀ j i (σ : gS), i + j = 4 → wyI τ σ q i (fnd B R) → G (XC l D cA ad) mX6_way (g_ri P) 48 [some (.ref 0), some (.int (nI q)), some (.int w), some (.int (nI i))] [] σ := by
  intro j
  induction j with
  | zero =>
    intro i σ hi hI
    have hi2 : i = 4 := by omega
    subst hi2
    refine G.iload_n (k := 3) rfl dX6_way_48 ?_
    refine G.iconst (v := 4) (by decide) dX6_way_49 ?_
    refine G.icmp_ge (tgt := 77) (by decide) dX6_way_50 (fun c_50 => ?_) (fun c_50 => absurd (by decide) c_50)
    exact K σ hI
  | succ j ih =>
    intro i σ hi hI
    have hi4 : i < 4 := by omega
    have hR2 : RunQ σ 22 B R := RunQ_congr (fun k a b => hI.1 k (by omega)) hR
    refine G.iload_n (k := 3) rfl dX6_way_48 ?_
    refine G.iconst (v := 4) (by decide) dX6_way_49 ?_
    refine G.icmp_ge (tgt := 77) (by decide) dX6_way_50 (fun c_50 => absurd c_50 (nI_ge (b := 4) (by omega) (by decide))) (fun c_50 => ?_)
    refine G.aload_n (k := 0) rfl dX6_way_53 ?_
    refine G.getr (j := 5) rfl gci_X6 (by decide) rfl fl_X6_20 dX6_way_54 ?_
    refine G.iconst (v := 4) (by decide) dX6_way_57 ?_
    refine G.iload_n (k := 1) rfl dX6_way_58 ?_
    refine G.imul dX6_way_59 ?_
    rw [show (4 : Int32) * nI q = nI (4 * q) from nu_mul 4 q]
    refine G.iload_n (k := 3) rfl dX6_way_60 ?_
    refine G.iadd dX6_way_61 ?_
    rw [nI_add]
    refine G.aload_n (k := 0) rfl dX6_way_62 ?_
    refine G.getr (j := 3) rfl gci_X6 (by decide) rfl fl_X6_63 dX6_way_63 ?_
    refine G.iload_n (k := 3) rfl dX6_way_66 ?_
    refine G.callVif (c_X2_finding svA_22 (w := nI i) (in4w (inB_nI (by decide) hi4))) rfl (gci_X2).1 ml_X6_183 im_yX2_finding se_yX2_finding gcl_X2_finding (by decide) rfl rfl (Nat.le_of_ble_eq_true rfl) dX6_way_67 ?_
    rw [fnd_of hR2 (inB_nI (by decide) hi4), show ix (nI i) = i from ix_nI (by omega)]
    refine G.iastN (k := 4 * q + i) rfl rfl (by omega) (by decide) dX6_way_70 ?_
    refine G.inc3 (d := 1) (by decide) (by decide) rfl dX6_way_71 ?_
    refine G.goto (tgt := 48) (by decide) dX6_way_74 ?_
    rw [nI_1]
    exact ih (i + 1) _ (by omega) (wyI_s hi4 hI)
set_option maxHeartbeats 4000000 in
set_option maxRecDepth 100000 in
theorem c_X6_way {ln B : Nat → Nat} (h : IX σ ln B) {k w : Int32} : GM (XC l D cA ad) mX6_way [.ref 0, .int k, .int w] σ (g_ri (aQ σ ln B (sp_way ln B k w))) := by
  refine GM.of (ls := [some (.ref 0), some (.int k), some (.int w), none]) (by decide) (Nat.le_of_ble_eq_true rfl) rfl ?_
  refine G.iload_n (k := 1) rfl dX6_way_0 ?_
  refine G.bipush (v := 24) (by decide) dX6_way_1 ?_
  refine G.callSif (c_X6_isOutside) ml_X6_72 ws_yX6_isOutside gcl_X6_isOutside (by decide) rfl rfl (Nat.le_of_ble_eq_true rfl) dX6_way_3 ?_
  refine G.if_ne (tgt := 17) (by decide) dX6_way_6 (fun c_6 => ?_) (fun c_6 => ?_)
  · have h1 := ou_t 24 (by decide) c_6
    refine G.bipush (v := (-2)) (by decide) dX6_way_17 ?_
    exact G.iret rfl (by unfold aQ sp_way; rw [if_neg (by first | (simp [h1]; done) | simp [h1, h2])]; exact ⟨rfl, h, qF_rf _⟩) dX6_way_19
  · have h1 := ou_f 24 (by decide) c_6
    refine G.iload_n (k := 2) rfl dX6_way_9 ?_
    refine G.iconst (v := 4) (by decide) dX6_way_10 ?_
    refine G.callSif (c_X6_isOutside) ml_X6_72 ws_yX6_isOutside gcl_X6_isOutside (by decide) rfl rfl (Nat.le_of_ble_eq_true rfl) dX6_way_11 ?_
    refine G.if_eq (tgt := 20) (by decide) dX6_way_14 (fun c_14 => ?_) (fun c_14 => ?_)
    · have h2 := ou_f 4 (by decide) c_14
      obtain ⟨q, hq, eq⟩ := inB_of (by decide) h1
      subst eq
      have xq : ix (nI q) = q := ix_nI (by omega)
      obtain ⟨x, hx, ex⟩ := inB_of (by decide) h2
      subst ex
      have xx : ix (nI x) = x := ix_nI (by omega)
      obtain ⟨wk, h24, e6, hwk⟩ := h.2.2.2.1
      refine G.aload_n (k := 0) rfl dX6_way_20 ?_
      refine G.geti (j := 6) rfl gci_X6 (by decide) rfl fl_X6_24 dX6_way_21 ?_
      rw [e6]
      refine G.iload_n (k := 1) rfl dX6_way_24 ?_
      refine G.ishr dX6_way_25 ?_
      refine G.iconst (v := 1) (by decide) dX6_way_26 ?_
      refine G.iand dX6_way_27 ?_
      refine G.if_ne (tgt := 89) (by decide) dX6_way_28 (fun c_28 => ?_) (fun c_28 => ?_)
      · have ht : wk.testBit q = true := by
          by_cases z : wk.testBit q = true
          · exact z
          · exact absurd ((tb_bit (by omega) (by omega)).mpr z) c_28
        refine G.aload_n (k := 0) rfl dX6_way_89 ?_
        refine G.getr (j := 5) rfl gci_X6 (by decide) rfl fl_X6_20 dX6_way_90 ?_
        refine G.iconst (v := 4) (by decide) dX6_way_93 ?_
        refine G.iload_n (k := 1) rfl dX6_way_94 ?_
        refine G.imul dX6_way_95 ?_
        rw [show (4 : Int32) * nI q = nI (4 * q) from nu_mul 4 q]
        refine G.iload_n (k := 2) rfl dX6_way_96 ?_
        refine G.iadd dX6_way_97 ?_
        rw [nI_add]
        refine G.ialdN (k := 4 * q + x) rfl rfl (by omega) (by decide) dX6_way_98 ?_
        rw [hwk q hq ht x hx]
        exact G.iret rfl (by unfold aQ sp_way; rw [if_pos (show (inB (nI q) 24 && inB (nI x) 4) = true by simp [h1, h2]), xq, xx]; exact ⟨rfl, h, qF_rf _⟩) dX6_way_99
      · refine G.aload_n (k := 0) rfl dX6_way_31 ?_
        refine G.getr (j := 3) rfl gci_X6 (by decide) rfl fl_X6_63 dX6_way_32 ?_
        refine G.order fl_X6_169 dX6_way_35 ?_
        refine G.iload_n (k := 1) rfl dX6_way_38 ?_
        refine G.ordld (i := nI q) (vp_in_iff.mpr (inB_iff.mp h1)) dX6_way_39 ?_
        rw [show (nI q).toNatClampNeg = q from xq]
        refine G.bipush (v := 15) (by decide) dX6_way_40 ?_
        refine G.iconst (v := 0) (by decide) dX6_way_42 ?_
        refine G.callVv (c_X2_run svA_22 (wm := 15) (rig := false) (es := ordE q) (td := tdA ln B) (IX_tx h) (IX_thOK h) (fun p _ => ordE_lt q p) (fun p hp => ordE_ok q hq p hp) (by decide) (IX_td h) (IX_td6 h)) rfl (gci_X2).1 ml_X6_172 im_yX2_run se_yX2_run gcl_X2_run (by decide) rfl rfl (Nat.le_of_ble_eq_true rfl) dX6_way_43 (fun τ hr => ?_)
        rw [IX_run h q 15] at hr
        refine G.iconst (v := 0) (by decide) dX6_way_46 ?_
        refine G.ist3 (by decide) rfl dX6_way_47 ?_
        refine l_X6_way hq (RunP_Q hr) (fun σ2 hI => ?_) 4 0 τ (by decide) ⟨fun _ _ => rfl, fun _ _ => rfl, fun j hj => absurd hj (Nat.not_lt_zero _)⟩
        refine G.aload_n (k := 0) rfl dX6_way_77 ?_
        refine G.dupr dX6_way_78 ?_
        refine G.geti (j := 6) rfl gci_X6 (by decide) rfl fl_X6_24 dX6_way_79 ?_
        rw [hI.1 0 (by decide), hr.1 0 (by decide), e6]
        refine G.iconst (v := 1) (by decide) dX6_way_82 ?_
        refine G.iload_n (k := 1) rfl dX6_way_83 ?_
        refine G.ishl dX6_way_84 ?_
        rw [(sh1_24 q hq).1]
        refine G.ior dX6_way_85 ?_
        rw [nu_or]
        refine G.put (j := 6) rfl gci_X6 gcp_X6 (by decide) rfl rfl rfl rfl fl_X6_24 dX6_way_86 ?_
        refine G.aload_n (k := 0) rfl dX6_way_89 ?_
        refine G.getr (j := 5) rfl gci_X6 (by decide) rfl fl_X6_20 dX6_way_90 ?_
        refine G.iconst (v := 4) (by decide) dX6_way_93 ?_
        refine G.iload_n (k := 1) rfl dX6_way_94 ?_
        refine G.imul dX6_way_95 ?_
        rw [show (4 : Int32) * nI q = nI (4 * q) from nu_mul 4 q]
        refine G.iload_n (k := 2) rfl dX6_way_96 ?_
        refine G.iadd dX6_way_97 ?_
        rw [nI_add]
        refine G.ialdN (k := 4 * q + x) rfl rfl (by omega) (by decide) dX6_way_98 ?_
        rw [up2_ne _ _ _ (show (28 : Nat) ≠ 0 by decide), hI.2.2 x hx]
        exact G.iret rfl (by unfold aQ sp_way; rw [if_pos (show (inB (nI q) 24 && inB (nI x) 4) = true by simp [h1, h2]), xq, xx]; exact ⟨rfl, IX_way hq h hr.1 hI h24 hwk⟩) dX6_way_99
    · have h2 := ou_t 4 (by decide) c_14
      refine G.bipush (v := (-2)) (by decide) dX6_way_17 ?_
      exact G.iret rfl (by unfold aQ sp_way; rw [if_neg (by first | (simp [h1]; done) | simp [h1, h2])]; exact ⟨rfl, h, qF_rf _⟩) dX6_way_19
end T70

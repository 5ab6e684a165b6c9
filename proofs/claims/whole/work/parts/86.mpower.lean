/-! ===== the model: powers ===== -/
theorem fm60_2 (k : Int32) : (k - k / 60 * 60 + 60) - (k - k / 60 * 60 + 60) / 60 * 60 = fm60 k := by
  have h := rem_toInt k 60
  rw [show (60 : Int32).toInt = 60 from by decide] at h
  have h1 : k.toInt.tmod 60 < 60 := Int.tmod_lt_of_pos _ (by decide)
  have h2 : -60 < k.toInt.tmod 60 := by
    rcases Int.le_total 0 k.toInt with q | q
    · have := Int.tmod_nonneg 60 q; omega
    · have e := Int.neg_tmod (-k.toInt) 60
      rw [Int.neg_neg] at e
      have := Int.tmod_lt_of_pos (-k.toInt) (show (0 : Int) < 60 by decide)
      omega
  unfold fm60
  generalize k - k / 60 * 60 = y at h ⊢
  have e : (y + 60).toInt = y.toInt + 60 := by rw [Int32.toInt_add, show (60 : Int32).toInt = 60 from by decide, Int.bmod_eq_of_le (by omega) (by omega)]
  have r := rem_toInt (y + 60) 60
  rw [e, show (60 : Int32).toInt = 60 from by decide, Int.tmod_eq_emod_of_nonneg (by omega)] at r
  apply Int32.toInt_inj.mp
  rw [r]
  by_cases q : y < 0
  · have q2 := Int32.lt_iff_toInt_lt.mp q
    rw [show (0 : Int32).toInt = 0 from by decide] at q2
    rw [if_pos q, e]
    omega
  · have q2 : ¬ y.toInt < 0 := fun z => q (Int32.lt_iff_toInt_lt.mpr z)
    rw [if_neg q]
    omega
section T86
variable {l : Launch} {D : va_G} {cA : ClassId} {ad : Nat → Nat}
variable {σ : gS}
set_option maxHeartbeats 4000000 in
set_option maxRecDepth 100000 in
theorem l_X7_powerBy {c q z : Nat} {y2 : Int32} (hP : tn_P c) (ht : σ 0 13 = nI c) (hq : q < 6) (hz : z < 60) : ∀ j i, i + j = z → G (XM l D cA ad) mX7_powerBy (g_ri (fun r τ => r = nI (itr c q z) ∧ τ = σ)) 17 [some (.ref 0), some (.int (nI q)), some (.int y2), some (.int (nI z)), some (.int (nI (itr c q i))), some (.int (nI i))] [] σ := by
  intro j
  induction j with
  | zero =>
    intro i hi
    have hi2 : i = z := by omega
    subst hi2
    refine G.iload (i := 5) rfl dX7_powerBy_17 ?_
    refine G.iload_n (k := 3) rfl dX7_powerBy_19 ?_
    refine G.icmp_ge (tgt := 40) (by decide) dX7_powerBy_20 (fun c_20 => ?_) (fun c_20 => absurd (Int32.le_refl _) c_20)
    refine G.iload (i := 4) rfl dX7_powerBy_40 ?_
    exact G.iret rfl (⟨rfl, rfl⟩) dX7_powerBy_42
  | succ j ih =>
    intro i hi
    refine G.iload (i := 5) rfl dX7_powerBy_17 ?_
    refine G.iload_n (k := 3) rfl dX7_powerBy_19 ?_
    refine G.icmp_ge (tgt := 40) (by decide) dX7_powerBy_20 (fun c_20 => absurd c_20 (nI_ge (by omega) (by omega))) (fun c_20 => ?_)
    refine G.aload_n (k := 0) rfl dX7_powerBy_23 ?_
    refine G.geti (j := 13) rfl gci_X7 (by decide) rfl fl_X7_155 dX7_powerBy_24 ?_
    rw [ht]
    refine G.iload (i := 4) rfl dX7_powerBy_27 ?_
    refine G.callSif (c_X7_image (n := itr c q i) hP.1 (itr_lt hP hq i)) ml_X7_123 ws_yX7_image gcl_X7_image (by decide) rfl rfl (Nat.le_of_ble_eq_true rfl) dX7_powerBy_29 ?_
    refine G.ist4 (by decide) rfl dX7_powerBy_32 ?_
    refine G.inc5 (d := 1) (by decide) (by decide) rfl dX7_powerBy_34 ?_
    refine G.goto (tgt := 17) (by decide) dX7_powerBy_37 ?_
    rw [nI_1]
    exact ih (i + 1) (by omega)
set_option maxHeartbeats 4000000 in
set_option maxRecDepth 100000 in
theorem c_X7_powerBy {c n : Nat} {k : Int32} (hP : tn_P c) (ht : σ 0 13 = nI c) (hn : n < 6) : GM (XM l D cA ad) mX7_powerBy [.ref 0, .int (nI n), .int k] σ (g_ri (fun r τ => r = nI (itr c n (ix (fm60 k))) ∧ τ = σ)) := by
  refine GM.of (ls := [some (.ref 0), some (.int (nI n)), some (.int k), none, none, none]) (by decide) (Nat.le_of_ble_eq_true rfl) rfl ?_
  refine G.iload_n (k := 2) rfl dX7_powerBy_0 ?_
  refine G.bipush (v := 60) (by decide) dX7_powerBy_1 ?_
  refine G.irem (by decide) dX7_powerBy_3 ?_
  refine G.bipush (v := 60) (by decide) dX7_powerBy_4 ?_
  refine G.iadd dX7_powerBy_6 ?_
  refine G.bipush (v := 60) (by decide) dX7_powerBy_7 ?_
  refine G.irem (by decide) dX7_powerBy_9 ?_
  rw [fm60_2]
  obtain ⟨z, hz, ez⟩ := fm60_lt k
  rw [ez, show ix (nI z) = z from ix_nI (by omega)]
  refine G.ist3 (by decide) rfl dX7_powerBy_10 ?_
  refine G.iload_n (k := 1) rfl dX7_powerBy_11 ?_
  refine G.ist4 (by decide) rfl dX7_powerBy_12 ?_
  refine G.iconst (v := 0) (by decide) dX7_powerBy_14 ?_
  refine G.ist5 (by decide) rfl dX7_powerBy_15 ?_
  exact l_X7_powerBy hP ht hn hz z 0 (by omega)
set_option maxHeartbeats 4000000 in
set_option maxRecDepth 100000 in
theorem c_X7_power {ln B : Nat → Nat} {n k : Int32} (hT : TM σ ln B) : GM (XM l D cA ad) mX7_power [.ref 0, .int n, .int k] σ (g_ri (fun r τ => r = sp_power ln B n k ∧ τ = up2 σ 0 13 (nI (ttA ln B)))) := by
  refine GM.of (ls := [some (.ref 0), some (.int n), some (.int k)]) (by decide) (Nat.le_of_ble_eq_true rfl) rfl ?_
  refine G.aload_n (k := 0) rfl dX7_power_0 ?_
  refine G.callVif (c_X7_readsTurn hT) rfl (gci_X7).1 ml_X7_171 im_yX7_readsTurn se_yX7_readsTurn gcl_X7_readsTurn (by decide) rfl rfl (Nat.le_of_ble_eq_true rfl) dX7_power_1 ?_
  refine G.popi dX7_power_4 ?_
  refine G.iload_n (k := 1) rfl dX7_power_5 ?_
  refine G.callSif (c_X7_isName) ml_X7_185 ws_yX7_isName gcl_X7_isName (by decide) rfl rfl (Nat.le_of_ble_eq_true rfl) dX7_power_6 ?_
  refine G.if_eq (tgt := 21) (by decide) dX7_power_9 (fun c_9 => ?_) (fun c_9 => ?_)
  · have h1 := in_f 5 (by decide) c_9
    refine G.bipush (v := (-2)) (by decide) dX7_power_21 ?_
    exact G.iret rfl (by unfold sp_power; first | (rw [if_pos h1, xq]; exact ⟨rfl, rfl⟩) | (rw [if_neg (by simp [h1])]; exact ⟨rfl, rfl⟩)) dX7_power_23
  · have h1 := in_t 5 (by decide) c_9
    obtain ⟨q, hq, eq⟩ := inB_of (by decide) h1
    subst eq
    have xq : ix (nI q) = q := ix_nI (by omega)
    refine G.aload_n (k := 0) rfl dX7_power_12 ?_
    refine G.iload_n (k := 1) rfl dX7_power_13 ?_
    refine G.iload_n (k := 2) rfl dX7_power_14 ?_
    refine G.callVif (c_X7_powerBy (TM_ttP hT) (up2_at _ _ _ _) hq) rfl (gci_X7).1 ml_X7_194 im_yX7_powerBy se_yX7_powerBy gcl_X7_powerBy (by decide) rfl rfl (Nat.le_of_ble_eq_true rfl) dX7_power_15 ?_
    refine G.goto (tgt := 23) (by decide) dX7_power_18 ?_
    exact G.iret rfl (by unfold sp_power; first | (rw [if_pos h1, xq]; exact ⟨rfl, rfl⟩) | (rw [if_neg (by simp [h1])]; exact ⟨rfl, rfl⟩)) dX7_power_23
end T86

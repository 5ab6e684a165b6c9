/-! ===== the model: names that stay ===== -/
section T88
variable {l : Launch} {D : va_G} {cA : ClassId} {ad : Nat → Nat}
variable {σ : gS}
set_option maxHeartbeats 4000000 in
set_option maxRecDepth 100000 in
theorem l_X7_stays {c : Nat} (hP : tn_P c) (ht : σ 0 13 = nI c) : ∀ j q, q + j = 6 → G (XM l D cA ad) mX7_stays (g_ri (fun r τ => r = nI (ms_of (fun n => decide (tn_im c n = n))) ∧ τ = σ)) 4 [some (.ref 0), some (.int (nI (ms_N (fun n => decide (tn_im c n = n)) q))), some (.int (nI q))] [] σ := by
  intro j
  induction j with
  | zero =>
    intro q hq
    have hq : q = 6 := by omega
    subst hq
    refine G.iload_n (k := 2) rfl dX7_stays_4 ?_
    refine G.bipush (v := 6) (by decide) dX7_stays_5 ?_
    refine G.icmp_ge (tgt := 38) (by decide) dX7_stays_7 (fun c_7 => ?_) (fun c_7 => absurd (by decide) c_7)
    refine G.iload_n (k := 1) rfl dX7_stays_38 ?_
    exact G.iret rfl (⟨rfl, rfl⟩) dX7_stays_39
  | succ j ih =>
    intro q hq
    have him := hP.2.1 q (by omega)
    have hlt := ms_N_lt (fun n => decide (tn_im c n = n)) q
    refine G.iload_n (k := 2) rfl dX7_stays_4 ?_
    refine G.bipush (v := 6) (by decide) dX7_stays_5 ?_
    refine G.icmp_ge (tgt := 38) (by decide) dX7_stays_7 (fun c_7 => absurd c_7 (nI_ge (b := 6) (by omega) (by decide))) (fun c_7 => ?_)
    refine G.iload_n (k := 1) rfl dX7_stays_10 ?_
    refine G.aload_n (k := 0) rfl dX7_stays_11 ?_
    refine G.geti (j := 13) rfl gci_X7 (by decide) rfl fl_X7_155 dX7_stays_12 ?_
    rw [ht]
    refine G.iload_n (k := 2) rfl dX7_stays_15 ?_
    refine G.callSif (c_X7_image hP.1 (n := q) (by omega)) ml_X7_123 ws_yX7_image gcl_X7_image (by decide) rfl rfl (Nat.le_of_ble_eq_true rfl) dX7_stays_16 ?_
    refine G.iload_n (k := 2) rfl dX7_stays_19 ?_
    refine G.icmp_ne (tgt := 29) (by decide) dX7_stays_20 (fun c_20 => ?_) (fun c_20 => ?_)
    · have hne : ¬ tn_im c q = q := fun e => c_20 (by rw [e])
      have hs : nI (ms_N (fun n => decide (tn_im c n = n)) q) ||| 0 = nI (ms_N (fun n => decide (tn_im c n = n)) (q + 1)) := by
        show nI (ms_N (fun n => decide (tn_im c n = n)) q) ||| nI 0 = nI (ms_N (fun n => decide (tn_im c n = n)) q + (if decide (tn_im c q = q) = true then 2 ^ q else 0))
        rw [nu_or, Nat.or_zero, if_neg (by simpa using hne), Nat.add_zero]
      refine G.iconst (v := 0) (by decide) dX7_stays_29 ?_
      refine G.ior dX7_stays_30 ?_
      rw [hs]
      refine G.ist1 (by decide) rfl dX7_stays_31 ?_
      refine G.inc2 (d := 1) (by decide) (by decide) rfl dX7_stays_32 ?_
      refine G.goto (tgt := 4) (by decide) dX7_stays_35 ?_
      rw [nI_1]
      exact ih (q + 1) (by omega)
    · have heq : tn_im c q = q := (nI_eq (show tn_im c q < 2 ^ 31 by omega) (show q < 2 ^ 31 by omega)).mp c_20
      have hs : nI (ms_N (fun n => decide (tn_im c n = n)) q) ||| (1 : Int32) <<< (nI q &&& 31) = nI (ms_N (fun n => decide (tn_im c n = n)) (q + 1)) := by
        show nI (ms_N (fun n => decide (tn_im c n = n)) q) ||| nI 1 <<< (nI q &&& 31) = nI (ms_N (fun n => decide (tn_im c n = n)) q + (if decide (tn_im c q = q) = true then 2 ^ q else 0))
        rw [ms_or hlt (by omega), if_pos (by simpa using heq), Nat.one_mul]
      refine G.iconst (v := 1) (by decide) dX7_stays_23 ?_
      refine G.iload_n (k := 2) rfl dX7_stays_24 ?_
      refine G.ishl dX7_stays_25 ?_
      refine G.goto (tgt := 30) (by decide) dX7_stays_26 ?_
      refine G.ior dX7_stays_30 ?_
      rw [hs]
      refine G.ist1 (by decide) rfl dX7_stays_31 ?_
      refine G.inc2 (d := 1) (by decide) (by decide) rfl dX7_stays_32 ?_
      refine G.goto (tgt := 4) (by decide) dX7_stays_35 ?_
      rw [nI_1]
      exact ih (q + 1) (by omega)
set_option maxHeartbeats 4000000 in
set_option maxRecDepth 100000 in
theorem c_X7_stays {c : Nat} (hP : tn_P c) (ht : σ 0 13 = nI c) : GM (XM l D cA ad) mX7_stays [.ref 0] σ (g_ri (fun r τ => r = nI (ms_of (fun n => decide (tn_im c n = n))) ∧ τ = σ)) := by
  refine GM.of (ls := [some (.ref 0), none, none]) (by decide) (Nat.le_of_ble_eq_true rfl) rfl ?_
  refine G.iconst (v := 0) (by decide) dX7_stays_0 ?_
  refine G.ist1 (by decide) rfl dX7_stays_1 ?_
  refine G.iconst (v := 0) (by decide) dX7_stays_2 ?_
  refine G.ist2 (by decide) rfl dX7_stays_3 ?_
  exact l_X7_stays hP ht 6 0 rfl
end T88

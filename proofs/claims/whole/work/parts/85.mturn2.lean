/-! ===== the model: THE TURN ===== -/
section T85
variable {l : Launch} {D : va_G} {cA : ClassId} {ad : Nat → Nat}
variable {σ : gS}
theorem TM_ttP {ln B : Nat → Nat} (hT : TM σ ln B) : tn_P (ttA ln B) := ttA_P ln B (by have := Nat.le_trans (hT 9 (by decide)).2.1 (tcap_le 9); omega)
set_option maxHeartbeats 4000000 in
set_option maxRecDepth 100000 in
theorem c_X7_turnBy {c n : Nat} {w : Int32} (hP : tn_P c) (ht : σ 0 13 = nI c) (hn : n < 6) : GM (XM l D cA ad) mX7_turnBy [.ref 0, .int (nI n), .int w] σ (g_ri (fun r τ => r = (if w = 0 then nI (tn_im c n) else nI (tn_src c n)) ∧ τ = σ)) := by
  refine GM.of (ls := [some (.ref 0), some (.int (nI n)), some (.int w)]) (by decide) (Nat.le_of_ble_eq_true rfl) rfl ?_
  refine G.iload_n (k := 2) rfl dX7_turnBy_0 ?_
  refine G.if_ne (tgt := 11) (by decide) dX7_turnBy_1 (fun c_1 => ?_) (fun c_1 => ?_)
  · rw [if_neg c_1]
    refine G.aload_n (k := 0) rfl dX7_turnBy_11 ?_
    refine G.geti (j := 13) rfl gci_X7 (by decide) rfl fl_X7_155 dX7_turnBy_12 ?_
    rw [ht]
    refine G.callSif (c_X7_turnedBack hP) ml_X7_182 ws_yX7_turnedBack gcl_X7_turnedBack (by decide) rfl rfl (Nat.le_of_ble_eq_true rfl) dX7_turnBy_15 ?_
    first
    | (refine G.iload_n (k := 1) rfl dX7_turnBy_18 ?_; refine G.callSif (c_X7_image hP.1 hn) ml_X7_123 ws_yX7_image gcl_X7_image (by decide) rfl rfl (Nat.le_of_ble_eq_true rfl) dX7_turnBy_19 ?_; exact G.iret rfl ⟨rfl, rfl⟩ dX7_turnBy_22)
    | (refine G.iload_n (k := 1) rfl dX7_turnBy_18 ?_; refine G.callSif (c_X7_image (tn_enc_lt (fun _ _ => Nat.lt_of_lt_of_le (tn_src_lt (by assumption)) (by omega))) hn) ml_X7_123 ws_yX7_image gcl_X7_image (by decide) rfl rfl (Nat.le_of_ble_eq_true rfl) dX7_turnBy_19 ?_; exact G.iret rfl ⟨congrArg nI (tn_im_bk hn), rfl⟩ dX7_turnBy_22)
  · rw [if_pos c_1]
    refine G.aload_n (k := 0) rfl dX7_turnBy_4 ?_
    refine G.geti (j := 13) rfl gci_X7 (by decide) rfl fl_X7_155 dX7_turnBy_5 ?_
    rw [ht]
    refine G.goto (tgt := 18) (by decide) dX7_turnBy_8 ?_
    first
    | (refine G.iload_n (k := 1) rfl dX7_turnBy_18 ?_; refine G.callSif (c_X7_image hP.1 hn) ml_X7_123 ws_yX7_image gcl_X7_image (by decide) rfl rfl (Nat.le_of_ble_eq_true rfl) dX7_turnBy_19 ?_; exact G.iret rfl ⟨rfl, rfl⟩ dX7_turnBy_22)
    | (refine G.iload_n (k := 1) rfl dX7_turnBy_18 ?_; refine G.callSif (c_X7_image (tn_enc_lt (fun _ _ => Nat.lt_of_lt_of_le (tn_src_lt (by assumption)) (by omega))) hn) ml_X7_123 ws_yX7_image gcl_X7_image (by decide) rfl rfl (Nat.le_of_ble_eq_true rfl) dX7_turnBy_19 ?_; exact G.iret rfl ⟨congrArg nI (tn_im_bk hn), rfl⟩ dX7_turnBy_22)
set_option maxHeartbeats 4000000 in
set_option maxRecDepth 100000 in
theorem c_X7_turn {ln B : Nat → Nat} {n w : Int32} (hT : TM σ ln B) : GM (XM l D cA ad) mX7_turn [.ref 0, .int n, .int w] σ (g_ri (fun r τ => r = sp_turn ln B n w ∧ τ = up2 σ 0 13 (nI (ttA ln B)))) := by
  refine GM.of (ls := [some (.ref 0), some (.int n), some (.int w)]) (by decide) (Nat.le_of_ble_eq_true rfl) rfl ?_
  refine G.aload_n (k := 0) rfl dX7_turn_0 ?_
  refine G.callVif (c_X7_readsTurn hT) rfl (gci_X7).1 ml_X7_171 im_yX7_readsTurn se_yX7_readsTurn gcl_X7_readsTurn (by decide) rfl rfl (Nat.le_of_ble_eq_true rfl) dX7_turn_1 ?_
  refine G.popi dX7_turn_4 ?_
  refine G.iload_n (k := 1) rfl dX7_turn_5 ?_
  refine G.callSif (c_X7_isName) ml_X7_185 ws_yX7_isName gcl_X7_isName (by decide) rfl rfl (Nat.le_of_ble_eq_true rfl) dX7_turn_6 ?_
  refine G.if_eq (tgt := 28) (by decide) dX7_turn_9 (fun c_9 => ?_) (fun c_9 => ?_)
  · have h1 := in_f 5 (by decide) c_9
    refine G.bipush (v := (-2)) (by decide) dX7_turn_28 ?_
    exact G.iret rfl (by unfold sp_turn; first | (rw [if_pos (show (inB (nI q) 6 && inB w 2) = true by simp [h1, h2]), xq]; exact ⟨rfl, rfl⟩) | (rw [if_neg (by first | (simp [h1]; done) | simp [h1, h2])]; exact ⟨rfl, rfl⟩)) dX7_turn_30
  · have h1 := in_t 5 (by decide) c_9
    refine G.iload_n (k := 2) rfl dX7_turn_12 ?_
    refine G.callSif (c_X7_isTwo) ml_X7_188 ws_yX7_isTwo gcl_X7_isTwo (by decide) rfl rfl (Nat.le_of_ble_eq_true rfl) dX7_turn_13 ?_
    refine G.if_eq (tgt := 28) (by decide) dX7_turn_16 (fun c_16 => ?_) (fun c_16 => ?_)
    · have h2 := in_f 1 (by decide) c_16
      refine G.bipush (v := (-2)) (by decide) dX7_turn_28 ?_
      exact G.iret rfl (by unfold sp_turn; first | (rw [if_pos (show (inB (nI q) 6 && inB w 2) = true by simp [h1, h2]), xq]; exact ⟨rfl, rfl⟩) | (rw [if_neg (by first | (simp [h1]; done) | simp [h1, h2])]; exact ⟨rfl, rfl⟩)) dX7_turn_30
    · have h2 := in_t 1 (by decide) c_16
      obtain ⟨q, hq, eq⟩ := inB_of (by decide) h1
      subst eq
      have xq : ix (nI q) = q := ix_nI (by omega)
      refine G.aload_n (k := 0) rfl dX7_turn_19 ?_
      refine G.iload_n (k := 1) rfl dX7_turn_20 ?_
      refine G.iload_n (k := 2) rfl dX7_turn_21 ?_
      refine G.callVif (c_X7_turnBy (TM_ttP hT) (up2_at _ _ _ _) hq) rfl (gci_X7).1 ml_X7_191 im_yX7_turnBy se_yX7_turnBy gcl_X7_turnBy (by decide) rfl rfl (Nat.le_of_ble_eq_true rfl) dX7_turn_22 ?_
      refine G.goto (tgt := 30) (by decide) dX7_turn_25 ?_
      exact G.iret rfl (by unfold sp_turn; first | (rw [if_pos (show (inB (nI q) 6 && inB w 2) = true by simp [h1, h2]), xq]; exact ⟨rfl, rfl⟩) | (rw [if_neg (by first | (simp [h1]; done) | simp [h1, h2])]; exact ⟨rfl, rfl⟩)) dX7_turn_30
end T85

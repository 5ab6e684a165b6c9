/-! ===== the model reads all texts ===== -/
def RPM (σ : gS) (ln B : Nat → Nat) (s : Nat) : Prop := if s < 8 then PTM σ ln B s else if s = 8 then ∀ u, u < 6 → σ 12 u = nI (tdA ln B u) else σ 0 13 = nI (ttA ln B)
def MR (σ : gS) (ln B : Nat → Nat) : Prop := ∀ s, s < 10 → RPM σ ln B s
/-- what reading may change -/
def rdF (σ τ : gS) : Prop := (∀ k, k ≠ 0 → (k < 7 ∨ 12 < k) → τ k = σ k) ∧ ∀ i, i ≠ 13 → τ 0 i = σ 0 i
theorem rdF_rf (σ : gS) : rdF σ σ := ⟨fun _ _ _ => rfl, fun _ _ => rfl⟩
theorem rdF_tr {σ τ υ : gS} (h1 : rdF σ τ) (h2 : rdF τ υ) : rdF σ υ := ⟨fun k a b => (h2.1 k a b).trans (h1.1 k a b), fun i a => (h2.2 i a).trans (h1.2 i a)⟩
theorem TM_rd {σ τ : gS} {ln B : Nat → Nat} (h : rdF σ τ) (hT : TM σ ln B) : TM τ ln B := TM_F (h.1 5 (by decide) (by decide)) (h.1 6 (by decide) (by decide)) hT
def rd1 (σ τ : gS) (ln B : Nat → Nat) (t : Nat) : Prop := rdF σ τ ∧ RPM τ ln B t ∧ ∀ s, s < 10 → s ≠ t → RPM σ ln B s → RPM τ ln B s
theorem PTM_F {σ τ : gS} {ln B : Nat → Nat} {s : Nat} (hs : ln s ≤ 30) (h7 : τ 7 s = σ 7 s) (h : ∀ k i, 8 ≤ k → k ≤ 11 → 30 * s ≤ i → i < 30 * s + 30 → τ k i = σ k i) (hP : PTM σ ln B s) : PTM τ ln B s := by
  refine ⟨by rw [h7]; exact hP.1, fun hw p hp hst => ?_⟩
  obtain ⟨a1, a2, a3, a4⟩ := hP.2 hw p hp hst
  have hp30 : p < 30 := by omega
  have hle := cst_le (B := B) (s := 30 * s) p
  have e := pN_p (B := B) (t := s) hp30
  have q : ∀ k, 8 ≤ k → k ≤ 11 → τ k (pN B (30 * s + p)) = σ k (pN B (30 * s + p)) := fun k h1 h2 => h k _ h1 h2 (by omega) (by omega)
  exact ⟨by rw [q 8 (by decide) (by decide)]; exact a1, by rw [q 9 (by decide) (by decide)]; exact a2, fun z => by rw [q 10 (by decide) (by decide)]; exact a3 z, by rw [q 11 (by decide) (by decide)]; exact a4⟩
theorem RPM_F {σ τ : gS} {ln B : Nat → Nat} (h : ∀ k, 7 ≤ k → k ≤ 12 → τ k = σ k) (h13 : τ 0 13 = σ 0 13) {s : Nat} (hs : s < 8 → ln s ≤ 30) (hP : RPM σ ln B s) : RPM τ ln B s := by
  unfold RPM at hP ⊢
  by_cases c : s < 8
  · rw [if_pos c] at hP ⊢
    exact PTM_F (hs c) (by rw [h 7 (by decide) (by decide)]) (fun k i h1 h2 _ _ => by rw [h k (by omega) (by omega)]) hP
  · rw [if_neg c] at hP ⊢
    by_cases c8 : s = 8
    · rw [if_pos c8] at hP ⊢; rw [h 12 (by decide) (by decide)]; exact hP
    · rw [if_neg c8] at hP ⊢; rw [h13]; exact hP
theorem MR_F {σ τ : gS} {ln B : Nat → Nat} (h : ∀ k, 7 ≤ k → k ≤ 12 → τ k = σ k) (h13 : τ 0 13 = σ 0 13) (hT : TM σ ln B) (hP : MR σ ln B) : MR τ ln B := fun s hs => RPM_F h h13 (fun _ => Nat.le_trans (hT s hs).2.1 (tcap_le s)) (hP s hs)
theorem MR_13 {σ : gS} {ln B : Nat → Nat} (h : MR σ ln B) : σ 0 13 = nI (ttA ln B) := h 9 (by decide)
theorem MR_12 {σ : gS} {ln B : Nat → Nat} (h : MR σ ln B) : ∀ u, u < 6 → σ 12 u = nI (tdA ln B u) := h 8 (by decide)
theorem MR_P {σ : gS} {ln B : Nat → Nat} (h : MR σ ln B) {t : Nat} (ht : t < 8) : PTM σ ln B t := by have := h t (by omega); unfold RPM at this; rw [if_pos ht] at this; exact this
theorem MR_nd {σ : gS} {ln B : Nat → Nat} (h : MR σ ln B) {g : Nat} (hg : nd B ln g) : PrM σ B g := by
  obtain ⟨t, p, op, z1, z2, z3, z4, z5, z6, z7⟩ := nd_p hg
  subst z4
  exact (MR_P h z1).2 (wlA_iff.mpr z5) p z3 (stb_1 z7)
section T89
variable {l : Launch} {D : va_G} {cA : ClassId} {ad : Nat → Nat}
variable {σ σ0 : gS}
set_option maxHeartbeats 4000000 in
set_option maxRecDepth 100000 in
theorem c_X7_readsText {ln B : Nat → Nat} {t : Nat} (hT : TM σ ln B) (ht : t < 10) : GM (XM l D cA ad) mX7_readsText [.ref 0, .int (nI t)] σ (g_ri (fun r τ => r = flA ln B t ∧ rd1 σ τ ln B t)) := by
  refine GM.of (ls := [some (.ref 0), some (.int (nI t))]) (by decide) (Nat.le_of_ble_eq_true rfl) rfl ?_
  refine G.iload_n (k := 1) rfl dX7_readsText_0 ?_
  refine G.bipush (v := 8) (by decide) dX7_readsText_1 ?_
  refine G.icmp_ge (tgt := 14) (by decide) dX7_readsText_3 (fun c_3 => ?_) (fun c_3 => ?_)
  · have h8 : ¬ t < 8 := fun e => nI_ge (b := 8) e (by decide) c_3
    refine G.iload_n (k := 1) rfl dX7_readsText_14 ?_
    refine G.bipush (v := 8) (by decide) dX7_readsText_15 ?_
    refine G.icmp_ne (tgt := 27) (by decide) dX7_readsText_17 (fun c_17 => ?_) (fun c_17 => ?_)
    · have e9 : t = 9 := by
        have : t ≠ 8 := fun e => c_17 (by rw [e]; rfl)
        omega
      subst e9
      refine G.aload_n (k := 0) rfl dX7_readsText_27 ?_
      refine G.callVif (c_X7_readsTurn hT) rfl (gci_X7).1 ml_X7_171 im_yX7_readsTurn se_yX7_readsTurn gcl_X7_readsTurn (by decide) rfl rfl (Nat.le_of_ble_eq_true rfl) dX7_readsText_28 ?_
      first
      | exact G.iret rfl ⟨by rw [flA, if_pos h8]; exact hq.1, ⟨fun k h0 hk => hq.2.1.1 k (by omega) |>.trans rfl, fun i hi => by rw [hq.2.1.1 0 (by decide)]⟩, by unfold RPM; rw [if_pos h8]; exact hq.2.2, fun s hs hne hP => by
          unfold RPM at hP ⊢
          by_cases c : s < 8
          · rw [if_pos c] at hP ⊢
            exact PTM_F (Nat.le_trans (hT s hs).2.1 (tcap_le s)) (hq.2.1.2.1 s hne) (fun k i h1 h2 h3 h4 => hq.2.1.2.2 k i h1 h2 (by omega)) hP
          · rw [if_neg c] at hP ⊢
            rw [hq.2.1.1 12 (by decide), hq.2.1.1 0 (by decide)]; exact hP⟩ dX7_readsText_31
      | exact G.iret rfl ⟨hq.1, ⟨fun k h0 hk => hq.2.1 k (by omega), fun i hi => by rw [hq.2.1 0 (by decide)]⟩, hq.2.2, fun s hs hne hP => by
          unfold RPM at hP ⊢
          by_cases c : s < 8
          · rw [if_pos c] at hP ⊢
            exact PTM_F (Nat.le_trans (hT s hs).2.1 (tcap_le s)) (by rw [hq.2.1 7 (by decide)]) (fun k i h1 h2 h3 h4 => by rw [hq.2.1 k (by omega)]) hP
          · rw [if_neg c, if_neg hne] at hP ⊢
            rw [hq.2.1 0 (by decide)]; exact hP⟩ dX7_readsText_31
      | exact G.iret rfl ⟨rfl, ⟨fun k h0 hk => up2_ne _ _ _ h0, fun i hi => by rw [up2_r, if_neg (fun z => hi z.2)]⟩, up2_at _ _ _ _, fun s hs hne hP => by
          unfold RPM at hP ⊢
          by_cases c : s < 8
          · rw [if_pos c] at hP ⊢
            exact PTM_F (Nat.le_trans (hT s hs).2.1 (tcap_le s)) (by rw [up2_ne _ _ _ (by decide)]) (fun k i h1 h2 h3 h4 => by rw [up2_ne _ _ _ (by omega)]) hP
          · rw [if_neg c, if_pos (by omega)] at hP ⊢
            rw [up2_ne _ _ _ (by decide)]; exact hP⟩ dX7_readsText_31
    · have e8 : t = 8 := (nI_eq (show t < 2 ^ 31 by omega) (show 8 < 2 ^ 31 by decide)).mp c_17
      subst e8
      refine G.aload_n (k := 0) rfl dX7_readsText_20 ?_
      refine G.callVi (c_X7_readsFresh hT) rfl (gci_X7).1 ml_X7_167 im_yX7_readsFresh se_yX7_readsFresh gcl_X7_readsFresh (by decide) rfl rfl (Nat.le_of_ble_eq_true rfl) dX7_readsText_21 (fun r τ hq => ?_)
      refine G.goto (tgt := 31) (by decide) dX7_readsText_24 ?_
      first
      | exact G.iret rfl ⟨by rw [flA, if_pos h8]; exact hq.1, ⟨fun k h0 hk => hq.2.1.1 k (by omega) |>.trans rfl, fun i hi => by rw [hq.2.1.1 0 (by decide)]⟩, by unfold RPM; rw [if_pos h8]; exact hq.2.2, fun s hs hne hP => by
          unfold RPM at hP ⊢
          by_cases c : s < 8
          · rw [if_pos c] at hP ⊢
            exact PTM_F (Nat.le_trans (hT s hs).2.1 (tcap_le s)) (hq.2.1.2.1 s hne) (fun k i h1 h2 h3 h4 => hq.2.1.2.2 k i h1 h2 (by omega)) hP
          · rw [if_neg c] at hP ⊢
            rw [hq.2.1.1 12 (by decide), hq.2.1.1 0 (by decide)]; exact hP⟩ dX7_readsText_31
      | exact G.iret rfl ⟨hq.1, ⟨fun k h0 hk => hq.2.1 k (by omega), fun i hi => by rw [hq.2.1 0 (by decide)]⟩, hq.2.2, fun s hs hne hP => by
          unfold RPM at hP ⊢
          by_cases c : s < 8
          · rw [if_pos c] at hP ⊢
            exact PTM_F (Nat.le_trans (hT s hs).2.1 (tcap_le s)) (by rw [hq.2.1 7 (by decide)]) (fun k i h1 h2 h3 h4 => by rw [hq.2.1 k (by omega)]) hP
          · rw [if_neg c, if_neg hne] at hP ⊢
            rw [hq.2.1 0 (by decide)]; exact hP⟩ dX7_readsText_31
      | exact G.iret rfl ⟨rfl, ⟨fun k h0 hk => up2_ne _ _ _ h0, fun i hi => by rw [up2_r, if_neg (fun z => hi z.2)]⟩, up2_at _ _ _ _, fun s hs hne hP => by
          unfold RPM at hP ⊢
          by_cases c : s < 8
          · rw [if_pos c] at hP ⊢
            exact PTM_F (Nat.le_trans (hT s hs).2.1 (tcap_le s)) (by rw [up2_ne _ _ _ (by decide)]) (fun k i h1 h2 h3 h4 => by rw [up2_ne _ _ _ (by omega)]) hP
          · rw [if_neg c, if_pos (by omega)] at hP ⊢
            rw [up2_ne _ _ _ (by decide)]; exact hP⟩ dX7_readsText_31
  · have h8 : t < 8 := by
      rcases Nat.lt_or_ge t 8 with z | z
      · exact z
      · exact absurd (ge8 t ht z) c_3
    refine G.aload_n (k := 0) rfl dX7_readsText_6 ?_
    refine G.iload_n (k := 1) rfl dX7_readsText_7 ?_
    refine G.callVi (c_X7_readsTerm hT h8) rfl (gci_X7).1 ml_X7_164 im_yX7_readsTerm se_yX7_readsTerm gcl_X7_readsTerm (by decide) rfl rfl (Nat.le_of_ble_eq_true rfl) dX7_readsText_8 (fun r τ hq => ?_)
    refine G.goto (tgt := 31) (by decide) dX7_readsText_11 ?_
    first
    | exact G.iret rfl ⟨by rw [flA, if_pos h8]; exact hq.1, ⟨fun k h0 hk => hq.2.1.1 k (by omega) |>.trans rfl, fun i hi => by rw [hq.2.1.1 0 (by decide)]⟩, by unfold RPM; rw [if_pos h8]; exact hq.2.2, fun s hs hne hP => by
        unfold RPM at hP ⊢
        by_cases c : s < 8
        · rw [if_pos c] at hP ⊢
          exact PTM_F (Nat.le_trans (hT s hs).2.1 (tcap_le s)) (hq.2.1.2.1 s hne) (fun k i h1 h2 h3 h4 => hq.2.1.2.2 k i h1 h2 (by omega)) hP
        · rw [if_neg c] at hP ⊢
          rw [hq.2.1.1 12 (by decide), hq.2.1.1 0 (by decide)]; exact hP⟩ dX7_readsText_31
    | exact G.iret rfl ⟨hq.1, ⟨fun k h0 hk => hq.2.1 k (by omega), fun i hi => by rw [hq.2.1 0 (by decide)]⟩, hq.2.2, fun s hs hne hP => by
        unfold RPM at hP ⊢
        by_cases c : s < 8
        · rw [if_pos c] at hP ⊢
          exact PTM_F (Nat.le_trans (hT s hs).2.1 (tcap_le s)) (by rw [hq.2.1 7 (by decide)]) (fun k i h1 h2 h3 h4 => by rw [hq.2.1 k (by omega)]) hP
        · rw [if_neg c, if_neg hne] at hP ⊢
          rw [hq.2.1 0 (by decide)]; exact hP⟩ dX7_readsText_31
    | exact G.iret rfl ⟨rfl, ⟨fun k h0 hk => up2_ne _ _ _ h0, fun i hi => by rw [up2_r, if_neg (fun z => hi z.2)]⟩, up2_at _ _ _ _, fun s hs hne hP => by
        unfold RPM at hP ⊢
        by_cases c : s < 8
        · rw [if_pos c] at hP ⊢
          exact PTM_F (Nat.le_trans (hT s hs).2.1 (tcap_le s)) (by rw [up2_ne _ _ _ (by decide)]) (fun k i h1 h2 h3 h4 => by rw [up2_ne _ _ _ (by omega)]) hP
        · rw [if_neg c, if_pos (by omega)] at hP ⊢
          rw [up2_ne _ _ _ (by decide)]; exact hP⟩ dX7_readsText_31
set_option maxHeartbeats 4000000 in
set_option maxRecDepth 100000 in
theorem l_X7_readsAll {ln B : Nat → Nat} (hT : TM σ0 ln B) : ∀ j t (σ : gS), t + j = 10 → rdF σ0 σ → (∀ s, s < t → RPM σ ln B s) → G (XM l D cA ad) mX7_readsAll (g_rv (fun τ => rdF σ0 τ ∧ MR τ ln B)) 2 [some (.ref 0), some (.int (nI t))] [] σ := by
  intro j
  induction j with
  | zero =>
    intro t σ hj hF hR
    have ht : t = 10 := by omega
    subst ht
    refine G.iload_n (k := 1) rfl dX7_readsAll_2 ?_
    refine G.bipush (v := 10) (by decide) dX7_readsAll_3 ?_
    refine G.icmp_ge (tgt := 20) (by decide) dX7_readsAll_5 (fun c_5 => ?_) (fun c_5 => absurd (by decide) c_5)
    exact G.vret rfl (⟨hF, hR⟩) dX7_readsAll_20
  | succ j ih =>
    intro t σ hj hF hR
    refine G.iload_n (k := 1) rfl dX7_readsAll_2 ?_
    refine G.bipush (v := 10) (by decide) dX7_readsAll_3 ?_
    refine G.icmp_ge (tgt := 20) (by decide) dX7_readsAll_5 (fun c_5 => absurd c_5 (nI_ge (b := 10) (by omega) (by decide))) (fun c_5 => ?_)
    refine G.aload_n (k := 0) rfl dX7_readsAll_8 ?_
    refine G.iload_n (k := 1) rfl dX7_readsAll_9 ?_
    refine G.callVi (c_X7_readsText (TM_rd hF hT) (show t < 10 by omega)) rfl (gci_X7).1 ml_X7_174 im_yX7_readsText se_yX7_readsText gcl_X7_readsText (by decide) rfl rfl (Nat.le_of_ble_eq_true rfl) dX7_readsAll_10 (fun r τ hq => ?_)
    refine G.popi dX7_readsAll_13 ?_
    refine G.inc1 (d := 1) (by decide) (by decide) rfl dX7_readsAll_14 ?_
    refine G.goto (tgt := 2) (by decide) dX7_readsAll_17 ?_
    rw [nI_1]
    exact ih (t + 1) _ (by omega) (rdF_tr hF hq.2.1) (fun s hs => if e : s = t then (by rw [e]; exact hq.2.2.1) else hq.2.2.2 s (by omega) e (hR s (by omega)))
set_option maxHeartbeats 4000000 in
set_option maxRecDepth 100000 in
theorem c_X7_readsAll {ln B : Nat → Nat} (hT : TM σ ln B) : GM (XM l D cA ad) mX7_readsAll [.ref 0] σ (g_rv (fun τ => rdF σ τ ∧ MR τ ln B)) := by
  refine GM.of (ls := [some (.ref 0), none]) (by decide) (Nat.le_of_ble_eq_true rfl) rfl ?_
  refine G.iconst (v := 0) (by decide) dX7_readsAll_0 ?_
  refine G.ist1 (by decide) rfl dX7_readsAll_1 ?_
  exact l_X7_readsAll hT 10 0 σ rfl (rdF_rf σ) (fun s hs => absurd hs (Nat.not_lt_zero _))
set_option maxHeartbeats 4000000 in
set_option maxRecDepth 100000 in
theorem c_X7_fault {ln B : Nat → Nat} {t : Int32} (hT : TM σ ln B) : GM (XM l D cA ad) mX7_fault [.ref 0, .int t] σ (g_ri (fun r τ => r = sp_fault ln B t ∧ rdF σ τ)) := by
  refine GM.of (ls := [some (.ref 0), some (.int t)]) (by decide) (Nat.le_of_ble_eq_true rfl) rfl ?_
  refine G.iload_n (k := 1) rfl dX7_fault_0 ?_
  refine G.callSif (c_X7_isText) ml_X7_128 ws_yX7_isText gcl_X7_isText (by decide) rfl rfl (Nat.le_of_ble_eq_true rfl) dX7_fault_1 ?_
  refine G.if_eq (tgt := 15) (by decide) dX7_fault_4 (fun c_4 => ?_) (fun c_4 => ?_)
  · have h1 := in_f 9 (by decide) c_4
    refine G.bipush (v := (-2)) (by decide) dX7_fault_15 ?_
    exact G.iret rfl (by unfold sp_fault; first | (rw [if_pos h1, xq]; exact ⟨hq.1, hq.2.1⟩) | (rw [if_neg (by simp [h1])]; exact ⟨rfl, rdF_rf σ⟩)) dX7_fault_17
  · have h1 := in_t 9 (by decide) c_4
    obtain ⟨q, hq, eq⟩ := inB_of (by decide) h1
    subst eq
    have xq : ix (nI q) = q := ix_nI (by omega)
    refine G.aload_n (k := 0) rfl dX7_fault_7 ?_
    refine G.iload_n (k := 1) rfl dX7_fault_8 ?_
    refine G.callVi (c_X7_readsText hT hq) rfl (gci_X7).1 ml_X7_174 im_yX7_readsText se_yX7_readsText gcl_X7_readsText (by decide) rfl rfl (Nat.le_of_ble_eq_true rfl) dX7_fault_9 (fun r τ hq => ?_)
    refine G.goto (tgt := 17) (by decide) dX7_fault_12 ?_
    exact G.iret rfl (by unfold sp_fault; first | (rw [if_pos h1, xq]; exact ⟨hq.1, hq.2.1⟩) | (rw [if_neg (by simp [h1])]; exact ⟨rfl, rdF_rf σ⟩)) dX7_fault_17
end T89

/-! ===== a text that changes ===== -/
theorem FX_ch {σ τ : gS} {B B' ln ln' : Nat → Nat} {t : Nat} (ht : t < 10) (hl30 : ln t ≤ 30) (h : ∀ i, i < ln t → B' (30 * t + i) = B (30 * t + i)) (hl : ln' t = ln t) (r5 : τ 5 t = σ 5 t) (r6 : ∀ k i, 6 ≤ k → k ≤ 10 → 30 * t ≤ i → i < 30 * t + 30 → τ k i = σ k i) (r11 : t = 8 → τ 11 = σ 11) (r1 : t = 9 → τ 1 10 = σ 1 10) (hF : FX σ ln B t) : FX τ ln' B' t := by
  unfold FX at hF ⊢
  by_cases c : t < 8
  · rw [if_pos c] at hF ⊢
    refine ⟨by rw [r5, hF.1, hl]; exact (flg_cg h _ 0 (by omega)).symm, fun hw p hp => ?_⟩
    rw [hl] at hp
    have hw2 := (wel_cg h hl).mp hw
    have M := hF.2 hw2 p hp
    have eB := h p hp
    have key : tE B' (30 * t + p) = tE B (30 * t + p) ∧ tsz B' (30 * t + p) = tsz B (30 * t + p) ∧ tdp B' (30 * t + p) = tdp B (30 * t + p) ∧ tlo B' (30 * t + p) = tlo B (30 * t + p) ∧ tuk B' (30 * t + p) = tuk B (30 * t + p) := by
      rcases wel_all c hl30 hw2 hp with q | q
      · exact Me_cg h hl q (by omega)
      · have c1 : kd (B (30 * t + p)) = 1 ∨ kd (B (30 * t + p)) = 2 ∨ kd (B (30 * t + p)) = 3 := Or.inl q
        have c2 : kd (B' (30 * t + p)) = 1 ∨ kd (B' (30 * t + p)) = 2 ∨ kd (B' (30 * t + p)) = 3 := by rw [eB]; exact c1
        refine ⟨by rw [nd_leaf c1, nd_leaf c2], ?_, ?_, ?_, ?_⟩
        · unfold tsz; rw [tf_lf c1, tf_lf c2]
        · unfold tdp; rw [tf_lf c1, tf_lf c2]
        · unfold tlo; rw [tf_lf c1, tf_lf c2, eB]
        · unfold tuk; rw [tf_lf c1, tf_lf c2, eB]
    obtain ⟨k1, k2, k3, k4, k5⟩ := key
    have r : ∀ k, 6 ≤ k → k ≤ 10 → τ k (30 * t + p) = σ k (30 * t + p) := fun k a b => r6 k _ a b (by omega) (by omega)
    exact ⟨by rw [r 6 (by decide) (by decide), k1]; exact M.1, by rw [r 7 (by decide) (by decide), k2]; exact M.2.1, by rw [r 8 (by decide) (by decide), k3]; exact M.2.2.1, by rw [r 9 (by decide) (by decide), k4]; exact M.2.2.2.1, by rw [r 10 (by decide) (by decide), k5]; exact M.2.2.2.2⟩
  · rw [if_neg c] at hF ⊢
    by_cases c8 : t = 8
    · subst c8
      rw [if_pos rfl] at hF ⊢
      have h' : ∀ i, i < ln 8 → B' (240 + i) = B (240 + i) := h
      refine ⟨by rw [r5, hF.1, hl]; exact (fl2_cg h' _ 0 (by omega)).symm, fun u hu => ?_⟩
      rw [r11 rfl, hF.2 u hu, hl, m2_cg h', tld_cg _ (fun i hi => h' i (by have := m2_le B 240 (ln 8) 2; omega))]
    · have c9 : t = 9 := by omega
      subst c9
      rw [if_neg (by decide)] at hF ⊢
      have h' : ∀ i, i < ln 9 → B' (270 + i) = B (270 + i) := h
      refine ⟨by rw [r5, hF.1, hl]; exact (fl2_cg h' _ 0 (by omega)).symm, ?_⟩
      rw [r1 rfl, hF.2, hl, m2_cg h', tnT_cg _ (fun i hi => h' i (by have := m2_le B 270 (ln 9) 1; omega))]
/-- what a change of a text leaves as it was -/
def shF (σ τ : gS) : Prop := ∀ k, 12 ≤ k → k ≤ 15 → τ k = σ k
theorem shF_rf (σ : gS) : shF σ σ := fun _ _ _ => rfl
theorem shF_tr {σ τ υ : gS} (h1 : shF σ τ) (h2 : shF τ υ) : shF σ υ := fun k a b => (h2 k a b).trans (h1 k a b)
theorem shF_of {σ τ : gS} (h : qF σ τ) : shF σ τ := fun k a b => h k (Or.inl ⟨by omega, by omega⟩)
/-- texts of which all but t are read -/
def IT (σ : gS) (ln B : Nat → Nat) (t : Nat) : Prop := TX σ ln B ∧ (∀ s, s < 10 → s ≠ t → FX σ ln B s) ∧ ∀ u, u < 6 → σ 29 u = -1
theorem IX_IT {σ : gS} {ln B : Nat → Nat} (h : IX σ ln B) (t : Nat) : IT σ ln B t := ⟨h.1, fun s hs _ => h.2.1 s hs, h.2.2.2.2.2.2.2.2⟩
abbrev ntS (τ : gS) : gS := up2 (up2 (up2 (up2 (up2 (up2 τ 0 4 0) 0 6 0) 30 2 (-1)) 33 2 (-1)) 36 2 (-1)) 39 2 (-1)
theorem IX_note {σ τ : gS} {ln B : Nat → Nat} {t : Nat} (h : IT σ ln B t) (hq : FX τ ln B t ∧ scF σ τ t) : IX (ntS τ) ln B ∧ shF σ (ntS τ) ∧ (∀ k, 2 ≤ k → k ≤ 4 → ntS τ k = σ k) := by
  obtain ⟨hT, hF, h29⟩ := h
  obtain ⟨hFt, f1, f2, f3, f4, f5, f6⟩ := hq
  have row : ∀ k, k ≠ 0 → k ≠ 30 → k ≠ 33 → k ≠ 36 → k ≠ 39 → ntS τ k = τ k := fun k a0 a1 a2 a3 a4 => by
    show up2 (up2 (up2 (up2 (up2 (up2 τ 0 4 0) 0 6 0) 30 2 (-1)) 33 2 (-1)) 36 2 (-1)) 39 2 (-1) k = τ k
    rw [up2_ne _ _ _ a4, up2_ne _ _ _ a3, up2_ne _ _ _ a2, up2_ne _ _ _ a1, up2_ne _ _ _ a0, up2_ne _ _ _ a0]
  have rows : ∀ k, 1 ≤ k → k ≤ 11 → ntS τ k = τ k := fun k a b => row k (by omega) (by omega) (by omega) (by omega) (by omega)
  have hT2 : TX τ ln B := by
    intro s hs
    obtain ⟨a, b, c⟩ := hT s hs
    refine ⟨by rw [f1 4 (by decide) (by decide)]; exact a, b, fun i hi => ?_⟩
    have := c i hi
    exact ⟨this.1, by rw [f1 2 (by decide) (by decide)]; exact this.2.1, by rw [f1 3 (by decide) (by decide)]; exact this.2.2⟩
  have hF2 : ∀ s, s < 10 → FX τ ln B s := by
    intro s hs
    by_cases e : s = t
    · rw [e]; exact hFt
    · exact FX_ch hs (Nat.le_trans (hT s hs).2.1 (tcap_le s)) (fun _ _ => rfl) rfl (f3 s e) (fun k i a b c d => f4 k i a b (by omega)) (fun e8 => f5 (by omega)) (fun e9 => f6 (by omega)) (hF s hs e)
  refine ⟨⟨TX_F rows hT2, fun s hs => FX_F rows (hF2 s hs), ⟨Or.inl rfl, fun e => absurd e (by show ¬ (0 : Int32) = 1; decide)⟩, ⟨0, by decide, rfl, fun k _ hb => by simp at hb⟩, Or.inl rfl, Or.inl rfl, Or.inl rfl, Or.inl rfl, fun u hu => by rw [row 29 (by decide) (by decide) (by decide) (by decide) (by decide), f1 29 (by decide) (by decide)]; exact h29 u hu⟩, fun k a b => ?_, fun k a b => ?_⟩
  · rw [row k (by omega) (by omega) (by omega) (by omega) (by omega), f1 k (by omega) (by omega)]
  · rw [row k (by omega) (by omega) (by omega) (by omega) (by omega), f1 k (by omega) (by omega)]
/-- one more byte; fewer bytes -/
def apL (ln : Nat → Nat) (t n : Nat) : Nat → Nat := fun s => if s = t then n else ln s
def apB (B : Nat → Nat) (g b : Nat) : Nat → Nat := fun i => if i = g then b else B i
abbrev apS (σ : gS) (t n b : Nat) : gS := up2 (up2 (up2 σ 2 (30 * t + n) (nI b)) 3 (30 * t + n) (nI (kd b))) 4 t (nI (n + 1))
theorem IT_ap {σ : gS} {ln B : Nat → Nat} {t b : Nat} (h : IT σ ln B t) (ht : t < 10) (hn : ln t < tcap t) (hb : b < 256) : IT (apS σ t (ln t) b) (apL ln t (ln t + 1)) (apB B (30 * t + ln t) b) t := by
  obtain ⟨hT, hF, h29⟩ := h
  have hc := tcap_le t
  have row : ∀ k, k ≠ 2 → k ≠ 3 → k ≠ 4 → apS σ t (ln t) b k = σ k := fun k a0 a1 a2 => by
    show up2 (up2 (up2 σ 2 (30 * t + ln t) (nI b)) 3 (30 * t + ln t) (nI (kd b))) 4 t (nI (ln t + 1)) k = σ k
    rw [up2_ne _ _ _ a2, up2_ne _ _ _ a1, up2_ne _ _ _ a0]
  have r4 : ∀ s, apS σ t (ln t) b 4 s = if s = t then nI (ln t + 1) else σ 4 s := fun s => rfl
  have r2 : ∀ i, apS σ t (ln t) b 2 i = if i = 30 * t + ln t then nI b else σ 2 i := fun i => rfl
  have r3 : ∀ i, apS σ t (ln t) b 3 i = if i = 30 * t + ln t then nI (kd b) else σ 3 i := fun i => rfl
  refine ⟨fun s hs => ?_, fun s hs hst => ?_, fun u hu => by rw [row 29 (by decide) (by decide) (by decide)]; exact h29 u hu⟩
  · obtain ⟨a1, a2, a3⟩ := hT s hs
    have hc2 := tcap_le s
    have tk : ∀ i, i ≠ 30 * t + ln t → tok σ B i → tok (apS σ t (ln t) b) (apB B (30 * t + ln t) b) i := fun i hi q => by
      unfold tok apB
      rw [r2, r3, if_neg hi, if_neg hi, if_neg hi]
      exact q
    by_cases e : s = t
    · subst e
      refine ⟨by rw [r4, if_pos rfl, apL, if_pos rfl], by rw [apL, if_pos rfl]; omega, fun i hi => ?_⟩
      rw [apL, if_pos rfl] at hi
      by_cases ei : i = ln s
      · subst ei
        unfold tok apB
        rw [r2, r3, if_pos rfl, if_pos rfl, if_pos rfl]
        exact ⟨hb, rfl, rfl⟩
      · exact tk _ (by omega) (a3 i (by omega))
    · refine ⟨by rw [r4, if_neg e, apL, if_neg e]; exact a1, by rw [apL, if_neg e]; exact a2, fun i hi => ?_⟩
      rw [apL, if_neg e] at hi
      exact tk _ (by omega) (a3 i hi)
  · have hs30 := Nat.le_trans (hT s hs).2.1 (tcap_le s)
    refine FX_ch hs hs30 (fun i hi => ?_) (by rw [apL, if_neg hst]) (by rw [row 5 (by decide) (by decide) (by decide)]) (fun k i a b' _ _ => by rw [row k (by omega) (by omega) (by omega)]) (fun _ => row 11 (by decide) (by decide) (by decide)) (fun _ => by rw [row 1 (by decide) (by decide) (by decide)]) (hF s hs hst)
    rw [apB, if_neg (by omega)]
theorem IT_sh {σ : gS} {ln B : Nat → Nat} {t n : Nat} (h : IT σ ln B t) (hn : n ≤ ln t) : IT (up2 σ 4 t (nI n)) (apL ln t n) B t := by
  obtain ⟨hT, hF, h29⟩ := h
  have row : ∀ k, k ≠ 4 → up2 σ 4 t (nI n) k = σ k := fun k a => up2_ne _ _ _ a
  have r4 : ∀ s, up2 σ 4 t (nI n) 4 s = if s = t then nI n else σ 4 s := fun s => rfl
  refine ⟨fun s hs => ?_, fun s hs hst => ?_, fun u hu => by rw [row 29 (by decide)]; exact h29 u hu⟩
  · obtain ⟨a1, a2, a3⟩ := hT s hs
    have tk : ∀ i, tok σ B i → tok (up2 σ 4 t (nI n)) B i := fun i q => by unfold tok; rw [row 2 (by decide), row 3 (by decide)]; exact q
    by_cases e : s = t
    · subst e
      refine ⟨by rw [r4, if_pos rfl, apL, if_pos rfl], by rw [apL, if_pos rfl]; omega, fun i hi => ?_⟩
      rw [apL, if_pos rfl] at hi
      exact tk _ (a3 i (by omega))
    · refine ⟨by rw [r4, if_neg e, apL, if_neg e]; exact a1, by rw [apL, if_neg e]; exact a2, fun i hi => ?_⟩
      rw [apL, if_neg e] at hi
      exact tk _ (a3 i hi)
  · have hs30 := Nat.le_trans (hT s hs).2.1 (tcap_le s)
    exact FX_ch hs hs30 (fun i hi => rfl) (by rw [apL, if_neg hst]) (by rw [row 5 (by decide)]) (fun k i a b' _ _ => by rw [row k (by omega)]) (fun _ => row 11 (by decide)) (fun _ => by rw [row 1 (by decide)]) (hF s hs hst)
section T62
variable {l : Launch} {D : va_G} {cA : ClassId} {ad : Nat → Nat}
variable {σ : gS}
set_option maxHeartbeats 4000000 in
set_option maxRecDepth 100000 in
theorem c_X6_noteChange {ln B : Nat → Nat} {t : Nat} (ht : t < 10) (h : IT σ ln B t) : GM (XC l D cA ad) mX6_noteChange [.ref 0, .int (nI t)] σ (g_rv (fun τ => IX τ ln B ∧ shF σ τ ∧ ∀ k, 2 ≤ k → k ≤ 4 → τ k = σ k)) := by
  refine GM.of (ls := [some (.ref 0), some (.int (nI t))]) (by decide) (Nat.le_of_ble_eq_true rfl) rfl ?_
  refine G.aload_n (k := 0) rfl dX6_noteChange_0 ?_
  refine G.getr (j := 0) rfl gci_X6 (by decide) rfl fl_X6_50 dX6_noteChange_1 ?_
  refine G.iload_n (k := 1) rfl dX6_noteChange_4 ?_
  refine G.callVv (c_X4_scan ht h.1) rfl (gci_X4).1 ml_X6_279 im_yX4_scan se_yX4_scan gcl_X4_scan (by decide) rfl rfl (Nat.le_of_ble_eq_true rfl) dX6_noteChange_5 (fun τ hq => ?_)
  refine G.aload_n (k := 0) rfl dX6_noteChange_8 ?_
  refine G.iconst (v := 0) (by decide) dX6_noteChange_9 ?_
  refine G.put (j := 4) rfl gci_X6 gcp_X6 (by decide) rfl rfl (by decide) (by decide) fl_X6_16 dX6_noteChange_10 ?_
  refine G.aload_n (k := 0) rfl dX6_noteChange_13 ?_
  refine G.iconst (v := 0) (by decide) dX6_noteChange_14 ?_
  refine G.put (j := 6) rfl gci_X6 gcp_X6 (by decide) rfl rfl rfl rfl fl_X6_24 dX6_noteChange_15 ?_
  refine G.aload_n (k := 0) rfl dX6_noteChange_18 ?_
  refine G.getr (j := 8) rfl gci_X6 (by decide) rfl fl_X6_34 dX6_noteChange_19 ?_
  refine G.callVvf (c_X0_forget lnA_30) rfl (gci_X0).1 ml_X6_282 im_yX0_forget se_yX0_forget gcl_X0_forget (by decide) rfl rfl (Nat.le_of_ble_eq_true rfl) dX6_noteChange_22 ?_
  refine G.aload_n (k := 0) rfl dX6_noteChange_25 ?_
  refine G.getr (j := 9) rfl gci_X6 (by decide) rfl fl_X6_38 dX6_noteChange_26 ?_
  refine G.callVvf (c_X0_forget lnA_33) rfl (gci_X0).1 ml_X6_282 im_yX0_forget se_yX0_forget gcl_X0_forget (by decide) rfl rfl (Nat.le_of_ble_eq_true rfl) dX6_noteChange_29 ?_
  refine G.aload_n (k := 0) rfl dX6_noteChange_32 ?_
  refine G.getr (j := 10) rfl gci_X6 (by decide) rfl fl_X6_41 dX6_noteChange_33 ?_
  refine G.callVvf (c_X0_forget lnA_36) rfl (gci_X0).1 ml_X6_282 im_yX0_forget se_yX0_forget gcl_X0_forget (by decide) rfl rfl (Nat.le_of_ble_eq_true rfl) dX6_noteChange_36 ?_
  refine G.aload_n (k := 0) rfl dX6_noteChange_39 ?_
  refine G.getr (j := 11) rfl gci_X6 (by decide) rfl fl_X6_44 dX6_noteChange_40 ?_
  refine G.callVvf (c_X0_forget lnA_39) rfl (gci_X0).1 ml_X6_282 im_yX0_forget se_yX0_forget gcl_X0_forget (by decide) rfl rfl (Nat.le_of_ble_eq_true rfl) dX6_noteChange_43 ?_
  exact G.vret rfl (IX_note h hq) dX6_noteChange_46
end T62

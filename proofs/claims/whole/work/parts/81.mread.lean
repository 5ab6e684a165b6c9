/-! ===== the model reads a sheet into a text ===== -/
def rdM (σ : gS) (ln B : Nat → Nat) (t s : Int32) (r : Int32) (τ : gS) : Prop := if (inB t 10 && inB s 4) = true then (if σ 1 (ix s) = -1 then r = -11 ∧ τ = up2 σ 0 4 1 else mP σ (nI (rdS (fun i => σ 3 (60 * ix s + i)) (ix t) (ix (σ 2 (ix s))) 0 ln B).1, (rdS (fun i => σ 3 (60 * ix s + i)) (ix t) (ix (σ 2 (ix s))) 0 ln B).2) r τ) else r = -2 ∧ τ = σ
section T81
variable {l : Launch} {D : va_G} {cA : ClassId} {ad : Nat → Nat}
variable {σ σ0 : gS}
set_option maxHeartbeats 4000000 in
set_option maxRecDepth 100000 in
theorem l_X7_read {f : Nat → Int32} {q g z : Nat} (hq : q < 10) (hg : g < 4) (hz : z ≤ 60) : ∀ j i (ln B : Nat → Nat) (σ : gS), i + j = z → TM σ ln B → (∀ k, k ≠ 5 → k ≠ 6 → σ k = σ0 k) → σ0 2 g = nI z → (∀ i, σ0 3 (60 * g + i) = f i) → G (XM l D cA ad) mX7_read (g_ri (mP σ0 (nI (rdS f q j i ln B).1, (rdS f q j i ln B).2))) 34 [some (.ref 0), some (.int (nI q)), some (.int (nI g)), some (.int (nI i))] [] σ := by
  intro j
  induction j with
  | zero =>
    intro i ln B σ hi hT hF e2 hf
    have hi2 : i = z := by omega
    subst hi2
    have e2' : σ 2 g = nI i := by rw [hF 2 (by decide) (by decide)]; exact e2
    refine G.iload_n (k := 3) rfl dX7_read_34 ?_
    refine G.aload_n (k := 0) rfl dX7_read_35 ?_
    refine G.getr (j := 1) rfl gci_X7 (by decide) rfl fl_X7_13 dX7_read_36 ?_
    refine G.iload_n (k := 2) rfl dX7_read_39 ?_
    refine G.ialdN (k := g) rfl (rfl) (hg) (by decide) dX7_read_40 ?_
    rw [e2']
    refine G.icmp_ge (tgt := 69) (by decide) dX7_read_41 (fun c_41 => ?_) (fun c_41 => absurd (Int32.le_refl _) c_41)
    refine G.iload_n (k := 3) rfl dX7_read_69 ?_
    exact G.iret rfl (⟨rfl, hT, hF⟩) dX7_read_70
  | succ j ih =>
    intro i ln B σ hi hT hF e2 hf
    have e2' : σ 2 g = nI z := by rw [hF 2 (by decide) (by decide)]; exact e2
    have ef : σ 3 (60 * g + i) = f i := by rw [hF 3 (by decide) (by decide)]; exact hf i
    have h30 := Nat.le_trans (hT q hq).2.1 (tcap_le q)
    have xq : ix (nI q) = q := ix_nI (by omega)
    rw [rdS]
    refine G.iload_n (k := 3) rfl dX7_read_34 ?_
    refine G.aload_n (k := 0) rfl dX7_read_35 ?_
    refine G.getr (j := 1) rfl gci_X7 (by decide) rfl fl_X7_13 dX7_read_36 ?_
    refine G.iload_n (k := 2) rfl dX7_read_39 ?_
    refine G.ialdN (k := g) rfl (rfl) (hg) (by decide) dX7_read_40 ?_
    rw [e2']
    refine G.icmp_ge (tgt := 69) (by decide) dX7_read_41 (fun c_41 => absurd c_41 (nI_ge (by omega) (by omega))) (fun c_41 => ?_)
    refine G.aload_n (k := 0) rfl dX7_read_44 ?_
    refine G.iload_n (k := 1) rfl dX7_read_45 ?_
    refine G.aload_n (k := 0) rfl dX7_read_46 ?_
    refine G.getr (j := 2) rfl gci_X7 (by decide) rfl fl_X7_16 dX7_read_47 ?_
    refine G.bipush (v := 60) (by decide) dX7_read_50 ?_
    refine G.iload_n (k := 2) rfl dX7_read_52 ?_
    refine G.imul dX7_read_53 ?_
    rw [show (60 : Int32) * nI g = nI (60 * g) from nu_mul 60 g]
    refine G.iload_n (k := 3) rfl dX7_read_54 ?_
    refine G.iadd dX7_read_55 ?_
    rw [nI_add]
    refine G.ialdN (k := 60 * g + i) rfl (rfl) (by omega) (by decide) dX7_read_56 ?_
    rw [ef]
    refine G.callVi (c_X7_type hT) rfl (gci_X7).1 ml_X7_177 im_yX7_type se_yX7_type gcl_X7_type (by decide) rfl rfl (Nat.le_of_ble_eq_true rfl) dX7_read_57 (fun r τ hr => ?_)
    obtain ⟨er, hT2, hF2⟩ := hr
    have hF3 : ∀ k, k ≠ 5 → k ≠ 6 → τ k = σ0 k := fun k a b => (hF2 k a b).trans (hF k a b)
    unfold sp_type at er hT2
    by_cases hok : inB (f i) 256 = true ∧ ln q < tcap q
    · rw [if_pos (show (inB (nI q) 10 && inB (f i) 256) = true by rw [inB_nI (by decide) hq, hok.1]; rfl), xq, if_pos hok.2] at er hT2
      subst er
      refine G.if_lt (tgt := 69) (by decide) dX7_read_60 (fun c_60 => absurd c_60 (nI_pos (by omega))) (fun c_60 => ?_)
      refine G.inc3 (d := 1) (by decide) (by decide) rfl dX7_read_63 ?_
      refine G.goto (tgt := 34) (by decide) dX7_read_66 ?_
      rw [nI_1, if_pos hok]
      exact ih (i + 1) _ _ _ (by omega) hT2 hF3 e2 hf
    · have er2 : r < 0 ∧ TM τ ln B := by
        by_cases h1 : inB (f i) 256 = true
        · rw [if_pos (show (inB (nI q) 10 && inB (f i) 256) = true by rw [inB_nI (by decide) hq, h1]; rfl), xq, if_neg (fun z => hok ⟨h1, z⟩)] at er hT2
          exact ⟨by rw [er]; show (-4 : Int32) < 0; decide, hT2⟩
        · rw [if_neg (show ¬ (inB (nI q) 10 && inB (f i) 256) = true by rw [inB_nI (by decide) hq]; simpa using h1)] at er hT2
          exact ⟨by rw [er]; show (-2 : Int32) < 0; decide, hT2⟩
      refine G.if_lt (tgt := 69) (by decide) dX7_read_60 (fun c_60 => ?_) (fun c_60 => absurd er2.1 c_60)
      refine G.iload_n (k := 3) rfl dX7_read_69 ?_
      exact G.iret rfl (by rw [if_neg hok]; exact ⟨rfl, er2.2, hF3⟩) dX7_read_70
set_option maxHeartbeats 4000000 in
set_option maxRecDepth 100000 in
theorem c_X7_read {ln B : Nat → Nat} {t s : Int32} (hT : TM σ ln B) (hI : shI 1 2 σ) : GM (XM l D cA ad) mX7_read [.ref 0, .int t, .int s] σ (g_ri (rdM σ ln B t s)) := by
  refine GM.of (ls := [some (.ref 0), some (.int t), some (.int s), none]) (by decide) (Nat.le_of_ble_eq_true rfl) rfl ?_
  refine G.iload_n (k := 1) rfl dX7_read_0 ?_
  refine G.callSif (c_X7_isText) ml_X7_128 ws_yX7_isText gcl_X7_isText (by decide) rfl rfl (Nat.le_of_ble_eq_true rfl) dX7_read_1 ?_
  refine G.if_eq (tgt := 14) (by decide) dX7_read_4 (fun c_4 => ?_) (fun c_4 => ?_)
  · have h1 := in_f 9 (by decide) c_4
    refine G.bipush (v := (-2)) (by decide) dX7_read_14 ?_
    exact G.iret rfl (by unfold rdM; rw [if_neg (by first | (simp [h1]; done) | simp [h1, h2])]; exact ⟨rfl, rfl⟩) dX7_read_16
  · have h1 := in_t 9 (by decide) c_4
    refine G.iload_n (k := 2) rfl dX7_read_7 ?_
    refine G.callSif (c_X7_isSheet) ml_X7_104 ws_yX7_isSheet gcl_X7_isSheet (by decide) rfl rfl (Nat.le_of_ble_eq_true rfl) dX7_read_8 ?_
    refine G.if_ne (tgt := 17) (by decide) dX7_read_11 (fun c_11 => ?_) (fun c_11 => ?_)
    · have h2 := in_t 3 (by decide) c_11
      obtain ⟨q, hq, eq⟩ := inB_of (by decide) h1
      subst eq
      have xq : ix (nI q) = q := ix_nI (by omega)
      obtain ⟨g, hg, eg⟩ := inB_of (by decide) h2
      subst eg
      have xg : ix (nI g) = g := ix_nI (by omega)
      have hneg : ∀ x : Int32, (x = -1 ∨ x = 0 ∨ x = 1 ∨ x = 2) → (x < 0 ↔ x = -1) := fun x h => by rcases h with h | h | h | h <;> subst h <;> decide
      obtain ⟨hfm, z, hz, ez⟩ := hI g hg
      refine G.aload_n (k := 0) rfl dX7_read_17 ?_
      refine G.getr (j := 0) rfl gci_X7 (by decide) rfl fl_X7_7 dX7_read_18 ?_
      refine G.iload_n (k := 2) rfl dX7_read_21 ?_
      refine G.ialdN (k := g) rfl (rfl) (hg) (by decide) dX7_read_22 ?_
      refine G.if_ge (tgt := 32) (by decide) dX7_read_23 (fun c_23 => ?_) (fun c_23 => ?_)
      · have h3 : ¬ σ 1 g = -1 := fun e => absurd ((hneg _ hfm).mpr e) (Int32.not_lt.mpr c_23)
        refine G.iconst (v := 0) (by decide) dX7_read_32 ?_
        refine G.ist3 (by decide) rfl dX7_read_33 ?_
        have key := l_X7_read (l := l) (D := D) (cA := cA) (ad := ad) (σ0 := σ) (f := fun i => σ 3 (60 * g + i)) hq hg hz z 0 ln B σ (by omega) hT (fun _ _ _ => rfl) ez (fun _ => rfl)
        have eQ : rdM σ ln B (nI q) (nI g) = mP σ (nI (rdS (fun i => σ 3 (60 * g + i)) q z 0 ln B).1, (rdS (fun i => σ 3 (60 * g + i)) q z 0 ln B).2) := by
          funext r τ
          unfold rdM
          rw [if_pos (by simp [h1, h2]), xg, if_neg h3, xq, ez, ix_nI (show z < 2 ^ 31 by omega)]
        rw [eQ]
        exact key
      · have h3 : σ 1 g = -1 := (hneg _ hfm).mp (Int32.not_le.mp c_23)
        refine G.aload_n (k := 0) rfl dX7_read_26 ?_
        refine G.iconst (v := 1) (by decide) dX7_read_27 ?_
        refine G.callVif (c_X7_finds) rfl (gci_X7).1 ml_X7_110 im_yX7_finds se_yX7_finds gcl_X7_finds (by decide) rfl rfl (Nat.le_of_ble_eq_true rfl) dX7_read_28 ?_
        exact G.iret rfl (by unfold rdM; rw [if_pos (by simp [h1, h2]), xg, if_pos h3]; exact ⟨by decide, rfl⟩) dX7_read_31
    · have h2 := in_f 3 (by decide) c_11
      refine G.bipush (v := (-2)) (by decide) dX7_read_14 ?_
      exact G.iret rfl (by unfold rdM; rw [if_neg (by first | (simp [h1]; done) | simp [h1, h2])]; exact ⟨rfl, rfl⟩) dX7_read_16
end T81

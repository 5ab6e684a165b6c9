/-! ===== the model: digest ===== -/
theorem pmN : ∀ i, i < 61 → ¬ noPl (nI i - 1) := by decide +kernel
theorem w_i4 : ∀ i, i < 4 → (nI i = 0 ∨ nI i = 1 ∨ nI i = 2 ∨ nI i = 3) := by decide +kernel
section E3
variable {ln B : Nat → Nat}
theorem e_fault {t : Nat} (ht : t < 10) : flA ln B t = sp_fault ln B (nI t) := by unfold sp_fault; rw [if_pos (inB_nI (by omega) ht), ix_nI (by omega)]
theorem e_turn0 {n : Nat} (hn : n < 6) : nI (tn_im (ttA ln B) n) = sp_turn ln B (nI n) 0 := by unfold sp_turn; rw [if_pos (by rw [inB_nI (by omega) hn]; decide), if_pos rfl, ix_nI (by omega)]
theorem e_turn1 {n : Nat} (hn : n < 6) : nI (tn_src (ttA ln B) n) = sp_turn ln B (nI n) 1 := by unfold sp_turn; rw [if_pos (by rw [inB_nI (by omega) hn]; decide), if_neg (by decide), ix_nI (by omega)]
theorem e_power {n : Nat} (hn : n < 6) (k : Int32) : nI (itr (ttA ln B) n (ix (fm60 k))) = sp_power ln B (nI n) k := by unfold sp_power; rw [if_pos (inB_nI (by omega) hn), ix_nI (k := n) (by omega)]
theorem e_rd {i : Nat} (hi : i < 4) : sp_rd (ttA ln B) (nI i) = sp_rounds ln B (nI i) := (sp_rounds_in (inB_nI (by omega) hi)).symm
theorem e_shows {i : Int32} (hi : ¬ noPl i) : lnT ((tn_by (ttA ln B) 6).take 60) i = sp_shows ln B i := by unfold sp_shows; rw [if_neg hi]
theorem e_term {t i : Nat} (ht : t < 8) (hi : i < 4) : tmW ln B t (nI i) = sp_term ln B (nI t) (nI i) := by unfold sp_term tmW; rw [if_pos (show (inB (nI t) 8 && inB (nI i) 4) = true by rw [inB_nI (by omega) ht, inB_nI (by omega) hi]; rfl), ix_nI (k := t) (by omega)]
theorem e_shown {t c : Nat} {i : Int32} (ht : t < 8) (hi : ¬ noPl i) : lnT (shT ln B t c) i = sp_shown ln B c (nI t) i := by unfold sp_shown; rw [if_pos ⟨inB_nI (by omega) ht, hi⟩, ix_nI (by omega)]
theorem e_solved {i : Nat} (hi : i < 4) : fnd B (usol ln B 0 15) (ix (nI i)) = sp_solved ln B (nI i) := by unfold sp_solved; rw [if_pos (inB_nI (by omega) hi)]
theorem e_way {k i : Nat} (hk : k < 24) (hi : i < 4) : fnd B (usol ln B k 15) (ix (nI i)) = sp_way ln B (nI k) (nI i) := by unfold sp_way; rw [if_pos (show (inB (nI k) 24 && inB (nI i) 4) = true by rw [inB_nI (by omega) hk, inB_nI (by omega) hi]; rfl), ix_nI (k := k) (by omega)]
theorem e_value {u : Nat} {i : Int32} (hu : u < 6) (hi : ¬ noPl i) : lnT (vaU ln B u) i = sp_value ln B (nI u) i := by unfold sp_value; rw [if_pos ⟨inB_nI (by omega) hu, hi⟩, ix_nI (by omega)]
theorem e_fresh {u : Nat} (hu : u < 6) : (if uwhy B (usol ln B 0 15) = 0 ∧ (usol ln B 0 15).1.1 u = none then nI (uMu B (usol ln B 0 15) u) else 0) = sp_fresh ln B (nI u) := by unfold sp_fresh; rw [if_pos (inB_nI (by omega) hu), ix_nI (by omega)]
theorem e_needs {u : Nat} (hu : u < 6) : (if uwhy B (usol ln B 0 15) = 0 then nI (opn B (usol ln B 0 15).1.1 u) else 0) = sp_needs ln B (nI u) := by unfold sp_needs; rw [if_pos (inB_nI (by omega) hu), ix_nI (by omega)]
theorem e_al1 {q : Nat} (hq : q < 4) (ht : thA ln B q = true) (hn : nd B ln (60 * q) ∧ nd B ln (60 * q + 30)) (ht6 : ∀ u, tdA ln B u < 64) : @ite _ (okF (tdA ln B) B 600 (uas q)) (Classical.propDecidable _) (1 : Int32) 0 = sp_alike ln B (nI q) := by
  unfold sp_alike
  rw [if_pos (inB_nI (by omega) hq), ix_nI (by omega), if_pos ht]
  exact ite_ok (alk_iff hq ht hn ht6).symm
theorem e_al0 {q : Nat} (hq : q < 4) (ht : ¬ thA ln B q = true) : (-3 : Int32) = sp_alike ln B (nI q) := by
  unfold sp_alike
  rw [if_pos (inB_nI (by omega) hq), ix_nI (by omega), if_neg ht]
end E3
section TA3
variable {l : Launch} {D : va_G} {cA : ClassId} {ad : Nat → Nat}
variable {σ σ0 : gS}
set_option maxHeartbeats 4000000 in
set_option maxRecDepth 100000 in
theorem md_F1 {ln B : Nat → Nat} {P : Int64 → gS → Prop} {h0 : Int64} {t : Nat} (ht : t < 8) : ∀ j i h (σ : gS), i + j = 4 → DI σ0 σ ln B → (∀ σ', DI σ0 σ' ln B → G (XM l D cA ad) mX7_tellsTerm (g_rl P) 35 [some (.ref 0), some (.long h0), none, some (.int (nI t)), some (.long (itF (dgF1 ln B t) j i h)), none, some (.int (nI 4))] [] σ') → G (XM l D cA ad) mX7_tellsTerm (g_rl P) 6 [some (.ref 0), some (.long h0), none, some (.int (nI t)), some (.long (h)), none, some (.int (nI i))] [] σ := by
  intro j
  induction j with
  | zero =>
    intro i h σ  hi hI K
    have hi2 : i = 4 := by omega
    subst hi2
    refine G.iload (i := 6) rfl dX7_tellsTerm_6 ?_
    refine G.iconst (v := 4) (by decide) dX7_tellsTerm_8 ?_
    refine G.icmp_ge (tgt := 35) (by decide) dX7_tellsTerm_9 (fun c_9 => ?_) (fun c_9 => absurd (by decide) c_9)
    exact K σ  hI
  | succ j ih =>
    intro i h σ  hi hI K
    refine G.iload (i := 6) rfl dX7_tellsTerm_6 ?_
    refine G.iconst (v := 4) (by decide) dX7_tellsTerm_8 ?_
    refine G.icmp_ge (tgt := 35) (by decide) dX7_tellsTerm_9 (fun c_9 => absurd c_9 (nI_ge (b := 4) (by omega) (by decide))) (fun c_9 => ?_)
    refine G.ldc2 ct_X7_386 dX7_tellsTerm_12 ?_
    refine G.lload (i := 4) rfl dX7_tellsTerm_15 ?_
    refine G.lmul dX7_tellsTerm_17 ?_
    refine G.aload_n (k := 0) rfl dX7_tellsTerm_18 ?_
    refine G.iload_n (k := 3) rfl dX7_tellsTerm_19 ?_
    refine G.iload (i := 6) rfl dX7_tellsTerm_20 ?_
    refine G.callVi (c_X7_termBy hI.1 hI.2.1 ht (w_i4 i (by omega))) rfl (gci_X7).1 ml_X7_277 im_yX7_termBy se_yX7_termBy gcl_X7_termBy (by decide) rfl rfl (Nat.le_of_ble_eq_true rfl) dX7_tellsTerm_22 (fun r22 τ22 hq22 => ?_)
    rw [hq22.1, e_term ht (show i < 4 by omega)]
    have hI22 := DI_v hI (aF_v hq22.2)
    refine G.i2l dX7_tellsTerm_25 ?_
    refine G.ladd dX7_tellsTerm_26 ?_
    refine G.lst4 (by decide) rfl dX7_tellsTerm_27 ?_
    refine G.inc6 (d := 1) (by decide) (by decide) rfl dX7_tellsTerm_29 ?_
    refine G.goto (tgt := 6) (by decide) dX7_tellsTerm_32 ?_
    rw [nI_1]
    exact ih (i + 1) _ _ (by omega) hI22 K
set_option maxHeartbeats 4000000 in
set_option maxRecDepth 100000 in
theorem md_F2 {ln B : Nat → Nat} {P : Int64 → gS → Prop} {h0 : Int64} {t : Nat} (ht : t < 8) : ∀ j i h (σ : gS), i + j = 31 → DI σ0 σ ln B → (∀ σ', DI σ0 σ' ln B → G (XM l D cA ad) mX7_tellsTerm (g_rl P) 91 [some (.ref 0), some (.long h0), none, some (.int (nI t)), some (.long (itF (dgF2 ln B t) j i h)), none, some (.int (nI 31 - 1))] [] σ') → G (XM l D cA ad) mX7_tellsTerm (g_rl P) 38 [some (.ref 0), some (.long h0), none, some (.int (nI t)), some (.long (h)), none, some (.int (nI i - 1))] [] σ := by
  intro j
  induction j with
  | zero =>
    intro i h σ  hi hI K
    have hi2 : i = 31 := by omega
    subst hi2
    refine G.iload (i := 6) rfl dX7_tellsTerm_38 ?_
    refine G.bipush (v := 30) (by decide) dX7_tellsTerm_40 ?_
    refine G.icmp_ge (tgt := 91) (by decide) dX7_tellsTerm_42 (fun c_42 => ?_) (fun c_42 => absurd (by decide) c_42)
    exact K σ  hI
  | succ j ih =>
    intro i h σ  hi hI K
    refine G.iload (i := 6) rfl dX7_tellsTerm_38 ?_
    refine G.bipush (v := 30) (by decide) dX7_tellsTerm_40 ?_
    refine G.icmp_ge (tgt := 91) (by decide) dX7_tellsTerm_42 (fun c_42 => absurd c_42 (pm30 i (by omega))) (fun c_42 => ?_)
    refine G.ldc2 ct_X7_386 dX7_tellsTerm_45 ?_
    refine G.lload (i := 4) rfl dX7_tellsTerm_48 ?_
    refine G.lmul dX7_tellsTerm_50 ?_
    refine G.aload_n (k := 0) rfl dX7_tellsTerm_51 ?_
    refine G.iload_n (k := 3) rfl dX7_tellsTerm_52 ?_
    refine G.ldc ct_X7_154 dX7_tellsTerm_53 ?_
    refine G.iload (i := 6) rfl dX7_tellsTerm_55 ?_
    refine G.callVi (c_X7_shownBy hI.1 hI.2.1 ht tn_P_id (pmN i (by omega))) rfl (gci_X7).1 ml_X7_284 im_yX7_shownBy se_yX7_shownBy gcl_X7_shownBy (by decide) rfl rfl (Nat.le_of_ble_eq_true rfl) dX7_tellsTerm_57 (fun r57 τ57 hq57 => ?_)
    rw [hq57.1, e_shown ht (pmN i (by omega))]
    have hI57 := DI_v hI (sM_v hq57.2)
    refine G.i2l dX7_tellsTerm_60 ?_
    refine G.ladd dX7_tellsTerm_61 ?_
    refine G.lst4 (by decide) rfl dX7_tellsTerm_62 ?_
    refine G.ldc2 ct_X7_386 dX7_tellsTerm_64 ?_
    refine G.lload (i := 4) rfl dX7_tellsTerm_67 ?_
    refine G.lmul dX7_tellsTerm_69 ?_
    refine G.aload_n (k := 0) rfl dX7_tellsTerm_70 ?_
    refine G.iload_n (k := 3) rfl dX7_tellsTerm_71 ?_
    refine G.aload_n (k := 0) rfl dX7_tellsTerm_72 ?_
    refine G.geti (j := 13) rfl gci_X7 (by decide) rfl fl_X7_155 dX7_tellsTerm_73 ?_
    rw [MR_13 hI57.2.1]
    refine G.iload (i := 6) rfl dX7_tellsTerm_76 ?_
    refine G.callVi (c_X7_shownBy hI57.1 hI57.2.1 ht (TM_ttP hI57.1) (pmN i (by omega))) rfl (gci_X7).1 ml_X7_284 im_yX7_shownBy se_yX7_shownBy gcl_X7_shownBy (by decide) rfl rfl (Nat.le_of_ble_eq_true rfl) dX7_tellsTerm_78 (fun r78 τ78 hq78 => ?_)
    rw [hq78.1, e_shown ht (pmN i (by omega))]
    have hI78 := DI_v hI57 (sM_v hq78.2)
    refine G.i2l dX7_tellsTerm_81 ?_
    refine G.ladd dX7_tellsTerm_82 ?_
    refine G.lst4 (by decide) rfl dX7_tellsTerm_83 ?_
    refine G.inc6 (d := 1) (by decide) (by decide) rfl dX7_tellsTerm_85 ?_
    refine G.goto (tgt := 38) (by decide) dX7_tellsTerm_88 ?_
    rw [pm_s i (by omega)]
    exact ih (i + 1) _ _ (by omega) hI78 K
set_option maxHeartbeats 4000000 in
set_option maxRecDepth 100000 in
theorem c_X7_tellsTerm {ln B : Nat → Nat} {h : Int64} {t : Nat} (ht : t < 8) (hI : DI σ0 σ ln B) : GM (XM l D cA ad) mX7_tellsTerm [.ref 0, .long h, .int (nI t)] σ (g_rl (fun r τ => r = dgF ln B t h ∧ DI σ0 τ ln B)) := by
  refine GM.of (ls := [some (.ref 0), some (.long h), none, some (.int (nI t)), none, none, none]) (by decide) (Nat.le_of_ble_eq_true rfl) rfl ?_
  refine G.lload_n (k := 1) rfl dX7_tellsTerm_0 ?_
  refine G.lst4 (by decide) rfl dX7_tellsTerm_1 ?_
  refine G.iconst (v := 0) (by decide) dX7_tellsTerm_3 ?_
  refine G.ist6 (by decide) rfl dX7_tellsTerm_4 ?_
  refine md_F1 ht 4 0 h σ (by decide) hI (fun σ2 hI2 => ?_)
  refine G.iconst (v := (-1)) (by decide) dX7_tellsTerm_35 ?_
  refine G.ist6 (by decide) rfl dX7_tellsTerm_36 ?_
  rw [show (-1 : Int32) = nI 0 - 1 by decide]
  refine md_F2 ht 31 0 _ σ2 (by decide) hI2 (fun σ3 hI3 => ?_)
  refine G.lload (i := 4) rfl dX7_tellsTerm_91 ?_
  exact G.lret rfl (⟨rfl, hI3⟩) dX7_tellsTerm_93
set_option maxHeartbeats 4000000 in
set_option maxRecDepth 100000 in
theorem md_I1 {ln B : Nat → Nat} {P : Int64 → gS → Prop} {h0 : Int64} {t : Nat} (ht : t < 6) : ∀ j i h (σ : gS), i + j = 61 → DI σ0 σ ln B → (∀ σ', DI σ0 σ' ln B → G (XM l D cA ad) mX7_tellsUnknown (g_rl P) 36 [some (.ref 0), some (.long h0), none, some (.int (nI t)), some (.long (itF (dgI1 ln B t) j i h)), none, some (.int (nI 61 - 1))] [] σ') → G (XM l D cA ad) mX7_tellsUnknown (g_rl P) 6 [some (.ref 0), some (.long h0), none, some (.int (nI t)), some (.long (h)), none, some (.int (nI i - 1))] [] σ := by
  intro j
  induction j with
  | zero =>
    intro i h σ  hi hI K
    have hi2 : i = 61 := by omega
    subst hi2
    refine G.iload (i := 6) rfl dX7_tellsUnknown_6 ?_
    refine G.bipush (v := 60) (by decide) dX7_tellsUnknown_8 ?_
    refine G.icmp_ge (tgt := 36) (by decide) dX7_tellsUnknown_10 (fun c_10 => ?_) (fun c_10 => absurd (by decide) c_10)
    exact K σ  hI
  | succ j ih =>
    intro i h σ  hi hI K
    refine G.iload (i := 6) rfl dX7_tellsUnknown_6 ?_
    refine G.bipush (v := 60) (by decide) dX7_tellsUnknown_8 ?_
    refine G.icmp_ge (tgt := 36) (by decide) dX7_tellsUnknown_10 (fun c_10 => absurd c_10 (pm60 i (by omega))) (fun c_10 => ?_)
    refine G.ldc2 ct_X7_386 dX7_tellsUnknown_13 ?_
    refine G.lload (i := 4) rfl dX7_tellsUnknown_16 ?_
    refine G.lmul dX7_tellsUnknown_18 ?_
    refine G.aload_n (k := 0) rfl dX7_tellsUnknown_19 ?_
    refine G.iload_n (k := 3) rfl dX7_tellsUnknown_20 ?_
    refine G.iload (i := 6) rfl dX7_tellsUnknown_21 ?_
    refine G.callVi (c_X7_valueBy hI.1 hI.2.1 ht (pmN i (by omega))) rfl (gci_X7).1 ml_X7_368 im_yX7_valueBy se_yX7_valueBy gcl_X7_valueBy (by decide) rfl rfl (Nat.le_of_ble_eq_true rfl) dX7_tellsUnknown_23 (fun r23 τ23 hq23 => ?_)
    rw [hq23.1, e_value ht (pmN i (by omega))]
    have hI23 := DI_v hI (hq23.2)
    refine G.i2l dX7_tellsUnknown_26 ?_
    refine G.ladd dX7_tellsUnknown_27 ?_
    refine G.lst4 (by decide) rfl dX7_tellsUnknown_28 ?_
    refine G.inc6 (d := 1) (by decide) (by decide) rfl dX7_tellsUnknown_30 ?_
    refine G.goto (tgt := 6) (by decide) dX7_tellsUnknown_33 ?_
    rw [pm_s i (by omega)]
    exact ih (i + 1) _ _ (by omega) hI23 K
set_option maxHeartbeats 4000000 in
set_option maxRecDepth 100000 in
theorem c_X7_tellsUnknown {ln B : Nat → Nat} {h : Int64} {t : Nat} (ht : t < 6) (hI : DI σ0 σ ln B) : GM (XM l D cA ad) mX7_tellsUnknown [.ref 0, .long h, .int (nI t)] σ (g_rl (fun r τ => r = dgI ln B t h ∧ DI σ0 τ ln B)) := by
  refine GM.of (ls := [some (.ref 0), some (.long h), none, some (.int (nI t)), none, none, none]) (by decide) (Nat.le_of_ble_eq_true rfl) rfl ?_
  refine G.lload_n (k := 1) rfl dX7_tellsUnknown_0 ?_
  refine G.lst4 (by decide) rfl dX7_tellsUnknown_1 ?_
  refine G.iconst (v := (-1)) (by decide) dX7_tellsUnknown_3 ?_
  refine G.ist6 (by decide) rfl dX7_tellsUnknown_4 ?_
  rw [show (-1 : Int32) = nI 0 - 1 by decide]
  refine md_I1 ht 61 0 h σ (by decide) hI (fun σ2 hI2 => ?_)
  refine G.ldc2 ct_X7_386 dX7_tellsUnknown_36 ?_
  refine G.lload (i := 4) rfl dX7_tellsUnknown_39 ?_
  refine G.lmul dX7_tellsUnknown_41 ?_
  refine G.aload_n (k := 0) rfl dX7_tellsUnknown_42 ?_
  refine G.iload_n (k := 3) rfl dX7_tellsUnknown_43 ?_
  refine G.callVi (c_X7_freshBy hI2.1 hI2.2.1 ht) rfl (gci_X7).1 ml_X7_371 im_yX7_freshBy se_yX7_freshBy gcl_X7_freshBy (by decide) rfl rfl (Nat.le_of_ble_eq_true rfl) dX7_tellsUnknown_44 (fun r44 τ44 hq44 => ?_)
  rw [hq44.1, e_fresh ht]
  have hI44 := DI_v hI2 (hq44.2)
  refine G.i2l dX7_tellsUnknown_47 ?_
  refine G.ladd dX7_tellsUnknown_48 ?_
  refine G.lst4 (by decide) rfl dX7_tellsUnknown_49 ?_
  refine G.ldc2 ct_X7_386 dX7_tellsUnknown_51 ?_
  refine G.lload (i := 4) rfl dX7_tellsUnknown_54 ?_
  refine G.lmul dX7_tellsUnknown_56 ?_
  refine G.aload_n (k := 0) rfl dX7_tellsUnknown_57 ?_
  refine G.iload_n (k := 3) rfl dX7_tellsUnknown_58 ?_
  refine G.callVi (c_X7_needsBy hI44.1 hI44.2.1 ht) rfl (gci_X7).1 ml_X7_374 im_yX7_needsBy se_yX7_needsBy gcl_X7_needsBy (by decide) rfl rfl (Nat.le_of_ble_eq_true rfl) dX7_tellsUnknown_59 (fun r59 τ59 hq59 => ?_)
  rw [hq59.1, e_needs ht]
  have hI59 := DI_v hI44 (hq59.2)
  refine G.i2l dX7_tellsUnknown_62 ?_
  refine G.ladd dX7_tellsUnknown_63 ?_
  exact G.lret rfl (⟨rfl, hI59⟩) dX7_tellsUnknown_64
set_option maxHeartbeats 4000000 in
set_option maxRecDepth 100000 in
theorem md_A {ln B : Nat → Nat} {P : Int64 → gS → Prop} {y4 : Option Value} : ∀ j i h (σ : gS), i + j = 8 → TM σ ln B ∧ mQ σ0 σ ∧ (0 < i → MR σ ln B) → (∀ σ', TM σ' ln B ∧ mQ σ0 σ' ∧ (0 < 8 → MR σ' ln B) → G (XM l D cA ad) mX7_digest (g_rl P) 31 [some (.ref 0), some (.long (itF (dgA ln B (σ0 0 4)) j i h)), none, some (.int (nI 8)), y4] [] σ') → G (XM l D cA ad) mX7_digest (g_rl P) 6 [some (.ref 0), some (.long (h)), none, some (.int (nI i)), y4] [] σ := by
  intro j
  induction j with
  | zero =>
    intro i h σ  hi hI K
    have hi2 : i = 8 := by omega
    subst hi2
    refine G.iload_n (k := 3) rfl dX7_digest_6 ?_
    refine G.bipush (v := 8) (by decide) dX7_digest_7 ?_
    refine G.icmp_ge (tgt := 31) (by decide) dX7_digest_9 (fun c_9 => ?_) (fun c_9 => absurd (by decide) c_9)
    exact K σ  hI
  | succ j ih =>
    intro i h σ  hi hI K
    refine G.iload_n (k := 3) rfl dX7_digest_6 ?_
    refine G.bipush (v := 8) (by decide) dX7_digest_7 ?_
    refine G.icmp_ge (tgt := 31) (by decide) dX7_digest_9 (fun c_9 => absurd c_9 (nI_ge (b := 8) (by omega) (by decide))) (fun c_9 => ?_)
    refine G.ldc2 ct_X7_386 dX7_digest_12 ?_
    refine G.lload_n (k := 1) rfl dX7_digest_15 ?_
    refine G.lmul dX7_digest_16 ?_
    refine G.aload_n (k := 0) rfl dX7_digest_17 ?_
    refine G.iload_n (k := 3) rfl dX7_digest_18 ?_
    refine G.callVi (c_X7_count hI.1) rfl (gci_X7).1 ml_X7_390 im_yX7_count se_yX7_count gcl_X7_count (by decide) rfl rfl (Nat.le_of_ble_eq_true rfl) dX7_digest_19 (fun r19 τ19 hq19 => ?_)
    rw [hq19.1, hI.2.1.2]
    have hI19 : TM τ19 ln B ∧ mQ σ0 τ19 ∧ (0 < i + 1 → MR τ19 ln B) := ⟨hq19.2.1, mQ_tr hI.2.1 hq19.2.2.2, fun _ => hq19.2.2.1⟩
    refine G.i2l dX7_digest_22 ?_
    refine G.ladd dX7_digest_23 ?_
    refine G.lst1 (by decide) rfl dX7_digest_24 ?_
    refine G.inc3 (d := 1) (by decide) (by decide) rfl dX7_digest_25 ?_
    refine G.goto (tgt := 6) (by decide) dX7_digest_28 ?_
    rw [nI_1]
    exact ih (i + 1) _ _ (by omega) hI19 K
set_option maxHeartbeats 4000000 in
set_option maxRecDepth 100000 in
theorem md_B {ln B : Nat → Nat} {P : Int64 → gS → Prop} {y4 : Option Value} : ∀ j i h (σ : gS), i + j = 10 → DI σ0 σ ln B → (∀ σ', DI σ0 σ' ln B → G (XM l D cA ad) mX7_digest (g_rl P) 58 [some (.ref 0), some (.long (itF (dgB ln B) j i h)), none, some (.int (nI 10)), y4] [] σ') → G (XM l D cA ad) mX7_digest (g_rl P) 33 [some (.ref 0), some (.long (h)), none, some (.int (nI i)), y4] [] σ := by
  intro j
  induction j with
  | zero =>
    intro i h σ  hi hI K
    have hi2 : i = 10 := by omega
    subst hi2
    refine G.iload_n (k := 3) rfl dX7_digest_33 ?_
    refine G.bipush (v := 10) (by decide) dX7_digest_34 ?_
    refine G.icmp_ge (tgt := 58) (by decide) dX7_digest_36 (fun c_36 => ?_) (fun c_36 => absurd (by decide) c_36)
    exact K σ  hI
  | succ j ih =>
    intro i h σ  hi hI K
    refine G.iload_n (k := 3) rfl dX7_digest_33 ?_
    refine G.bipush (v := 10) (by decide) dX7_digest_34 ?_
    refine G.icmp_ge (tgt := 58) (by decide) dX7_digest_36 (fun c_36 => absurd c_36 (nI_ge (b := 10) (by omega) (by decide))) (fun c_36 => ?_)
    refine G.ldc2 ct_X7_386 dX7_digest_39 ?_
    refine G.lload_n (k := 1) rfl dX7_digest_42 ?_
    refine G.lmul dX7_digest_43 ?_
    refine G.aload_n (k := 0) rfl dX7_digest_44 ?_
    refine G.iload_n (k := 3) rfl dX7_digest_45 ?_
    refine G.callVi (c_X7_readsText hI.1 (show i < 10 by omega)) rfl (gci_X7).1 ml_X7_174 im_yX7_readsText se_yX7_readsText gcl_X7_readsText (by decide) rfl rfl (Nat.le_of_ble_eq_true rfl) dX7_digest_46 (fun r46 τ46 hq46 => ?_)
    rw [hq46.1, e_fault (show i < 10 by omega)]
    have hI46 := DI_rd hI hq46.2
    refine G.i2l dX7_digest_49 ?_
    refine G.ladd dX7_digest_50 ?_
    refine G.lst1 (by decide) rfl dX7_digest_51 ?_
    refine G.inc3 (d := 1) (by decide) (by decide) rfl dX7_digest_52 ?_
    refine G.goto (tgt := 33) (by decide) dX7_digest_55 ?_
    rw [nI_1]
    exact ih (i + 1) _ _ (by omega) hI46 K
set_option maxHeartbeats 4000000 in
set_option maxRecDepth 100000 in
theorem md_C {ln B : Nat → Nat} {P : Int64 → gS → Prop} {y4 : Option Value} : ∀ j i h (σ : gS), i + j = 6 → DI σ0 σ ln B → (∀ σ', DI σ0 σ' ln B → G (XM l D cA ad) mX7_digest (g_rl P) 129 [some (.ref 0), some (.long (itF (dgC ln B) j i h)), none, some (.int (nI 6)), y4] [] σ') → G (XM l D cA ad) mX7_digest (g_rl P) 60 [some (.ref 0), some (.long (h)), none, some (.int (nI i)), y4] [] σ := by
  intro j
  induction j with
  | zero =>
    intro i h σ  hi hI K
    have hi2 : i = 6 := by omega
    subst hi2
    refine G.iload_n (k := 3) rfl dX7_digest_60 ?_
    refine G.bipush (v := 6) (by decide) dX7_digest_61 ?_
    refine G.icmp_ge (tgt := 129) (by decide) dX7_digest_63 (fun c_63 => ?_) (fun c_63 => absurd (by decide) c_63)
    exact K σ  hI
  | succ j ih =>
    intro i h σ  hi hI K
    refine G.iload_n (k := 3) rfl dX7_digest_60 ?_
    refine G.bipush (v := 6) (by decide) dX7_digest_61 ?_
    refine G.icmp_ge (tgt := 129) (by decide) dX7_digest_63 (fun c_63 => absurd c_63 (nI_ge (b := 6) (by omega) (by decide))) (fun c_63 => ?_)
    refine G.ldc2 ct_X7_386 dX7_digest_66 ?_
    refine G.lload_n (k := 1) rfl dX7_digest_69 ?_
    refine G.lmul dX7_digest_70 ?_
    refine G.aload_n (k := 0) rfl dX7_digest_71 ?_
    refine G.iload_n (k := 3) rfl dX7_digest_72 ?_
    refine G.iconst (v := 0) (by decide) dX7_digest_73 ?_
    refine G.callVif (c_X7_turnBy (TM_ttP hI.1) (MR_13 hI.2.1) (show i < 6 by omega)) rfl (gci_X7).1 ml_X7_191 im_yX7_turnBy se_yX7_turnBy gcl_X7_turnBy (by decide) rfl rfl (Nat.le_of_ble_eq_true rfl) dX7_digest_74 ?_
    rw [if_pos rfl, e_turn0 (show i < 6 by omega)]
    refine G.i2l dX7_digest_77 ?_
    refine G.ladd dX7_digest_78 ?_
    refine G.lst1 (by decide) rfl dX7_digest_79 ?_
    refine G.ldc2 ct_X7_386 dX7_digest_80 ?_
    refine G.lload_n (k := 1) rfl dX7_digest_83 ?_
    refine G.lmul dX7_digest_84 ?_
    refine G.aload_n (k := 0) rfl dX7_digest_85 ?_
    refine G.iload_n (k := 3) rfl dX7_digest_86 ?_
    refine G.iconst (v := 1) (by decide) dX7_digest_87 ?_
    refine G.callVif (c_X7_turnBy (TM_ttP hI.1) (MR_13 hI.2.1) (show i < 6 by omega)) rfl (gci_X7).1 ml_X7_191 im_yX7_turnBy se_yX7_turnBy gcl_X7_turnBy (by decide) rfl rfl (Nat.le_of_ble_eq_true rfl) dX7_digest_88 ?_
    rw [if_neg (by decide), e_turn1 (show i < 6 by omega)]
    refine G.i2l dX7_digest_91 ?_
    refine G.ladd dX7_digest_92 ?_
    refine G.lst1 (by decide) rfl dX7_digest_93 ?_
    refine G.ldc2 ct_X7_386 dX7_digest_94 ?_
    refine G.lload_n (k := 1) rfl dX7_digest_97 ?_
    refine G.lmul dX7_digest_98 ?_
    refine G.aload_n (k := 0) rfl dX7_digest_99 ?_
    refine G.iload_n (k := 3) rfl dX7_digest_100 ?_
    refine G.iconst (v := 2) (by decide) dX7_digest_101 ?_
    refine G.callVif (c_X7_powerBy (TM_ttP hI.1) (MR_13 hI.2.1) (show i < 6 by omega)) rfl (gci_X7).1 ml_X7_194 im_yX7_powerBy se_yX7_powerBy gcl_X7_powerBy (by decide) rfl rfl (Nat.le_of_ble_eq_true rfl) dX7_digest_102 ?_
    rw [e_power (show i < 6 by omega)]
    refine G.i2l dX7_digest_105 ?_
    refine G.ladd dX7_digest_106 ?_
    refine G.lst1 (by decide) rfl dX7_digest_107 ?_
    refine G.ldc2 ct_X7_386 dX7_digest_108 ?_
    refine G.lload_n (k := 1) rfl dX7_digest_111 ?_
    refine G.lmul dX7_digest_112 ?_
    refine G.aload_n (k := 0) rfl dX7_digest_113 ?_
    refine G.iload_n (k := 3) rfl dX7_digest_114 ?_
    refine G.bipush (v := (-3)) (by decide) dX7_digest_115 ?_
    refine G.callVif (c_X7_powerBy (TM_ttP hI.1) (MR_13 hI.2.1) (show i < 6 by omega)) rfl (gci_X7).1 ml_X7_194 im_yX7_powerBy se_yX7_powerBy gcl_X7_powerBy (by decide) rfl rfl (Nat.le_of_ble_eq_true rfl) dX7_digest_117 ?_
    rw [e_power (show i < 6 by omega)]
    refine G.i2l dX7_digest_120 ?_
    refine G.ladd dX7_digest_121 ?_
    refine G.lst1 (by decide) rfl dX7_digest_122 ?_
    refine G.inc3 (d := 1) (by decide) (by decide) rfl dX7_digest_123 ?_
    refine G.goto (tgt := 60) (by decide) dX7_digest_126 ?_
    rw [nI_1]
    exact ih (i + 1) _ _ (by omega) hI K
set_option maxHeartbeats 4000000 in
set_option maxRecDepth 100000 in
theorem md_D {ln B : Nat → Nat} {P : Int64 → gS → Prop} {y4 : Option Value} : ∀ j i h (σ : gS), i + j = 4 → DI σ0 σ ln B → (∀ σ', DI σ0 σ' ln B → G (XM l D cA ad) mX7_digest (g_rl P) 155 [some (.ref 0), some (.long (itF (dgD ln B) j i h)), none, some (.int (nI 4)), y4] [] σ') → G (XM l D cA ad) mX7_digest (g_rl P) 131 [some (.ref 0), some (.long (h)), none, some (.int (nI i)), y4] [] σ := by
  intro j
  induction j with
  | zero =>
    intro i h σ  hi hI K
    have hi2 : i = 4 := by omega
    subst hi2
    refine G.iload_n (k := 3) rfl dX7_digest_131 ?_
    refine G.iconst (v := 4) (by decide) dX7_digest_132 ?_
    refine G.icmp_ge (tgt := 155) (by decide) dX7_digest_133 (fun c_133 => ?_) (fun c_133 => absurd (by decide) c_133)
    exact K σ  hI
  | succ j ih =>
    intro i h σ  hi hI K
    refine G.iload_n (k := 3) rfl dX7_digest_131 ?_
    refine G.iconst (v := 4) (by decide) dX7_digest_132 ?_
    refine G.icmp_ge (tgt := 155) (by decide) dX7_digest_133 (fun c_133 => absurd c_133 (nI_ge (b := 4) (by omega) (by decide))) (fun c_133 => ?_)
    refine G.ldc2 ct_X7_386 dX7_digest_136 ?_
    refine G.lload_n (k := 1) rfl dX7_digest_139 ?_
    refine G.lmul dX7_digest_140 ?_
    refine G.aload_n (k := 0) rfl dX7_digest_141 ?_
    refine G.iload_n (k := 3) rfl dX7_digest_142 ?_
    refine G.callVi (c_X7_roundsBy (TM_ttP hI.1) (MR_13 hI.2.1)) rfl (gci_X7).1 ml_X7_223 im_yX7_roundsBy se_yX7_roundsBy gcl_X7_roundsBy (by decide) rfl rfl (Nat.le_of_ble_eq_true rfl) dX7_digest_143 (fun r143 τ143 hq143 => ?_)
    rw [hq143.1, e_rd (show i < 4 by omega)]
    have hI143 := DI_v hI (lM_v hq143.2)
    refine G.i2l dX7_digest_146 ?_
    refine G.ladd dX7_digest_147 ?_
    refine G.lst1 (by decide) rfl dX7_digest_148 ?_
    refine G.inc3 (d := 1) (by decide) (by decide) rfl dX7_digest_149 ?_
    refine G.goto (tgt := 131) (by decide) dX7_digest_152 ?_
    rw [nI_1]
    exact ih (i + 1) _ _ (by omega) hI143 K
set_option maxHeartbeats 4000000 in
set_option maxRecDepth 100000 in
theorem md_E {ln B : Nat → Nat} {P : Int64 → gS → Prop} {y4 : Option Value} : ∀ j i h (σ : gS), i + j = 16 → DI σ0 σ ln B → (∀ σ', DI σ0 σ' ln B → G (XM l D cA ad) mX7_digest (g_rl P) 182 [some (.ref 0), some (.long (itF (dgE ln B) j i h)), none, some (.int (nI 16 - 1)), y4] [] σ') → G (XM l D cA ad) mX7_digest (g_rl P) 157 [some (.ref 0), some (.long (h)), none, some (.int (nI i - 1)), y4] [] σ := by
  intro j
  induction j with
  | zero =>
    intro i h σ  hi hI K
    have hi2 : i = 16 := by omega
    subst hi2
    refine G.iload_n (k := 3) rfl dX7_digest_157 ?_
    refine G.bipush (v := 15) (by decide) dX7_digest_158 ?_
    refine G.icmp_ge (tgt := 182) (by decide) dX7_digest_160 (fun c_160 => ?_) (fun c_160 => absurd (by decide) c_160)
    exact K σ  hI
  | succ j ih =>
    intro i h σ  hi hI K
    refine G.iload_n (k := 3) rfl dX7_digest_157 ?_
    refine G.bipush (v := 15) (by decide) dX7_digest_158 ?_
    refine G.icmp_ge (tgt := 182) (by decide) dX7_digest_160 (fun c_160 => absurd c_160 (pm15 i (by omega))) (fun c_160 => ?_)
    refine G.ldc2 ct_X7_386 dX7_digest_163 ?_
    refine G.lload_n (k := 1) rfl dX7_digest_166 ?_
    refine G.lmul dX7_digest_167 ?_
    refine G.aload_n (k := 0) rfl dX7_digest_168 ?_
    refine G.iload_n (k := 3) rfl dX7_digest_169 ?_
    refine G.callVi (c_X7_showsBy (pmN i (by omega)) (TM_ttP hI.1) (MR_13 hI.2.1)) rfl (gci_X7).1 ml_X7_233 im_yX7_showsBy se_yX7_showsBy gcl_X7_showsBy (by decide) rfl rfl (Nat.le_of_ble_eq_true rfl) dX7_digest_170 (fun r170 τ170 hq170 => ?_)
    rw [hq170.1, e_shows (pmN i (by omega))]
    have hI170 := DI_v hI (lM_v hq170.2)
    refine G.i2l dX7_digest_173 ?_
    refine G.ladd dX7_digest_174 ?_
    refine G.lst1 (by decide) rfl dX7_digest_175 ?_
    refine G.inc3 (d := 1) (by decide) (by decide) rfl dX7_digest_176 ?_
    refine G.goto (tgt := 157) (by decide) dX7_digest_179 ?_
    rw [pm_s i (by omega)]
    exact ih (i + 1) _ _ (by omega) hI170 K
set_option maxHeartbeats 4000000 in
set_option maxRecDepth 100000 in
theorem md_F {ln B : Nat → Nat} {P : Int64 → gS → Prop} {y4 : Option Value} : ∀ j i h (σ : gS), i + j = 8 → DI σ0 σ ln B → (∀ σ', DI σ0 σ' ln B → G (XM l D cA ad) mX7_digest (g_rl P) 203 [some (.ref 0), some (.long (itF (dgF ln B) j i h)), none, some (.int (nI 8)), y4] [] σ') → G (XM l D cA ad) mX7_digest (g_rl P) 184 [some (.ref 0), some (.long (h)), none, some (.int (nI i)), y4] [] σ := by
  intro j
  induction j with
  | zero =>
    intro i h σ  hi hI K
    have hi2 : i = 8 := by omega
    subst hi2
    refine G.iload_n (k := 3) rfl dX7_digest_184 ?_
    refine G.bipush (v := 8) (by decide) dX7_digest_185 ?_
    refine G.icmp_ge (tgt := 203) (by decide) dX7_digest_187 (fun c_187 => ?_) (fun c_187 => absurd (by decide) c_187)
    exact K σ  hI
  | succ j ih =>
    intro i h σ  hi hI K
    refine G.iload_n (k := 3) rfl dX7_digest_184 ?_
    refine G.bipush (v := 8) (by decide) dX7_digest_185 ?_
    refine G.icmp_ge (tgt := 203) (by decide) dX7_digest_187 (fun c_187 => absurd c_187 (nI_ge (b := 8) (by omega) (by decide))) (fun c_187 => ?_)
    refine G.aload_n (k := 0) rfl dX7_digest_190 ?_
    refine G.lload_n (k := 1) rfl dX7_digest_191 ?_
    refine G.iload_n (k := 3) rfl dX7_digest_192 ?_
    refine G.callVl (c_X7_tellsTerm (show i < 8 by omega) hI) rfl (gci_X7).1 ml_X7_393 im_yX7_tellsTerm se_yX7_tellsTerm gcl_X7_tellsTerm (by decide) rfl rfl (Nat.le_of_ble_eq_true rfl) dX7_digest_193 (fun r τ193 hq => ?_)
    rw [hq.1]
    have hI193 := hq.2
    refine G.lst1 (by decide) rfl dX7_digest_196 ?_
    refine G.inc3 (d := 1) (by decide) (by decide) rfl dX7_digest_197 ?_
    refine G.goto (tgt := 184) (by decide) dX7_digest_200 ?_
    rw [nI_1]
    exact ih (i + 1) _ _ (by omega) hI193 K
set_option maxHeartbeats 4000000 in
set_option maxRecDepth 100000 in
theorem md_G {ln B : Nat → Nat} {P : Int64 → gS → Prop} {y4 : Option Value} : ∀ j i h (σ : gS), i + j = 4 → DI σ0 σ ln B → (∀ σ', DI σ0 σ' ln B → G (XM l D cA ad) mX7_digest (g_rl P) 242 [some (.ref 0), some (.long (itF (dgG ln B) j i h)), none, some (.int (nI 4)), y4] [] σ') → G (XM l D cA ad) mX7_digest (g_rl P) 205 [some (.ref 0), some (.long (h)), none, some (.int (nI i)), y4] [] σ := by
  intro j
  induction j with
  | zero =>
    intro i h σ  hi hI K
    have hi2 : i = 4 := by omega
    subst hi2
    refine G.iload_n (k := 3) rfl dX7_digest_205 ?_
    refine G.iconst (v := 4) (by decide) dX7_digest_206 ?_
    refine G.icmp_ge (tgt := 242) (by decide) dX7_digest_207 (fun c_207 => ?_) (fun c_207 => absurd (by decide) c_207)
    exact K σ  hI
  | succ j ih =>
    intro i h σ  hi hI K
    refine G.iload_n (k := 3) rfl dX7_digest_205 ?_
    refine G.iconst (v := 4) (by decide) dX7_digest_206 ?_
    refine G.icmp_ge (tgt := 242) (by decide) dX7_digest_207 (fun c_207 => absurd c_207 (nI_ge (b := 4) (by omega) (by decide))) (fun c_207 => ?_)
    refine G.ldc2 ct_X7_386 dX7_digest_210 ?_
    refine G.lload_n (k := 1) rfl dX7_digest_213 ?_
    refine G.lmul dX7_digest_214 ?_
    refine G.aload_n (k := 0) rfl dX7_digest_215 ?_
    refine G.iload_n (k := 3) rfl dX7_digest_216 ?_
    refine G.callVif (c_X7_isThere hI.1 hI.2.1 (show i < 4 by omega)) rfl (gci_X7).1 ml_X7_320 im_yX7_isThere se_yX7_isThere gcl_X7_isThere (by decide) rfl rfl (Nat.le_of_ble_eq_true rfl) dX7_digest_217 ?_
    refine G.if_eq (tgt := 231) (by decide) dX7_digest_220 (fun c_220 => ?_) (fun c_220 => ?_)
    · have ht := bo_0.mp c_220
      have e0 := e_al0 (ln := ln) (B := B) (show i < 4 by omega) ht
      refine G.bipush (v := (-3)) (by decide) dX7_digest_231 ?_
      rw [e0]
      refine G.i2l dX7_digest_233 ?_
      refine G.ladd dX7_digest_234 ?_
      refine G.lst1 (by decide) rfl dX7_digest_235 ?_
      refine G.inc3 (d := 1) (by decide) (by decide) rfl dX7_digest_236 ?_
      refine G.goto (tgt := 205) (by decide) dX7_digest_239 ?_
      rw [nI_1]
      first
      | exact ih (i + 1) _ _ (by omega) hI225 K
      | exact ih (i + 1) _ _ (by omega) hI K
    · have ht : thA ln B i = true := bo_n.mp c_220
      have hn := th_nd (TM_30 hI.1) (show i < 4 by omega) ht
      refine G.aload_n (k := 0) rfl dX7_digest_223 ?_
      refine G.iload_n (k := 3) rfl dX7_digest_224 ?_
      refine G.callVi (c_X7_alikeBy (fun g hg => MR_nd hI.2.1 hg) (MR_12 hI.2.1) (tdA64 hI.1) (show i < 4 by omega) hn) rfl (gci_X7).1 ml_X7_323 im_yX7_alikeBy se_yX7_alikeBy gcl_X7_alikeBy (by decide) rfl rfl (Nat.le_of_ble_eq_true rfl) dX7_digest_225 (fun r τ225 hq => ?_)
      rw [hq.1, e_al1 (show i < 4 by omega) ht hn (tdA64 hI.1)]
      have hI225 := DI_v hI (kF_v hq.2)
      refine G.goto (tgt := 233) (by decide) dX7_digest_228 ?_
      refine G.i2l dX7_digest_233 ?_
      refine G.ladd dX7_digest_234 ?_
      refine G.lst1 (by decide) rfl dX7_digest_235 ?_
      refine G.inc3 (d := 1) (by decide) (by decide) rfl dX7_digest_236 ?_
      refine G.goto (tgt := 205) (by decide) dX7_digest_239 ?_
      rw [nI_1]
      first
      | exact ih (i + 1) _ _ (by omega) hI225 K
      | exact ih (i + 1) _ _ (by omega) hI K
set_option maxHeartbeats 4000000 in
set_option maxRecDepth 100000 in
theorem md_H {ln B : Nat → Nat} {P : Int64 → gS → Prop} {y4 : Option Value} : ∀ j i h (σ : gS), i + j = 4 → DI σ0 σ ln B → (∀ σ', DI σ0 σ' ln B → G (XM l D cA ad) mX7_digest (g_rl P) 269 [some (.ref 0), some (.long (itF (dgH ln B) j i h)), none, some (.int (nI 4)), y4] [] σ') → G (XM l D cA ad) mX7_digest (g_rl P) 244 [some (.ref 0), some (.long (h)), none, some (.int (nI i)), y4] [] σ := by
  intro j
  induction j with
  | zero =>
    intro i h σ  hi hI K
    have hi2 : i = 4 := by omega
    subst hi2
    refine G.iload_n (k := 3) rfl dX7_digest_244 ?_
    refine G.iconst (v := 4) (by decide) dX7_digest_245 ?_
    refine G.icmp_ge (tgt := 269) (by decide) dX7_digest_246 (fun c_246 => ?_) (fun c_246 => absurd (by decide) c_246)
    exact K σ  hI
  | succ j ih =>
    intro i h σ  hi hI K
    refine G.iload_n (k := 3) rfl dX7_digest_244 ?_
    refine G.iconst (v := 4) (by decide) dX7_digest_245 ?_
    refine G.icmp_ge (tgt := 269) (by decide) dX7_digest_246 (fun c_246 => absurd c_246 (nI_ge (b := 4) (by omega) (by decide))) (fun c_246 => ?_)
    refine G.ldc2 ct_X7_386 dX7_digest_249 ?_
    refine G.lload_n (k := 1) rfl dX7_digest_252 ?_
    refine G.lmul dX7_digest_253 ?_
    refine G.aload_n (k := 0) rfl dX7_digest_254 ?_
    refine G.iconst (v := 0) (by decide) dX7_digest_255 ?_
    refine G.iload_n (k := 3) rfl dX7_digest_256 ?_
    refine G.callVi (c_X7_wayBy (k := 0) hI.1 hI.2.1 (by decide) (inB_nI (by decide) (show i < 4 by omega))) rfl (gci_X7).1 ml_X7_360 im_yX7_wayBy se_yX7_wayBy gcl_X7_wayBy (by decide) rfl rfl (Nat.le_of_ble_eq_true rfl) dX7_digest_257 (fun r257 τ257 hq257 => ?_)
    rw [hq257.1, e_solved (show i < 4 by omega)]
    have hI257 := DI_v hI (hq257.2)
    refine G.i2l dX7_digest_260 ?_
    refine G.ladd dX7_digest_261 ?_
    refine G.lst1 (by decide) rfl dX7_digest_262 ?_
    refine G.inc3 (d := 1) (by decide) (by decide) rfl dX7_digest_263 ?_
    refine G.goto (tgt := 244) (by decide) dX7_digest_266 ?_
    rw [nI_1]
    exact ih (i + 1) _ _ (by omega) hI257 K
set_option maxHeartbeats 4000000 in
set_option maxRecDepth 100000 in
theorem md_I {ln B : Nat → Nat} {P : Int64 → gS → Prop} {y4 : Option Value} : ∀ j i h (σ : gS), i + j = 6 → DI σ0 σ ln B → (∀ σ', DI σ0 σ' ln B → G (XM l D cA ad) mX7_digest (g_rl P) 290 [some (.ref 0), some (.long (itF (dgI ln B) j i h)), none, some (.int (nI 6)), y4] [] σ') → G (XM l D cA ad) mX7_digest (g_rl P) 271 [some (.ref 0), some (.long (h)), none, some (.int (nI i)), y4] [] σ := by
  intro j
  induction j with
  | zero =>
    intro i h σ  hi hI K
    have hi2 : i = 6 := by omega
    subst hi2
    refine G.iload_n (k := 3) rfl dX7_digest_271 ?_
    refine G.bipush (v := 6) (by decide) dX7_digest_272 ?_
    refine G.icmp_ge (tgt := 290) (by decide) dX7_digest_274 (fun c_274 => ?_) (fun c_274 => absurd (by decide) c_274)
    exact K σ  hI
  | succ j ih =>
    intro i h σ  hi hI K
    refine G.iload_n (k := 3) rfl dX7_digest_271 ?_
    refine G.bipush (v := 6) (by decide) dX7_digest_272 ?_
    refine G.icmp_ge (tgt := 290) (by decide) dX7_digest_274 (fun c_274 => absurd c_274 (nI_ge (b := 6) (by omega) (by decide))) (fun c_274 => ?_)
    refine G.aload_n (k := 0) rfl dX7_digest_277 ?_
    refine G.lload_n (k := 1) rfl dX7_digest_278 ?_
    refine G.iload_n (k := 3) rfl dX7_digest_279 ?_
    refine G.callVl (c_X7_tellsUnknown (show i < 6 by omega) hI) rfl (gci_X7).1 ml_X7_397 im_yX7_tellsUnknown se_yX7_tellsUnknown gcl_X7_tellsUnknown (by decide) rfl rfl (Nat.le_of_ble_eq_true rfl) dX7_digest_280 (fun r τ280 hq => ?_)
    rw [hq.1]
    have hI280 := hq.2
    refine G.lst1 (by decide) rfl dX7_digest_283 ?_
    refine G.inc3 (d := 1) (by decide) (by decide) rfl dX7_digest_284 ?_
    refine G.goto (tgt := 271) (by decide) dX7_digest_287 ?_
    rw [nI_1]
    exact ih (i + 1) _ _ (by omega) hI280 K
set_option maxHeartbeats 4000000 in
set_option maxRecDepth 100000 in
theorem md_J1 {ln B : Nat → Nat} {P : Int64 → gS → Prop} {q : Nat} (hq0 : q < 24) : ∀ j i h (σ : gS), i + j = 4 → DI σ0 σ ln B → (∀ σ', DI σ0 σ' ln B → G (XM l D cA ad) mX7_digest (g_rl P) 328 [some (.ref 0), some (.long (itF (dgJ1 ln B q) j i h)), none, some (.int (nI q)), some (.int (nI 4))] [] σ') → G (XM l D cA ad) mX7_digest (g_rl P) 301 [some (.ref 0), some (.long (h)), none, some (.int (nI q)), some (.int (nI i))] [] σ := by
  intro j
  induction j with
  | zero =>
    intro i h σ  hi hI K
    have hi2 : i = 4 := by omega
    subst hi2
    refine G.iload (i := 4) rfl dX7_digest_301 ?_
    refine G.iconst (v := 4) (by decide) dX7_digest_303 ?_
    refine G.icmp_ge (tgt := 328) (by decide) dX7_digest_304 (fun c_304 => ?_) (fun c_304 => absurd (by decide) c_304)
    exact K σ  hI
  | succ j ih =>
    intro i h σ  hi hI K
    refine G.iload (i := 4) rfl dX7_digest_301 ?_
    refine G.iconst (v := 4) (by decide) dX7_digest_303 ?_
    refine G.icmp_ge (tgt := 328) (by decide) dX7_digest_304 (fun c_304 => absurd c_304 (nI_ge (b := 4) (by omega) (by decide))) (fun c_304 => ?_)
    refine G.ldc2 ct_X7_386 dX7_digest_307 ?_
    refine G.lload_n (k := 1) rfl dX7_digest_310 ?_
    refine G.lmul dX7_digest_311 ?_
    refine G.aload_n (k := 0) rfl dX7_digest_312 ?_
    refine G.iload_n (k := 3) rfl dX7_digest_313 ?_
    refine G.iload (i := 4) rfl dX7_digest_314 ?_
    refine G.callVi (c_X7_wayBy (k := q) hI.1 hI.2.1 hq0 (inB_nI (by decide) (show i < 4 by omega))) rfl (gci_X7).1 ml_X7_360 im_yX7_wayBy se_yX7_wayBy gcl_X7_wayBy (by decide) rfl rfl (Nat.le_of_ble_eq_true rfl) dX7_digest_316 (fun r316 τ316 hq316 => ?_)
    rw [hq316.1, e_way hq0 (show i < 4 by omega)]
    have hI316 := DI_v hI (hq316.2)
    refine G.i2l dX7_digest_319 ?_
    refine G.ladd dX7_digest_320 ?_
    refine G.lst1 (by decide) rfl dX7_digest_321 ?_
    refine G.inc4 (d := 1) (by decide) (by decide) rfl dX7_digest_322 ?_
    refine G.goto (tgt := 301) (by decide) dX7_digest_325 ?_
    rw [nI_1]
    exact ih (i + 1) _ _ (by omega) hI316 K
set_option maxHeartbeats 4000000 in
set_option maxRecDepth 100000 in
theorem md_J {ln B : Nat → Nat} {P : Int64 → gS → Prop}  : ∀ j i h (σ : gS) (y4 : Option Value), i + j = 24 → DI σ0 σ ln B → (∀ σ' (y4 : Option Value), DI σ0 σ' ln B → G (XM l D cA ad) mX7_digest (g_rl P) 334 [some (.ref 0), some (.long (itF (dgJ ln B) j i h)), none, some (.int (nI 24)), y4] [] σ') → G (XM l D cA ad) mX7_digest (g_rl P) 292 [some (.ref 0), some (.long (h)), none, some (.int (nI i)), y4] [] σ := by
  intro j
  induction j with
  | zero =>
    intro i h σ y4 hi hI K
    have hi2 : i = 24 := by omega
    subst hi2
    refine G.iload_n (k := 3) rfl dX7_digest_292 ?_
    refine G.bipush (v := 24) (by decide) dX7_digest_293 ?_
    refine G.icmp_ge (tgt := 334) (by decide) dX7_digest_295 (fun c_295 => ?_) (fun c_295 => absurd (by decide) c_295)
    exact K σ y4 hI
  | succ j ih =>
    intro i h σ y4 hi hI K
    refine G.iload_n (k := 3) rfl dX7_digest_292 ?_
    refine G.bipush (v := 24) (by decide) dX7_digest_293 ?_
    refine G.icmp_ge (tgt := 334) (by decide) dX7_digest_295 (fun c_295 => absurd c_295 (nI_ge (b := 24) (by omega) (by decide))) (fun c_295 => ?_)
    refine G.iconst (v := 0) (by decide) dX7_digest_298 ?_
    refine G.ist4 (by decide) rfl dX7_digest_299 ?_
    refine md_J1 (q := i) (by omega) 4 0 h σ (by decide) hI (fun σ2 hI2 => ?_)
    refine G.inc3 (d := 1) (by decide) (by decide) rfl dX7_digest_328 ?_
    refine G.goto (tgt := 292) (by decide) dX7_digest_331 ?_
    rw [nI_1]
    exact ih (i + 1) _ _ _ (by omega) hI2 K
set_option maxHeartbeats 4000000 in
set_option maxRecDepth 100000 in
theorem c_X7_digest {ln B : Nat → Nat} (hT : TM σ ln B) : GM (XM l D cA ad) mX7_digest [.ref 0] σ (g_rl (fun r τ => r = sp_digest ln B (σ 0 4) ∧ TM τ ln B ∧ mQ σ τ)) := by
  refine GM.of (ls := [some (.ref 0), none, none, none, none]) (by decide) (Nat.le_of_ble_eq_true rfl) rfl ?_
  refine G.ldc2 ct_X7_388 dX7_digest_0 ?_
  refine G.lst1 (by decide) rfl dX7_digest_3 ?_
  refine G.iconst (v := 0) (by decide) dX7_digest_4 ?_
  refine G.ist3 (by decide) rfl dX7_digest_5 ?_
  refine md_A 8 0 17 σ (by decide) ⟨hT, mQ_rf σ, fun h => absurd h (by decide)⟩ (fun σ1 hI0 => ?_)
  have hI1 : DI σ σ1 ln B := ⟨hI0.1, hI0.2.2 (by decide), hI0.2.1⟩
  refine G.iconst (v := 0) (by decide) dX7_digest_31 ?_
  refine G.ist3 (by decide) rfl dX7_digest_32 ?_
  refine md_B 10 0 _ σ1 (by decide) hI1 (fun σ2 hI2 => ?_)
  refine G.iconst (v := 0) (by decide) dX7_digest_58 ?_
  refine G.ist3 (by decide) rfl dX7_digest_59 ?_
  refine md_C 6 0 _ σ2 (by decide) hI2 (fun σ3 hI3 => ?_)
  refine G.iconst (v := 0) (by decide) dX7_digest_129 ?_
  refine G.ist3 (by decide) rfl dX7_digest_130 ?_
  refine md_D 4 0 _ σ3 (by decide) hI3 (fun σ4 hI4 => ?_)
  refine G.iconst (v := (-1)) (by decide) dX7_digest_155 ?_
  refine G.ist3 (by decide) rfl dX7_digest_156 ?_
  rw [show (-1 : Int32) = nI 0 - 1 by decide]
  refine md_E 16 0 _ σ4 (by decide) hI4 (fun σ5 hI5 => ?_)
  refine G.iconst (v := 0) (by decide) dX7_digest_182 ?_
  refine G.ist3 (by decide) rfl dX7_digest_183 ?_
  refine md_F 8 0 _ σ5 (by decide) hI5 (fun σ6 hI6 => ?_)
  refine G.iconst (v := 0) (by decide) dX7_digest_203 ?_
  refine G.ist3 (by decide) rfl dX7_digest_204 ?_
  refine md_G 4 0 _ σ6 (by decide) hI6 (fun σ7 hI7 => ?_)
  refine G.iconst (v := 0) (by decide) dX7_digest_242 ?_
  refine G.ist3 (by decide) rfl dX7_digest_243 ?_
  refine md_H 4 0 _ σ7 (by decide) hI7 (fun σ8 hI8 => ?_)
  refine G.iconst (v := 0) (by decide) dX7_digest_269 ?_
  refine G.ist3 (by decide) rfl dX7_digest_270 ?_
  refine md_I 6 0 _ σ8 (by decide) hI8 (fun σ9 hI9 => ?_)
  refine G.iconst (v := 0) (by decide) dX7_digest_290 ?_
  refine G.ist3 (by decide) rfl dX7_digest_291 ?_
  refine md_J 24 0 _ σ9 _ (by decide) hI9 (fun σ10 z10 hI10 => ?_)
  refine G.ldc2 ct_X7_386 dX7_digest_334 ?_
  refine G.lload_n (k := 1) rfl dX7_digest_337 ?_
  refine G.lmul dX7_digest_338 ?_
  refine G.aload_n (k := 0) rfl dX7_digest_339 ?_
  refine G.callVi (c_X7_spareNow hI10.1 hI10.2.1) rfl (gci_X7).1 ml_X7_377 im_yX7_spareNow se_yX7_spareNow gcl_X7_spareNow (by decide) rfl rfl (Nat.le_of_ble_eq_true rfl) dX7_digest_340 (fun r340 τ340 hq340 => ?_)
  rw [hq340.1]
  have hI340 := DI_v hI10 hq340.2
  refine G.i2l dX7_digest_343 ?_
  refine G.ladd dX7_digest_344 ?_
  exact G.lret rfl (⟨rfl, hI340.1, hI340.2.2⟩) dX7_digest_345
end TA3

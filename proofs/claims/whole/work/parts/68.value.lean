/-! ===== values, trials, counts ===== -/
theorem IX_trial {σ τ : gS} {ln B : Nat → Nat} (h : IX σ ln B) (hF : svF σ τ 22) : IX τ ln B ∧ qF σ τ := by
  obtain ⟨a1, a2, a3, a4, a5, a6, a7, a8, a9⟩ := h
  have r : ∀ k, k < 22 ∨ 27 < k → τ k = σ k := fun k hk => hF k (by omega)
  have r' : ∀ k, 1 ≤ k → k ≤ 11 → τ k = σ k := fun k _ q => r k (by omega)
  refine ⟨⟨TX_F r' a1, fun t ht => FX_F r' (a2 t ht), cS_congr (by rw [r 0 (by decide)]) (fun k a q => r k (by omega)) a3, cW_congr (by rw [r 0 (by decide)]) (r 28 (by decide)) a4, ?_, ?_, ?_, ?_, fun u hu => by rw [r 29 (by decide)]; exact a9 u hu⟩, fun k hk => r k (by omega)⟩
  · exact cL_congr (fun _ _ => by rw [r 30 (by decide)]) (r 31 (by decide)) a5
  · exact cL_congr (fun _ _ => by rw [r 33 (by decide)]) (r 34 (by decide)) a6
  · exact cL_congr (fun _ _ => by rw [r 36 (by decide)]) (r 37 (by decide)) a7
  · exact cL_congr (fun _ _ => by rw [r 39 (by decide)]) (r 40 (by decide)) a8
noncomputable def ualk (ln B : Nat → Nat) (q : Nat) : uS × Nat × Int32 := useq true B (fun e => (2 ^ q).testBit e && thA ln B e) (lst (ordE 0) 4) (((fun _ => none), [], (fun _ => 0), [], 0), 600, -1)
theorem IX_runT {σ : gS} {ln B : Nat → Nat} (h : IX σ ln B) (q : Nat) : useq true B (fun e => (2 ^ q).testBit e && thX σ e) (lst (ordE 0) 4) (((fun _ => none), [], (fun u => if true = true then 0 else tdA ln B u), [], 0), 600, -1) = ualk ln B q := by
  unfold ualk
  rw [show (fun u => if true = true then 0 else tdA ln B u) = (fun _ => 0) from funext (fun u => if_pos rfl)]
  exact useq_congr _ _ (fun e he => by rw [IX_th h (lst_lt 0 4 e he)])
theorem ualk_G {σ : gS} {ln B : Nat → Nat} (h : IX σ ln B) (q : Nat) : uG B ln (ualk ln B q).1 := by
  unfold ualk
  rw [useq_congr (th' := fun e => decide (e < 4) && ((2 ^ q).testBit e && thA ln B e)) _ _ (fun e he => by simp [lst_lt 0 4 e he])]
  refine useq_G (fun e he => ?_) _ _ ⟨VG_no B ln, rkd_no B, fun y hy => (by cases hy), fun u => (by show 0 < 64; decide), fun y hy => (by cases hy), Nat.zero_lt_succ _⟩
  simp only [Bool.and_eq_true, decide_eq_true_eq] at he
  exact IX_th2 h e he.1 he.2.2
theorem uMu_lt (B : Nat → Nat) (R : uS × Nat × Int32) (u : Nat) : uMu B R u < 64 := ms_lt _
theorem misF_0 (f : Nat → Int32) : ∀ n, misF f n = 0 ↔ ∀ u, u < n → f u = 0 := by
  intro n
  induction n with
  | zero => exact ⟨fun _ u hu => absurd hu (Nat.not_lt_zero u), fun _ => rfl⟩
  | succ n ih =>
    show misF f n ||| f n = 0 ↔ _
    rw [Int32.or_eq_zero_iff, ih]
    exact ⟨fun h u hu => if e : u = n then (by rw [e]; exact h.2) else h.1 u (by omega), fun h => ⟨fun u hu => h u (by omega), h n (by omega)⟩⟩
def mMo (B ln : Nat → Nat) (m : Nat → Nat) : Prop := ∀ u, u < 6 → m u &&& (63 ^^^ tdA ln B u) = 0
noncomputable def sp_alike (ln B : Nat → Nat) (e : Int32) : Int32 := if inB e 4 = true then (if thA ln B (ix e) = true then @ite _ (uwhy B (ualk ln B (ix e)) = 0 ∧ mMo B ln (uMu B (ualk ln B (ix e)))) (Classical.propDecidable _) 1 0 else -3) else -2
noncomputable def spr (ln B : Nat → Nat) : Nat → Nat → Int32
  | 0, _ => -1
  | j + 1, i => if uwhy B (usol ln B 0 (15 - 2 ^ i)) = 0 then nI i else spr ln B j (i + 1)
noncomputable def sp_spare (ln B : Nat → Nat) : Int32 := if uwhy B (usol ln B 0 15) = 0 then -1 else spr ln B 4 0
noncomputable def sp_count (ln B : Nat → Nat) (lat x : Int32) : Int32 := if inB x 4 = true then (if thA ln B (ix x) = true then 1 else 0) else if x = 4 then nI (sumN ln 10) else if x = 5 then fnd B (usol ln B 0 15) 0 else if x = 6 then fnd B (usol ln B 0 15) 2 else if x = 7 then nI (tn_mn (ttA ln B) 6) else if x = 8 then lat else -2
theorem sp_wm : ∀ e, e < 4 → (15 : Int32) &&& ((1 : Int32) <<< (nI e &&& 31) ^^^ (-1)) = nI (15 - 2 ^ e) ∧ 15 - 2 ^ e < 16 := by decide +kernel
theorem sh1_4 : ∀ e, e < 4 → (1 : Int32) <<< (nI e &&& 31) = nI (2 ^ e) ∧ 2 ^ e < 16 := by decide +kernel
section T68
variable {l : Launch} {D : va_G} {cA : ClassId} {ad : Nat → Nat}
variable {σ σ0 : gS}
set_option maxHeartbeats 4000000 in
set_option maxRecDepth 100000 in
theorem c_X6_showValue {ln B : Nat → Nat} (h : IX σ ln B) {u : Nat} (hu : u < 6) (hR : RunQ σ 16 B (usol ln B 0 15)) : GM (XC l D cA ad) mX6_showValue [.ref 0, .int (nI u)] σ (g_rv (fun τ => IX τ ln B ∧ qF σ τ ∧ LnH τ 36 (vaU ln B u))) := by
  refine GM.of (ls := [some (.ref 0), some (.int (nI u)), none]) (by decide) (Nat.le_of_ble_eq_true rfl) rfl ?_
  refine G.aload_n (k := 0) rfl dX6_showValue_0 ?_
  refine G.getr (j := 10) rfl gci_X6 (by decide) rfl fl_X6_41 dX6_showValue_1 ?_
  refine G.iload_n (k := 1) rfl dX6_showValue_4 ?_
  refine G.callVi (c_X0_isToShow lnA_36) rfl (gci_X0).1 ml_X6_142 im_yX0_isToShow se_yX0_isToShow gcl_X0_isToShow (by decide) rfl rfl (Nat.le_of_ble_eq_true rfl) dX6_showValue_5 (fun r τ hr => ?_)
  by_cases hh : σ 36 2 = nI u
  · rw [if_pos hh] at hr
    obtain ⟨e1, e2⟩ := Prod.mk.inj hr
    subst e1
    rw [e2]
    refine G.if_eq (tgt := 22) (by decide) dX6_showValue_8 (fun c_8 => ?_) (fun c_8 => absurd rfl c_8)
    exact G.vret rfl (⟨h, qF_rf _, cL_hit (by decide) hu h.2.2.2.2.2.2.1 hh⟩) dX6_showValue_22
  · rw [if_neg hh] at hr
    obtain ⟨e1, e2⟩ := Prod.mk.inj hr
    subst e1 e2
    refine G.if_eq (tgt := 22) (by decide) dX6_showValue_8 (fun c_8 => absurd c_8 (by decide)) (fun c_8 => ?_)
    have hG := usol_G h 0 15
    have e1 := why_0 hG hR
    refine G.aload_n (k := 0) rfl dX6_showValue_11 ?_
    refine G.getr (j := 2) rfl gci_X6 (by decide) rfl fl_X6_59 dX6_showValue_12 ?_
    refine G.iconst (v := 0) (by decide) dX6_showValue_15 ?_
    refine G.callVif (c_X2_finding svA_16 (w := 0) (Or.inl rfl)) rfl (gci_X2).1 ml_X6_183 im_yX2_finding se_yX2_finding gcl_X2_finding (by decide) rfl rfl (Nat.le_of_ble_eq_true rfl) dX6_showValue_16 ?_
    rw [if_pos rfl, up_nb (show (16 : Nat) ≠ 36 by decide)]
    refine G.if_eq (tgt := 23) (by decide) dX6_showValue_19 (fun c_19 => ?_) (fun c_19 => ?_)
    · have hw := e1.mp c_19
      refine G.aload_n (k := 0) rfl dX6_showValue_23 ?_
      refine G.getr (j := 2) rfl gci_X6 (by decide) rfl fl_X6_59 dX6_showValue_24 ?_
      refine G.getrN (j := 1) rfl gci_X2 (by decide) rfl (fun _ h => h.2.2.1) dX6_showValue_27 ?_
      refine G.iload_n (k := 1) rfl dX6_showValue_30 ?_
      refine G.ialdN (k := u) rfl rfl (by omega) (by decide) dX6_showValue_31 ?_
      rw [up_nb (show (17 : Nat) ≠ 36 by decide), hR.1 u hu]
      refine G.ist2 (by decide) rfl dX6_showValue_32 ?_
      refine G.iload_n (k := 2) rfl dX6_showValue_33 ?_
      refine G.iconst (v := (-1)) (by decide) dX6_showValue_34 ?_
      refine G.icmp_ne (tgt := 52) (by decide) dX6_showValue_35 (fun c_35 => ?_) (fun c_35 => ?_)
      · have hso : ∃ q, (usol ln B 0 15).1.1 u = some q := by
          cases e : (usol ln B 0 15).1.1 u with
          | none => exact absurd ((vrow_m1 hG.1 u).mpr e) c_35
          | some q => exact ⟨q, rfl⟩
        obtain ⟨q, hq⟩ := hso
        have hv := hG.1 u q hq
        have ev : vrow (usol ln B 0 15).1.1 u = nI (spot q) := by unfold vrow; rw [hq]
        rw [ev]
        have hF : txF σ (up2 (up2 σ 36 2 (nI u)) 36 1 0) := fun k _ b => up_nb (by omega)
        refine G.aload_n (k := 0) rfl dX6_showValue_52 ?_
        refine G.getr (j := 10) rfl gci_X6 (by decide) rfl fl_X6_41 dX6_showValue_53 ?_
        refine G.aload_n (k := 0) rfl dX6_showValue_56 ?_
        refine G.getr (j := 0) rfl gci_X6 (by decide) rfl fl_X6_50 dX6_showValue_57 ?_
        refine G.aload_n (k := 0) rfl dX6_showValue_60 ?_
        refine G.getr (j := 2) rfl gci_X6 (by decide) rfl fl_X6_59 dX6_showValue_61 ?_
        refine G.getrN (j := 1) rfl gci_X2 (by decide) rfl (fun _ h => h.2.2.1) dX6_showValue_64 ?_
        refine G.iload_n (k := 2) rfl dX6_showValue_67 ?_
        refine G.callVv (c_X0_putTerm lnA_36 (q := q) (tx3_F hF (IX_tx h)) hG.1 hG.2.1 (v := 17) rfl (by decide) (fun w hw2 => by rw [up_nb (show (17 : Nat) ≠ 36 by decide)]; exact hR.1 w hw2) hv.2.1 hv.2.2 (LnH_0 σ 36 _)) rfl (gci_X0).1 ml_X6_162 im_yX0_putTerm se_yX0_putTerm gcl_X0_putTerm (by decide) rfl rfl (Nat.le_of_ble_eq_true rfl) dX6_showValue_68 (fun υ hu2 => ?_)
        have hL : LnH υ 36 (vaU ln B u) := by unfold vaU; rw [if_pos hw, hq]; exact hu2.1
        have hJ := IX_ln3 (b := 36) (by decide) (fun k a b c => (hu2.2.1 k a b c).trans (up_nb a)) h (fun e => absurd e (by decide)) (fun e => absurd e (by decide)) (fun _ => Or.inr ⟨u, hu, (hu2.2.2 2 (by decide) (by decide)).trans up_h2, hL⟩) (fun e => absurd e (by decide))
        exact G.vret rfl (⟨hJ.1, hJ.2, hL⟩) dX6_showValue_71
      · have hno := (vrow_m1 hG.1 u).mp c_35
        refine G.aload_n (k := 0) rfl dX6_showValue_38 ?_
        refine G.getr (j := 10) rfl gci_X6 (by decide) rfl fl_X6_41 dX6_showValue_39 ?_
        refine G.bipush (v := 80) (by decide) dX6_showValue_42 ?_
        refine G.iload_n (k := 1) rfl dX6_showValue_44 ?_
        refine G.iadd dX6_showValue_45 ?_
        rw [show (80 : Int32) + nI u = nI (80 + u) from nI_add 80 u]
        refine G.callVv (c_X0_putByte lnA_36 (LnH_0 σ 36 _)) rfl (gci_X0).1 ml_X6_288 im_yX0_putByte se_yX0_putByte gcl_X0_putByte (by decide) rfl rfl (Nat.le_of_ble_eq_true rfl) dX6_showValue_46 (fun υ hu1 => ?_)
        have hu2 : LnH υ 36 (([] ++ [80 + u]).take 60) ∧ lnF (up2 (up2 σ 36 2 (nI u)) 36 1 0) υ 36 := ⟨hu1.1, lnG_F hu1.2⟩
        have hL : LnH υ 36 (vaU ln B u) := by unfold vaU; rw [if_pos hw, hno]; exact hu2.1
        have hJ := IX_ln3 (b := 36) (by decide) (fun k a b c => (hu2.2.1 k a b c).trans (up_nb a)) h (fun e => absurd e (by decide)) (fun e => absurd e (by decide)) (fun _ => Or.inr ⟨u, hu, (hu2.2.2 2 (by decide) (by decide)).trans up_h2, hL⟩) (fun e => absurd e (by decide))
        refine G.goto (tgt := 71) (by decide) dX6_showValue_49 ?_
        exact G.vret rfl (⟨hJ.1, hJ.2, hL⟩) dX6_showValue_71
    · have hw : ¬ uwhy B (usol ln B 0 15) = 0 := fun z => c_19 (e1.mpr z)
      have eS : vaU ln B u = [] := by unfold vaU; rw [if_neg hw]
      have hL : LnH (up2 (up2 σ 36 2 (nI u)) 36 1 0) 36 (vaU ln B u) := by rw [eS]; exact LnH_0 σ 36 _
      have hJ := IX_ln3 (b := 36) (by decide) (fun k a _ _ => up_nb a) h (fun e => absurd e (by decide)) (fun e => absurd e (by decide)) (fun _ => Or.inr ⟨u, hu, up_h2, hL⟩) (fun e => absurd e (by decide))
      exact G.vret rfl (⟨hJ.1, hJ.2, hL⟩) dX6_showValue_22
set_option maxHeartbeats 4000000 in
set_option maxRecDepth 100000 in
theorem c_X6_value {ln B : Nat → Nat} (h : IX σ ln B) {u i : Int32} : GM (XC l D cA ad) mX6_value [.ref 0, .int u, .int i] σ (g_ri (aQ σ ln B (sp_value ln B u i))) := by
  refine GM.of (ls := [some (.ref 0), some (.int u), some (.int i)]) (by decide) (Nat.le_of_ble_eq_true rfl) rfl ?_
  refine G.iload_n (k := 1) rfl dX6_value_0 ?_
  refine G.bipush (v := 6) (by decide) dX6_value_1 ?_
  refine G.callSif (c_X6_isOutside) ml_X6_72 ws_yX6_isOutside gcl_X6_isOutside (by decide) rfl rfl (Nat.le_of_ble_eq_true rfl) dX6_value_3 ?_
  refine G.if_ne (tgt := 16) (by decide) dX6_value_6 (fun c_6 => ?_) (fun c_6 => ?_)
  · have h1 := ou_t 6 (by decide) c_6
    refine G.bipush (v := (-2)) (by decide) dX6_value_16 ?_
    exact G.iret rfl (by unfold aQ sp_value; rw [if_neg (by first | (rw [h1]; simp; done) | exact fun z => z.2 h2)]; exact ⟨rfl, h, qF_rf _⟩) dX6_value_18
  · have h1 := ou_f 6 (by decide) c_6
    refine G.iload_n (k := 2) rfl dX6_value_9 ?_
    refine G.callSif (c_X6_isNoPlace) ml_X6_139 ws_yX6_isNoPlace gcl_X6_isNoPlace (by decide) rfl rfl (Nat.le_of_ble_eq_true rfl) dX6_value_10 ?_
    refine G.if_eq (tgt := 19) (by decide) dX6_value_13 (fun c_13 => ?_) (fun c_13 => ?_)
    · have h2 : ¬ (i < -1 ∨ 60 ≤ i) := bo_0.mp c_13
      obtain ⟨q, hq, eq⟩ := inB_of (by decide) h1
      subst eq
      have xq : ix (nI q) = q := ix_nI (by omega)
      refine G.aload_n (k := 0) rfl dX6_value_19 ?_
      refine G.callVv (c_X6_settle h) rfl (gci_X6).1 ml_X6_180 im_yX6_settle se_yX6_settle gcl_X6_settle (by decide) rfl rfl (Nat.le_of_ble_eq_true rfl) dX6_value_20 (fun τ hq9 => ?_)
      refine G.aload_n (k := 0) rfl dX6_value_23 ?_
      refine G.iload_n (k := 1) rfl dX6_value_24 ?_
      refine G.callVv (c_X6_showValue hq9.1 hq hq9.2.2.1) rfl (gci_X6).1 ml_X6_186 im_yX6_showValue se_yX6_showValue gcl_X6_showValue (by decide) rfl rfl (Nat.le_of_ble_eq_true rfl) dX6_value_25 (fun υ hu => ?_)
      refine G.aload_n (k := 0) rfl dX6_value_28 ?_
      refine G.getr (j := 10) rfl gci_X6 (by decide) rfl fl_X6_41 dX6_value_29 ?_
      refine G.iload_n (k := 2) rfl dX6_value_32 ?_
      refine G.callVif (c_X0_tell lnA_36 hu.2.2) rfl (gci_X0).1 ml_X6_148 im_yX0_tell se_yX0_tell gcl_X0_tell (by decide) rfl rfl (Nat.le_of_ble_eq_true rfl) dX6_value_33 ?_
      exact G.iret rfl (by unfold aQ sp_value; rw [if_pos ⟨h1, h2⟩, xq]; exact ⟨rfl, hu.1, qF_tr hq9.2.1 hu.2.1⟩) dX6_value_36
    · have h2 : i < -1 ∨ 60 ≤ i := bo_n.mp c_13
      refine G.bipush (v := (-2)) (by decide) dX6_value_16 ?_
      exact G.iret rfl (by unfold aQ sp_value; rw [if_neg (by first | (rw [h1]; simp; done) | exact fun z => z.2 h2)]; exact ⟨rfl, h, qF_rf _⟩) dX6_value_18
set_option maxHeartbeats 4000000 in
set_option maxRecDepth 100000 in
theorem c_X6_alike {ln B : Nat → Nat} (h : IX σ ln B) {e : Int32} : GM (XC l D cA ad) mX6_alike [.ref 0, .int e] σ (g_ri (aQ σ ln B (sp_alike ln B e))) := by
  refine GM.of (ls := [some (.ref 0), some (.int e)]) (by decide) (Nat.le_of_ble_eq_true rfl) rfl ?_
  refine G.iload_n (k := 1) rfl dX6_alike_0 ?_
  refine G.iconst (v := 4) (by decide) dX6_alike_1 ?_
  refine G.callSif (c_X6_isOutside) ml_X6_72 ws_yX6_isOutside gcl_X6_isOutside (by decide) rfl rfl (Nat.le_of_ble_eq_true rfl) dX6_alike_2 ?_
  refine G.if_eq (tgt := 11) (by decide) dX6_alike_5 (fun c_5 => ?_) (fun c_5 => ?_)
  · have h1 := ou_f 4 (by decide) c_5
    obtain ⟨q, hq, eq⟩ := inB_of (by decide) h1
    subst eq
    have xq : ix (nI q) = q := ix_nI (by omega)
    refine G.aload_n (k := 0) rfl dX6_alike_11 ?_
    refine G.getr (j := 0) rfl gci_X6 (by decide) rfl fl_X6_50 dX6_alike_12 ?_
    refine G.iload_n (k := 1) rfl dX6_alike_15 ?_
    refine G.callVif (c_X4_isThere hq) rfl (gci_X4).1 ml_X6_166 im_yX4_isThere se_yX4_isThere gcl_X4_isThere (by decide) rfl rfl (Nat.le_of_ble_eq_true rfl) dX6_alike_16 ?_
    rw [show (wlB σ (2 * q) && wlB σ (2 * q + 1)) = thA ln B q from IX_th h hq]
    refine G.if_ne (tgt := 25) (by decide) dX6_alike_19 (fun c_19 => ?_) (fun c_19 => ?_)
    · have ht := bo_n.mp c_19
      refine G.aload_n (k := 0) rfl dX6_alike_25 ?_
      refine G.getr (j := 3) rfl gci_X6 (by decide) rfl fl_X6_63 dX6_alike_26 ?_
      refine G.order fl_X6_169 dX6_alike_29 ?_
      refine G.iconst (v := 0) (by decide) dX6_alike_32 ?_
      refine G.ordld (i := 0) (vp_in_iff.mpr (inB_iff.mp (show inB 0 24 = true by decide))) dX6_alike_33 ?_
      refine G.iconst (v := 1) (by decide) dX6_alike_34 ?_
      refine G.iload_n (k := 1) rfl dX6_alike_35 ?_
      refine G.ishl dX6_alike_36 ?_
      rw [(sh1_4 q hq).1]
      refine G.iconst (v := 1) (by decide) dX6_alike_37 ?_
      refine G.callVv (c_X2_run svA_22 (wm := 2 ^ q) (rig := true) (es := ordE 0) (td := tdA ln B) (IX_tx h) (IX_thOK h) (fun p _ => ordE_lt 0 p) (fun p hp => ordE_ok 0 (by decide) p hp) (sh1_4 q hq).2 (IX_td h) (IX_td6 h)) rfl (gci_X2).1 ml_X6_172 im_yX2_run se_yX2_run gcl_X2_run (by decide) rfl rfl (Nat.le_of_ble_eq_true rfl) dX6_alike_38 (fun τ hr => ?_)
      rw [IX_runT h q] at hr
      have hJ := IX_trial h hr.1
      have hG := ualk_G h q
      have hR := RunP_Q hr
      have e1 := why_0 hG hR
      have eM : (τ 22 8 = 0 ∧ misF (fun u => τ 27 u &&& (τ 11 u ^^^ (-1))) 6 = 0) ↔ (uwhy B (ualk ln B q) = 0 ∧ mMo B ln (uMu B (ualk ln B q))) := by
        rw [e1, misF_0]
        refine and_congr_right (fun hz => ?_)
        refine forall_congr' (fun u => ?_)
        refine forall_congr' (fun hu => ?_)
        rw [hR.2.2.2.2.2 (why_y hz) u hu, IX_td hJ.1 u hu, an_j (uMu B (ualk ln B q) u) (uMu_lt _ _ _) _ (IX_td6 h u)]
        exact nI_eq (Nat.lt_of_le_of_lt Nat.and_le_left (Nat.lt_of_lt_of_le (uMu_lt _ _ _) (by decide))) (show 0 < 2 ^ 31 by decide)
      refine G.aload_n (k := 0) rfl dX6_alike_41 ?_
      refine G.getr (j := 3) rfl gci_X6 (by decide) rfl fl_X6_63 dX6_alike_42 ?_
      refine G.callVif (c_X2_needsNoMoreThanTold svA_22) rfl (gci_X2).1 ml_X6_176 im_yX2_needsNoMoreThanTold se_yX2_needsNoMoreThanTold gcl_X2_needsNoMoreThanTold (by decide) rfl rfl (Nat.le_of_ble_eq_true rfl) dX6_alike_45 ?_
      refine G.if_eq (tgt := 55) (by decide) dX6_alike_48 (fun c_48 => ?_) (fun c_48 => ?_)
      · have hn := bo_0.mp c_48
        refine G.iconst (v := 0) (by decide) dX6_alike_55 ?_
        exact G.iret rfl (by unfold aQ sp_alike; rw [if_pos h1, xq, if_pos ht]; first | (rw [if_pos (eM.mp hn)]; exact ⟨rfl, hJ⟩) | (rw [if_neg (fun z => hn (eM.mpr z))]; exact ⟨rfl, hJ⟩)) dX6_alike_56
      · have hn := bo_n.mp c_48
        refine G.iconst (v := 1) (by decide) dX6_alike_51 ?_
        refine G.goto (tgt := 56) (by decide) dX6_alike_52 ?_
        exact G.iret rfl (by unfold aQ sp_alike; rw [if_pos h1, xq, if_pos ht]; first | (rw [if_pos (eM.mp hn)]; exact ⟨rfl, hJ⟩) | (rw [if_neg (fun z => hn (eM.mpr z))]; exact ⟨rfl, hJ⟩)) dX6_alike_56
    · have ht := bo_0.mp c_19
      refine G.bipush (v := (-3)) (by decide) dX6_alike_22 ?_
      exact G.iret rfl (by unfold aQ sp_alike; rw [if_pos h1, xq, if_neg ht]; exact ⟨rfl, h, qF_rf _⟩) dX6_alike_24
  · have h1 := ou_t 4 (by decide) c_5
    refine G.bipush (v := (-2)) (by decide) dX6_alike_8 ?_
    exact G.iret rfl (by unfold aQ sp_alike; rw [if_neg (by simp [h1])]; exact ⟨rfl, h, qF_rf _⟩) dX6_alike_10
set_option maxHeartbeats 4000000 in
set_option maxRecDepth 100000 in
theorem l_X6_spare {ln B : Nat → Nat} : ∀ j i (σ : gS), i + j = 4 → IX σ ln B → qF σ0 σ → G (XC l D cA ad) mX6_spare (g_ri (aQ σ0 ln B (spr ln B j i))) 19 [some (.ref 0), some (.int (nI i))] [] σ := by
  intro j
  induction j with
  | zero =>
    intro i σ hi hI hF
    have hi2 : i = 4 := by omega
    subst hi2
    refine G.iload_n (k := 1) rfl dX6_spare_19 ?_
    refine G.iconst (v := 4) (by decide) dX6_spare_20 ?_
    refine G.icmp_ge (tgt := 64) (by decide) dX6_spare_21 (fun c_21 => ?_) (fun c_21 => absurd (by decide) c_21)
    refine G.iconst (v := (-1)) (by decide) dX6_spare_64 ?_
    exact G.iret rfl (⟨rfl, hI, hF⟩) dX6_spare_65
  | succ j ih =>
    intro i σ hi hI hF
    have hi4 : i < 4 := by omega
    rw [spr]
    refine G.iload_n (k := 1) rfl dX6_spare_19 ?_
    refine G.iconst (v := 4) (by decide) dX6_spare_20 ?_
    refine G.icmp_ge (tgt := 64) (by decide) dX6_spare_21 (fun c_21 => absurd c_21 (nI_ge (b := 4) (by omega) (by decide))) (fun c_21 => ?_)
    refine G.aload_n (k := 0) rfl dX6_spare_24 ?_
    refine G.getr (j := 3) rfl gci_X6 (by decide) rfl fl_X6_63 dX6_spare_25 ?_
    refine G.order fl_X6_169 dX6_spare_28 ?_
    refine G.iconst (v := 0) (by decide) dX6_spare_31 ?_
    refine G.ordld (i := 0) (vp_in_iff.mpr (inB_iff.mp (show inB 0 24 = true by decide))) dX6_spare_32 ?_
    refine G.bipush (v := 15) (by decide) dX6_spare_33 ?_
    refine G.iconst (v := 1) (by decide) dX6_spare_35 ?_
    refine G.iload_n (k := 1) rfl dX6_spare_36 ?_
    refine G.ishl dX6_spare_37 ?_
    refine G.iconst (v := (-1)) (by decide) dX6_spare_38 ?_
    refine G.ixor dX6_spare_39 ?_
    refine G.iand dX6_spare_40 ?_
    rw [(sp_wm i hi4).1]
    refine G.iconst (v := 0) (by decide) dX6_spare_41 ?_
    refine G.callVv (c_X2_run svA_22 (wm := 15 - 2 ^ i) (rig := false) (es := ordE 0) (td := tdA ln B) (IX_tx hI) (IX_thOK hI) (fun p _ => ordE_lt 0 p) (fun p hp => ordE_ok 0 (by decide) p hp) (sp_wm i hi4).2 (IX_td hI) (IX_td6 hI)) rfl (gci_X2).1 ml_X6_172 im_yX2_run se_yX2_run gcl_X2_run (by decide) rfl rfl (Nat.le_of_ble_eq_true rfl) dX6_spare_42 (fun τ hr => ?_)
    rw [IX_run hI 0 (15 - 2 ^ i)] at hr
    have hJ := IX_trial hI hr.1
    have e1 := why_0 (usol_G hI 0 (15 - 2 ^ i)) (RunP_Q hr)
    refine G.aload_n (k := 0) rfl dX6_spare_45 ?_
    refine G.getr (j := 3) rfl gci_X6 (by decide) rfl fl_X6_63 dX6_spare_46 ?_
    refine G.iconst (v := 0) (by decide) dX6_spare_49 ?_
    refine G.callVif (c_X2_finding svA_22 (w := 0) (Or.inl rfl)) rfl (gci_X2).1 ml_X6_183 im_yX2_finding se_yX2_finding gcl_X2_finding (by decide) rfl rfl (Nat.le_of_ble_eq_true rfl) dX6_spare_50 ?_
    rw [if_pos rfl]
    refine G.if_ne (tgt := 58) (by decide) dX6_spare_53 (fun c_53 => ?_) (fun c_53 => ?_)
    · refine G.inc1 (d := 1) (by decide) (by decide) rfl dX6_spare_58 ?_
      refine G.goto (tgt := 19) (by decide) dX6_spare_61 ?_
      rw [nI_1, if_neg (fun z => c_53 (e1.mpr z))]
      exact ih (i + 1) τ (by omega) hJ.1 (qF_tr hF hJ.2)
    · refine G.iload_n (k := 1) rfl dX6_spare_56 ?_
      exact G.iret rfl (by rw [if_pos (e1.mp c_53)]; exact ⟨rfl, hJ.1, qF_tr hF hJ.2⟩) dX6_spare_57
set_option maxHeartbeats 4000000 in
set_option maxRecDepth 100000 in
theorem c_X6_spare {ln B : Nat → Nat} (h : IX σ ln B) : GM (XC l D cA ad) mX6_spare [.ref 0] σ (g_ri (aQ σ ln B (sp_spare ln B))) := by
  refine GM.of (ls := [some (.ref 0), none]) (by decide) (Nat.le_of_ble_eq_true rfl) rfl ?_
  refine G.aload_n (k := 0) rfl dX6_spare_0 ?_
  refine G.callVv (c_X6_settle h) rfl (gci_X6).1 ml_X6_180 im_yX6_settle se_yX6_settle gcl_X6_settle (by decide) rfl rfl (Nat.le_of_ble_eq_true rfl) dX6_spare_1 (fun τ hq9 => ?_)
  have e1 := why_0 (usol_G h 0 15) hq9.2.2.1
  unfold sp_spare
  refine G.aload_n (k := 0) rfl dX6_spare_4 ?_
  refine G.getr (j := 2) rfl gci_X6 (by decide) rfl fl_X6_59 dX6_spare_5 ?_
  refine G.iconst (v := 0) (by decide) dX6_spare_8 ?_
  refine G.callVif (c_X2_finding svA_16 (w := 0) (Or.inl rfl)) rfl (gci_X2).1 ml_X6_183 im_yX2_finding se_yX2_finding gcl_X2_finding (by decide) rfl rfl (Nat.le_of_ble_eq_true rfl) dX6_spare_9 ?_
  rw [if_pos rfl]
  refine G.if_ne (tgt := 17) (by decide) dX6_spare_12 (fun c_12 => ?_) (fun c_12 => ?_)
  · refine G.iconst (v := 0) (by decide) dX6_spare_17 ?_
    refine G.ist1 (by decide) rfl dX6_spare_18 ?_
    rw [if_neg (fun z => c_12 (e1.mpr z))]
    exact l_X6_spare 4 0 τ (by decide) hq9.1 hq9.2.1
  · refine G.iconst (v := (-1)) (by decide) dX6_spare_15 ?_
    exact G.iret rfl (by rw [if_pos (e1.mp c_12)]; exact ⟨rfl, hq9.1, hq9.2.1⟩) dX6_spare_16
set_option maxHeartbeats 4000000 in
set_option maxRecDepth 100000 in
theorem c_X6_count {ln B : Nat → Nat} (h : IX σ ln B) {w : Int32} : GM (XC l D cA ad) mX6_count [.ref 0, .int w] σ (g_ri (aQ σ ln B (sp_count ln B (σ 12 3) w))) := by
  refine GM.of (ls := [some (.ref 0), some (.int w)]) (by decide) (Nat.le_of_ble_eq_true rfl) rfl ?_
  refine G.iload_n (k := 1) rfl dX6_count_0 ?_
  refine G.iconst (v := 4) (by decide) dX6_count_1 ?_
  refine G.callSif (c_X6_isOutside) ml_X6_72 ws_yX6_isOutside gcl_X6_isOutside (by decide) rfl rfl (Nat.le_of_ble_eq_true rfl) dX6_count_2 ?_
  refine G.if_ne (tgt := 25) (by decide) dX6_count_5 (fun c_5 => ?_) (fun c_5 => ?_)
  · have h1 := ou_t 4 (by decide) c_5
    refine G.iload_n (k := 1) rfl dX6_count_25 ?_
    by_cases hw : w = 4 ∨ w = 5 ∨ w = 6 ∨ w = 7 ∨ w = 8
    · rcases hw with e | e | e | e | e
      · subst e
        refine G.tableIn (tgt := 60) dX6_count_26 (by decide) (by decide) rfl (by decide) ?_
        refine G.aload_n (k := 0) rfl dX6_count_60 ?_
        refine G.getr (j := 0) rfl gci_X6 (by decide) rfl fl_X6_50 dX6_count_61 ?_
        refine G.callVif (c_X4_allBytes (f := ln) (fun t ht => (h.1 t ht).1)) rfl (gci_X4).1 ml_X6_220 im_yX4_allBytes se_yX4_allBytes gcl_X4_allBytes (by decide) rfl rfl (Nat.le_of_ble_eq_true rfl) dX6_count_64 ?_
        exact G.iret rfl (by unfold aQ sp_count; rw [if_neg (show ¬ inB (4 : Int32) 4 = true by decide), if_pos rfl]; exact ⟨rfl, h, qF_rf _⟩) dX6_count_67
      · subst e
        refine G.tableIn (tgt := 68) dX6_count_26 (by decide) (by decide) rfl (by decide) ?_
        refine G.aload_n (k := 0) rfl dX6_count_68 ?_
        refine G.callVv (c_X6_settle h) rfl (gci_X6).1 ml_X6_180 im_yX6_settle se_yX6_settle gcl_X6_settle (by decide) rfl rfl (Nat.le_of_ble_eq_true rfl) dX6_count_69 (fun τ hq9 => ?_)
        refine G.aload_n (k := 0) rfl dX6_count_72 ?_
        refine G.getr (j := 2) rfl gci_X6 (by decide) rfl fl_X6_59 dX6_count_73 ?_
        refine G.iconst (v := 0) (by decide) dX6_count_76 ?_
        refine G.callVif (c_X2_finding svA_16 (w := 0) (Or.inl rfl)) rfl (gci_X2).1 ml_X6_183 im_yX2_finding se_yX2_finding gcl_X2_finding (by decide) rfl rfl (Nat.le_of_ble_eq_true rfl) dX6_count_77 ?_
        exact G.iret rfl (by unfold aQ sp_count; rw [if_neg (show ¬ inB (5 : Int32) 4 = true by decide), if_neg (show ¬ (5 : Int32) = 4 by decide), if_pos rfl]; exact ⟨fnd_of hq9.2.2.1 (w := 0) (by decide), hq9.1, hq9.2.1⟩) dX6_count_80
      · subst e
        refine G.tableIn (tgt := 81) dX6_count_26 (by decide) (by decide) rfl (by decide) ?_
        refine G.aload_n (k := 0) rfl dX6_count_81 ?_
        refine G.callVv (c_X6_settle h) rfl (gci_X6).1 ml_X6_180 im_yX6_settle se_yX6_settle gcl_X6_settle (by decide) rfl rfl (Nat.le_of_ble_eq_true rfl) dX6_count_82 (fun τ hq9 => ?_)
        refine G.aload_n (k := 0) rfl dX6_count_85 ?_
        refine G.getr (j := 2) rfl gci_X6 (by decide) rfl fl_X6_59 dX6_count_86 ?_
        refine G.iconst (v := 2) (by decide) dX6_count_89 ?_
        refine G.callVif (c_X2_finding svA_16 (w := 2) (by decide)) rfl (gci_X2).1 ml_X6_183 im_yX2_finding se_yX2_finding gcl_X2_finding (by decide) rfl rfl (Nat.le_of_ble_eq_true rfl) dX6_count_90 ?_
        exact G.iret rfl (by unfold aQ sp_count; rw [if_neg (show ¬ inB (6 : Int32) 4 = true by decide), if_neg (show ¬ (6 : Int32) = 4 by decide), if_neg (show ¬ (6 : Int32) = 5 by decide), if_pos rfl]; exact ⟨fnd_of hq9.2.2.1 (w := 2) (by decide), hq9.1, hq9.2.1⟩) dX6_count_93
      · subst e
        refine G.tableIn (tgt := 94) dX6_count_26 (by decide) (by decide) rfl (by decide) ?_
        refine G.aload_n (k := 0) rfl dX6_count_94 ?_
        refine G.getr (j := 0) rfl gci_X6 (by decide) rfl fl_X6_50 dX6_count_95 ?_
        refine G.getiN (j := 10) rfl gci_X4 (by decide) rfl (fun _ h => h.1) dX6_count_98 ?_
        rw [IX_tt h]
        refine G.callSif (c_X5_swaps (IX_ttP h)) ml_X6_131 ws_yX5_swaps gcl_X5_swaps (by decide) rfl rfl (Nat.le_of_ble_eq_true rfl) dX6_count_101 ?_
        exact G.iret rfl (by unfold aQ sp_count; rw [if_neg (show ¬ inB (7 : Int32) 4 = true by decide), if_neg (show ¬ (7 : Int32) = 4 by decide), if_neg (show ¬ (7 : Int32) = 5 by decide), if_neg (show ¬ (7 : Int32) = 6 by decide), if_pos rfl]; exact ⟨rfl, h, qF_rf _⟩) dX6_count_104
      · subst e
        refine G.tableIn (tgt := 105) dX6_count_26 (by decide) (by decide) rfl (by decide) ?_
        refine G.aload_n (k := 0) rfl dX6_count_105 ?_
        refine G.getr (j := 1) rfl gci_X6 (by decide) rfl fl_X6_12 dX6_count_106 ?_
        refine G.getiN (j := 3) rfl gci_X1 (by decide) rfl (fun _ h => h.2.1) dX6_count_109 ?_
        exact G.iret rfl (by unfold aQ sp_count; rw [if_neg (show ¬ inB (8 : Int32) 4 = true by decide), if_neg (show ¬ (8 : Int32) = 4 by decide), if_neg (show ¬ (8 : Int32) = 5 by decide), if_neg (show ¬ (8 : Int32) = 6 by decide), if_neg (show ¬ (8 : Int32) = 7 by decide), if_pos rfl]; exact ⟨rfl, h, qF_rf _⟩) dX6_count_112
    · have hb : w.toInt < 4 ∨ 8 < w.toInt := by
        by_cases z : w.toInt < 4
        · exact Or.inl z
        · by_cases y : 8 < w.toInt
          · exact Or.inr y
          · refine absurd ?_ hw
            have h9 : w.toInt = 4 ∨ w.toInt = 5 ∨ w.toInt = 6 ∨ w.toInt = 7 ∨ w.toInt = 8 := by omega
            rcases h9 with e | e | e | e | e
            · exact Or.inl (Int32.toInt_inj.mp e)
            · exact Or.inr (Or.inl (Int32.toInt_inj.mp e))
            · exact Or.inr (Or.inr (Or.inl (Int32.toInt_inj.mp e)))
            · exact Or.inr (Or.inr (Or.inr (Or.inl (Int32.toInt_inj.mp e))))
            · exact Or.inr (Or.inr (Or.inr (Or.inr (Int32.toInt_inj.mp e))))
      refine G.tableOut (tgt := 113) dX6_count_26 hb (by decide) ?_
      refine G.bipush (v := (-2)) (by decide) dX6_count_113 ?_
      exact G.iret rfl (by unfold aQ sp_count; rw [if_neg (show ¬ inB w 4 = true by rw [h1]; decide), if_neg (fun e => hw (Or.inl e)), if_neg (fun e => hw (Or.inr (Or.inl e))), if_neg (fun e => hw (Or.inr (Or.inr (Or.inl e)))), if_neg (fun e => hw (Or.inr (Or.inr (Or.inr (Or.inl e))))), if_neg (fun e => hw (Or.inr (Or.inr (Or.inr (Or.inr e)))))]; exact ⟨rfl, h, qF_rf _⟩) dX6_count_115
  · have h1 := ou_f 4 (by decide) c_5
    obtain ⟨q, hq, eq⟩ := inB_of (by decide) h1
    subst eq
    have xq : ix (nI q) = q := ix_nI (by omega)
    refine G.aload_n (k := 0) rfl dX6_count_8 ?_
    refine G.getr (j := 0) rfl gci_X6 (by decide) rfl fl_X6_50 dX6_count_9 ?_
    refine G.iload_n (k := 1) rfl dX6_count_12 ?_
    refine G.callVif (c_X4_isThere hq) rfl (gci_X4).1 ml_X6_166 im_yX4_isThere se_yX4_isThere gcl_X4_isThere (by decide) rfl rfl (Nat.le_of_ble_eq_true rfl) dX6_count_13 ?_
    rw [show (wlB σ (2 * q) && wlB σ (2 * q + 1)) = thA ln B q from IX_th h hq]
    refine G.if_eq (tgt := 23) (by decide) dX6_count_16 (fun c_16 => ?_) (fun c_16 => ?_)
    · have ht := bo_0.mp c_16
      refine G.iconst (v := 0) (by decide) dX6_count_23 ?_
      exact G.iret rfl (by unfold aQ sp_count; rw [if_pos h1, xq]; first | (rw [if_pos ht]; exact ⟨rfl, h, qF_rf _⟩) | (rw [if_neg ht]; exact ⟨rfl, h, qF_rf _⟩)) dX6_count_24
    · have ht := bo_n.mp c_16
      refine G.iconst (v := 1) (by decide) dX6_count_19 ?_
      refine G.goto (tgt := 24) (by decide) dX6_count_20 ?_
      exact G.iret rfl (by unfold aQ sp_count; rw [if_pos h1, xq]; first | (rw [if_pos ht]; exact ⟨rfl, h, qF_rf _⟩) | (rw [if_neg ht]; exact ⟨rfl, h, qF_rf _⟩)) dX6_count_24
end T68

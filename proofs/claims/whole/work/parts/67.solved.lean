/-! ===== what is asked of a solver ===== -/
theorem vrow_m1 {B ln : Nat → Nat} {V : uV} (hV : VG B ln V) (u : Nat) : vrow V u = -1 ↔ V u = none := by
  unfold vrow
  cases e : V u with
  | none => exact ⟨fun _ => rfl, fun _ => rfl⟩
  | some q =>
    have hv := hV u q e
    have h1 := nd_lt hv.2.1
    have h2 := hv.2.2.1
    exact ⟨fun z => absurd z (ne_m1 (show spot q < 2 ^ 31 by show q.1 * 262144 + q.2 < _; omega)), fun z => by cases z⟩
theorem sh1_u : ∀ u, u < 6 → (1 : Int32) <<< (nI u &&& 31) = nI (2 ^ u) ∧ 2 ^ u < 64 := by decide +kernel
noncomputable def opn (B : Nat → Nat) (V : uV) (u : Nat) : Nat := ms_of (fun w => @decide (rch B V (2 ^ u) w ∧ V w = none) (Classical.propDecidable _))
def misF (f : Nat → Int32) : Nat → Int32
  | 0 => 0
  | n + 1 => misF f n ||| f n
theorem fnd_of {τ : gS} {b : Nat} {B : Nat → Nat} {R : uS × Nat × Int32} (hR : RunQ τ b B R) {w : Int32} (hw : inB w 4 = true) : (if w = 0 then τ b 8 else if w = 1 then τ b 9 else if w = 2 then τ b 10 else τ b 2) = fnd B R (ix w) := by
  obtain ⟨a1, a2, a3, a4, a5, a6⟩ := hR
  rcases in4w hw with e | e | e | e <;> subst e
  · rw [if_pos rfl, a5]; rfl
  · rw [if_neg (by decide), if_pos rfl, a3]; rfl
  · rw [if_neg (by decide), if_neg (by decide), if_pos rfl, a2]; rfl
  · rw [if_neg (by decide), if_neg (by decide), if_neg (by decide), a4]; rfl
def stP (σ : gS) (ln B : Nat → Nat) (τ : gS) : Prop := IX τ ln B ∧ qF σ τ ∧ RunQ τ 16 B (usol ln B 0 15) ∧ τ 0 4 = 1
theorem IX_settle {σ τ : gS} {ln B : Nat → Nat} (h : IX σ ln B) (hq : RunP σ τ 16 B false (usol ln B 0 15)) : stP σ ln B (up2 τ 0 4 1) := by
  have hR := RunP_Q hq
  have hF := hq.1
  obtain ⟨a1, a2, a3, a4, a5, a6, a7, a8, a9⟩ := h
  have r : ∀ k, k ≠ 0 → up2 τ 0 4 1 k = τ k := fun k hk => up2_ne _ _ _ hk
  have r2 : ∀ k, k ≠ 0 → k < 16 ∨ 21 < k → up2 τ 0 4 1 k = σ k := fun k hk h2 => (r k hk).trans (hF k (by omega))
  have r' : ∀ k, 1 ≤ k → k ≤ 11 → up2 τ 0 4 1 k = σ k := fun k _ q => r2 k (by omega) (by omega)
  have hR2 : RunQ (up2 τ 0 4 1) 16 B (usol ln B 0 15) := RunQ_congr (fun k a b => r k (by omega)) hR
  refine ⟨⟨TX_F r' a1, fun t ht => FX_F r' (a2 t ht), ⟨Or.inr rfl, fun _ => hR2⟩, cW_congr (by show τ 0 6 = σ 0 6; rw [hF 0 (by omega)]) (r2 28 (by decide) (by decide)) a4, ?_, ?_, ?_, ?_, fun u hu => by rw [r2 29 (by decide) (by decide)]; exact a9 u hu⟩, fun k hk => r2 k (by omega) (by omega), hR2, rfl⟩
  · exact cL_congr (fun _ _ => by rw [r2 30 (by decide) (by decide)]) (r2 31 (by decide) (by decide)) a5
  · exact cL_congr (fun _ _ => by rw [r2 33 (by decide) (by decide)]) (r2 34 (by decide) (by decide)) a6
  · exact cL_congr (fun _ _ => by rw [r2 36 (by decide) (by decide)]) (r2 37 (by decide) (by decide)) a7
  · exact cL_congr (fun _ _ => by rw [r2 39 (by decide) (by decide)]) (r2 40 (by decide) (by decide)) a8
noncomputable def sp_solved (ln B : Nat → Nat) (w : Int32) : Int32 := if inB w 4 = true then fnd B (usol ln B 0 15) (ix w) else -2
noncomputable def sp_fresh (ln B : Nat → Nat) (u : Int32) : Int32 := if inB u 6 = true then (if uwhy B (usol ln B 0 15) = 0 ∧ (usol ln B 0 15).1.1 (ix u) = none then nI (uMu B (usol ln B 0 15) (ix u)) else 0) else -2
noncomputable def sp_needs (ln B : Nat → Nat) (u : Int32) : Int32 := if inB u 6 = true then (if uwhy B (usol ln B 0 15) = 0 then nI (opn B (usol ln B 0 15).1.1 (ix u)) else 0) else -2
noncomputable def sp_value (ln B : Nat → Nat) (u i : Int32) : Int32 := if inB u 6 = true ∧ ¬ noPl i then lnT (vaU ln B (ix u)) i else -2
theorem why_0 {τ : gS} {ln B : Nat → Nat} {b : Nat} {R : uS × Nat × Int32} (hG : uG B ln R.1) (hR : RunQ τ b B R) : τ b 8 = 0 ↔ uwhy B R = 0 := by
  have h1 := uwhy_lt hG
  rw [hR.2.2.2.2.1]
  exact nI_eq (show uwhy B R < 2 ^ 31 by omega) (show 0 < 2 ^ 31 by decide)
theorem why_y {B : Nat → Nat} {R : uS × Nat × Int32} (h : uwhy B R = 0) : R.1.2.2.2.2 = 0 := by
  unfold uwhy at h
  by_cases e : R.1.2.2.2.2 = 0
  · exact e
  · rw [if_pos e] at h; exact h
section T67
variable {l : Launch} {D : va_G} {cA : ClassId} {ad : Nat → Nat}
variable {σ : gS}
set_option maxHeartbeats 4000000 in
set_option maxRecDepth 100000 in
theorem l_X2_openUnknowns {b : Nat} (hb : svA b) {u : Nat} (hu : u < 6) {ln B : Nat → Nat} {V : uV} {R : Nat} (hV : VG B ln V) (hr : ∀ u, u < 6 → σ (b + 1) u = vrow V u) (hC : isClo B V (2 ^ u) R) : ∀ j i a, i + j = 6 → a < 64 → (∀ w, w < 6 → (a.testBit w = true ↔ R.testBit w = true ∧ (w < i → V w = none))) → G (XC l D cA ad) mX2_openUnknowns (g_ri (fun r τ => r = nI (opn B V u) ∧ τ = σ)) 19 [some (.ref b), some (.int (nI u)), some (.int (nI a)), some (.int (nI i))] [] σ := by
  intro j
  induction j with
  | zero =>
    intro i a hi ha hA
    have hi2 : i = 6 := by omega
    subst hi2
    have eq : a = opn B V u := by
      refine ms_ext ha (ms_lt _) (fun w hw => ?_)
      rw [opn, ms_bit _ w hw]
      have q := hA w hw
      rw [isClo_iff hC hw] at q
      by_cases z : rch B V (2 ^ u) w ∧ V w = none
      · rw [q.mpr ⟨z.1, fun _ => z.2⟩]
        exact (@decide_eq_true _ (Classical.propDecidable _) z).symm
      · have n : ¬ a.testBit w = true := fun y => z ⟨(q.mp y).1, (q.mp y).2 hw⟩
        simp at n
        rw [n]
        exact (@decide_eq_false _ (Classical.propDecidable _) z).symm
    subst eq
    refine G.iload_n (k := 3) rfl dX2_openUnknowns_19 ?_
    refine G.bipush (v := 6) (by decide) dX2_openUnknowns_20 ?_
    refine G.icmp_ge (tgt := 49) (by decide) dX2_openUnknowns_22 (fun c_22 => ?_) (fun c_22 => absurd (by decide) c_22)
    refine G.iload_n (k := 2) rfl dX2_openUnknowns_49 ?_
    exact G.iret rfl (⟨rfl, rfl⟩) dX2_openUnknowns_50
  | succ j ih =>
    intro i a hi ha hA
    refine G.iload_n (k := 3) rfl dX2_openUnknowns_19 ?_
    refine G.bipush (v := 6) (by decide) dX2_openUnknowns_20 ?_
    refine G.icmp_ge (tgt := 49) (by decide) dX2_openUnknowns_22 (fun c_22 => absurd c_22 (nI_ge (b := 6) (by omega) (by decide))) (fun c_22 => ?_)
    refine G.aload_n (k := 0) rfl dX2_openUnknowns_25 ?_
    refine G.getr (j := 1) hb.1 gci_X2 (by decide) rfl fl_X2_9 dX2_openUnknowns_26 ?_
    refine G.iload_n (k := 3) rfl dX2_openUnknowns_29 ?_
    refine G.ialdN (k := i) hb.2.1 rfl (by omega) (by decide) dX2_openUnknowns_30 ?_
    rw [hr i (by omega)]
    refine G.iconst (v := (-1)) (by decide) dX2_openUnknowns_31 ?_
    refine G.icmp_eq (tgt := 43) (by decide) dX2_openUnknowns_32 (fun c_32 => ?_) (fun c_32 => ?_)
    · have hno := (vrow_m1 hV i).mp c_32
      have key := ih (i + 1) a (by omega) ha (fun w hw => by rw [hA w hw]; exact ⟨fun z => ⟨z.1, fun y => if e : w = i then (by rw [e]; exact hno) else z.2 (by omega)⟩, fun z => ⟨z.1, fun y => z.2 (by omega)⟩⟩)
      refine G.inc3 (d := 1) (by decide) (by decide) rfl dX2_openUnknowns_43 ?_
      refine G.goto (tgt := 19) (by decide) dX2_openUnknowns_46 ?_
      rw [nI_1]
      exact key
    · have hso : ¬ V i = none := fun e => c_32 ((vrow_m1 hV i).mpr e)
      have key := ih (i + 1) (mdel a i) (by omega) (mdel_lt a ha i (by omega)) (fun w hw => by rw [mdel_bit a ha i (by omega) w hw, Bool.and_eq_true, hA w hw, Bool.not_eq_true', decide_eq_false_iff_not]; exact ⟨fun z => ⟨z.1.1, fun y => z.1.2 (by omega)⟩, fun z => ⟨⟨z.1, fun y => z.2 (by omega)⟩, fun e => hso (by rw [← e]; exact z.2 (by omega))⟩⟩)
      refine G.iload_n (k := 2) rfl dX2_openUnknowns_35 ?_
      refine G.iconst (v := 1) (by decide) dX2_openUnknowns_36 ?_
      refine G.iload_n (k := 3) rfl dX2_openUnknowns_37 ?_
      refine G.ishl dX2_openUnknowns_38 ?_
      refine G.iconst (v := (-1)) (by decide) dX2_openUnknowns_39 ?_
      refine G.ixor dX2_openUnknowns_40 ?_
      refine G.iand dX2_openUnknowns_41 ?_
      rw [mdel_j a ha i (by omega)]
      refine G.ist2 (by decide) rfl dX2_openUnknowns_42 ?_
      refine G.inc3 (d := 1) (by decide) (by decide) rfl dX2_openUnknowns_43 ?_
      refine G.goto (tgt := 19) (by decide) dX2_openUnknowns_46 ?_
      rw [nI_1]
      exact key
set_option maxHeartbeats 4000000 in
set_option maxRecDepth 100000 in
theorem c_X2_openUnknowns {b : Nat} (hb : svA b) {u : Nat} (hu : u < 6) {ln B : Nat → Nat} {V : uV} (h3 : tx3 σ ln B) (hV : VG B ln V) (hr : ∀ u, u < 6 → σ (b + 1) u = vrow V u) : GM (XC l D cA ad) mX2_openUnknowns [.ref b, .int (nI u)] σ (g_ri (fun r τ => r = (if σ b 8 = 0 then nI (opn B V u) else 0) ∧ τ = σ)) := by
  refine GM.of (ls := [some (.ref b), some (.int (nI u)), none, none]) (by decide) (Nat.le_of_ble_eq_true rfl) rfl ?_
  refine G.aload_n (k := 0) rfl dX2_openUnknowns_0 ?_
  refine G.geti (j := 8) hb.1 gci_X2 (by decide) rfl fl_X2_34 dX2_openUnknowns_1 ?_
  refine G.if_eq (tgt := 9) (by decide) dX2_openUnknowns_4 (fun c_4 => ?_) (fun c_4 => ?_)
  · rw [if_pos c_4]
    refine G.aload_n (k := 0) rfl dX2_openUnknowns_9 ?_
    refine G.iconst (v := 1) (by decide) dX2_openUnknowns_10 ?_
    refine G.iload_n (k := 1) rfl dX2_openUnknowns_11 ?_
    refine G.ishl dX2_openUnknowns_12 ?_
    rw [(sh1_u u hu).1]
    refine G.callVi (c_X2_withValuesIn hb h3 hV hr (sh1_u u hu).2) hb.1 (gci_X2).1 ml_X2_84 im_yX2_withValuesIn se_yX2_withValuesIn gcl_X2_withValuesIn (by decide) rfl rfl (Nat.le_of_ble_eq_true rfl) dX2_openUnknowns_13 (fun r τ hq => ?_)
    obtain ⟨e1, R, e2, hC⟩ := hq
    subst e2
    rw [e1]
    refine G.ist2 (by decide) rfl dX2_openUnknowns_16 ?_
    refine G.iconst (v := 0) (by decide) dX2_openUnknowns_17 ?_
    refine G.ist3 (by decide) rfl dX2_openUnknowns_18 ?_
    exact l_X2_openUnknowns hb hu hV hr hC 6 0 R (by decide) hC.1 (fun w _ => ⟨fun z => ⟨z, fun y => absurd y (Nat.not_lt_zero _)⟩, fun z => z.1⟩)
  · rw [if_neg c_4]
    refine G.iconst (v := 0) (by decide) dX2_openUnknowns_7 ?_
    exact G.iret rfl (⟨rfl, rfl⟩) dX2_openUnknowns_8
set_option maxHeartbeats 4000000 in
set_option maxRecDepth 100000 in
theorem l_X2_needs {b : Nat} (hb : svA b) : ∀ j i, i + j = 6 → G (XC l D cA ad) mX2_needsNoMoreThanTold (g_ri (fun r τ => r = (if σ b 8 = 0 ∧ misF (fun u => σ (b + 5) u &&& (σ 11 u ^^^ (-1))) 6 = 0 then 1 else 0) ∧ τ = σ)) 4 [some (.ref b), some (.int (misF (fun u => σ (b + 5) u &&& (σ 11 u ^^^ (-1))) i)), some (.int (nI i))] [] σ := by
  intro j
  induction j with
  | zero =>
    intro i hi
    have hi2 : i = 6 := by omega
    subst hi2
    refine G.iload_n (k := 2) rfl dX2_needsNoMoreThanTold_4 ?_
    refine G.bipush (v := 6) (by decide) dX2_needsNoMoreThanTold_5 ?_
    refine G.icmp_ge (tgt := 36) (by decide) dX2_needsNoMoreThanTold_7 (fun c_7 => ?_) (fun c_7 => absurd (by decide) c_7)
    refine G.aload_n (k := 0) rfl dX2_needsNoMoreThanTold_36 ?_
    refine G.geti (j := 8) hb.1 gci_X2 (by decide) rfl fl_X2_34 dX2_needsNoMoreThanTold_37 ?_
    refine G.if_ne (tgt := 51) (by decide) dX2_needsNoMoreThanTold_40 (fun c_40 => ?_) (fun c_40 => ?_)
    · have hr : (0 : Int32) = (if σ b 8 = 0 ∧ misF (fun u => σ (b + 5) u &&& (σ 11 u ^^^ (-1))) 6 = 0 then 1 else 0) := (if_neg (fun h => c_40 h.1)).symm
      refine G.iconst (v := 0) (by decide) dX2_needsNoMoreThanTold_51 ?_
      exact G.zret rfl (by decide) ⟨hr, rfl⟩ dX2_needsNoMoreThanTold_52
    · refine G.iload_n (k := 1) rfl dX2_needsNoMoreThanTold_43 ?_
      refine G.if_ne (tgt := 51) (by decide) dX2_needsNoMoreThanTold_44 (fun c_44 => ?_) (fun c_44 => ?_)
      · have hr : (0 : Int32) = (if σ b 8 = 0 ∧ misF (fun u => σ (b + 5) u &&& (σ 11 u ^^^ (-1))) 6 = 0 then 1 else 0) := (if_neg (fun h => c_44 h.2)).symm
        refine G.iconst (v := 0) (by decide) dX2_needsNoMoreThanTold_51 ?_
        exact G.zret rfl (by decide) ⟨hr, rfl⟩ dX2_needsNoMoreThanTold_52
      · have hr : (1 : Int32) = (if σ b 8 = 0 ∧ misF (fun u => σ (b + 5) u &&& (σ 11 u ^^^ (-1))) 6 = 0 then 1 else 0) := (if_pos ⟨c_40, c_44⟩).symm
        refine G.iconst (v := 1) (by decide) dX2_needsNoMoreThanTold_47 ?_
        refine G.goto (tgt := 52) (by decide) dX2_needsNoMoreThanTold_48 ?_
        exact G.zret rfl (by decide) ⟨hr, rfl⟩ dX2_needsNoMoreThanTold_52
  | succ j ih =>
    intro i hi
    refine G.iload_n (k := 2) rfl dX2_needsNoMoreThanTold_4 ?_
    refine G.bipush (v := 6) (by decide) dX2_needsNoMoreThanTold_5 ?_
    refine G.icmp_ge (tgt := 36) (by decide) dX2_needsNoMoreThanTold_7 (fun c_7 => absurd c_7 (nI_ge (b := 6) (by omega) (by decide))) (fun c_7 => ?_)
    refine G.iload_n (k := 1) rfl dX2_needsNoMoreThanTold_10 ?_
    refine G.aload_n (k := 0) rfl dX2_needsNoMoreThanTold_11 ?_
    refine G.getr (j := 7) hb.1 gci_X2 (by decide) rfl fl_X2_31 dX2_needsNoMoreThanTold_12 ?_
    refine G.iload_n (k := 2) rfl dX2_needsNoMoreThanTold_15 ?_
    refine G.ialdN (k := i) hb.2.2.2.2.2.1 rfl (by omega) (by decide) dX2_needsNoMoreThanTold_16 ?_
    refine G.aload_n (k := 0) rfl dX2_needsNoMoreThanTold_17 ?_
    refine G.getr (j := 0) hb.1 gci_X2 (by decide) rfl fl_X2_47 dX2_needsNoMoreThanTold_18 ?_
    refine G.iload_n (k := 2) rfl dX2_needsNoMoreThanTold_21 ?_
    refine G.callVif (c_X4_toldFreshIn (u := i) (by omega)) rfl (gci_X4).1 ml_X2_80 im_yX4_toldFreshIn se_yX4_toldFreshIn gcl_X4_toldFreshIn (by decide) rfl rfl (Nat.le_of_ble_eq_true rfl) dX2_needsNoMoreThanTold_22 ?_
    refine G.iconst (v := (-1)) (by decide) dX2_needsNoMoreThanTold_25 ?_
    refine G.ixor dX2_needsNoMoreThanTold_26 ?_
    refine G.iand dX2_needsNoMoreThanTold_27 ?_
    refine G.ior dX2_needsNoMoreThanTold_28 ?_
    refine G.ist1 (by decide) rfl dX2_needsNoMoreThanTold_29 ?_
    refine G.inc2 (d := 1) (by decide) (by decide) rfl dX2_needsNoMoreThanTold_30 ?_
    refine G.goto (tgt := 4) (by decide) dX2_needsNoMoreThanTold_33 ?_
    rw [nI_1]
    exact ih (i + 1) (by omega)
set_option maxHeartbeats 4000000 in
set_option maxRecDepth 100000 in
theorem c_X2_needsNoMoreThanTold {b : Nat} (hb : svA b) : GM (XC l D cA ad) mX2_needsNoMoreThanTold [.ref b] σ (g_ri (fun r τ => r = (if σ b 8 = 0 ∧ misF (fun u => σ (b + 5) u &&& (σ 11 u ^^^ (-1))) 6 = 0 then 1 else 0) ∧ τ = σ)) := by
  refine GM.of (ls := [some (.ref b), none, none]) (by decide) (Nat.le_of_ble_eq_true rfl) rfl ?_
  refine G.iconst (v := 0) (by decide) dX2_needsNoMoreThanTold_0 ?_
  refine G.ist1 (by decide) rfl dX2_needsNoMoreThanTold_1 ?_
  refine G.iconst (v := 0) (by decide) dX2_needsNoMoreThanTold_2 ?_
  refine G.ist2 (by decide) rfl dX2_needsNoMoreThanTold_3 ?_
  exact l_X2_needs hb 6 0 (by decide)
set_option maxHeartbeats 4000000 in
set_option maxRecDepth 100000 in
theorem c_X6_settle {ln B : Nat → Nat} (h : IX σ ln B) : GM (XC l D cA ad) mX6_settle [.ref 0] σ (g_rv (stP σ ln B)) := by
  refine GM.of (ls := [some (.ref 0)]) (by decide) (Nat.le_of_ble_eq_true rfl) rfl ?_
  refine G.aload_n (k := 0) rfl dX6_settle_0 ?_
  refine G.geti (j := 4) rfl gci_X6 (by decide) rfl fl_X6_16 dX6_settle_1 ?_
  refine G.if_ne (tgt := 27) (by decide) dX6_settle_4 (fun c_4 => ?_) (fun c_4 => ?_)
  · have h1 : σ 0 4 = 1 := h.2.2.1.1.resolve_left c_4
    exact G.vret rfl (by first | exact IX_settle h hq | exact ⟨h, qF_rf _, h.2.2.1.2 h1, h1⟩) dX6_settle_27
  · refine G.aload_n (k := 0) rfl dX6_settle_7 ?_
    refine G.getr (j := 2) rfl gci_X6 (by decide) rfl fl_X6_59 dX6_settle_8 ?_
    refine G.order fl_X6_169 dX6_settle_11 ?_
    refine G.iconst (v := 0) (by decide) dX6_settle_14 ?_
    refine G.ordld (i := 0) (vp_in_iff.mpr (inB_iff.mp (show inB 0 24 = true by decide))) dX6_settle_15 ?_
    refine G.bipush (v := 15) (by decide) dX6_settle_16 ?_
    refine G.iconst (v := 0) (by decide) dX6_settle_18 ?_
    refine G.callVv (c_X2_run svA_16 (wm := 15) (rig := false) (es := ordE 0) (td := tdA ln B) (IX_tx h) (IX_thOK h) (fun p _ => ordE_lt 0 p) (fun p hp => ordE_ok 0 (by decide) p hp) (by decide) (IX_td h) (IX_td6 h)) rfl (gci_X2).1 ml_X6_172 im_yX2_run se_yX2_run gcl_X2_run (by decide) rfl rfl (Nat.le_of_ble_eq_true rfl) dX6_settle_19 (fun τ hq => ?_)
    rw [IX_run h 0 15] at hq
    refine G.aload_n (k := 0) rfl dX6_settle_22 ?_
    refine G.iconst (v := 1) (by decide) dX6_settle_23 ?_
    refine G.put (j := 4) rfl gci_X6 gcp_X6 (by decide) rfl rfl (by decide) (by decide) fl_X6_16 dX6_settle_24 ?_
    exact G.vret rfl (by first | exact IX_settle h hq | exact ⟨h, qF_rf _, h.2.2.1.2 h1, h1⟩) dX6_settle_27
set_option maxHeartbeats 4000000 in
set_option maxRecDepth 100000 in
theorem c_X6_solved {ln B : Nat → Nat} (h : IX σ ln B) {w : Int32} : GM (XC l D cA ad) mX6_solved [.ref 0, .int w] σ (g_ri (aQ σ ln B (sp_solved ln B w))) := by
  refine GM.of (ls := [some (.ref 0), some (.int w)]) (by decide) (Nat.le_of_ble_eq_true rfl) rfl ?_
  refine G.iload_n (k := 1) rfl dX6_solved_0 ?_
  refine G.iconst (v := 4) (by decide) dX6_solved_1 ?_
  refine G.callSif (c_X6_isOutside) ml_X6_72 ws_yX6_isOutside gcl_X6_isOutside (by decide) rfl rfl (Nat.le_of_ble_eq_true rfl) dX6_solved_2 ?_
  refine G.if_eq (tgt := 11) (by decide) dX6_solved_5 (fun c_5 => ?_) (fun c_5 => ?_)
  · have h1 := ou_f 4 (by decide) c_5
    refine G.aload_n (k := 0) rfl dX6_solved_11 ?_
    refine G.callVv (c_X6_settle h) rfl (gci_X6).1 ml_X6_180 im_yX6_settle se_yX6_settle gcl_X6_settle (by decide) rfl rfl (Nat.le_of_ble_eq_true rfl) dX6_solved_12 (fun τ hq => ?_)
    refine G.aload_n (k := 0) rfl dX6_solved_15 ?_
    refine G.getr (j := 2) rfl gci_X6 (by decide) rfl fl_X6_59 dX6_solved_16 ?_
    refine G.iload_n (k := 1) rfl dX6_solved_19 ?_
    refine G.callVif (c_X2_finding svA_16 (in4w h1)) rfl (gci_X2).1 ml_X6_183 im_yX2_finding se_yX2_finding gcl_X2_finding (by decide) rfl rfl (Nat.le_of_ble_eq_true rfl) dX6_solved_20 ?_
    exact G.iret rfl (by unfold aQ sp_solved; rw [if_pos h1]; exact ⟨fnd_of hq.2.2.1 h1, hq.1, hq.2.1⟩) dX6_solved_23
  · have h1 := ou_t 4 (by decide) c_5
    refine G.bipush (v := (-2)) (by decide) dX6_solved_8 ?_
    exact G.iret rfl (by unfold aQ sp_solved; rw [if_neg (by simp [h1])]; exact ⟨rfl, h, qF_rf _⟩) dX6_solved_10
set_option maxHeartbeats 4000000 in
set_option maxRecDepth 100000 in
theorem c_X6_fresh {ln B : Nat → Nat} (h : IX σ ln B) {u : Int32} : GM (XC l D cA ad) mX6_fresh [.ref 0, .int u] σ (g_ri (aQ σ ln B (sp_fresh ln B u))) := by
  refine GM.of (ls := [some (.ref 0), some (.int u)]) (by decide) (Nat.le_of_ble_eq_true rfl) rfl ?_
  refine G.iload_n (k := 1) rfl dX6_fresh_0 ?_
  refine G.bipush (v := 6) (by decide) dX6_fresh_1 ?_
  refine G.callSif (c_X6_isOutside) ml_X6_72 ws_yX6_isOutside gcl_X6_isOutside (by decide) rfl rfl (Nat.le_of_ble_eq_true rfl) dX6_fresh_3 ?_
  refine G.if_eq (tgt := 12) (by decide) dX6_fresh_6 (fun c_6 => ?_) (fun c_6 => ?_)
  · have h1 := ou_f 6 (by decide) c_6
    obtain ⟨q, hq, eq⟩ := inB_of (by decide) h1
    subst eq
    have xq : ix (nI q) = q := ix_nI (by omega)
    refine G.aload_n (k := 0) rfl dX6_fresh_12 ?_
    refine G.callVv (c_X6_settle h) rfl (gci_X6).1 ml_X6_180 im_yX6_settle se_yX6_settle gcl_X6_settle (by decide) rfl rfl (Nat.le_of_ble_eq_true rfl) dX6_fresh_13 (fun τ hq9 => ?_)
    have hG := usol_G h 0 15
    have hR := hq9.2.2.1
    have e1 := why_0 hG hR
    have e2 := vrow_m1 hG.1 q
    have e3 := hR.1 q hq
    refine G.aload_n (k := 0) rfl dX6_fresh_16 ?_
    refine G.getr (j := 2) rfl gci_X6 (by decide) rfl fl_X6_59 dX6_fresh_17 ?_
    refine G.iload_n (k := 1) rfl dX6_fresh_20 ?_
    refine G.callVif (c_X2_freshNames svA_16 hq) rfl (gci_X2).1 ml_X6_189 im_yX2_freshNames se_yX2_freshNames gcl_X2_freshNames (by decide) rfl rfl (Nat.le_of_ble_eq_true rfl) dX6_fresh_21 ?_
    exact G.iret rfl (by unfold aQ sp_fresh; rw [if_pos h1, xq]; refine ⟨?_, hq9.1, hq9.2.1⟩; show (if τ 16 8 = 0 ∧ τ 17 q = -1 then τ 21 q else 0) = _; by_cases z : uwhy B (usol ln B 0 15) = 0 ∧ (usol ln B 0 15).1.1 q = none; (rw [if_pos z, if_pos ⟨e1.mpr z.1, e3.trans (e2.mpr z.2)⟩]; exact hR.2.2.2.2.2 (why_y z.1) q hq); (rw [if_neg z, if_neg (fun y => z ⟨e1.mp y.1, e2.mp (e3.symm.trans y.2)⟩)])) dX6_fresh_24
  · have h1 := ou_t 6 (by decide) c_6
    refine G.bipush (v := (-2)) (by decide) dX6_fresh_9 ?_
    exact G.iret rfl (by unfold aQ sp_fresh; rw [if_neg (by simp [h1])]; exact ⟨rfl, h, qF_rf _⟩) dX6_fresh_11
set_option maxHeartbeats 4000000 in
set_option maxRecDepth 100000 in
theorem c_X6_needs {ln B : Nat → Nat} (h : IX σ ln B) {u : Int32} : GM (XC l D cA ad) mX6_needs [.ref 0, .int u] σ (g_ri (aQ σ ln B (sp_needs ln B u))) := by
  refine GM.of (ls := [some (.ref 0), some (.int u)]) (by decide) (Nat.le_of_ble_eq_true rfl) rfl ?_
  refine G.iload_n (k := 1) rfl dX6_needs_0 ?_
  refine G.bipush (v := 6) (by decide) dX6_needs_1 ?_
  refine G.callSif (c_X6_isOutside) ml_X6_72 ws_yX6_isOutside gcl_X6_isOutside (by decide) rfl rfl (Nat.le_of_ble_eq_true rfl) dX6_needs_3 ?_
  refine G.if_eq (tgt := 12) (by decide) dX6_needs_6 (fun c_6 => ?_) (fun c_6 => ?_)
  · have h1 := ou_f 6 (by decide) c_6
    obtain ⟨q, hq, eq⟩ := inB_of (by decide) h1
    subst eq
    have xq : ix (nI q) = q := ix_nI (by omega)
    refine G.aload_n (k := 0) rfl dX6_needs_12 ?_
    refine G.callVv (c_X6_settle h) rfl (gci_X6).1 ml_X6_180 im_yX6_settle se_yX6_settle gcl_X6_settle (by decide) rfl rfl (Nat.le_of_ble_eq_true rfl) dX6_needs_13 (fun τ hq9 => ?_)
    have hG := usol_G h 0 15
    have hR := hq9.2.2.1
    have e1 := why_0 hG hR
    refine G.aload_n (k := 0) rfl dX6_needs_16 ?_
    refine G.getr (j := 2) rfl gci_X6 (by decide) rfl fl_X6_59 dX6_needs_17 ?_
    refine G.iload_n (k := 1) rfl dX6_needs_20 ?_
    refine G.callVif (c_X2_openUnknowns svA_16 hq (IX_tx hq9.1) hG.1 hR.1) rfl (gci_X2).1 ml_X6_192 im_yX2_openUnknowns se_yX2_openUnknowns gcl_X2_openUnknowns (by decide) rfl rfl (Nat.le_of_ble_eq_true rfl) dX6_needs_21 ?_
    exact G.iret rfl (by unfold aQ sp_needs; rw [if_pos h1, xq]; refine ⟨?_, hq9.1, hq9.2.1⟩; by_cases z : uwhy B (usol ln B 0 15) = 0; (rw [if_pos z, if_pos (e1.mpr z)]); (rw [if_neg z, if_neg (fun y => z (e1.mp y))])) dX6_needs_24
  · have h1 := ou_t 6 (by decide) c_6
    refine G.bipush (v := (-2)) (by decide) dX6_needs_9 ?_
    exact G.iret rfl (by unfold aQ sp_needs; rw [if_neg (by simp [h1])]; exact ⟨rfl, h, qF_rf _⟩) dX6_needs_11
end T67

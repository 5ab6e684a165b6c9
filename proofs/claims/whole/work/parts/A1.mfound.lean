/-! ===== the model: what is found ===== -/
def vF (σ τ : gS) : Prop := (∀ k, 1 ≤ k → k ≤ 12 → τ k = σ k) ∧ ∀ i, i < 28 → i ≠ 15 → i ≠ 18 → i ≠ 23 → τ 0 i = σ 0 i
theorem vF_rf (σ : gS) : vF σ σ := ⟨fun _ _ _ => rfl, fun _ _ _ _ _ => rfl⟩
theorem vF_tr {σ τ υ : gS} (h1 : vF σ τ) (h2 : vF τ υ) : vF σ υ := ⟨fun k a b => (h2.1 k a b).trans (h1.1 k a b), fun i a b c d => (h2.2 i a b c d).trans (h1.2 i a b c d)⟩
theorem gF_v {σ τ : gS} (h : gF σ τ) : vF σ τ := ⟨fun k a b => h.1 k a (by omega), fun i a _ c d => h.2 i a c d⟩
theorem sM_v {σ τ : gS} (h : sM σ τ) : vF σ τ := ⟨fun k a b => h.1 k (by omega) (by omega), fun i a b c _ => h.2 i b c⟩
theorem lM_v {σ τ : gS} (h : lM σ τ) : vF σ τ := sM_v (lM_F h)
theorem aF_v {σ τ : gS} (h : aF σ τ) : vF σ τ := ⟨fun k a b => h.1 k (by omega) (by omega) (by omega) (by omega) (by omega), fun i _ _ c d => h.2 i c d⟩
theorem kF_v {σ τ : gS} (h : kF σ τ) : vF σ τ := ⟨fun k a b => h.1 k (by omega) (by omega), fun i a _ c d => h.2 i c d (by omega)⟩
theorem vF_Q {σ τ : gS} (h : vF σ τ) : mQ σ τ := ⟨fun k a b => h.1 k (by omega) (by omega), h.2 4 (by decide) (by decide) (by decide) (by decide)⟩
theorem vF_M {σ τ : gS} {ln B : Nat → Nat} (h : vF σ τ) (hT : TM σ ln B) (hM : MR σ ln B) : TM τ ln B ∧ MR τ ln B := ⟨TM_F (h.1 5 (by decide) (by decide)) (h.1 6 (by decide) (by decide)) hT, MR_F (fun k a b => h.1 k (by omega) (by omega)) (h.2 13 (by decide) (by decide) (by decide) (by decide)) hT hM⟩
theorem usM_G {σ : gS} {ln B : Nat → Nat} (hT : TM σ ln B) (k wm : Nat) : uG B ln (usol ln B k wm).1 := by
  unfold usol
  rw [useq_congr (th' := fun e => decide (e < 4) && (wm.testBit e && thA ln B e)) _ _ (fun e he => by simp [lst_lt k 4 e he])]
  refine useq_G (fun e he => ?_) _ _ ⟨VG_no B ln, rkd_no B, fun y hy => (by cases hy), tdA64 hT, fun y hy => (by cases hy), Nat.zero_lt_succ _⟩
  simp only [Bool.and_eq_true, decide_eq_true_eq] at he
  exact th_nd (TM_30 hT) he.1 he.2.2
theorem bt15 : ∀ e, e < 4 → (nI e = -1 ↔ (15 : Nat).testBit e = false) := by decide +kernel
theorem bt_e : ∀ i, i < 4 → ∀ e, e < 4 → (nI e = nI i ↔ (15 - 2 ^ i).testBit e = false) := by decide +kernel
theorem uw_0 {B ln : Nat → Nat} {τ : gS} {R : uS × Nat × Int32} (hG : uG B ln R.1) (hR : RQM τ B R) : τ 0 32 = 0 ↔ uwhy B R = 0 := by
  have h1 := uwhy_lt hG
  rw [hR.2.1]
  exact nI_eq (show uwhy B R < 2 ^ 31 by omega) (show 0 < 2 ^ 31 by decide)
theorem uw_y {B : Nat → Nat} {R : uS × Nat × Int32} (h : uwhy B R = 0) : R.1.2.2.2.2 = 0 := by
  by_cases c : R.1.2.2.2.2 = 0
  · exact c
  · unfold uwhy at h
    rw [if_pos c] at h
    exact h
theorem vp_m1 {B ln : Nat → Nat} {V : uV} (hV : VG B ln V) (u : Nat) : vp B V u = -1 ↔ V u = none := by
  unfold vp
  cases e : V u with
  | none => exact ⟨fun _ => rfl, fun _ => rfl⟩
  | some q => exact ⟨fun h => absurd h (pN_ne1 (hV _ _ e).2.1), fun h => (by cases h)⟩
def flt (V : uV) (b : Nat) : Nat → Nat
  | 0 => b
  | n + 1 => if V n = none then flt V b n else mdel (flt V b n) n
theorem flt_lt {V : uV} {b : Nat} (hb : b < 64) : ∀ n, n ≤ 6 → flt V b n < 64 := by
  intro n
  induction n with
  | zero => intro _; exact hb
  | succ n ih =>
    intro hn
    rw [flt]
    split
    · exact ih (by omega)
    · exact mdel_lt _ (ih (by omega)) n (by omega)
theorem flt_bit {V : uV} {b : Nat} (hb : b < 64) : ∀ n, n ≤ 6 → ∀ w, w < 6 → ((flt V b n).testBit w = true ↔ (b.testBit w = true ∧ (w < n → V w = none))) := by
  intro n
  induction n with
  | zero => intro _ w _; exact ⟨fun h => ⟨h, fun h => absurd h (Nat.not_lt_zero _)⟩, fun h => h.1⟩
  | succ n ih =>
    intro hn w hw
    have h1 := ih (by omega) w hw
    rw [flt]
    by_cases c : V n = none
    · rw [if_pos c, h1]
      exact ⟨fun h => ⟨h.1, fun hl => if e : w = n then (by rw [e]; exact c) else h.2 (by omega)⟩, fun h => ⟨h.1, fun hl => h.2 (by omega)⟩⟩
    · rw [if_neg c, mdel_bit _ (flt_lt hb n (by omega)) n (by omega) w hw, Bool.and_eq_true, h1]
      refine ⟨fun h => ⟨h.1.1, fun hl => h.1.2 (by have := h.2; simp at this; omega)⟩, fun h => ⟨⟨h.1, fun hl => h.2 (by omega)⟩, ?_⟩⟩
      by_cases e : w = n
      · exact absurd (by rw [← e]; exact h.2 (by omega)) c
      · simp [e]
theorem rch_none {B : Nat → Nat} {V : uV} {u w : Nat} (hu : u < 6) (hV : V u = none) : rch B V (2 ^ u) w ↔ w = u := by
  refine ⟨fun h => ?_, fun h S h1 h2 h3 => h2 w (by omega) (by rw [h]; exact Nat.testBit_two_pow_self)⟩
  have h1 := h (2 ^ u) (sh1_u u hu).2 (sbs_rf _) (fun v q hv hb hq => by
    rw [Nat.testBit_two_pow] at hb
    rw [← of_decide_eq_true hb, hV] at hq
    cases hq)
  rw [Nat.testBit_two_pow] at h1
  exact (of_decide_eq_true h1).symm
theorem rch_some {B ln : Nat → Nat} {V : uV} {u w : Nat} {q : Nat × Nat} (hVG : VG B ln V) (hu : u < 6) (hw : w < 6) (hV : V u = some q) : rch B V (2 ^ u) w ↔ (w = u ∨ rch B V (tuk B q.1) w) := by
  have hm := (me_b _ (hVG _ _ hV).2.1).2.1
  have hc := rks_clo hVG hm
  refine ⟨fun h => ?_, fun h => ?_⟩
  · have h1 := h (rks B V (tuk B q.1) 6 ||| 2 ^ u) (or_lt64 hc.1 (sh1_u u hu).2) (sbs_or_r _ _) (fun v q2 hv hb hq2 x hx hb2 => by
      rw [Nat.testBit_or, Bool.or_eq_true] at hb ⊢
      rcases hb with y | y
      · exact Or.inl (hc.2.2.1 v q2 hv y hq2 x hx hb2)
      · rw [Nat.testBit_two_pow] at y
        have := of_decide_eq_true y
        subst this
        rw [hV] at hq2
        cases hq2
        exact Or.inl (hc.2.1 x hx hb2))
    rw [Nat.testBit_or, Bool.or_eq_true] at h1
    rcases h1 with y | y
    · exact Or.inr (hc.2.2.2 w hw y)
    · rw [Nat.testBit_two_pow] at y
      exact Or.inl (of_decide_eq_true y).symm
  · intro S h1 h2 h3
    have hS : S.testBit u = true := h2 u hu Nat.testBit_two_pow_self
    rcases h with y | y
    · rw [y]; exact hS
    · exact y S h1 (fun x hx hb => h3 u q hu hS hV x hx hb) h3
theorem opn_bit {B : Nat → Nat} {V : uV} {u w : Nat} (hw : w < 6) : (opn B V u).testBit w = true ↔ (rch B V (2 ^ u) w ∧ V w = none) := by
  unfold opn
  rw [ms_bit _ w hw]
  exact ⟨fun h => @of_decide_eq_true _ (Classical.propDecidable _) h, fun h => @decide_eq_true _ (Classical.propDecidable _) h⟩
theorem opn_flt {B ln : Nat → Nat} {V : uV} {u : Nat} (hVG : VG B ln V) (hu : u < 6) {b : Nat} (hb : b < 64) (h : ∀ w, w < 6 → V w = none → (b.testBit w = true ↔ rch B V (2 ^ u) w)) : nI (flt V b 6) = nI (opn B V u) := by
  refine congrArg nI (ms_ext (flt_lt hb 6 (Nat.le_refl _)) (ms_lt _) (fun n hn => ?_))
  rw [Bool.eq_iff_iff, flt_bit hb 6 (Nat.le_refl _) n hn]
  show _ ↔ (opn B V u).testBit n = true
  rw [opn_bit hn]
  exact ⟨fun q => ⟨(h n hn (q.2 hn)).mp q.1, q.2 hn⟩, fun q => ⟨(h n hn q.2).mpr q.1, fun _ => q.2⟩⟩
section TA1
variable {l : Launch} {D : va_G} {cA : ClassId} {ad : Nat → Nat}
variable {σ σ0 : gS}
set_option maxHeartbeats 4000000 in
set_option maxRecDepth 100000 in
theorem l_X7_manyValues {ln B : Nat → Nat} {V : uV} (hV : VG B ln V) (hv : VM σ B V) : ∀ j u, u + j = 6 → G (XM l D cA ad) mX7_manyValues (g_ri (fun r τ => r = nI (cntV V 6) ∧ τ = σ)) 4 [some (.ref 0), some (.int (nI (cntV V u))), some (.int (nI u))] [] σ := by
  intro j
  induction j with
  | zero =>
    intro u hj
    have hu : u = 6 := by omega
    subst hu
    refine G.iload_n (k := 2) rfl dX7_manyValues_4 ?_
    refine G.bipush (v := 6) (by decide) dX7_manyValues_5 ?_
    refine G.icmp_ge (tgt := 34) (by decide) dX7_manyValues_7 (fun c_7 => ?_) (fun c_7 => absurd (by decide) c_7)
    refine G.iload_n (k := 1) rfl dX7_manyValues_34 ?_
    exact G.iret rfl (⟨rfl, rfl⟩) dX7_manyValues_35
  | succ j ih =>
    intro u hj
    refine G.iload_n (k := 2) rfl dX7_manyValues_4 ?_
    refine G.bipush (v := 6) (by decide) dX7_manyValues_5 ?_
    refine G.icmp_ge (tgt := 34) (by decide) dX7_manyValues_7 (fun c_7 => absurd c_7 (nI_ge (b := 6) (by omega) (by decide))) (fun c_7 => ?_)
    refine G.iload_n (k := 1) rfl dX7_manyValues_10 ?_
    refine G.aload_n (k := 0) rfl dX7_manyValues_11 ?_
    refine G.getr (j := 19) rfl gci_X7 (by decide) rfl fl_X7_55 dX7_manyValues_12 ?_
    refine G.iload_n (k := 2) rfl dX7_manyValues_15 ?_
    refine G.ialdN (k := u) rfl (rfl) (by omega) (by decide) dX7_manyValues_16 ?_
    rw [(hv u (by omega)).1]
    refine G.iconst (v := (-1)) (by decide) dX7_manyValues_17 ?_
    refine G.icmp_eq (tgt := 25) (by decide) dX7_manyValues_18 (fun c_18 => ?_) (fun c_18 => ?_)
    · have hs : nI (cntV V u) + 0 = nI (cntV V (u + 1)) := by
        rw [Int32.add_zero, cntV, (vp_m1 hV u).mp c_18]; rfl
      refine G.iconst (v := 0) (by decide) dX7_manyValues_25 ?_
      refine G.iadd dX7_manyValues_26 ?_
      rw [hs]
      refine G.ist1 (by decide) rfl dX7_manyValues_27 ?_
      refine G.inc2 (d := 1) (by decide) (by decide) rfl dX7_manyValues_28 ?_
      refine G.goto (tgt := 4) (by decide) dX7_manyValues_31 ?_
      rw [nI_1]
      exact ih (u + 1) (by omega)
    · have hs : nI (cntV V u) + 1 = nI (cntV V (u + 1)) := by
        rw [nI_1, cntV]
        cases e : V u with
        | none => exact absurd ((vp_m1 hV u).mpr e) c_18
        | some q => rfl
      refine G.iconst (v := 1) (by decide) dX7_manyValues_21 ?_
      refine G.goto (tgt := 26) (by decide) dX7_manyValues_22 ?_
      refine G.iadd dX7_manyValues_26 ?_
      rw [hs]
      refine G.ist1 (by decide) rfl dX7_manyValues_27 ?_
      refine G.inc2 (d := 1) (by decide) (by decide) rfl dX7_manyValues_28 ?_
      refine G.goto (tgt := 4) (by decide) dX7_manyValues_31 ?_
      rw [nI_1]
      exact ih (u + 1) (by omega)
set_option maxHeartbeats 4000000 in
set_option maxRecDepth 100000 in
theorem c_X7_manyValues {ln B : Nat → Nat} {V : uV} (hV : VG B ln V) (hv : VM σ B V) : GM (XM l D cA ad) mX7_manyValues [.ref 0] σ (g_ri (fun r τ => r = nI (cntV V 6) ∧ τ = σ)) := by
  refine GM.of (ls := [some (.ref 0), none, none]) (by decide) (Nat.le_of_ble_eq_true rfl) rfl ?_
  refine G.iconst (v := 0) (by decide) dX7_manyValues_0 ?_
  refine G.ist1 (by decide) rfl dX7_manyValues_1 ?_
  refine G.iconst (v := 0) (by decide) dX7_manyValues_2 ?_
  refine G.ist2 (by decide) rfl dX7_manyValues_3 ?_
  exact l_X7_manyValues hV hv 6 0 rfl
set_option maxHeartbeats 4000000 in
set_option maxRecDepth 100000 in
theorem c_X7_wayBy {ln B : Nat → Nat} (hT : TM σ ln B) (hM : MR σ ln B) {k : Nat} {w : Int32} (hk : k < 24) (hw : inB w 4 = true) : GM (XM l D cA ad) mX7_wayBy [.ref 0, .int (nI k), .int w] σ (g_ri (fun r τ => r = fnd B (usol ln B k 15) (ix w) ∧ vF σ τ)) := by
  refine GM.of (ls := [some (.ref 0), some (.int (nI k)), some (.int w)]) (by decide) (Nat.le_of_ble_eq_true rfl) rfl ?_
  refine G.aload_n (k := 0) rfl dX7_wayBy_0 ?_
  refine G.iload_n (k := 1) rfl dX7_wayBy_1 ?_
  refine G.iconst (v := (-1)) (by decide) dX7_wayBy_2 ?_
  refine G.callVv (c_X7_solving (wm := 15) (k := k) hT hM bt15 hk) rfl (gci_X7).1 ml_X7_354 im_yX7_solving se_yX7_solving gcl_X7_solving (by decide) rfl rfl (Nat.le_of_ble_eq_true rfl) dX7_wayBy_3 (fun τ hq => ?_)
  have hG := usM_G hT k 15
  refine G.iload_n (k := 2) rfl dX7_wayBy_6 ?_
  refine G.if_ne (tgt := 17) (by decide) dX7_wayBy_7 (fun c_7 => ?_) (fun c_7 => ?_)
  · have w0 := c_7
    refine G.iload_n (k := 2) rfl dX7_wayBy_17 ?_
    refine G.iconst (v := 1) (by decide) dX7_wayBy_18 ?_
    refine G.icmp_ne (tgt := 29) (by decide) dX7_wayBy_19 (fun c_19 => ?_) (fun c_19 => ?_)
    · have w1 := c_19
      refine G.iload_n (k := 2) rfl dX7_wayBy_29 ?_
      refine G.iconst (v := 2) (by decide) dX7_wayBy_30 ?_
      refine G.icmp_ne (tgt := 41) (by decide) dX7_wayBy_31 (fun c_31 => ?_) (fun c_31 => ?_)
      · have w2 := c_31
        have w3 : w = 3 := by
          rcases w4 hw with y | y | y | y
          · exact absurd y w0
          · exact absurd y w1
          · exact absurd y w2
          · exact y
        subst w3
        refine G.aload_n (k := 0) rfl dX7_wayBy_41 ?_
        refine G.callVif (c_X7_manyValues hG.1 hq.1.1) rfl (gci_X7).1 ml_X7_357 im_yX7_manyValues se_yX7_manyValues gcl_X7_manyValues (by decide) rfl rfl (Nat.le_of_ble_eq_true rfl) dX7_wayBy_42 ?_
        exact G.iret rfl (⟨rfl, gF_v hq.2⟩) dX7_wayBy_45
      · have w2 := c_31
        subst w2
        refine G.aload_n (k := 0) rfl dX7_wayBy_34 ?_
        refine G.geti (j := 34) rfl gci_X7 (by decide) rfl fl_X7_338 dX7_wayBy_35 ?_
        rw [hq.1.2.2.2.1]
        refine G.goto (tgt := 45) (by decide) dX7_wayBy_38 ?_
        exact G.iret rfl (⟨rfl, gF_v hq.2⟩) dX7_wayBy_45
    · have w1 := c_19
      subst w1
      refine G.aload_n (k := 0) rfl dX7_wayBy_22 ?_
      refine G.geti (j := 33) rfl gci_X7 (by decide) rfl fl_X7_345 dX7_wayBy_23 ?_
      rw [hq.1.2.2.1]
      refine G.goto (tgt := 45) (by decide) dX7_wayBy_26 ?_
      exact G.iret rfl (⟨rfl, gF_v hq.2⟩) dX7_wayBy_45
  · have w0 := c_7
    subst w0
    refine G.aload_n (k := 0) rfl dX7_wayBy_10 ?_
    refine G.geti (j := 32) rfl gci_X7 (by decide) rfl fl_X7_335 dX7_wayBy_11 ?_
    rw [hq.1.2.1]
    refine G.goto (tgt := 45) (by decide) dX7_wayBy_14 ?_
    exact G.iret rfl (⟨rfl, gF_v hq.2⟩) dX7_wayBy_45
set_option maxHeartbeats 4000000 in
set_option maxRecDepth 100000 in
theorem c_X7_solved {ln B : Nat → Nat} {w : Int32} (hT : TM σ ln B) : GM (XM l D cA ad) mX7_solved [.ref 0, .int w] σ (g_ri (fun r τ => r = sp_solved ln B w ∧ mQ σ τ)) := by
  refine GM.of (ls := [some (.ref 0), some (.int w)]) (by decide) (Nat.le_of_ble_eq_true rfl) rfl ?_
  refine G.aload_n (k := 0) rfl dX7_solved_0 ?_
  refine G.callVv (c_X7_readsAll hT) rfl (gci_X7).1 ml_X7_271 im_yX7_readsAll se_yX7_readsAll gcl_X7_readsAll (by decide) rfl rfl (Nat.le_of_ble_eq_true rfl) dX7_solved_1 (fun τ hr => ?_)
  have hT1 := TM_rd hr.1 hT
  refine G.iload_n (k := 1) rfl dX7_solved_4 ?_
  refine G.i2l dX7_solved_5 ?_
  refine G.lconst (v := 0) (by decide) dX7_solved_6 ?_
  refine G.ldc2 ct_X7_102 dX7_solved_7 ?_
  refine G.callSif (c_X7_in (x := w) (a := 0) (b := 3) (by decide) (by decide)) ml_X7_94 ws_yX7_in gcl_X7_in (by decide) rfl rfl (Nat.le_of_ble_eq_true rfl) dX7_solved_10 ?_
  refine G.if_eq (tgt := 25) (by decide) dX7_solved_13 (fun c_13 => ?_) (fun c_13 => ?_)
  · have h1 := in_f 3 (by decide) c_13
    refine G.bipush (v := (-2)) (by decide) dX7_solved_25 ?_
    exact G.iret rfl (by unfold sp_solved; first | (rw [if_pos h1]; exact ⟨hq2.1, mQ_tr (rdF_Q hr.1) (vF_Q hq2.2)⟩) | (rw [if_neg (by simp [h1])]; exact ⟨rfl, rdF_Q hr.1⟩)) dX7_solved_27
  · have h1 := in_t 3 (by decide) c_13
    refine G.aload_n (k := 0) rfl dX7_solved_16 ?_
    refine G.iconst (v := 0) (by decide) dX7_solved_17 ?_
    refine G.iload_n (k := 1) rfl dX7_solved_18 ?_
    refine G.callVi (c_X7_wayBy (k := 0) hT1 hr.2 (by decide) h1) rfl (gci_X7).1 ml_X7_360 im_yX7_wayBy se_yX7_wayBy gcl_X7_wayBy (by decide) rfl rfl (Nat.le_of_ble_eq_true rfl) dX7_solved_19 (fun r τ2 hq2 => ?_)
    refine G.goto (tgt := 27) (by decide) dX7_solved_22 ?_
    exact G.iret rfl (by unfold sp_solved; first | (rw [if_pos h1]; exact ⟨hq2.1, mQ_tr (rdF_Q hr.1) (vF_Q hq2.2)⟩) | (rw [if_neg (by simp [h1])]; exact ⟨rfl, rdF_Q hr.1⟩)) dX7_solved_27
set_option maxHeartbeats 4000000 in
set_option maxRecDepth 100000 in
theorem c_X7_way {ln B : Nat → Nat} {k w : Int32} (hT : TM σ ln B) : GM (XM l D cA ad) mX7_way [.ref 0, .int k, .int w] σ (g_ri (fun r τ => r = sp_way ln B k w ∧ mQ σ τ)) := by
  refine GM.of (ls := [some (.ref 0), some (.int k), some (.int w)]) (by decide) (Nat.le_of_ble_eq_true rfl) rfl ?_
  refine G.aload_n (k := 0) rfl dX7_way_0 ?_
  refine G.callVv (c_X7_readsAll hT) rfl (gci_X7).1 ml_X7_271 im_yX7_readsAll se_yX7_readsAll gcl_X7_readsAll (by decide) rfl rfl (Nat.le_of_ble_eq_true rfl) dX7_way_1 (fun τ hr => ?_)
  have hT1 := TM_rd hr.1 hT
  refine G.iload_n (k := 1) rfl dX7_way_4 ?_
  refine G.i2l dX7_way_5 ?_
  refine G.lconst (v := 0) (by decide) dX7_way_6 ?_
  refine G.ldc2 ct_X7_363 dX7_way_7 ?_
  refine G.callSif (c_X7_in (x := k) (a := 0) (b := 23) (by decide) (by decide)) ml_X7_94 ws_yX7_in gcl_X7_in (by decide) rfl rfl (Nat.le_of_ble_eq_true rfl) dX7_way_10 ?_
  refine G.if_eq (tgt := 37) (by decide) dX7_way_13 (fun c_13 => ?_) (fun c_13 => ?_)
  · have h1 := in_f 23 (by decide) c_13
    refine G.bipush (v := (-2)) (by decide) dX7_way_37 ?_
    exact G.iret rfl (by unfold sp_way; first | (rw [if_pos (show (inB (nI q) 24 && inB w 4) = true by simp [h1, h2]), xq]; exact ⟨hq2.1, mQ_tr (rdF_Q hr.1) (vF_Q hq2.2)⟩) | (rw [if_neg (by first | (simp [h1]; done) | simp [h1, h2])]; exact ⟨rfl, rdF_Q hr.1⟩)) dX7_way_39
  · have h1 := in_t 23 (by decide) c_13
    obtain ⟨q, hq, eq⟩ := inB_of (by decide) h1
    subst eq
    have xq : ix (nI q) = q := ix_nI (by omega)
    refine G.iload_n (k := 2) rfl dX7_way_16 ?_
    refine G.i2l dX7_way_17 ?_
    refine G.lconst (v := 0) (by decide) dX7_way_18 ?_
    refine G.ldc2 ct_X7_102 dX7_way_19 ?_
    refine G.callSif (c_X7_in (x := w) (a := 0) (b := 3) (by decide) (by decide)) ml_X7_94 ws_yX7_in gcl_X7_in (by decide) rfl rfl (Nat.le_of_ble_eq_true rfl) dX7_way_22 ?_
    refine G.if_eq (tgt := 37) (by decide) dX7_way_25 (fun c_25 => ?_) (fun c_25 => ?_)
    · have h2 := in_f 3 (by decide) c_25
      refine G.bipush (v := (-2)) (by decide) dX7_way_37 ?_
      exact G.iret rfl (by unfold sp_way; first | (rw [if_pos (show (inB (nI q) 24 && inB w 4) = true by simp [h1, h2]), xq]; exact ⟨hq2.1, mQ_tr (rdF_Q hr.1) (vF_Q hq2.2)⟩) | (rw [if_neg (by first | (simp [h1]; done) | simp [h1, h2])]; exact ⟨rfl, rdF_Q hr.1⟩)) dX7_way_39
    · have h2 := in_t 3 (by decide) c_25
      refine G.aload_n (k := 0) rfl dX7_way_28 ?_
      refine G.iload_n (k := 1) rfl dX7_way_29 ?_
      refine G.iload_n (k := 2) rfl dX7_way_30 ?_
      refine G.callVi (c_X7_wayBy hT1 hr.2 hq h2) rfl (gci_X7).1 ml_X7_360 im_yX7_wayBy se_yX7_wayBy gcl_X7_wayBy (by decide) rfl rfl (Nat.le_of_ble_eq_true rfl) dX7_way_31 (fun r τ2 hq2 => ?_)
      refine G.goto (tgt := 39) (by decide) dX7_way_34 ?_
      exact G.iret rfl (by unfold sp_way; first | (rw [if_pos (show (inB (nI q) 24 && inB w 4) = true by simp [h1, h2]), xq]; exact ⟨hq2.1, mQ_tr (rdF_Q hr.1) (vF_Q hq2.2)⟩) | (rw [if_neg (by first | (simp [h1]; done) | simp [h1, h2])]; exact ⟨rfl, rdF_Q hr.1⟩)) dX7_way_39
set_option maxHeartbeats 4000000 in
set_option maxRecDepth 100000 in
theorem c_X7_tellsValue {ln B : Nat → Nat} (hT : TM σ ln B) (hM : MR σ ln B) {u : Nat} (hu : u < 6) : GM (XM l D cA ad) mX7_tellsValue [.ref 0, .int (nI u)] σ (g_rv (fun τ => LnM τ (vaU ln B u) ∧ vF σ τ)) := by
  refine GM.of (ls := [some (.ref 0), some (.int (nI u))]) (by decide) (Nat.le_of_ble_eq_true rfl) rfl ?_
  refine G.aload_n (k := 0) rfl dX7_tellsValue_0 ?_
  refine G.iconst (v := 0) (by decide) dX7_tellsValue_1 ?_
  refine G.iconst (v := (-1)) (by decide) dX7_tellsValue_2 ?_
  refine G.callVv (c_X7_solving (wm := 15) (k := 0) hT hM bt15 (by decide)) rfl (gci_X7).1 ml_X7_354 im_yX7_solving se_yX7_solving gcl_X7_solving (by decide) rfl rfl (Nat.le_of_ble_eq_true rfl) dX7_tellsValue_3 (fun τ hq => ?_)
  have hG := usM_G hT 0 15
  refine G.aload_n (k := 0) rfl dX7_tellsValue_6 ?_
  refine G.iconst (v := 0) (by decide) dX7_tellsValue_7 ?_
  refine G.put (j := 15) rfl gci_X7 gcp_X7 (by decide) rfl rfl rfl rfl fl_X7_204 dX7_tellsValue_8 ?_
  generalize hτ1 : up2 τ 0 15 0 = τ1
  have r1 : ∀ k, k ≠ 0 → τ1 k = τ k := fun k a => by rw [← hτ1, up2_ne _ _ _ a]
  have r2 : ∀ i, i ≠ 15 → τ1 0 i = τ 0 i := fun i a => by rw [← hτ1, up2_r, if_neg (fun z => a z.2)]
  have hL0 : LnM τ1 [] := by rw [← hτ1]; exact LnM_0 τ
  have hF1 : vF σ τ1 := vF_tr (gF_v hq.2) (by rw [← hτ1]; exact lM_v (lM_0 τ))
  have e32 : τ1 0 32 = 0 ↔ uwhy B (usol ln B 0 15) = 0 := by rw [r2 32 (by decide)]; exact uw_0 hG hq.1
  have hv1 : VM τ1 B (usol ln B 0 15).1.1 := VM_F (r1 16 (by decide)) (r1 17 (by decide)) hq.1.1
  refine G.aload_n (k := 0) rfl dX7_tellsValue_11 ?_
  refine G.geti (j := 32) rfl gci_X7 (by decide) rfl fl_X7_335 dX7_tellsValue_12 ?_
  refine G.if_ne (tgt := 39) (by decide) dX7_tellsValue_15 (fun c_15 => ?_) (fun c_15 => ?_)
  · have hy : ¬ uwhy B (usol ln B 0 15) = 0 := fun e => c_15 (e32.mpr e)
    refine G.aload_n (k := 0) rfl dX7_tellsValue_39 ?_
    refine G.geti (j := 32) rfl gci_X7 (by decide) rfl fl_X7_335 dX7_tellsValue_40 ?_
    first
    | (refine G.if_ne (tgt := 63) (by decide) dX7_tellsValue_43 (fun c_43 => ?_) (fun c_43 => absurd (e32.mp c_43) hy)
       exact G.vret rfl ⟨by unfold vaU; rw [if_neg hy]; exact hL0, hF1⟩ dX7_tellsValue_63)
    | (refine G.if_ne (tgt := 63) (by decide) dX7_tellsValue_43 (fun c_43 => absurd (e32.mpr hy) c_43) (fun c_43 => ?_)
       refine G.aload_n (k := 0) rfl dX7_tellsValue_46 ?_
       refine G.aload_n (k := 0) rfl dX7_tellsValue_47 ?_
       refine G.getr (j := 19) rfl gci_X7 (by decide) rfl fl_X7_55 dX7_tellsValue_48 ?_
       refine G.iload_n (k := 1) rfl dX7_tellsValue_51 ?_
       refine G.ialdN (k := u) rfl (rfl) (hu) (by decide) dX7_tellsValue_52 ?_
       rw [(hv1 u hu).1, hvp]
       refine G.aload_n (k := 0) rfl dX7_tellsValue_53 ?_
       refine G.getr (j := 20) rfl gci_X7 (by decide) rfl fl_X7_58 dX7_tellsValue_54 ?_
       refine G.iload_n (k := 1) rfl dX7_tellsValue_57 ?_
       refine G.ialdN (k := u) rfl (rfl) (hu) (by decide) dX7_tellsValue_58 ?_
       rw [(hv1 u hu).2 q hq3]
       refine G.iconst (v := 1) (by decide) dX7_tellsValue_59 ?_
       refine G.callVv (c_X7_showing (q := q) (V := (usol ln B 0 15).1.1) (fun g hg => PrM_F (fun k a b => hF1.1 k (by omega) (by omega)) (MR_nd hM hg)) hG.1 hG.2.1 (Or.inr ⟨rfl, hv1⟩) hqn.2.1 hqn.2.2 (Or.inr rfl)) rfl (gci_X7).1 ml_X7_280 im_yX7_showing se_yX7_showing gcl_X7_showing (by decide) rfl rfl (Nat.le_of_ble_eq_true rfl) dX7_tellsValue_60 (fun τ2 hq2 => ?_)
       exact G.vret rfl ⟨by unfold vaU; rw [if_pos hy, hq3]; exact hq2.1, vF_tr hF1 (sM_v hq2.2)⟩ dX7_tellsValue_63)
  · have hy : uwhy B (usol ln B 0 15) = 0 := e32.mp c_15
    refine G.aload_n (k := 0) rfl dX7_tellsValue_18 ?_
    refine G.getr (j := 19) rfl gci_X7 (by decide) rfl fl_X7_55 dX7_tellsValue_19 ?_
    refine G.iload_n (k := 1) rfl dX7_tellsValue_22 ?_
    refine G.ialdN (k := u) rfl (rfl) (hu) (by decide) dX7_tellsValue_23 ?_
    rw [(hv1 u hu).1]
    refine G.iconst (v := (-1)) (by decide) dX7_tellsValue_24 ?_
    refine G.icmp_ne (tgt := 39) (by decide) dX7_tellsValue_25 (fun c_25 => ?_) (fun c_25 => ?_)
    · obtain ⟨q, hq3⟩ : ∃ q, (usol ln B 0 15).1.1 u = some q := by
        cases e : (usol ln B 0 15).1.1 u with
        | none => exact absurd ((vp_m1 hG.1 u).mpr e) c_25
        | some q => exact ⟨q, rfl⟩
      have hqn := hG.1 _ _ hq3
      have hvp : vp B (usol ln B 0 15).1.1 u = nI (pN B q.1) := by rw [vp, hq3]
      refine G.aload_n (k := 0) rfl dX7_tellsValue_39 ?_
      refine G.geti (j := 32) rfl gci_X7 (by decide) rfl fl_X7_335 dX7_tellsValue_40 ?_
      first
      | (refine G.if_ne (tgt := 63) (by decide) dX7_tellsValue_43 (fun c_43 => ?_) (fun c_43 => absurd (e32.mp c_43) hy)
         exact G.vret rfl ⟨by unfold vaU; rw [if_neg hy]; exact hL0, hF1⟩ dX7_tellsValue_63)
      | (refine G.if_ne (tgt := 63) (by decide) dX7_tellsValue_43 (fun c_43 => absurd (e32.mpr hy) c_43) (fun c_43 => ?_)
         refine G.aload_n (k := 0) rfl dX7_tellsValue_46 ?_
         refine G.aload_n (k := 0) rfl dX7_tellsValue_47 ?_
         refine G.getr (j := 19) rfl gci_X7 (by decide) rfl fl_X7_55 dX7_tellsValue_48 ?_
         refine G.iload_n (k := 1) rfl dX7_tellsValue_51 ?_
         refine G.ialdN (k := u) rfl (rfl) (hu) (by decide) dX7_tellsValue_52 ?_
         rw [(hv1 u hu).1, hvp]
         refine G.aload_n (k := 0) rfl dX7_tellsValue_53 ?_
         refine G.getr (j := 20) rfl gci_X7 (by decide) rfl fl_X7_58 dX7_tellsValue_54 ?_
         refine G.iload_n (k := 1) rfl dX7_tellsValue_57 ?_
         refine G.ialdN (k := u) rfl (rfl) (hu) (by decide) dX7_tellsValue_58 ?_
         rw [(hv1 u hu).2 q hq3]
         refine G.iconst (v := 1) (by decide) dX7_tellsValue_59 ?_
         refine G.callVv (c_X7_showing (q := q) (V := (usol ln B 0 15).1.1) (fun g hg => PrM_F (fun k a b => hF1.1 k (by omega) (by omega)) (MR_nd hM hg)) hG.1 hG.2.1 (Or.inr ⟨rfl, hv1⟩) hqn.2.1 hqn.2.2 (Or.inr rfl)) rfl (gci_X7).1 ml_X7_280 im_yX7_showing se_yX7_showing gcl_X7_showing (by decide) rfl rfl (Nat.le_of_ble_eq_true rfl) dX7_tellsValue_60 (fun τ2 hq2 => ?_)
         exact G.vret rfl ⟨by unfold vaU; rw [if_pos hy, hq3]; exact hq2.1, vF_tr hF1 (sM_v hq2.2)⟩ dX7_tellsValue_63)
    · have hn3 := (vp_m1 hG.1 u).mp c_25
      refine G.aload_n (k := 0) rfl dX7_tellsValue_28 ?_
      refine G.bipush (v := 80) (by decide) dX7_tellsValue_29 ?_
      refine G.iload_n (k := 1) rfl dX7_tellsValue_31 ?_
      refine G.iadd dX7_tellsValue_32 ?_
      rw [show (80 : Int32) + nI u = nI (80 + u) from nI_add 80 u]
      refine G.callVv (c_X7_tells hL0) rfl (gci_X7).1 ml_X7_207 im_yX7_tells se_yX7_tells gcl_X7_tells (by decide) rfl rfl (Nat.le_of_ble_eq_true rfl) dX7_tellsValue_33 (fun τ2 hq2 => ?_)
      refine G.goto (tgt := 63) (by decide) dX7_tellsValue_36 ?_
      exact G.vret rfl ⟨by unfold vaU; rw [if_pos hy, hn3]; exact hq2.1, vF_tr hF1 (lM_v hq2.2)⟩ dX7_tellsValue_63
set_option maxHeartbeats 4000000 in
set_option maxRecDepth 100000 in
theorem c_X7_valueBy {ln B : Nat → Nat} (hT : TM σ ln B) (hM : MR σ ln B) {u : Nat} (hu : u < 6) {i : Int32} (hi : ¬ noPl i) : GM (XM l D cA ad) mX7_valueBy [.ref 0, .int (nI u), .int i] σ (g_ri (fun r τ => r = lnT (vaU ln B u) i ∧ vF σ τ)) := by
  refine GM.of (ls := [some (.ref 0), some (.int (nI u)), some (.int i)]) (by decide) (Nat.le_of_ble_eq_true rfl) rfl ?_
  refine G.aload_n (k := 0) rfl dX7_valueBy_0 ?_
  refine G.iload_n (k := 1) rfl dX7_valueBy_1 ?_
  refine G.callVv (c_X7_tellsValue hT hM hu) rfl (gci_X7).1 ml_X7_365 im_yX7_tellsValue se_yX7_tellsValue gcl_X7_tellsValue (by decide) rfl rfl (Nat.le_of_ble_eq_true rfl) dX7_valueBy_2 (fun τ hq => ?_)
  refine G.aload_n (k := 0) rfl dX7_valueBy_5 ?_
  refine G.iload_n (k := 2) rfl dX7_valueBy_6 ?_
  refine G.callVif (c_X7_toldAt hi hq.1) rfl (gci_X7).1 ml_X7_226 im_yX7_toldAt se_yX7_toldAt gcl_X7_toldAt (by decide) rfl rfl (Nat.le_of_ble_eq_true rfl) dX7_valueBy_7 ?_
  exact G.iret rfl (⟨rfl, hq.2⟩) dX7_valueBy_10
set_option maxHeartbeats 4000000 in
set_option maxRecDepth 100000 in
theorem c_X7_value {ln B : Nat → Nat} {u i : Int32} (hT : TM σ ln B) : GM (XM l D cA ad) mX7_value [.ref 0, .int u, .int i] σ (g_ri (fun r τ => r = sp_value ln B u i ∧ mQ σ τ)) := by
  refine GM.of (ls := [some (.ref 0), some (.int u), some (.int i)]) (by decide) (Nat.le_of_ble_eq_true rfl) rfl ?_
  refine G.aload_n (k := 0) rfl dX7_value_0 ?_
  refine G.callVv (c_X7_readsAll hT) rfl (gci_X7).1 ml_X7_271 im_yX7_readsAll se_yX7_readsAll gcl_X7_readsAll (by decide) rfl rfl (Nat.le_of_ble_eq_true rfl) dX7_value_1 (fun τ hr => ?_)
  have hT1 := TM_rd hr.1 hT
  refine G.iload_n (k := 1) rfl dX7_value_4 ?_
  refine G.callSif (c_X7_isName) ml_X7_185 ws_yX7_isName gcl_X7_isName (by decide) rfl rfl (Nat.le_of_ble_eq_true rfl) dX7_value_5 ?_
  refine G.if_eq (tgt := 34) (by decide) dX7_value_8 (fun c_8 => ?_) (fun c_8 => ?_)
  · have h1 := in_f 5 (by decide) c_8
    refine G.bipush (v := (-2)) (by decide) dX7_value_34 ?_
    exact G.iret rfl (by unfold sp_value; first | (rw [if_pos ⟨h1, h2⟩, xq]; exact ⟨hq2.1, mQ_tr (rdF_Q hr.1) (vF_Q hq2.2)⟩) | (rw [if_neg (fun z => by first | (rw [h1] at z; exact absurd z.1 (by decide)) | exact z.2 h2)]; exact ⟨rfl, rdF_Q hr.1⟩)) dX7_value_36
  · have h1 := in_t 5 (by decide) c_8
    obtain ⟨q, hq, eq⟩ := inB_of (by decide) h1
    subst eq
    have xq : ix (nI q) = q := ix_nI (by omega)
    refine G.iload_n (k := 2) rfl dX7_value_11 ?_
    refine G.i2l dX7_value_12 ?_
    refine G.ldc2 ct_X7_229 dX7_value_13 ?_
    refine G.ldc2 ct_X7_231 dX7_value_16 ?_
    refine G.callSif (c_X7_in (x := i) (a := -1) (b := 59) (by decide) (by decide)) ml_X7_94 ws_yX7_in gcl_X7_in (by decide) rfl rfl (Nat.le_of_ble_eq_true rfl) dX7_value_19 ?_
    refine G.if_eq (tgt := 34) (by decide) dX7_value_22 (fun c_22 => ?_) (fun c_22 => ?_)
    · have h2 := pl_in.mp c_22
      refine G.bipush (v := (-2)) (by decide) dX7_value_34 ?_
      exact G.iret rfl (by unfold sp_value; first | (rw [if_pos ⟨h1, h2⟩, xq]; exact ⟨hq2.1, mQ_tr (rdF_Q hr.1) (vF_Q hq2.2)⟩) | (rw [if_neg (fun z => by first | (rw [h1] at z; exact absurd z.1 (by decide)) | exact z.2 h2)]; exact ⟨rfl, rdF_Q hr.1⟩)) dX7_value_36
    · have h2 : ¬ noPl i := fun e => c_22 (pl_in.mpr e)
      refine G.aload_n (k := 0) rfl dX7_value_25 ?_
      refine G.iload_n (k := 1) rfl dX7_value_26 ?_
      refine G.iload_n (k := 2) rfl dX7_value_27 ?_
      refine G.callVi (c_X7_valueBy hT1 hr.2 hq h2) rfl (gci_X7).1 ml_X7_368 im_yX7_valueBy se_yX7_valueBy gcl_X7_valueBy (by decide) rfl rfl (Nat.le_of_ble_eq_true rfl) dX7_value_28 (fun r τ2 hq2 => ?_)
      refine G.goto (tgt := 36) (by decide) dX7_value_31 ?_
      exact G.iret rfl (by unfold sp_value; first | (rw [if_pos ⟨h1, h2⟩, xq]; exact ⟨hq2.1, mQ_tr (rdF_Q hr.1) (vF_Q hq2.2)⟩) | (rw [if_neg (fun z => by first | (rw [h1] at z; exact absurd z.1 (by decide)) | exact z.2 h2)]; exact ⟨rfl, rdF_Q hr.1⟩)) dX7_value_36
set_option maxHeartbeats 4000000 in
set_option maxRecDepth 100000 in
theorem c_X7_freshBy {ln B : Nat → Nat} (hT : TM σ ln B) (hM : MR σ ln B) {u : Nat} (hu : u < 6) : GM (XM l D cA ad) mX7_freshBy [.ref 0, .int (nI u)] σ (g_ri (fun r τ => r = (if uwhy B (usol ln B 0 15) = 0 ∧ (usol ln B 0 15).1.1 u = none then nI (uMu B (usol ln B 0 15) u) else 0) ∧ vF σ τ)) := by
  refine GM.of (ls := [some (.ref 0), some (.int (nI u))]) (by decide) (Nat.le_of_ble_eq_true rfl) rfl ?_
  refine G.aload_n (k := 0) rfl dX7_freshBy_0 ?_
  refine G.iconst (v := 0) (by decide) dX7_freshBy_1 ?_
  refine G.iconst (v := (-1)) (by decide) dX7_freshBy_2 ?_
  refine G.callVv (c_X7_solving (wm := 15) (k := 0) hT hM bt15 (by decide)) rfl (gci_X7).1 ml_X7_354 im_yX7_solving se_yX7_solving gcl_X7_solving (by decide) rfl rfl (Nat.le_of_ble_eq_true rfl) dX7_freshBy_3 (fun τ hq => ?_)
  have hG := usM_G hT 0 15
  refine G.aload_n (k := 0) rfl dX7_freshBy_6 ?_
  refine G.geti (j := 32) rfl gci_X7 (by decide) rfl fl_X7_335 dX7_freshBy_7 ?_
  refine G.if_ne (tgt := 23) (by decide) dX7_freshBy_10 (fun c_10 => ?_) (fun c_10 => ?_)
  · have hy : ¬ uwhy B (usol ln B 0 15) = 0 := fun e => c_10 ((uw_0 hG hq.1).mpr e)
    refine G.iconst (v := 0) (by decide) dX7_freshBy_23 ?_
    refine G.goto (tgt := 33) (by decide) dX7_freshBy_24 ?_
    exact G.iret rfl (by first | (rw [if_pos ⟨hy, hn⟩]; exact ⟨rfl, gF_v hq.2⟩) | (rw [if_neg (fun z => by first | exact hy z.1 | exact hn z.2)]; exact ⟨rfl, gF_v hq.2⟩)) dX7_freshBy_33
  · have hy : uwhy B (usol ln B 0 15) = 0 := (uw_0 hG hq.1).mp c_10
    refine G.aload_n (k := 0) rfl dX7_freshBy_13 ?_
    refine G.getr (j := 19) rfl gci_X7 (by decide) rfl fl_X7_55 dX7_freshBy_14 ?_
    refine G.iload_n (k := 1) rfl dX7_freshBy_17 ?_
    refine G.ialdN (k := u) rfl (rfl) (hu) (by decide) dX7_freshBy_18 ?_
    rw [(hq.1.1 u hu).1]
    refine G.iconst (v := (-1)) (by decide) dX7_freshBy_19 ?_
    refine G.icmp_eq (tgt := 27) (by decide) dX7_freshBy_20 (fun c_20 => ?_) (fun c_20 => ?_)
    · have hn := (vp_m1 hG.1 u).mp c_20
      refine G.aload_n (k := 0) rfl dX7_freshBy_27 ?_
      refine G.getr (j := 22) rfl gci_X7 (by decide) rfl fl_X7_64 dX7_freshBy_28 ?_
      refine G.iload_n (k := 1) rfl dX7_freshBy_31 ?_
      refine G.ialdN (k := u) rfl (rfl) (hu) (by decide) dX7_freshBy_32 ?_
      rw [hq.1.2.2.2.2 (uw_y hy) u hu]
      exact G.iret rfl (by first | (rw [if_pos ⟨hy, hn⟩]; exact ⟨rfl, gF_v hq.2⟩) | (rw [if_neg (fun z => by first | exact hy z.1 | exact hn z.2)]; exact ⟨rfl, gF_v hq.2⟩)) dX7_freshBy_33
    · have hn : ¬ (usol ln B 0 15).1.1 u = none := fun e => c_20 ((vp_m1 hG.1 u).mpr e)
      refine G.iconst (v := 0) (by decide) dX7_freshBy_23 ?_
      refine G.goto (tgt := 33) (by decide) dX7_freshBy_24 ?_
      exact G.iret rfl (by first | (rw [if_pos ⟨hy, hn⟩]; exact ⟨rfl, gF_v hq.2⟩) | (rw [if_neg (fun z => by first | exact hy z.1 | exact hn z.2)]; exact ⟨rfl, gF_v hq.2⟩)) dX7_freshBy_33
set_option maxHeartbeats 4000000 in
set_option maxRecDepth 100000 in
theorem c_X7_fresh {ln B : Nat → Nat} {u : Int32} (hT : TM σ ln B) : GM (XM l D cA ad) mX7_fresh [.ref 0, .int u] σ (g_ri (fun r τ => r = sp_fresh ln B u ∧ mQ σ τ)) := by
  refine GM.of (ls := [some (.ref 0), some (.int u)]) (by decide) (Nat.le_of_ble_eq_true rfl) rfl ?_
  refine G.aload_n (k := 0) rfl dX7_fresh_0 ?_
  refine G.callVv (c_X7_readsAll hT) rfl (gci_X7).1 ml_X7_271 im_yX7_readsAll se_yX7_readsAll gcl_X7_readsAll (by decide) rfl rfl (Nat.le_of_ble_eq_true rfl) dX7_fresh_1 (fun τ hr => ?_)
  have hT1 := TM_rd hr.1 hT
  refine G.iload_n (k := 1) rfl dX7_fresh_4 ?_
  refine G.callSif (c_X7_isName) ml_X7_185 ws_yX7_isName gcl_X7_isName (by decide) rfl rfl (Nat.le_of_ble_eq_true rfl) dX7_fresh_5 ?_
  refine G.if_eq (tgt := 19) (by decide) dX7_fresh_8 (fun c_8 => ?_) (fun c_8 => ?_)
  · have h1 := in_f 5 (by decide) c_8
    refine G.bipush (v := (-2)) (by decide) dX7_fresh_19 ?_
    exact G.iret rfl (by unfold sp_fresh; first | (rw [if_pos h1, xq]; exact ⟨hq2.1, mQ_tr (rdF_Q hr.1) (vF_Q hq2.2)⟩) | (rw [if_neg (by simp [h1])]; exact ⟨rfl, rdF_Q hr.1⟩)) dX7_fresh_21
  · have h1 := in_t 5 (by decide) c_8
    obtain ⟨q, hq, eq⟩ := inB_of (by decide) h1
    subst eq
    have xq : ix (nI q) = q := ix_nI (by omega)
    refine G.aload_n (k := 0) rfl dX7_fresh_11 ?_
    refine G.iload_n (k := 1) rfl dX7_fresh_12 ?_
    refine G.callVi (c_X7_freshBy hT1 hr.2 hq) rfl (gci_X7).1 ml_X7_371 im_yX7_freshBy se_yX7_freshBy gcl_X7_freshBy (by decide) rfl rfl (Nat.le_of_ble_eq_true rfl) dX7_fresh_13 (fun r τ2 hq2 => ?_)
    refine G.goto (tgt := 21) (by decide) dX7_fresh_16 ?_
    exact G.iret rfl (by unfold sp_fresh; first | (rw [if_pos h1, xq]; exact ⟨hq2.1, mQ_tr (rdF_Q hr.1) (vF_Q hq2.2)⟩) | (rw [if_neg (by simp [h1])]; exact ⟨rfl, rdF_Q hr.1⟩)) dX7_fresh_21
theorem and_m1 (x : Int32) : x &&& (-1) = x := Int32.toBitVec_inj.mp (BitVec.and_allOnes (x := x.toBitVec))
set_option maxHeartbeats 4000000 in
set_option maxRecDepth 100000 in
theorem l_X7_needsBy {P : Int32 → gS → Prop} {ln B : Nat → Nat} {V : uV} {x1 : Int32} {b : Nat} (hV : VG B ln V) (hv : VM σ B V) (hb : b < 64) (hQ : P (nI (flt V b 6)) σ) : ∀ j n, n + j = 6 → G (XM l D cA ad) mX7_needsBy (g_ri P) 44 [some (.ref 0), some (.int x1), some (.int (nI (flt V b n))), some (.int (nI n))] [] σ := by
  intro j
  induction j with
  | zero =>
    intro n hj
    have hn : n = 6 := by omega
    subst hn
    refine G.iload_n (k := 3) rfl dX7_needsBy_44 ?_
    refine G.bipush (v := 6) (by decide) dX7_needsBy_45 ?_
    refine G.icmp_ge (tgt := 78) (by decide) dX7_needsBy_47 (fun c_47 => ?_) (fun c_47 => absurd (by decide) c_47)
    refine G.iload_n (k := 2) rfl dX7_needsBy_78 ?_
    exact G.iret rfl (hQ) dX7_needsBy_79
  | succ j ih =>
    intro n hj
    have hlt := flt_lt (V := V) hb n (by omega)
    refine G.iload_n (k := 3) rfl dX7_needsBy_44 ?_
    refine G.bipush (v := 6) (by decide) dX7_needsBy_45 ?_
    refine G.icmp_ge (tgt := 78) (by decide) dX7_needsBy_47 (fun c_47 => absurd c_47 (nI_ge (b := 6) (by omega) (by decide))) (fun c_47 => ?_)
    refine G.iload_n (k := 2) rfl dX7_needsBy_50 ?_
    refine G.aload_n (k := 0) rfl dX7_needsBy_51 ?_
    refine G.getr (j := 19) rfl gci_X7 (by decide) rfl fl_X7_55 dX7_needsBy_52 ?_
    refine G.iload_n (k := 3) rfl dX7_needsBy_55 ?_
    refine G.ialdN (k := n) rfl (rfl) (by omega) (by decide) dX7_needsBy_56 ?_
    rw [(hv n (by omega)).1]
    refine G.iconst (v := (-1)) (by decide) dX7_needsBy_57 ?_
    refine G.icmp_ne (tgt := 65) (by decide) dX7_needsBy_58 (fun c_58 => ?_) (fun c_58 => ?_)
    · have hs : nI (flt V b n) &&& ((1 : Int32) <<< (nI n &&& 31) ^^^ (-1)) = nI (flt V b (n + 1)) := by
        rw [flt, if_neg (fun e => c_58 ((vp_m1 hV n).mpr e))]
        exact mdel_j _ hlt n (by omega)
      refine G.iconst (v := 1) (by decide) dX7_needsBy_65 ?_
      refine G.iload_n (k := 3) rfl dX7_needsBy_66 ?_
      refine G.ishl dX7_needsBy_67 ?_
      refine G.iconst (v := (-1)) (by decide) dX7_needsBy_68 ?_
      refine G.ixor dX7_needsBy_69 ?_
      refine G.iand dX7_needsBy_70 ?_
      rw [hs]
      refine G.ist2 (by decide) rfl dX7_needsBy_71 ?_
      refine G.inc3 (d := 1) (by decide) (by decide) rfl dX7_needsBy_72 ?_
      refine G.goto (tgt := 44) (by decide) dX7_needsBy_75 ?_
      rw [nI_1]
      exact ih (n + 1) (by omega)
    · have hs : nI (flt V b n) &&& (-1) = nI (flt V b (n + 1)) := by
        rw [flt, if_pos ((vp_m1 hV n).mp c_58)]
        exact and_m1 _
      refine G.iconst (v := (-1)) (by decide) dX7_needsBy_61 ?_
      refine G.goto (tgt := 70) (by decide) dX7_needsBy_62 ?_
      refine G.iand dX7_needsBy_70 ?_
      rw [hs]
      refine G.ist2 (by decide) rfl dX7_needsBy_71 ?_
      refine G.inc3 (d := 1) (by decide) (by decide) rfl dX7_needsBy_72 ?_
      refine G.goto (tgt := 44) (by decide) dX7_needsBy_75 ?_
      rw [nI_1]
      exact ih (n + 1) (by omega)
set_option maxHeartbeats 4000000 in
set_option maxRecDepth 100000 in
theorem c_X7_needsBy {ln B : Nat → Nat} (hT : TM σ ln B) (hM : MR σ ln B) {u : Nat} (hu : u < 6) : GM (XM l D cA ad) mX7_needsBy [.ref 0, .int (nI u)] σ (g_ri (fun r τ => r = (if uwhy B (usol ln B 0 15) = 0 then nI (opn B (usol ln B 0 15).1.1 u) else 0) ∧ vF σ τ)) := by
  refine GM.of (ls := [some (.ref 0), some (.int (nI u)), none, none]) (by decide) (Nat.le_of_ble_eq_true rfl) rfl ?_
  refine G.aload_n (k := 0) rfl dX7_needsBy_0 ?_
  refine G.iconst (v := 0) (by decide) dX7_needsBy_1 ?_
  refine G.iconst (v := (-1)) (by decide) dX7_needsBy_2 ?_
  refine G.callVv (c_X7_solving (wm := 15) (k := 0) hT hM bt15 (by decide)) rfl (gci_X7).1 ml_X7_354 im_yX7_solving se_yX7_solving gcl_X7_solving (by decide) rfl rfl (Nat.le_of_ble_eq_true rfl) dX7_needsBy_3 (fun τ hq => ?_)
  have hG := usM_G hT 0 15
  refine G.aload_n (k := 0) rfl dX7_needsBy_6 ?_
  refine G.geti (j := 32) rfl gci_X7 (by decide) rfl fl_X7_335 dX7_needsBy_7 ?_
  refine G.if_eq (tgt := 15) (by decide) dX7_needsBy_10 (fun c_10 => ?_) (fun c_10 => ?_)
  · have hy : uwhy B (usol ln B 0 15) = 0 := (uw_0 hG hq.1).mp c_10
    refine G.aload_n (k := 0) rfl dX7_needsBy_15 ?_
    refine G.getr (j := 19) rfl gci_X7 (by decide) rfl fl_X7_55 dX7_needsBy_16 ?_
    refine G.iload_n (k := 1) rfl dX7_needsBy_19 ?_
    refine G.ialdN (k := u) rfl (rfl) (hu) (by decide) dX7_needsBy_20 ?_
    rw [(hq.1.1 u hu).1]
    refine G.iconst (v := (-1)) (by decide) dX7_needsBy_21 ?_
    refine G.icmp_ne (tgt := 31) (by decide) dX7_needsBy_22 (fun c_22 => ?_) (fun c_22 => ?_)
    · obtain ⟨q, hq3⟩ : ∃ q, (usol ln B 0 15).1.1 u = some q := by
        cases e : (usol ln B 0 15).1.1 u with
        | none => exact absurd ((vp_m1 hG.1 u).mpr e) c_22
        | some q => exact ⟨q, rfl⟩
      have hqn := hG.1 _ _ hq3
      have hvp : vp B (usol ln B 0 15).1.1 u = nI (pN B q.1) := by rw [vp, hq3]
      refine G.aload_n (k := 0) rfl dX7_needsBy_31 ?_
      refine G.aload_n (k := 0) rfl dX7_needsBy_32 ?_
      refine G.getr (j := 19) rfl gci_X7 (by decide) rfl fl_X7_55 dX7_needsBy_33 ?_
      refine G.iload_n (k := 1) rfl dX7_needsBy_36 ?_
      refine G.ialdN (k := u) rfl (rfl) (hu) (by decide) dX7_needsBy_37 ?_
      rw [(hq.1.1 u hu).1, hvp]
      refine G.callVif (c_X7_all (fun g hg => PrM_F (fun k a b => hq.2.1 k (by omega) (by omega)) (MR_nd hM hg)) hG.1 hq.1.1 hqn.2.1) rfl (gci_X7).1 ml_X7_329 im_yX7_all se_yX7_all gcl_X7_all (by decide) rfl rfl (Nat.le_of_ble_eq_true rfl) dX7_needsBy_38 ?_
      refine G.ist2 (by decide) rfl dX7_needsBy_41 ?_
      refine G.iconst (v := 0) (by decide) dX7_needsBy_42 ?_
      refine G.ist3 (by decide) rfl dX7_needsBy_43 ?_
      first
      | (refine l_X7_needsBy hG.1 hq.1.1 (sh1_u u hu).2 ?_ 6 0 rfl
         show nI (flt (usol ln B 0 15).1.1 (2 ^ u) 6) = _ ∧ vF σ τ
         rw [if_pos hy]
         exact ⟨opn_flt hG.1 hu (sh1_u u hu).2 (fun w hw _ => by rw [rch_none hu hn, Nat.testBit_two_pow, decide_eq_true_iff]; exact ⟨fun e => e.symm, fun e => e.symm⟩), gF_v hq.2⟩)
      | (have hm := (me_b _ hqn.2.1).2.1
         have hclo := rks_clo hG.1 hm
         refine l_X7_needsBy hG.1 hq.1.1 hclo.1 ?_ 6 0 rfl
         show nI (flt (usol ln B 0 15).1.1 (rks B (usol ln B 0 15).1.1 (tuk B q.1) 6) 6) = _ ∧ vF σ τ
         rw [if_pos hy]
         exact ⟨opn_flt hG.1 hu hclo.1 (fun w hw hwn => by rw [isClo_iff hclo hw, rch_some hG.1 hu hw hq3]; exact ⟨Or.inr, fun z => z.resolve_left (fun e => by rw [e, hq3] at hwn; cases hwn)⟩), gF_v hq.2⟩)
    · have hn := (vp_m1 hG.1 u).mp c_22
      refine G.iconst (v := 1) (by decide) dX7_needsBy_25 ?_
      refine G.iload_n (k := 1) rfl dX7_needsBy_26 ?_
      refine G.ishl dX7_needsBy_27 ?_
      rw [(sh1_u u hu).1]
      refine G.goto (tgt := 41) (by decide) dX7_needsBy_28 ?_
      refine G.ist2 (by decide) rfl dX7_needsBy_41 ?_
      refine G.iconst (v := 0) (by decide) dX7_needsBy_42 ?_
      refine G.ist3 (by decide) rfl dX7_needsBy_43 ?_
      first
      | (refine l_X7_needsBy hG.1 hq.1.1 (sh1_u u hu).2 ?_ 6 0 rfl
         show nI (flt (usol ln B 0 15).1.1 (2 ^ u) 6) = _ ∧ vF σ τ
         rw [if_pos hy]
         exact ⟨opn_flt hG.1 hu (sh1_u u hu).2 (fun w hw _ => by rw [rch_none hu hn, Nat.testBit_two_pow, decide_eq_true_iff]; exact ⟨fun e => e.symm, fun e => e.symm⟩), gF_v hq.2⟩)
      | (have hm := (me_b _ hqn.2.1).2.1
         have hclo := rks_clo hG.1 hm
         refine l_X7_needsBy hG.1 hq.1.1 hclo.1 ?_ 6 0 rfl
         show nI (flt (usol ln B 0 15).1.1 (rks B (usol ln B 0 15).1.1 (tuk B q.1) 6) 6) = _ ∧ vF σ τ
         rw [if_pos hy]
         exact ⟨opn_flt hG.1 hu hclo.1 (fun w hw hwn => by rw [isClo_iff hclo hw, rch_some hG.1 hu hw hq3]; exact ⟨Or.inr, fun z => z.resolve_left (fun e => by rw [e, hq3] at hwn; cases hwn)⟩), gF_v hq.2⟩)
  · have hy : ¬ uwhy B (usol ln B 0 15) = 0 := fun e => c_10 ((uw_0 hG hq.1).mpr e)
    refine G.iconst (v := 0) (by decide) dX7_needsBy_13 ?_
    exact G.iret rfl (by rw [if_neg hy]; exact ⟨rfl, gF_v hq.2⟩) dX7_needsBy_14
set_option maxHeartbeats 4000000 in
set_option maxRecDepth 100000 in
theorem c_X7_needs {ln B : Nat → Nat} {u : Int32} (hT : TM σ ln B) : GM (XM l D cA ad) mX7_needs [.ref 0, .int u] σ (g_ri (fun r τ => r = sp_needs ln B u ∧ mQ σ τ)) := by
  refine GM.of (ls := [some (.ref 0), some (.int u)]) (by decide) (Nat.le_of_ble_eq_true rfl) rfl ?_
  refine G.aload_n (k := 0) rfl dX7_needs_0 ?_
  refine G.callVv (c_X7_readsAll hT) rfl (gci_X7).1 ml_X7_271 im_yX7_readsAll se_yX7_readsAll gcl_X7_readsAll (by decide) rfl rfl (Nat.le_of_ble_eq_true rfl) dX7_needs_1 (fun τ hr => ?_)
  have hT1 := TM_rd hr.1 hT
  refine G.iload_n (k := 1) rfl dX7_needs_4 ?_
  refine G.callSif (c_X7_isName) ml_X7_185 ws_yX7_isName gcl_X7_isName (by decide) rfl rfl (Nat.le_of_ble_eq_true rfl) dX7_needs_5 ?_
  refine G.if_eq (tgt := 19) (by decide) dX7_needs_8 (fun c_8 => ?_) (fun c_8 => ?_)
  · have h1 := in_f 5 (by decide) c_8
    refine G.bipush (v := (-2)) (by decide) dX7_needs_19 ?_
    exact G.iret rfl (by unfold sp_needs; first | (rw [if_pos h1, xq]; exact ⟨hq2.1, mQ_tr (rdF_Q hr.1) (vF_Q hq2.2)⟩) | (rw [if_neg (by simp [h1])]; exact ⟨rfl, rdF_Q hr.1⟩)) dX7_needs_21
  · have h1 := in_t 5 (by decide) c_8
    obtain ⟨q, hq, eq⟩ := inB_of (by decide) h1
    subst eq
    have xq : ix (nI q) = q := ix_nI (by omega)
    refine G.aload_n (k := 0) rfl dX7_needs_11 ?_
    refine G.iload_n (k := 1) rfl dX7_needs_12 ?_
    refine G.callVi (c_X7_needsBy hT1 hr.2 hq) rfl (gci_X7).1 ml_X7_374 im_yX7_needsBy se_yX7_needsBy gcl_X7_needsBy (by decide) rfl rfl (Nat.le_of_ble_eq_true rfl) dX7_needs_13 (fun r τ2 hq2 => ?_)
    refine G.goto (tgt := 21) (by decide) dX7_needs_16 ?_
    exact G.iret rfl (by unfold sp_needs; first | (rw [if_pos h1, xq]; exact ⟨hq2.1, mQ_tr (rdF_Q hr.1) (vF_Q hq2.2)⟩) | (rw [if_neg (by simp [h1])]; exact ⟨rfl, rdF_Q hr.1⟩)) dX7_needs_21
end TA1

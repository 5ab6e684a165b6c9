/-! ===== lines that are shown ===== -/
section T66
variable {l : Launch} {D : va_G} {cA : ClassId} {ad : Nat → Nat}
variable {σ : gS}
set_option maxHeartbeats 4000000 in
set_option maxRecDepth 100000 in
theorem c_X6_shows {ln B : Nat → Nat} (h : IX σ ln B) {i : Int32} : GM (XC l D cA ad) mX6_shows [.ref 0, .int i] σ (g_ri (aQ σ ln B (sp_shows ln B i))) := by
  refine GM.of (ls := [some (.ref 0), some (.int i)]) (by decide) (Nat.le_of_ble_eq_true rfl) rfl ?_
  refine G.iload_n (k := 1) rfl dX6_shows_0 ?_
  refine G.callSif (c_X6_isNoPlace) ml_X6_139 ws_yX6_isNoPlace gcl_X6_isNoPlace (by decide) rfl rfl (Nat.le_of_ble_eq_true rfl) dX6_shows_1 ?_
  refine G.if_eq (tgt := 10) (by decide) dX6_shows_4 (fun c_4 => ?_) (fun c_4 => ?_)
  · have h1 : ¬ (i < -1 ∨ 60 ≤ i) := bo_0.mp c_4
    have hP := IX_ttP h
    refine G.aload_n (k := 0) rfl dX6_shows_10 ?_
    refine G.getr (j := 11) rfl gci_X6 (by decide) rfl fl_X6_44 dX6_shows_11 ?_
    refine G.iconst (v := 0) (by decide) dX6_shows_14 ?_
    refine G.callVi (c_X0_isToShow lnA_39) rfl (gci_X0).1 ml_X6_142 im_yX0_isToShow se_yX0_isToShow gcl_X0_isToShow (by decide) rfl rfl (Nat.le_of_ble_eq_true rfl) dX6_shows_15 (fun r τ hr => ?_)
    by_cases hh : σ 39 2 = 0
    · rw [if_pos hh] at hr
      obtain ⟨e1, e2⟩ := Prod.mk.inj hr
      subst e1
      rw [e2]
      refine G.if_eq (tgt := 35) (by decide) dX6_shows_18 (fun c_18 => ?_) (fun c_18 => absurd rfl c_18)
      refine G.aload_n (k := 0) rfl dX6_shows_35 ?_
      refine G.getr (j := 11) rfl gci_X6 (by decide) rfl fl_X6_44 dX6_shows_36 ?_
      refine G.iload_n (k := 1) rfl dX6_shows_39 ?_
      refine G.callVif (c_X0_tell lnA_39 (cL_hit (t := 0) (by decide) (by decide) h.2.2.2.2.2.2.2.1 hh)) rfl (gci_X0).1 ml_X6_148 im_yX0_tell se_yX0_tell gcl_X0_tell (by decide) rfl rfl (Nat.le_of_ble_eq_true rfl) dX6_shows_40 ?_
      exact G.iret rfl (by unfold aQ sp_shows; rw [if_neg h1]; exact ⟨rfl, h, qF_rf _⟩) dX6_shows_43
    · rw [if_neg hh] at hr
      obtain ⟨e1, e2⟩ := Prod.mk.inj hr
      subst e1 e2
      refine G.if_eq (tgt := 35) (by decide) dX6_shows_18 (fun c_18 => absurd c_18 (by decide)) (fun c_18 => ?_)
      refine G.aload_n (k := 0) rfl dX6_shows_21 ?_
      refine G.getr (j := 11) rfl gci_X6 (by decide) rfl fl_X6_44 dX6_shows_22 ?_
      refine G.aload_n (k := 0) rfl dX6_shows_25 ?_
      refine G.getr (j := 0) rfl gci_X6 (by decide) rfl fl_X6_50 dX6_shows_26 ?_
      refine G.getiN (j := 10) rfl gci_X4 (by decide) rfl (fun _ h => h.1) dX6_shows_29 ?_
      rw [up_nb (show (1 : Nat) ≠ 39 by decide), IX_tt h]
      refine G.callVv (c_X0_putTurn lnA_39 hP (LnH_0 σ 39 0)) rfl (gci_X0).1 ml_X6_145 im_yX0_putTurn se_yX0_putTurn gcl_X0_putTurn (by decide) rfl rfl (Nat.le_of_ble_eq_true rfl) dX6_shows_32 (fun υ hu => ?_)
      refine G.aload_n (k := 0) rfl dX6_shows_35 ?_
      refine G.getr (j := 11) rfl gci_X6 (by decide) rfl fl_X6_44 dX6_shows_36 ?_
      refine G.iload_n (k := 1) rfl dX6_shows_39 ?_
      refine G.callVif (c_X0_tell lnA_39 hu.1) rfl (gci_X0).1 ml_X6_148 im_yX0_tell se_yX0_tell gcl_X0_tell (by decide) rfl rfl (Nat.le_of_ble_eq_true rfl) dX6_shows_40 ?_
      exact G.iret rfl (by unfold aQ sp_shows; rw [if_neg h1]; exact ⟨rfl, IX_ln3 (b := 39) (by decide) (fun k a b _ => (hu.2.1 k a b).trans (up_nb a)) h (fun e => absurd e (by decide)) (fun e => absurd e (by decide)) (fun e => absurd e (by decide)) (fun _ => Or.inr ⟨0, by decide, (hu.2.2 2 (by decide)).trans up_h2, hu.1⟩)⟩) dX6_shows_43
  · have h1 : i < -1 ∨ 60 ≤ i := bo_n.mp c_4
    refine G.bipush (v := (-2)) (by decide) dX6_shows_7 ?_
    exact G.iret rfl (by unfold aQ sp_shows; rw [if_pos h1]; exact ⟨rfl, h, qF_rf _⟩) dX6_shows_9
set_option maxHeartbeats 4000000 in
set_option maxRecDepth 100000 in
theorem c_X6_shown {ln B : Nat → Nat} (h : IX σ ln B) {t i : Int32} : GM (XC l D cA ad) mX6_shown [.ref 0, .int t, .int i] σ (g_ri (aQ σ ln B (sp_shown ln B tn_id t i))) := by
  refine GM.of (ls := [some (.ref 0), some (.int t), some (.int i)]) (by decide) (Nat.le_of_ble_eq_true rfl) rfl ?_
  refine G.iload_n (k := 1) rfl dX6_shown_0 ?_
  refine G.bipush (v := 8) (by decide) dX6_shown_1 ?_
  refine G.callSif (c_X6_isOutside) ml_X6_72 ws_yX6_isOutside gcl_X6_isOutside (by decide) rfl rfl (Nat.le_of_ble_eq_true rfl) dX6_shown_3 ?_
  refine G.if_ne (tgt := 16) (by decide) dX6_shown_6 (fun c_6 => ?_) (fun c_6 => ?_)
  · have h1 := ou_t 8 (by decide) c_6
    refine G.bipush (v := (-2)) (by decide) dX6_shown_16 ?_
    exact G.iret rfl (by unfold aQ sp_shown; rw [if_neg (by first | (rw [h1]; simp; done) | exact fun z => z.2 h2)]; exact ⟨rfl, h, qF_rf _⟩) dX6_shown_18
  · have h1 := ou_f 8 (by decide) c_6
    refine G.iload_n (k := 2) rfl dX6_shown_9 ?_
    refine G.callSif (c_X6_isNoPlace) ml_X6_139 ws_yX6_isNoPlace gcl_X6_isNoPlace (by decide) rfl rfl (Nat.le_of_ble_eq_true rfl) dX6_shown_10 ?_
    refine G.if_eq (tgt := 19) (by decide) dX6_shown_13 (fun c_13 => ?_) (fun c_13 => ?_)
    · have h2 : ¬ (i < -1 ∨ 60 ≤ i) := bo_0.mp c_13
      obtain ⟨q, hq, eq⟩ := inB_of (by decide) h1
      subst eq
      have xq : ix (nI q) = q := ix_nI (by omega)
      have hP := IX_ttP h
      refine G.aload_n (k := 0) rfl dX6_shown_19 ?_
      refine G.getr (j := 8) rfl gci_X6 (by decide) rfl fl_X6_34 dX6_shown_20 ?_
      refine G.iload_n (k := 1) rfl dX6_shown_23 ?_
      refine G.callVi (c_X0_isToShow lnA_30) rfl (gci_X0).1 ml_X6_142 im_yX0_isToShow se_yX0_isToShow gcl_X0_isToShow (by decide) rfl rfl (Nat.le_of_ble_eq_true rfl) dX6_shown_24 (fun r τ hr => ?_)
      by_cases hh : σ 30 2 = nI q
      · rw [if_pos hh] at hr
        obtain ⟨e1, e2⟩ := Prod.mk.inj hr
        subst e1
        rw [e2]
        refine G.if_eq (tgt := 65) (by decide) dX6_shown_27 (fun c_27 => ?_) (fun c_27 => absurd rfl c_27)
        refine G.aload_n (k := 0) rfl dX6_shown_65 ?_
        refine G.getr (j := 8) rfl gci_X6 (by decide) rfl fl_X6_34 dX6_shown_66 ?_
        refine G.iload_n (k := 2) rfl dX6_shown_69 ?_
        refine G.callVif (c_X0_tell lnA_30 (cL_hit (by decide) hq h.2.2.2.2.1 hh)) rfl (gci_X0).1 ml_X6_148 im_yX0_tell se_yX0_tell gcl_X0_tell (by decide) rfl rfl (Nat.le_of_ble_eq_true rfl) dX6_shown_70 ?_
        exact G.iret rfl (by unfold aQ sp_shown; rw [if_pos ⟨h1, h2⟩, xq]; exact ⟨rfl, h, qF_rf _⟩) dX6_shown_73
      · rw [if_neg hh] at hr
        obtain ⟨e1, e2⟩ := Prod.mk.inj hr
        subst e1 e2
        refine G.if_eq (tgt := 65) (by decide) dX6_shown_27 (fun c_27 => absurd c_27 (by decide)) (fun c_27 => ?_)
        have hF : txF σ (up2 (up2 σ 30 2 (nI q)) 30 1 0) := fun k _ b => up_nb (by omega)
        have ew : wlB (up2 (up2 σ 30 2 (nI q)) 30 1 0) q = wlA ln B q := by rw [wlB_F hF]; exact IX_wl h hq
        refine G.aload_n (k := 0) rfl dX6_shown_30 ?_
        refine G.getr (j := 0) rfl gci_X6 (by decide) rfl fl_X6_50 dX6_shown_31 ?_
        refine G.iload_n (k := 1) rfl dX6_shown_34 ?_
        refine G.callVif (c_X4_isWell (t := q) (by omega)) rfl (gci_X4).1 ml_X6_151 im_yX4_isWell se_yX4_isWell gcl_X4_isWell (by decide) rfl rfl (Nat.le_of_ble_eq_true rfl) dX6_shown_35 ?_
        rw [ew]
        refine G.if_eq (tgt := 65) (by decide) dX6_shown_38 (fun c_38 => ?_) (fun c_38 => ?_)
        · have hw := bo_0.mp c_38
          have eS : shT ln B q tn_id = [] := by unfold shT; rw [if_neg hw]
          have hL : LnH (up2 (up2 σ 30 2 (nI q)) 30 1 0) 30 (shT ln B q tn_id) := by rw [eS]; exact LnH_0 σ 30 _
          have hJ := IX_ln3 (b := 30) (by decide) (fun k a _ _ => up_nb a) h (fun _ => Or.inr ⟨q, hq, up_h2, hL⟩) (fun e => absurd e (by decide)) (fun e => absurd e (by decide)) (fun e => absurd e (by decide))
          refine G.aload_n (k := 0) rfl dX6_shown_65 ?_
          refine G.getr (j := 8) rfl gci_X6 (by decide) rfl fl_X6_34 dX6_shown_66 ?_
          refine G.iload_n (k := 2) rfl dX6_shown_69 ?_
          refine G.callVif (c_X0_tell lnA_30 hL) rfl (gci_X0).1 ml_X6_148 im_yX0_tell se_yX0_tell gcl_X0_tell (by decide) rfl rfl (Nat.le_of_ble_eq_true rfl) dX6_shown_70 ?_
          exact G.iret rfl (by unfold aQ sp_shown; rw [if_pos ⟨h1, h2⟩, xq]; exact ⟨rfl, hJ⟩) dX6_shown_73
        · have hw := bo_n.mp c_38
          have hn := IX_nd h hq hw
          have eS : shT ln B q tn_id = (ush B (fun _ => none) 60 [(30 * q, tn_id)]).take 60 := by unfold shT; rw [if_pos hw]
          have hv : ∀ u, u < 6 → up2 (up2 σ 30 2 (nI q)) 30 1 0 29 u = vrow (fun _ => none) u := fun u hu => by rw [up_nb (show (29 : Nat) ≠ 30 by decide)]; exact h.2.2.2.2.2.2.2.2 u hu
          refine G.aload_n (k := 0) rfl dX6_shown_41 ?_
          refine G.getr (j := 8) rfl gci_X6 (by decide) rfl fl_X6_34 dX6_shown_42 ?_
          refine G.aload_n (k := 0) rfl dX6_shown_45 ?_
          refine G.getr (j := 0) rfl gci_X6 (by decide) rfl fl_X6_50 dX6_shown_46 ?_
          refine G.aload_n (k := 0) rfl dX6_shown_49 ?_
          refine G.getr (j := 7) rfl gci_X6 (by decide) rfl fl_X6_28 dX6_shown_50 ?_
          refine G.iload_n (k := 1) rfl dX6_shown_53 ?_
          refine G.bipush (v := 30) (by decide) dX6_shown_54 ?_
          refine G.imul dX6_shown_56 ?_
          rw [show nI q * 30 = nI (30 * q) by rw [show (30 : Int32) = nI 30 from rfl, nu_mul]; exact congrArg nI (by omega)]
          refine G.ldc ct_X6_124 dX6_shown_57 ?_
          refine G.callSif (c_X3_make (n := 30 * q) (c := 181896) (by decide)) ml_X6_157 ws_yX3_make gcl_X3_make (by decide) rfl rfl (Nat.le_of_ble_eq_true rfl) dX6_shown_59 ?_
          refine G.callVv (c_X0_putTerm lnA_30 (q := (30 * q, tn_id)) (tx3_F hF (IX_tx h)) (VG_no B ln) (rkd_no B) (v := 29) rfl (by decide) hv hn tn_P_id (LnH_0 σ 30 _)) rfl (gci_X0).1 ml_X6_162 im_yX0_putTerm se_yX0_putTerm gcl_X0_putTerm (by decide) rfl rfl (Nat.le_of_ble_eq_true rfl) dX6_shown_62 (fun υ hu => ?_)
          have hL : LnH υ 30 (shT ln B q tn_id) := by rw [eS]; exact hu.1
          have hJ := IX_ln3 (b := 30) (by decide) (fun k a b c => (hu.2.1 k a b c).trans (up_nb a)) h (fun _ => Or.inr ⟨q, hq, (hu.2.2 2 (by decide) (by decide)).trans up_h2, hL⟩) (fun e => absurd e (by decide)) (fun e => absurd e (by decide)) (fun e => absurd e (by decide))
          refine G.aload_n (k := 0) rfl dX6_shown_65 ?_
          refine G.getr (j := 8) rfl gci_X6 (by decide) rfl fl_X6_34 dX6_shown_66 ?_
          refine G.iload_n (k := 2) rfl dX6_shown_69 ?_
          refine G.callVif (c_X0_tell lnA_30 hL) rfl (gci_X0).1 ml_X6_148 im_yX0_tell se_yX0_tell gcl_X0_tell (by decide) rfl rfl (Nat.le_of_ble_eq_true rfl) dX6_shown_70 ?_
          exact G.iret rfl (by unfold aQ sp_shown; rw [if_pos ⟨h1, h2⟩, xq]; exact ⟨rfl, hJ⟩) dX6_shown_73
    · have h2 : i < -1 ∨ 60 ≤ i := bo_n.mp c_13
      refine G.bipush (v := (-2)) (by decide) dX6_shown_16 ?_
      exact G.iret rfl (by unfold aQ sp_shown; rw [if_neg (by first | (rw [h1]; simp; done) | exact fun z => z.2 h2)]; exact ⟨rfl, h, qF_rf _⟩) dX6_shown_18
set_option maxHeartbeats 4000000 in
set_option maxRecDepth 100000 in
theorem c_X6_turned {ln B : Nat → Nat} (h : IX σ ln B) {t i : Int32} : GM (XC l D cA ad) mX6_turned [.ref 0, .int t, .int i] σ (g_ri (aQ σ ln B (sp_shown ln B (ttA ln B) t i))) := by
  refine GM.of (ls := [some (.ref 0), some (.int t), some (.int i)]) (by decide) (Nat.le_of_ble_eq_true rfl) rfl ?_
  refine G.iload_n (k := 1) rfl dX6_turned_0 ?_
  refine G.bipush (v := 8) (by decide) dX6_turned_1 ?_
  refine G.callSif (c_X6_isOutside) ml_X6_72 ws_yX6_isOutside gcl_X6_isOutside (by decide) rfl rfl (Nat.le_of_ble_eq_true rfl) dX6_turned_3 ?_
  refine G.if_ne (tgt := 16) (by decide) dX6_turned_6 (fun c_6 => ?_) (fun c_6 => ?_)
  · have h1 := ou_t 8 (by decide) c_6
    refine G.bipush (v := (-2)) (by decide) dX6_turned_16 ?_
    exact G.iret rfl (by unfold aQ sp_shown; rw [if_neg (by first | (rw [h1]; simp; done) | exact fun z => z.2 h2)]; exact ⟨rfl, h, qF_rf _⟩) dX6_turned_18
  · have h1 := ou_f 8 (by decide) c_6
    refine G.iload_n (k := 2) rfl dX6_turned_9 ?_
    refine G.callSif (c_X6_isNoPlace) ml_X6_139 ws_yX6_isNoPlace gcl_X6_isNoPlace (by decide) rfl rfl (Nat.le_of_ble_eq_true rfl) dX6_turned_10 ?_
    refine G.if_eq (tgt := 19) (by decide) dX6_turned_13 (fun c_13 => ?_) (fun c_13 => ?_)
    · have h2 : ¬ (i < -1 ∨ 60 ≤ i) := bo_0.mp c_13
      obtain ⟨q, hq, eq⟩ := inB_of (by decide) h1
      subst eq
      have xq : ix (nI q) = q := ix_nI (by omega)
      have hP := IX_ttP h
      refine G.aload_n (k := 0) rfl dX6_turned_19 ?_
      refine G.getr (j := 9) rfl gci_X6 (by decide) rfl fl_X6_38 dX6_turned_20 ?_
      refine G.iload_n (k := 1) rfl dX6_turned_23 ?_
      refine G.callVi (c_X0_isToShow lnA_33) rfl (gci_X0).1 ml_X6_142 im_yX0_isToShow se_yX0_isToShow gcl_X0_isToShow (by decide) rfl rfl (Nat.le_of_ble_eq_true rfl) dX6_turned_24 (fun r τ hr => ?_)
      by_cases hh : σ 33 2 = nI q
      · rw [if_pos hh] at hr
        obtain ⟨e1, e2⟩ := Prod.mk.inj hr
        subst e1
        rw [e2]
        refine G.if_eq (tgt := 70) (by decide) dX6_turned_27 (fun c_27 => ?_) (fun c_27 => absurd rfl c_27)
        refine G.aload_n (k := 0) rfl dX6_turned_70 ?_
        refine G.getr (j := 9) rfl gci_X6 (by decide) rfl fl_X6_38 dX6_turned_71 ?_
        refine G.iload_n (k := 2) rfl dX6_turned_74 ?_
        refine G.callVif (c_X0_tell lnA_33 (cL_hit (by decide) hq h.2.2.2.2.2.1 hh)) rfl (gci_X0).1 ml_X6_148 im_yX0_tell se_yX0_tell gcl_X0_tell (by decide) rfl rfl (Nat.le_of_ble_eq_true rfl) dX6_turned_75 ?_
        exact G.iret rfl (by unfold aQ sp_shown; rw [if_pos ⟨h1, h2⟩, xq]; exact ⟨rfl, h, qF_rf _⟩) dX6_turned_78
      · rw [if_neg hh] at hr
        obtain ⟨e1, e2⟩ := Prod.mk.inj hr
        subst e1 e2
        refine G.if_eq (tgt := 70) (by decide) dX6_turned_27 (fun c_27 => absurd c_27 (by decide)) (fun c_27 => ?_)
        have hF : txF σ (up2 (up2 σ 33 2 (nI q)) 33 1 0) := fun k _ b => up_nb (by omega)
        have ew : wlB (up2 (up2 σ 33 2 (nI q)) 33 1 0) q = wlA ln B q := by rw [wlB_F hF]; exact IX_wl h hq
        refine G.aload_n (k := 0) rfl dX6_turned_30 ?_
        refine G.getr (j := 0) rfl gci_X6 (by decide) rfl fl_X6_50 dX6_turned_31 ?_
        refine G.iload_n (k := 1) rfl dX6_turned_34 ?_
        refine G.callVif (c_X4_isWell (t := q) (by omega)) rfl (gci_X4).1 ml_X6_151 im_yX4_isWell se_yX4_isWell gcl_X4_isWell (by decide) rfl rfl (Nat.le_of_ble_eq_true rfl) dX6_turned_35 ?_
        rw [ew]
        refine G.if_eq (tgt := 70) (by decide) dX6_turned_38 (fun c_38 => ?_) (fun c_38 => ?_)
        · have hw := bo_0.mp c_38
          have eS : shT ln B q (ttA ln B) = [] := by unfold shT; rw [if_neg hw]
          have hL : LnH (up2 (up2 σ 33 2 (nI q)) 33 1 0) 33 (shT ln B q (ttA ln B)) := by rw [eS]; exact LnH_0 σ 33 _
          have hJ := IX_ln3 (b := 33) (by decide) (fun k a _ _ => up_nb a) h (fun e => absurd e (by decide)) (fun _ => Or.inr ⟨q, hq, up_h2, hL⟩) (fun e => absurd e (by decide)) (fun e => absurd e (by decide))
          refine G.aload_n (k := 0) rfl dX6_turned_70 ?_
          refine G.getr (j := 9) rfl gci_X6 (by decide) rfl fl_X6_38 dX6_turned_71 ?_
          refine G.iload_n (k := 2) rfl dX6_turned_74 ?_
          refine G.callVif (c_X0_tell lnA_33 hL) rfl (gci_X0).1 ml_X6_148 im_yX0_tell se_yX0_tell gcl_X0_tell (by decide) rfl rfl (Nat.le_of_ble_eq_true rfl) dX6_turned_75 ?_
          exact G.iret rfl (by unfold aQ sp_shown; rw [if_pos ⟨h1, h2⟩, xq]; exact ⟨rfl, hJ⟩) dX6_turned_78
        · have hw := bo_n.mp c_38
          have hn := IX_nd h hq hw
          have eS : shT ln B q (ttA ln B) = (ush B (fun _ => none) 60 [(30 * q, (ttA ln B))]).take 60 := by unfold shT; rw [if_pos hw]
          have hv : ∀ u, u < 6 → up2 (up2 σ 33 2 (nI q)) 33 1 0 29 u = vrow (fun _ => none) u := fun u hu => by rw [up_nb (show (29 : Nat) ≠ 33 by decide)]; exact h.2.2.2.2.2.2.2.2 u hu
          refine G.aload_n (k := 0) rfl dX6_turned_41 ?_
          refine G.getr (j := 9) rfl gci_X6 (by decide) rfl fl_X6_38 dX6_turned_42 ?_
          refine G.aload_n (k := 0) rfl dX6_turned_45 ?_
          refine G.getr (j := 0) rfl gci_X6 (by decide) rfl fl_X6_50 dX6_turned_46 ?_
          refine G.aload_n (k := 0) rfl dX6_turned_49 ?_
          refine G.getr (j := 7) rfl gci_X6 (by decide) rfl fl_X6_28 dX6_turned_50 ?_
          refine G.iload_n (k := 1) rfl dX6_turned_53 ?_
          refine G.bipush (v := 30) (by decide) dX6_turned_54 ?_
          refine G.imul dX6_turned_56 ?_
          rw [show nI q * 30 = nI (30 * q) by rw [show (30 : Int32) = nI 30 from rfl, nu_mul]; exact congrArg nI (by omega)]
          refine G.aload_n (k := 0) rfl dX6_turned_57 ?_
          refine G.getr (j := 0) rfl gci_X6 (by decide) rfl fl_X6_50 dX6_turned_58 ?_
          refine G.getiN (j := 10) rfl gci_X4 (by decide) rfl (fun _ h => h.1) dX6_turned_61 ?_
          rw [up_nb (show (1 : Nat) ≠ 33 by decide), IX_tt h]
          refine G.callSif (c_X3_make (n := 30 * q) (c := ttA ln B) hP.1) ml_X6_157 ws_yX3_make gcl_X3_make (by decide) rfl rfl (Nat.le_of_ble_eq_true rfl) dX6_turned_64 ?_
          refine G.callVv (c_X0_putTerm lnA_33 (q := (30 * q, (ttA ln B))) (tx3_F hF (IX_tx h)) (VG_no B ln) (rkd_no B) (v := 29) rfl (by decide) hv hn hP (LnH_0 σ 33 _)) rfl (gci_X0).1 ml_X6_162 im_yX0_putTerm se_yX0_putTerm gcl_X0_putTerm (by decide) rfl rfl (Nat.le_of_ble_eq_true rfl) dX6_turned_67 (fun υ hu => ?_)
          have hL : LnH υ 33 (shT ln B q (ttA ln B)) := by rw [eS]; exact hu.1
          have hJ := IX_ln3 (b := 33) (by decide) (fun k a b c => (hu.2.1 k a b c).trans (up_nb a)) h (fun e => absurd e (by decide)) (fun _ => Or.inr ⟨q, hq, (hu.2.2 2 (by decide) (by decide)).trans up_h2, hL⟩) (fun e => absurd e (by decide)) (fun e => absurd e (by decide))
          refine G.aload_n (k := 0) rfl dX6_turned_70 ?_
          refine G.getr (j := 9) rfl gci_X6 (by decide) rfl fl_X6_38 dX6_turned_71 ?_
          refine G.iload_n (k := 2) rfl dX6_turned_74 ?_
          refine G.callVif (c_X0_tell lnA_33 hL) rfl (gci_X0).1 ml_X6_148 im_yX0_tell se_yX0_tell gcl_X0_tell (by decide) rfl rfl (Nat.le_of_ble_eq_true rfl) dX6_turned_75 ?_
          exact G.iret rfl (by unfold aQ sp_shown; rw [if_pos ⟨h1, h2⟩, xq]; exact ⟨rfl, hJ⟩) dX6_turned_78
    · have h2 : i < -1 ∨ 60 ≤ i := bo_n.mp c_13
      refine G.bipush (v := (-2)) (by decide) dX6_turned_16 ?_
      exact G.iret rfl (by unfold aQ sp_shown; rw [if_neg (by first | (rw [h1]; simp; done) | exact fun z => z.2 h2)]; exact ⟨rfl, h, qF_rf _⟩) dX6_turned_18
end T66

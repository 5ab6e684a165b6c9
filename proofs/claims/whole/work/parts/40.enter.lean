/-! ===== what is gone into: swaps, and unknowns that have a value ===== -/
abbrev uV : Type := Nat → Option (Nat × Nat)
abbrev spot (q : Nat × Nat) : Nat := q.1 * 262144 + q.2
def en (B : Nat → Nat) (V : uV) : Nat → Nat × Nat → Nat × Nat
  | 0, q => q
  | f + 1, q => if kd (B q.1) = 7 then en B V f (q.1 + 3, tn_cmp q.2 (tn_sw (B (q.1 + 1) - 97) (B (q.1 + 2) - 97))) else if kd (B q.1) = 2 then (match V (B q.1 - 80) with | some w => en B V f (w.1, tn_cmp q.2 w.2) | none => q) else q
/-- texts as the class holds them, at the nodes of well texts -/
def tx3 (σ : gS) (ln B : Nat → Nat) : Prop := ∀ g, nd B ln g → tok σ B g ∧ Me σ B g ∧ (kd (B g) = 6 ∨ kd (B g) = 7 → tok σ B (g + 1)) ∧ (kd (B g) = 7 → tok σ B (g + 2))
def txF (σ τ : gS) : Prop := ∀ k, 1 ≤ k → k ≤ 11 → τ k = σ k
theorem tx3_F {σ τ : gS} {ln B : Nat → Nat} (h : txF σ τ) (h3 : tx3 σ ln B) : tx3 τ ln B := by
  have r : ∀ k, 1 ≤ k → k ≤ 11 → ∀ i, τ k i = σ k i := fun k a b i => congrFun (h k a b) i
  have tk : ∀ g, tok σ B g → tok τ B g := fun g q => ⟨q.1, by rw [r 2 (by omega) (by omega)]; exact q.2.1, by rw [r 3 (by omega) (by omega)]; exact q.2.2⟩
  intro g hg
  obtain ⟨a, M, b, c⟩ := h3 g hg
  exact ⟨tk g a, ⟨by rw [r 6 (by omega) (by omega)]; exact M.1, by rw [r 7 (by omega) (by omega)]; exact M.2.1, by rw [r 8 (by omega) (by omega)]; exact M.2.2.1, by rw [r 9 (by omega) (by omega)]; exact M.2.2.2.1, by rw [r 10 (by omega) (by omega)]; exact M.2.2.2.2⟩, fun e => tk _ (b e), fun e => tk _ (c e)⟩
theorem tx3_of {σ : gS} {ln B : Nat → Nat} (hT : TX σ ln B) (hF : ∀ t, t < 8 → FX σ ln B t) : tx3 σ ln B := by
  intro g hg
  have hE := nd_E hg
  have key : ∀ d, (g + d) / 30 = g / 30 → g + d < tE B g → tok σ B (g + d) := by
    intro d hd hlt
    obtain ⟨t, p, op, h1, h2, h3, h4, h5, h6⟩ := hg
    have e : g / 30 = t := by omega
    rw [e] at hE hd
    have := (hT t (by omega)).2.2 (p + d) (by omega)
    rwa [← Nat.add_assoc, ← h2] at this
  have h0 := key 0 rfl hE.1
  refine ⟨h0, ?_, fun c => ?_, fun c => ?_⟩
  · obtain ⟨t, p, op, h1, h2, h3, h4, h5, h6⟩ := hg
    have F := hF t h1
    rw [FX, if_pos h1] at F
    rw [h2]
    exact F.2 h3 p h5
  · rcases c with c | c
    · obtain ⟨k1, n1, e, dd⟩ := nd_6 hg c
      have := nd_E n1
      exact key 1 (by omega) (by omega)
    · obtain ⟨k1, k2, n1, e, dd⟩ := nd_7 hg c
      have := nd_E n1
      exact key 1 (by omega) (by omega)
  · obtain ⟨k1, k2, n1, e, dd⟩ := nd_7 hg c
    have := nd_E n1
    exact key 2 (by omega) (by omega)
/-- a row of values: the unknowns' terms and turns -/
def vrow (V : uV) (u : Nat) : Int32 := match V u with
  | some q => nI (spot q)
  | none => -1
def VG (B ln : Nat → Nat) (V : uV) : Prop := ∀ u q, V u = some q → u < 6 ∧ nd B ln q.1 ∧ tn_P q.2
theorem en_nd {B ln : Nat → Nat} {V : uV} (hV : VG B ln V) : ∀ f q, nd B ln q.1 → tn_P q.2 → nd B ln (en B V f q).1 ∧ tn_P (en B V f q).2 := by
  intro f
  induction f with
  | zero => intro q h1 h2; exact ⟨h1, h2⟩
  | succ f ih =>
    intro q h1 h2
    rw [en]
    by_cases c : kd (B q.1) = 7
    · rw [if_pos c]
      obtain ⟨k1, k2, n1, e, dd⟩ := nd_7 h1 c
      have := kd1_ge k1
      have := kd1_ge k2
      exact ih _ n1 (tn_P_cmp h2 (tn_P_sw (by omega) (by omega)))
    · rw [if_neg c]
      by_cases c2 : kd (B q.1) = 2
      · rw [if_pos c2]
        cases e : V (B q.1 - 80) with
        | none => exact ⟨h1, h2⟩
        | some w =>
          have := hV _ _ e
          exact ih _ this.2.1 (tn_P_cmp h2 this.2.2)
      · rw [if_neg c2]; exact ⟨h1, h2⟩
theorem spot_lt {B ln : Nat → Nat} {q : Nat × Nat} (h : nd B ln q.1) (hc : tn_P q.2) : spot q < 2 ^ 31 := by
  have h1 := nd_lt h
  have h2 := hc.1
  show q.1 * 262144 + q.2 < 2 ^ 31
  omega
section T40
variable {l : Launch} {D : va_G} {cA : ClassId} {ad : Nat → Nat}
variable {σ : gS}
set_option maxHeartbeats 4000000 in
set_option maxRecDepth 100000 in
theorem l_X4_enter {ln B : Nat → Nat} {V : uV} {v : Nat} {x : Int32} {q0 : Nat × Nat} (h3 : tx3 σ ln B) (hV : VG B ln V) (hv : LX[v]? = some (.inl 6)) (hr : ∀ u, u < 6 → σ v u = vrow V u) : ∀ j i q z5 z6 z7, i + j = 241 → nd B ln q.1 → tn_P q.2 → en B V j q = en B V 241 q0 → G (XC l D cA ad) mX4_enter (g_ri (fun r τ => r = nI (spot (en B V 241 q0)) ∧ τ = σ)) 5 [some (.ref 1), some (.int x), some (.ref v), some (.int (nI (spot q))), some (.int (nI i)), z5, z6, z7] [] σ := by
  intro j
  induction j with
  | zero =>
    intro i q z5 z6 z7 hi h1 h2 hq
    have hi : i = 241 := by omega
    subst hi
    refine G.iload (i := 4) rfl dX4_enter_5 ?_
    refine G.sipush (v := 240) (by decide) dX4_enter_7 ?_
    refine G.icmp_gt (tgt := 119) (by decide) dX4_enter_10 (fun c_10 => ?_) (fun c_10 => absurd (by decide) c_10)
    refine G.iload_n (k := 3) rfl dX4_enter_119 ?_
    exact G.iret rfl (⟨by rw [← hq]; rfl, rfl⟩) dX4_enter_120
  | succ j ih =>
    intro i q z5 z6 z7 hi h1 h2 hq
    have hlt := nd_lt h1
    obtain ⟨t0, M0, t1, t2⟩ := h3 q.1 h1
    refine G.iload (i := 4) rfl dX4_enter_5 ?_
    refine G.sipush (v := 240) (by decide) dX4_enter_7 ?_
    refine G.icmp_gt (tgt := 119) (by decide) dX4_enter_10 (fun c_10 => absurd c_10 (nI_nlt (a := 240) (by omega) (by decide))) (fun c_10 => ?_)
    refine G.iload_n (k := 3) rfl dX4_enter_13 ?_
    refine G.callSif (c_X3_node (by omega) h2.1) ml_X4_63 ws_yX3_node gcl_X3_node (by decide) rfl rfl (Nat.le_of_ble_eq_true rfl) dX4_enter_14 ?_
    refine G.ist5 (by decide) rfl dX4_enter_17 ?_
    refine G.aload_n (k := 0) rfl dX4_enter_19 ?_
    refine G.iload (i := 5) rfl dX4_enter_20 ?_
    refine G.callVif (c_X4_unknownAt (B := B) hlt t0) rfl (gci_X4).1 ml_X4_75 im_yX4_unknownAt se_yX4_unknownAt gcl_X4_unknownAt (by decide) rfl rfl (Nat.le_of_ble_eq_true rfl) dX4_enter_22 ?_
    refine G.ist6 (by decide) rfl dX4_enter_25 ?_
    refine G.aload_n (k := 0) rfl dX4_enter_27 ?_
    refine G.iload (i := 5) rfl dX4_enter_28 ?_
    refine G.callVif (c_X4_kindAt hlt) rfl (gci_X4).1 ml_X4_78 im_yX4_kindAt se_yX4_kindAt gcl_X4_kindAt (by decide) rfl rfl (Nat.le_of_ble_eq_true rfl) dX4_enter_30 ?_
    rw [t0.2.2]
    refine G.bipush (v := 7) (by decide) dX4_enter_33 ?_
    refine G.icmp_ne (tgt := 72) (by decide) dX4_enter_35 (fun c_35 => ?_) (fun c_35 => ?_)
    · have ck : ¬ kd (B q.1) = 7 := fun e => c_35 (by rw [e]; rfl)
      refine G.iload (i := 6) rfl dX4_enter_72 ?_
      refine G.iconst (v := (-1)) (by decide) dX4_enter_74 ?_
      refine G.icmp_eq (tgt := 119) (by decide) dX4_enter_75 (fun c_75 => ?_) (fun c_75 => ?_)
      · have cu : ¬ kd (B q.1) = 2 := fun e => by
          have := kd2_ge e
          rw [if_pos e] at c_75
          exact ne_m1 (by omega) c_75
        have hend : en B V 241 q0 = q := by rw [← hq, en, if_neg ck, if_neg cu]
        refine G.iload_n (k := 3) rfl dX4_enter_119 ?_
        exact G.iret rfl (⟨by rw [hend], rfl⟩) dX4_enter_120
      · have cu : kd (B q.1) = 2 := by
          by_cases e : kd (B q.1) = 2
          · exact e
          · rw [if_neg e] at c_75; exact absurd rfl c_75
        have gu := kd2_ge cu
        have eu : (if kd (B q.1) = 2 then nI (B q.1 - 80) else -1) = nI (B q.1 - 80) := if_pos cu
        rw [eu]
        refine G.aload_n (k := 2) rfl dX4_enter_78 ?_
        refine G.iload (i := 6) rfl dX4_enter_79 ?_
        refine G.ialdN (k := B q.1 - 80) hv rfl (by omega) (by decide) dX4_enter_81 ?_
        rw [hr _ (by omega)]
        refine G.iconst (v := (-1)) (by decide) dX4_enter_82 ?_
        refine G.icmp_eq (tgt := 119) (by decide) dX4_enter_83 (fun c_83 => ?_) (fun c_83 => ?_)
        · have hno : V (B q.1 - 80) = none := by
            cases e : V (B q.1 - 80) with
            | none => rfl
            | some w =>
              rw [vrow, e] at c_83
              have := hV _ _ e
              exact absurd c_83 (ne_m1 (spot_lt this.2.1 this.2.2))
          have hend : en B V 241 q0 = q := by rw [← hq, en, if_neg ck, if_pos cu, hno]
          refine G.iload_n (k := 3) rfl dX4_enter_119 ?_
          exact G.iret rfl (⟨by rw [hend], rfl⟩) dX4_enter_120
        · obtain ⟨w, ew⟩ : ∃ w, V (B q.1 - 80) = some w := by
            cases e : V (B q.1 - 80) with
            | none => rw [vrow, e] at c_83; exact absurd rfl c_83
            | some w => exact ⟨w, rfl⟩
          have hw := hV _ _ ew
          have lw := nd_lt hw.2.1
          refine G.aload_n (k := 2) rfl dX4_enter_86 ?_
          refine G.iload (i := 6) rfl dX4_enter_87 ?_
          refine G.ialdN (k := B q.1 - 80) hv rfl (by omega) (by decide) dX4_enter_89 ?_
          rw [hr _ (by omega)]
          rw [show vrow V (B q.1 - 80) = nI (w.1 * 262144 + w.2) by rw [vrow, ew]]
          refine G.ist7 (by decide) rfl dX4_enter_90 ?_
          refine G.iload (i := 7) rfl dX4_enter_92 ?_
          refine G.callSif (c_X3_node (by omega) hw.2.2.1) ml_X4_63 ws_yX3_node gcl_X3_node (by decide) rfl rfl (Nat.le_of_ble_eq_true rfl) dX4_enter_94 ?_
          refine G.iload_n (k := 3) rfl dX4_enter_97 ?_
          refine G.callSif (c_X3_by h2.1) ml_X4_81 ws_yX3_by gcl_X3_by (by decide) rfl rfl (Nat.le_of_ble_eq_true rfl) dX4_enter_98 ?_
          refine G.iload (i := 7) rfl dX4_enter_101 ?_
          refine G.callSif (c_X3_by hw.2.2.1) ml_X4_81 ws_yX3_by gcl_X3_by (by decide) rfl rfl (Nat.le_of_ble_eq_true rfl) dX4_enter_103 ?_
          refine G.callSif (c_X5_join h2 hw.2.2) ml_X4_94 ws_yX5_join gcl_X5_join (by decide) rfl rfl (Nat.le_of_ble_eq_true rfl) dX4_enter_106 ?_
          refine G.callSif (c_X3_make (tn_P_cmp h2 hw.2.2).1) ml_X4_91 ws_yX3_make gcl_X3_make (by decide) rfl rfl (Nat.le_of_ble_eq_true rfl) dX4_enter_109 ?_
          refine G.ist3 (by decide) rfl dX4_enter_112 ?_
          have hnx := ih (i + 1) (w.1, tn_cmp q.2 w.2)
          have hgo : nd B ln w.1 ∧ tn_P (tn_cmp q.2 w.2) ∧ en B V j (w.1, tn_cmp q.2 w.2) = en B V 241 q0 := ⟨hw.2.1, tn_P_cmp h2 hw.2.2, by rw [← hq, en, if_neg ck, if_pos cu, ew]⟩
          refine G.inc4 (d := 1) (by decide) (by decide) rfl dX4_enter_113 ?_
          refine G.goto (tgt := 5) (by decide) dX4_enter_116 ?_
          rw [nI_1]
          exact hnx _ _ _ (by omega) hgo.1 hgo.2.1 hgo.2.2
    · have ck : kd (B q.1) = 7 := (kd7 (by decide)).mp c_35
      obtain ⟨k1, k2, n1, e, dd⟩ := nd_7 h1 ck
      have l3 := nd_lt n1
      have g1 := kd1_ge k1
      have g2 := kd1_ge k2
      refine G.iload (i := 5) rfl dX4_enter_38 ?_
      refine G.iconst (v := 3) (by decide) dX4_enter_40 ?_
      refine G.iadd dX4_enter_41 ?_
      rw [show nI q.1 + 3 = nI (q.1 + 3) from nI_add q.1 3]
      refine G.iload_n (k := 3) rfl dX4_enter_42 ?_
      refine G.callSif (c_X3_by h2.1) ml_X4_81 ws_yX3_by gcl_X3_by (by decide) rfl rfl (Nat.le_of_ble_eq_true rfl) dX4_enter_43 ?_
      refine G.aload_n (k := 0) rfl dX4_enter_46 ?_
      refine G.iload (i := 5) rfl dX4_enter_47 ?_
      refine G.iconst (v := 1) (by decide) dX4_enter_49 ?_
      refine G.iadd dX4_enter_50 ?_
      rw [nI_1]
      refine G.callVif (c_X4_nameAt (B := B) (by omega) (t1 (Or.inr ck))) rfl (gci_X4).1 ml_X4_84 im_yX4_nameAt se_yX4_nameAt gcl_X4_nameAt (by decide) rfl rfl (Nat.le_of_ble_eq_true rfl) dX4_enter_51 ?_
      rw [nmv_1 k1]
      refine G.aload_n (k := 0) rfl dX4_enter_54 ?_
      refine G.iload (i := 5) rfl dX4_enter_55 ?_
      refine G.iconst (v := 2) (by decide) dX4_enter_57 ?_
      refine G.iadd dX4_enter_58 ?_
      rw [show nI q.1 + 2 = nI (q.1 + 2) from nI_add q.1 2]
      refine G.callVif (c_X4_nameAt (B := B) (by omega) (t2 ck)) rfl (gci_X4).1 ml_X4_84 im_yX4_nameAt se_yX4_nameAt gcl_X4_nameAt (by decide) rfl rfl (Nat.le_of_ble_eq_true rfl) dX4_enter_59 ?_
      rw [nmv_1 k2]
      refine G.callSif (c_X5_swapFirst h2 (by omega) (by omega)) ml_X4_87 ws_yX5_swapFirst gcl_X5_swapFirst (by decide) rfl rfl (Nat.le_of_ble_eq_true rfl) dX4_enter_62 ?_
      refine G.callSif (c_X3_make (tn_P_cmp h2 (tn_P_sw (by omega) (by omega))).1) ml_X4_91 ws_yX3_make gcl_X3_make (by decide) rfl rfl (Nat.le_of_ble_eq_true rfl) dX4_enter_65 ?_
      refine G.ist3 (by decide) rfl dX4_enter_68 ?_
      refine G.goto (tgt := 113) (by decide) dX4_enter_69 ?_
      have hnx := ih (i + 1) (q.1 + 3, tn_cmp q.2 (tn_sw (B (q.1 + 1) - 97) (B (q.1 + 2) - 97)))
      have hgo : nd B ln (q.1 + 3) ∧ tn_P (tn_cmp q.2 (tn_sw (B (q.1 + 1) - 97) (B (q.1 + 2) - 97))) ∧ en B V j (q.1 + 3, tn_cmp q.2 (tn_sw (B (q.1 + 1) - 97) (B (q.1 + 2) - 97))) = en B V 241 q0 := ⟨n1, tn_P_cmp h2 (tn_P_sw (by omega) (by omega)), by rw [← hq, en, if_pos ck]⟩
      refine G.inc4 (d := 1) (by decide) (by decide) rfl dX4_enter_113 ?_
      refine G.goto (tgt := 5) (by decide) dX4_enter_116 ?_
      rw [nI_1]
      exact hnx _ _ _ (by omega) hgo.1 hgo.2.1 hgo.2.2
set_option maxHeartbeats 4000000 in
set_option maxRecDepth 100000 in
theorem c_X4_enter {ln B : Nat → Nat} {V : uV} {v : Nat} {q0 : Nat × Nat} (h3 : tx3 σ ln B) (hV : VG B ln V) (hv : LX[v]? = some (.inl 6)) (hr : ∀ u, u < 6 → σ v u = vrow V u) (h1 : nd B ln q0.1) (h2 : tn_P q0.2) : GM (XC l D cA ad) mX4_enter [.ref 1, .int (nI (spot q0)), .ref v] σ (g_ri (fun r τ => r = nI (spot (en B V 241 q0)) ∧ τ = σ)) := by
  refine GM.of (ls := [some (.ref 1), some (.int (nI (spot q0))), some (.ref v), none, none, none, none, none]) (by decide) (Nat.le_of_ble_eq_true rfl) rfl ?_
  refine G.iload_n (k := 1) rfl dX4_enter_0 ?_
  refine G.ist3 (by decide) rfl dX4_enter_1 ?_
  refine G.iconst (v := 0) (by decide) dX4_enter_2 ?_
  refine G.ist4 (by decide) rfl dX4_enter_3 ?_
  exact l_X4_enter h3 hV hv hr 241 0 q0 _ _ _ rfl h1 h2 rfl
end T40

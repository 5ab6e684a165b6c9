section T24
variable {l : Launch} {D : va_G} {cA : ClassId} {ad : Nat → Nat}
variable {σ : gS}
set_option maxHeartbeats 4000000 in
set_option maxRecDepth 100000 in
theorem c_X7_finds {f : Int32} : GM (XM l D cA ad) mX7_finds [.ref 0, .int f] σ (g_ri (fun r τ => r = -10 - f ∧ τ = up2 σ 0 4 f)) := by
  refine GM.of (ls := [some (.ref 0), some (.int f)]) (by decide) (Nat.le_of_ble_eq_true rfl) rfl ?_
  refine G.aload_n (k := 0) rfl dX7_finds_0 ?_
  refine G.iload_n (k := 1) rfl dX7_finds_1 ?_
  refine G.put (j := 4) rfl gci_X7 gcp_X7 (by decide) rfl rfl rfl rfl fl_X7_98 dX7_finds_2 ?_
  refine G.bipush (v := (-10)) (by decide) dX7_finds_5 ?_
  refine G.iload_n (k := 1) rfl dX7_finds_7 ?_
  refine G.isub dX7_finds_8 ?_
  exact G.iret rfl (⟨rfl, rfl⟩) dX7_finds_9
set_option maxHeartbeats 4000000 in
set_option maxRecDepth 100000 in
theorem l_X7_sheet {s n : Nat} {f : Int32} {τ : gS} (hs : s < 4) (hn : n ≤ 60) {P : Int32 → gS → Prop} (hP : P (nI n) (flr τ 3 (60 * s) (60 * s + n) 0)) : ∀ j q, q + j = n → G (XM l D cA ad) mX7_sheet (g_ri P) 55 [some (.ref 0), some (.int (nI s)), some (.int f), some (.int (nI n)), some (.int (nI q))] [] (flr τ 3 (60 * s) (60 * s + q) 0) := by
  intro j
  induction j with
  | zero =>
    intro q hq
    have hq : q = n := by omega
    subst hq
    refine G.iload (i := 4) rfl dX7_sheet_55 ?_
    refine G.iload_n (k := 3) rfl dX7_sheet_57 ?_
    refine G.icmp_ge (tgt := 80) (by decide) dX7_sheet_58 (fun c_58 => ?_) (fun c_58 => absurd (nI_le (Nat.le_refl _) (by omega)) c_58)
    refine G.iload_n (k := 3) rfl dX7_sheet_80 ?_
    exact G.iret rfl (hP) dX7_sheet_81
  | succ j ih =>
    intro q hq
    refine G.iload (i := 4) rfl dX7_sheet_55 ?_
    refine G.iload_n (k := 3) rfl dX7_sheet_57 ?_
    refine G.icmp_ge (tgt := 80) (by decide) dX7_sheet_58 (fun c_58 => absurd c_58 (nI_ge (by omega) (by omega))) (fun c_58 => ?_)
    refine G.aload_n (k := 0) rfl dX7_sheet_61 ?_
    refine G.getr (j := 2) rfl gci_X7 (by decide) rfl fl_X7_16 dX7_sheet_62 ?_
    refine G.bipush (v := 60) (by decide) dX7_sheet_65 ?_
    refine G.iload_n (k := 1) rfl dX7_sheet_67 ?_
    refine G.imul dX7_sheet_68 ?_
    refine G.iload (i := 4) rfl dX7_sheet_69 ?_
    refine G.iadd dX7_sheet_71 ?_
    rw [nu_60', nI_add]
    refine G.iconst (v := 0) (by decide) dX7_sheet_72 ?_
    refine G.iastN (k := 60 * s + q) rfl (rfl) (by omega) (by decide) dX7_sheet_73 ?_
    rw [flr_s τ 3 0 (by omega)]
    refine G.inc4 (d := 1) (by decide) (by decide) rfl dX7_sheet_74 ?_
    refine G.goto (tgt := 55) (by decide) dX7_sheet_77 ?_
    rw [nI_1]
    exact ih (q + 1) (by omega)
set_option maxHeartbeats 4000000 in
set_option maxRecDepth 100000 in
theorem c_X7_sheet {s f n : Int32} : GM (XM l D cA ad) mX7_sheet [.ref 0, .int s, .int f, .int n] σ (g_ri (fun r τ => (r, τ) = sp_sheet 1 2 3 0 4 σ s f n)) := by
  refine GM.of (ls := [some (.ref 0), some (.int s), some (.int f), some (.int n), none]) (by decide) (Nat.le_of_ble_eq_true rfl) rfl ?_
  refine G.iload_n (k := 1) rfl dX7_sheet_0 ?_
  refine G.callSif (c_X7_isSheet) ml_X7_104 ws_yX7_isSheet gcl_X7_isSheet (by decide) rfl rfl (Nat.le_of_ble_eq_true rfl) dX7_sheet_1 ?_
  refine G.if_eq (tgt := 25) (by decide) dX7_sheet_4 (fun c_4 => ?_) (fun c_4 => ?_)
  · have h1 := in_f 3 (by decide) c_4
    refine G.bipush (v := (-2)) (by decide) dX7_sheet_25 ?_
    exact G.iret rfl (by unfold sp_sheet; first | (rw [h1]; rfl) | (rw [h1, h2]; rfl) | (rw [if_neg (by simp [h1, h2, h3])])) dX7_sheet_27
  · have h1 := in_t 3 (by decide) c_4
    refine G.iload_n (k := 2) rfl dX7_sheet_7 ?_
    refine G.i2l dX7_sheet_8 ?_
    refine G.lconst (v := 0) (by decide) dX7_sheet_9 ?_
    refine G.ldc2 ct_X7_108 dX7_sheet_10 ?_
    refine G.callSif (c_X7_in (a := 0) (b := 2) rfl rfl) ml_X7_94 ws_yX7_in gcl_X7_in (by decide) rfl rfl (Nat.le_of_ble_eq_true rfl) dX7_sheet_13 ?_
    refine G.if_eq (tgt := 25) (by decide) dX7_sheet_16 (fun c_16 => ?_) (fun c_16 => ?_)
    · have h2 := in_f 2 (by decide) c_16
      refine G.bipush (v := (-2)) (by decide) dX7_sheet_25 ?_
      exact G.iret rfl (by unfold sp_sheet; first | (rw [h1]; rfl) | (rw [h1, h2]; rfl) | (rw [if_neg (by simp [h1, h2, h3])])) dX7_sheet_27
    · have h2 := in_t 2 (by decide) c_16
      refine G.iload_n (k := 3) rfl dX7_sheet_19 ?_
      refine G.bipush (v := 60) (by decide) dX7_sheet_20 ?_
      refine G.icmp_le (tgt := 28) (by decide) dX7_sheet_22 (fun c_22 => ?_) (fun c_22 => ?_)
      · have h3 := c_22
        refine G.iload_n (k := 3) rfl dX7_sheet_28 ?_
        refine G.if_ge (tgt := 38) (by decide) dX7_sheet_29 (fun c_29 => ?_) (fun c_29 => ?_)
        · have h4 : ¬ n < 0 := Int32.not_lt.mpr c_29
          obtain ⟨z, hz, ez⟩ := nI_of2 (M := 60) (n := 60) (by decide) h4 h3
          subst ez
          have xz : ix (nI z) = z := ix_nI (by omega)
          obtain ⟨q, hq, eq⟩ := inB_of (by decide) h1
          subst eq
          have xq : ix (nI q) = q := ix_nI (by omega)
          refine G.aload_n (k := 0) rfl dX7_sheet_38 ?_
          refine G.getr (j := 0) rfl gci_X7 (by decide) rfl fl_X7_7 dX7_sheet_39 ?_
          refine G.iload_n (k := 1) rfl dX7_sheet_42 ?_
          refine G.iload_n (k := 2) rfl dX7_sheet_43 ?_
          refine G.iastN (k := q) rfl (rfl) (hq) (by decide) dX7_sheet_44 ?_
          refine G.aload_n (k := 0) rfl dX7_sheet_45 ?_
          refine G.getr (j := 1) rfl gci_X7 (by decide) rfl fl_X7_13 dX7_sheet_46 ?_
          refine G.iload_n (k := 1) rfl dX7_sheet_49 ?_
          refine G.iload_n (k := 3) rfl dX7_sheet_50 ?_
          refine G.iastN (k := q) rfl (rfl) (hq) (by decide) dX7_sheet_51 ?_
          refine G.iconst (v := 0) (by decide) dX7_sheet_52 ?_
          refine G.ist4 (by decide) rfl dX7_sheet_53 ?_
          have h := l_X7_sheet (l := l) (D := D) (cA := cA) (ad := ad) (f := f) (τ := up2 (up2 σ 1 q f) 2 q (nI z)) hq hz (P := fun r τ => (r, τ) = sp_sheet 1 2 3 0 4 σ (nI q) f (nI z)) (by unfold sp_sheet; rw [h1, h2, if_pos (by simp [h3]), if_neg h4, xq, xz]) z 0 (by omega)
          rw [Nat.add_zero, flr_0] at h
          exact h
        · have h4 : n < 0 := Int32.not_le.mp c_29
          refine G.aload_n (k := 0) rfl dX7_sheet_32 ?_
          refine G.iconst (v := 5) (by decide) dX7_sheet_33 ?_
          refine G.callVif (c_X7_finds) rfl (gci_X7).1 ml_X7_110 im_yX7_finds se_yX7_finds gcl_X7_finds (by decide) rfl rfl (Nat.le_of_ble_eq_true rfl) dX7_sheet_34 ?_
          exact G.iret rfl (by unfold sp_sheet sp_find; rw [h1, h2, if_pos (by simp [h3]), if_pos h4]) dX7_sheet_37
      · have h3 := c_22
        refine G.bipush (v := (-2)) (by decide) dX7_sheet_25 ?_
        exact G.iret rfl (by unfold sp_sheet; first | (rw [h1]; rfl) | (rw [h1, h2]; rfl) | (rw [if_neg (by simp [h1, h2, h3])])) dX7_sheet_27
set_option maxHeartbeats 4000000 in
set_option maxRecDepth 100000 in
theorem c_X7_lose {s : Int32} (hI : shI 1 2 σ) : GM (XM l D cA ad) mX7_lose [.ref 0, .int s] σ (g_ri (fun r τ => (r, τ) = (if inB s 4 = true then (if σ 1 (ix s) = -1 then sp_find 0 4 σ 1 else (σ 2 (ix s), up2 σ 1 (ix s) (-1))) else (-2, σ)))) := by
  refine GM.of (ls := [some (.ref 0), some (.int s)]) (by decide) (Nat.le_of_ble_eq_true rfl) rfl ?_
  refine G.iload_n (k := 1) rfl dX7_lose_0 ?_
  refine G.callSif (c_X7_isSheet) ml_X7_104 ws_yX7_isSheet gcl_X7_isSheet (by decide) rfl rfl (Nat.le_of_ble_eq_true rfl) dX7_lose_1 ?_
  refine G.if_ne (tgt := 10) (by decide) dX7_lose_4 (fun c_4 => ?_) (fun c_4 => ?_)
  · have h1 := in_t 3 (by decide) c_4
    obtain ⟨q, hq, eq⟩ := inB_of (by decide) h1
    subst eq
    have xq : ix (nI q) = q := ix_nI (by omega)
    have hneg : ∀ x : Int32, (x = -1 ∨ x = 0 ∨ x = 1 ∨ x = 2) → (x < 0 ↔ x = -1) := fun x h => by rcases h with h | h | h | h <;> subst h <;> decide
    obtain ⟨hfm, z, hz, ez⟩ := hI q hq
    refine G.aload_n (k := 0) rfl dX7_lose_10 ?_
    refine G.getr (j := 0) rfl gci_X7 (by decide) rfl fl_X7_7 dX7_lose_11 ?_
    refine G.iload_n (k := 1) rfl dX7_lose_14 ?_
    refine G.ialdN (k := q) rfl (rfl) (hq) (by decide) dX7_lose_15 ?_
    refine G.if_ge (tgt := 25) (by decide) dX7_lose_16 (fun c_16 => ?_) (fun c_16 => ?_)
    · have h2 : ¬ σ 1 q = -1 := fun e => absurd ((hneg _ hfm).mpr e) (Int32.not_lt.mpr c_16)
      refine G.aload_n (k := 0) rfl dX7_lose_25 ?_
      refine G.getr (j := 0) rfl gci_X7 (by decide) rfl fl_X7_7 dX7_lose_26 ?_
      refine G.iload_n (k := 1) rfl dX7_lose_29 ?_
      refine G.iconst (v := (-1)) (by decide) dX7_lose_30 ?_
      refine G.iastN (k := q) rfl (rfl) (hq) (by decide) dX7_lose_31 ?_
      refine G.aload_n (k := 0) rfl dX7_lose_32 ?_
      refine G.getr (j := 1) rfl gci_X7 (by decide) rfl fl_X7_13 dX7_lose_33 ?_
      refine G.iload_n (k := 1) rfl dX7_lose_36 ?_
      refine G.ialdN (k := q) rfl (rfl) (hq) (by decide) dX7_lose_37 ?_
      rw [up2_ne σ q (-1) (show (2 : Nat) ≠ 1 by decide)]
      exact G.iret rfl (by rw [if_pos h1, xq, if_neg h2]) dX7_lose_38
    · have h2 : σ 1 q = -1 := (hneg _ hfm).mp (Int32.not_le.mp c_16)
      refine G.aload_n (k := 0) rfl dX7_lose_19 ?_
      refine G.iconst (v := 1) (by decide) dX7_lose_20 ?_
      refine G.callVif (c_X7_finds) rfl (gci_X7).1 ml_X7_110 im_yX7_finds se_yX7_finds gcl_X7_finds (by decide) rfl rfl (Nat.le_of_ble_eq_true rfl) dX7_lose_21 ?_
      exact G.iret rfl (by rw [if_pos h1, xq, if_pos h2]; rfl) dX7_lose_24
  · have h1 := in_f 3 (by decide) c_4
    refine G.bipush (v := (-2)) (by decide) dX7_lose_7 ?_
    exact G.iret rfl (by rw [if_neg (by rw [h1]; decide)]) dX7_lose_9
set_option maxHeartbeats 4000000 in
set_option maxRecDepth 100000 in
theorem c_X7_lacks {s : Nat} {f i : Int32} (hI : shI 1 2 σ) (hs : s < 4) : GM (XM l D cA ad) mX7_lacks [.ref 0, .int (nI s), .int f, .int i] σ (g_ri (fun r τ => (r, τ) = (if sp_wr 1 2 σ s f i = 0 then (0, σ) else sp_find 0 4 σ (sp_wr 1 2 σ s f i)))) := by
  refine GM.of (ls := [some (.ref 0), some (.int (nI s)), some (.int f), some (.int i)]) (by decide) (Nat.le_of_ble_eq_true rfl) rfl ?_
  obtain ⟨hfm, z, hz, ez⟩ := hI s hs
  have hneg : ∀ x : Int32, (x = -1 ∨ x = 0 ∨ x = 1 ∨ x = 2) → (x < 0 ↔ x = -1) := fun x h => by rcases h with h | h | h | h <;> subst h <;> decide
  refine G.aload_n (k := 0) rfl dX7_lacks_0 ?_
  refine G.getr (j := 0) rfl gci_X7 (by decide) rfl fl_X7_7 dX7_lacks_1 ?_
  refine G.iload_n (k := 1) rfl dX7_lacks_4 ?_
  refine G.ialdN (k := s) rfl (rfl) (hs) (by decide) dX7_lacks_5 ?_
  refine G.if_ge (tgt := 15) (by decide) dX7_lacks_6 (fun c_6 => ?_) (fun c_6 => ?_)
  · have h1 : ¬ σ 1 s = -1 := fun e => absurd ((hneg _ hfm).mpr e) (Int32.not_lt.mpr c_6)
    refine G.aload_n (k := 0) rfl dX7_lacks_15 ?_
    refine G.getr (j := 0) rfl gci_X7 (by decide) rfl fl_X7_7 dX7_lacks_16 ?_
    refine G.iload_n (k := 1) rfl dX7_lacks_19 ?_
    refine G.ialdN (k := s) rfl (rfl) (hs) (by decide) dX7_lacks_20 ?_
    refine G.iload_n (k := 2) rfl dX7_lacks_21 ?_
    refine G.icmp_eq (tgt := 31) (by decide) dX7_lacks_22 (fun c_22 => ?_) (fun c_22 => ?_)
    · have h2 := c_22
      refine G.iload_n (k := 3) rfl dX7_lacks_31 ?_
      refine G.i2l dX7_lacks_32 ?_
      refine G.lconst (v := 0) (by decide) dX7_lacks_33 ?_
      refine G.aload_n (k := 0) rfl dX7_lacks_34 ?_
      refine G.getr (j := 1) rfl gci_X7 (by decide) rfl fl_X7_13 dX7_lacks_35 ?_
      refine G.iload_n (k := 1) rfl dX7_lacks_38 ?_
      refine G.ialdN (k := s) rfl (rfl) (hs) (by decide) dX7_lacks_39 ?_
      refine G.iconst (v := 1) (by decide) dX7_lacks_40 ?_
      refine G.isub dX7_lacks_41 ?_
      refine G.i2l dX7_lacks_42 ?_
      have hb : i ≤ nI z - 1 ↔ i < nI z := by
        have e1 : (nI z - 1).toInt = (z : Int) - 1 := by
          rw [Int32.toInt_sub, nI_toInt (by omega), show (1 : Int32).toInt = 1 from by decide]
          exact Int.bmod_eq_of_le (by omega) (by omega)
        rw [Int32.le_iff_toInt_le, Int32.lt_iff_toInt_lt, e1, nI_toInt (by omega)]
        omega
      refine G.callSif (c_X7_in (a := 0) (b := σ 2 s - 1) rfl rfl) ml_X7_94 ws_yX7_in gcl_X7_in (by decide) rfl rfl (Nat.le_of_ble_eq_true rfl) dX7_lacks_43 ?_
      refine G.if_eq (tgt := 53) (by decide) dX7_lacks_46 (fun c_46 => ?_) (fun c_46 => ?_)
      · have hw : sp_wr 1 2 σ s f i = 2 := by
          have q := bo_0.mp c_46
          unfold sp_wr
          rw [if_neg h1, if_pos h2, if_neg]
          intro y
          apply q
          rw [ez] at y ⊢
          exact ⟨y.1, hb.mpr y.2⟩
        refine G.aload_n (k := 0) rfl dX7_lacks_53 ?_
        refine G.iconst (v := 2) (by decide) dX7_lacks_54 ?_
        refine G.callVif (c_X7_finds) rfl (gci_X7).1 ml_X7_110 im_yX7_finds se_yX7_finds gcl_X7_finds (by decide) rfl rfl (Nat.le_of_ble_eq_true rfl) dX7_lacks_55 ?_
        exact G.iret rfl (by rw [hw]; rfl) dX7_lacks_58
      · have hw : sp_wr 1 2 σ s f i = 0 := by
          have q := bo_n.mp c_46
          unfold sp_wr
          rw [if_neg h1, if_pos h2, if_pos]
          rw [ez] at q ⊢
          exact ⟨q.1, hb.mp q.2⟩
        refine G.iconst (v := 0) (by decide) dX7_lacks_49 ?_
        refine G.goto (tgt := 58) (by decide) dX7_lacks_50 ?_
        exact G.iret rfl (by rw [hw]; rfl) dX7_lacks_58
    · have hw : sp_wr 1 2 σ s f i = 3 := by unfold sp_wr; rw [if_neg h1, if_neg c_22]
      refine G.aload_n (k := 0) rfl dX7_lacks_25 ?_
      refine G.iconst (v := 3) (by decide) dX7_lacks_26 ?_
      refine G.callVif (c_X7_finds) rfl (gci_X7).1 ml_X7_110 im_yX7_finds se_yX7_finds gcl_X7_finds (by decide) rfl rfl (Nat.le_of_ble_eq_true rfl) dX7_lacks_27 ?_
      exact G.iret rfl (by rw [hw]; rfl) dX7_lacks_30
  · have h1 : σ 1 s = -1 := (hneg _ hfm).mp (Int32.not_le.mp c_6)
    have hw : sp_wr 1 2 σ s f i = 1 := if_pos h1
    refine G.aload_n (k := 0) rfl dX7_lacks_9 ?_
    refine G.iconst (v := 1) (by decide) dX7_lacks_10 ?_
    refine G.callVif (c_X7_finds) rfl (gci_X7).1 ml_X7_110 im_yX7_finds se_yX7_finds gcl_X7_finds (by decide) rfl rfl (Nat.le_of_ble_eq_true rfl) dX7_lacks_11 ?_
    exact G.iret rfl (by rw [hw]; rfl) dX7_lacks_14
theorem sp_wr_cases (F Z : Nat) (σ : gS) (s : Nat) (f i : Int32) : sp_wr F Z σ s f i = 0 ∨ sp_wr F Z σ s f i = 1 ∨ sp_wr F Z σ s f i = 2 ∨ sp_wr F Z σ s f i = 3 := by
  unfold sp_wr
  split
  · exact Or.inr (Or.inl rfl)
  · split
    · split
      · exact Or.inl rfl
      · exact Or.inr (Or.inr (Or.inl rfl))
    · exact Or.inr (Or.inr (Or.inr rfl))
theorem lk_ne (x : Int32) (h : x = 0 ∨ x = 1 ∨ x = 2 ∨ x = 3) (h0 : ¬ x = 0) : ¬ (-10 - x = 0) := by rcases h with h | h | h | h <;> subst h <;> first | exact absurd rfl h0 | decide
set_option maxHeartbeats 4000000 in
set_option maxRecDepth 100000 in
theorem c_X7_lay {s f i v : Int32} (hI : shI 1 2 σ) : GM (XM l D cA ad) mX7_lay [.ref 0, .int s, .int f, .int i, .int v] σ (g_ri (fun r τ => (r, τ) = sp_lay 1 2 3 0 4 σ s f i v)) := by
  refine GM.of (ls := [some (.ref 0), some (.int s), some (.int f), some (.int i), some (.int v), none]) (by decide) (Nat.le_of_ble_eq_true rfl) rfl ?_
  refine G.iload_n (k := 1) rfl dX7_lay_0 ?_
  refine G.callSif (c_X7_isSheet) ml_X7_104 ws_yX7_isSheet gcl_X7_isSheet (by decide) rfl rfl (Nat.le_of_ble_eq_true rfl) dX7_lay_1 ?_
  refine G.if_eq (tgt := 19) (by decide) dX7_lay_4 (fun c_4 => ?_) (fun c_4 => ?_)
  · have h1 := in_f 3 (by decide) c_4
    refine G.bipush (v := (-2)) (by decide) dX7_lay_19 ?_
    exact G.iret rfl (by unfold sp_lay; rw [if_neg (by first | (simp [h1]; done) | simp [h1, h2])]) dX7_lay_21
  · have h1 := in_t 3 (by decide) c_4
    refine G.iload_n (k := 2) rfl dX7_lay_7 ?_
    refine G.i2l dX7_lay_8 ?_
    refine G.lconst (v := 0) (by decide) dX7_lay_9 ?_
    refine G.ldc2 ct_X7_108 dX7_lay_10 ?_
    refine G.callSif (c_X7_in (a := 0) (b := 2) rfl rfl) ml_X7_94 ws_yX7_in gcl_X7_in (by decide) rfl rfl (Nat.le_of_ble_eq_true rfl) dX7_lay_13 ?_
    refine G.if_ne (tgt := 22) (by decide) dX7_lay_16 (fun c_16 => ?_) (fun c_16 => ?_)
    · have h2 := in_t 2 (by decide) c_16
      obtain ⟨q, hq, eq⟩ := inB_of (by decide) h1
      subst eq
      have xq : ix (nI q) = q := ix_nI (by omega)
      obtain ⟨hfm, z, hz, ez⟩ := hI q hq
      refine G.aload_n (k := 0) rfl dX7_lay_22 ?_
      refine G.iload_n (k := 1) rfl dX7_lay_23 ?_
      refine G.iload_n (k := 2) rfl dX7_lay_24 ?_
      refine G.iload_n (k := 3) rfl dX7_lay_25 ?_
      refine G.callVi (c_X7_lacks hI hq) rfl (gci_X7).1 ml_X7_114 im_yX7_lacks se_yX7_lacks gcl_X7_lacks (by decide) rfl rfl (Nat.le_of_ble_eq_true rfl) dX7_lay_26 (fun r τ hq1 => ?_)
      by_cases hw : sp_wr 1 2 σ q f i = 0
      · rw [if_pos hw] at hq1
        have e1 : r = 0 := (Prod.mk.inj hq1).1
        have e2 : τ = σ := (Prod.mk.inj hq1).2
        rw [e1, e2]
        have h4 : σ 1 q = f ∧ 0 ≤ i ∧ i < σ 2 q := by
          have h3 := hw
          unfold sp_wr at h3
          by_cases a1 : σ 1 q = -1
          · rw [if_pos a1] at h3; exact absurd h3 (by decide)
          · rw [if_neg a1] at h3
            by_cases a2 : σ 1 q = f
            · rw [if_pos a2] at h3
              by_cases a3 : 0 ≤ i ∧ i < σ 2 q
              · exact ⟨a2, a3⟩
              · rw [if_neg a3] at h3; exact absurd h3 (by decide)
            · rw [if_neg a2] at h3; exact absurd h3 (by decide)
        obtain ⟨w, hw1, ew⟩ := nI_of (Int32.not_lt.mpr h4.2.1)
        subst ew
        have hwz : w < z := by have h5 := h4.2.2; rw [ez] at h5; exact (nI_ltI hw1 (by omega)).mp h5
        have xw : ix (nI w) = w := ix_nI (by omega)
        refine G.ist5 (by decide) rfl dX7_lay_29 ?_
        refine G.iload (i := 5) rfl dX7_lay_31 ?_
        refine G.if_eq (tgt := 39) (by decide) dX7_lay_33 (fun c_33 => ?_) (fun c_33 => absurd rfl c_33)
        refine G.aload_n (k := 0) rfl dX7_lay_39 ?_
        refine G.getr (j := 2) rfl gci_X7 (by decide) rfl fl_X7_16 dX7_lay_40 ?_
        refine G.bipush (v := 60) (by decide) dX7_lay_43 ?_
        refine G.iload_n (k := 1) rfl dX7_lay_45 ?_
        refine G.imul dX7_lay_46 ?_
        refine G.iload_n (k := 3) rfl dX7_lay_47 ?_
        rw [nu_60']
        refine G.iadd dX7_lay_48 ?_
        rw [nI_add]
        refine G.iload_n (k := 2) rfl dX7_lay_49 ?_
        refine G.iload (i := 4) rfl dX7_lay_50 ?_
        refine G.callSif (c_X7_cut) ml_X7_118 ws_yX7_cut gcl_X7_cut (by decide) rfl rfl (Nat.le_of_ble_eq_true rfl) dX7_lay_52 ?_
        refine G.iastN (k := 60 * q + w) rfl (rfl) (by omega) (by decide) dX7_lay_55 ?_
        refine G.iconst (v := 1) (by decide) dX7_lay_56 ?_
        exact G.iret rfl (by unfold sp_lay; rw [if_pos (by simp [h1, h2]), xq, if_pos hw, xw]) dX7_lay_57
      · rw [if_neg hw] at hq1
        have e1 : r = -10 - sp_wr 1 2 σ q f i := (Prod.mk.inj hq1).1
        have e2 : τ = up2 σ 0 4 (sp_wr 1 2 σ q f i) := (Prod.mk.inj hq1).2
        rw [e1, e2]
        refine G.ist5 (by decide) rfl dX7_lay_29 ?_
        refine G.iload (i := 5) rfl dX7_lay_31 ?_
        refine G.if_eq (tgt := 39) (by decide) dX7_lay_33 (fun c_33 => absurd c_33 (lk_ne _ (sp_wr_cases 1 2 σ q f i) hw)) (fun c_33 => ?_)
        refine G.iload (i := 5) rfl dX7_lay_36 ?_
        exact G.iret rfl (by unfold sp_lay; rw [if_pos (by simp [h1, h2]), xq, if_neg hw]; rfl) dX7_lay_38
    · have h2 := in_f 2 (by decide) c_16
      refine G.bipush (v := (-2)) (by decide) dX7_lay_19 ?_
      exact G.iret rfl (by unfold sp_lay; rw [if_neg (by first | (simp [h1]; done) | simp [h1, h2])]) dX7_lay_21
set_option maxHeartbeats 4000000 in
set_option maxRecDepth 100000 in
theorem c_X7_get {s f i : Int32} (hI : shI 1 2 σ) : GM (XM l D cA ad) mX7_get [.ref 0, .int s, .int f, .int i] σ (g_ri (fun r τ => (r, τ) = sp_get 1 2 3 0 4 σ s f i)) := by
  refine GM.of (ls := [some (.ref 0), some (.int s), some (.int f), some (.int i)]) (by decide) (Nat.le_of_ble_eq_true rfl) rfl ?_
  refine G.iload_n (k := 1) rfl dX7_get_0 ?_
  refine G.callSif (c_X7_isSheet) ml_X7_104 ws_yX7_isSheet gcl_X7_isSheet (by decide) rfl rfl (Nat.le_of_ble_eq_true rfl) dX7_get_1 ?_
  refine G.if_eq (tgt := 29) (by decide) dX7_get_4 (fun c_4 => ?_) (fun c_4 => ?_)
  · have h1 := in_f 3 (by decide) c_4
    refine G.ldc ct_X7_122 dX7_get_29 ?_
    exact G.iret rfl (by unfold sp_get; rw [if_neg (by first | (simp [h1]; done) | simp [h1, h2])]) dX7_get_31
  · have h1 := in_t 3 (by decide) c_4
    refine G.iload_n (k := 2) rfl dX7_get_7 ?_
    refine G.i2l dX7_get_8 ?_
    refine G.lconst (v := 0) (by decide) dX7_get_9 ?_
    refine G.ldc2 ct_X7_108 dX7_get_10 ?_
    refine G.callSif (c_X7_in (a := 0) (b := 2) rfl rfl) ml_X7_94 ws_yX7_in gcl_X7_in (by decide) rfl rfl (Nat.le_of_ble_eq_true rfl) dX7_get_13 ?_
    refine G.if_eq (tgt := 29) (by decide) dX7_get_16 (fun c_16 => ?_) (fun c_16 => ?_)
    · have h2 := in_f 2 (by decide) c_16
      refine G.ldc ct_X7_122 dX7_get_29 ?_
      exact G.iret rfl (by unfold sp_get; rw [if_neg (by first | (simp [h1]; done) | simp [h1, h2])]) dX7_get_31
    · have h2 := in_t 2 (by decide) c_16
      obtain ⟨q, hq, eq⟩ := inB_of (by decide) h1
      subst eq
      have xq : ix (nI q) = q := ix_nI (by omega)
      obtain ⟨hfm, z, hz, ez⟩ := hI q hq
      refine G.aload_n (k := 0) rfl dX7_get_19 ?_
      refine G.iload_n (k := 1) rfl dX7_get_20 ?_
      refine G.iload_n (k := 2) rfl dX7_get_21 ?_
      refine G.iload_n (k := 3) rfl dX7_get_22 ?_
      refine G.callVi (c_X7_lacks hI hq) rfl (gci_X7).1 ml_X7_114 im_yX7_lacks se_yX7_lacks gcl_X7_lacks (by decide) rfl rfl (Nat.le_of_ble_eq_true rfl) dX7_get_23 (fun r τ hq1 => ?_)
      by_cases hw : sp_wr 1 2 σ q f i = 0
      · rw [if_pos hw] at hq1
        have e1 : r = 0 := (Prod.mk.inj hq1).1
        have e2 : τ = σ := (Prod.mk.inj hq1).2
        rw [e1, e2]
        have h4 : σ 1 q = f ∧ 0 ≤ i ∧ i < σ 2 q := by
          have h3 := hw
          unfold sp_wr at h3
          by_cases a1 : σ 1 q = -1
          · rw [if_pos a1] at h3; exact absurd h3 (by decide)
          · rw [if_neg a1] at h3
            by_cases a2 : σ 1 q = f
            · rw [if_pos a2] at h3
              by_cases a3 : 0 ≤ i ∧ i < σ 2 q
              · exact ⟨a2, a3⟩
              · rw [if_neg a3] at h3; exact absurd h3 (by decide)
            · rw [if_neg a2] at h3; exact absurd h3 (by decide)
        obtain ⟨w, hw1, ew⟩ := nI_of (Int32.not_lt.mpr h4.2.1)
        subst ew
        have hwz : w < z := by have h5 := h4.2.2; rw [ez] at h5; exact (nI_ltI hw1 (by omega)).mp h5
        have xw : ix (nI w) = w := ix_nI (by omega)
        refine G.if_eq (tgt := 32) (by decide) dX7_get_26 (fun c_26 => ?_) (fun c_26 => absurd rfl c_26)
        refine G.aload_n (k := 0) rfl dX7_get_32 ?_
        refine G.getr (j := 2) rfl gci_X7 (by decide) rfl fl_X7_16 dX7_get_33 ?_
        refine G.bipush (v := 60) (by decide) dX7_get_36 ?_
        refine G.iload_n (k := 1) rfl dX7_get_38 ?_
        refine G.imul dX7_get_39 ?_
        rw [nu_60']
        refine G.iload_n (k := 3) rfl dX7_get_40 ?_
        refine G.iadd dX7_get_41 ?_
        rw [nI_add]
        refine G.ialdN (k := 60 * q + w) rfl (rfl) (by omega) (by decide) dX7_get_42 ?_
        exact G.iret rfl (by unfold sp_get; rw [if_pos (by simp [h1, h2]), xq, if_pos hw, xw]) dX7_get_43
      · rw [if_neg hw] at hq1
        have e1 : r = -10 - sp_wr 1 2 σ q f i := (Prod.mk.inj hq1).1
        have e2 : τ = up2 σ 0 4 (sp_wr 1 2 σ q f i) := (Prod.mk.inj hq1).2
        rw [e1, e2]
        refine G.if_eq (tgt := 32) (by decide) dX7_get_26 (fun c_26 => absurd c_26 (lk_ne _ (sp_wr_cases 1 2 σ q f i) hw)) (fun c_26 => ?_)
        refine G.ldc ct_X7_122 dX7_get_29 ?_
        exact G.iret rfl (by unfold sp_get; rw [if_pos (by simp [h1, h2]), xq, if_neg hw]) dX7_get_31
/-- the first n items of a row from another one -/
def cpy0 (f g : Nat → Int32) (sp n : Nat) : Nat → Int32 := va_cpy f g sp 0 n
theorem va_cpy_s (f g : Nat → Int32) (sp dp n : Nat) : upd (va_cpy f g sp dp n) (dp + n) (f (sp + n)) = va_cpy f g sp dp (n + 1) := by
  funext k
  unfold upd va_cpy
  by_cases h : k = dp + n
  · subst h
    rw [if_pos rfl, if_pos (by omega)]
    congr 1
    omega
  · rw [if_neg h]
    by_cases h2 : dp ≤ k ∧ k < dp + n
    · rw [if_pos h2, if_pos (by omega)]
    · rw [if_neg h2, if_neg (by omega)]
theorem va_cpy_0 (f g : Nat → Int32) (sp dp : Nat) : va_cpy f g sp dp 0 = g := by
  funext k
  unfold va_cpy
  exact if_neg (by omega)
theorem upA_id (σ : gS) (k : Nat) : upA σ k (σ k) = σ := by
  funext j
  unfold upA
  by_cases h : j = k
  · rw [if_pos h, h]
  · rw [if_neg h]
theorem upA_upA (σ : gS) (k : Nat) (f g : Nat → Int32) : upA (upA σ k f) k g = upA σ k g := by
  funext j
  unfold upA
  by_cases h : j = k
  · rw [if_pos h, if_pos h]
  · rw [if_neg h, if_neg h, if_neg h]
theorem upA_comm (σ : gS) {k j : Nat} (h : k ≠ j) (f g : Nat → Int32) : upA (upA σ k f) j g = upA (upA σ j g) k f := by
  funext i
  unfold upA
  by_cases h1 : i = j
  · subst h1
    rw [if_pos rfl, if_neg (fun e => h e.symm), if_pos rfl]
  · rw [if_neg h1]
    by_cases h2 : i = k
    · rw [if_pos h2, if_pos h2]
    · rw [if_neg h2, if_neg h2, if_neg h1]
set_option maxHeartbeats 4000000 in
set_option maxRecDepth 100000 in
theorem l_X7_copy2 {s i t j n : Nat} {f : Nat → Int32} (hs : s < 4) (ht : t < 4) (h1 : i + n ≤ 60) (h2 : j + n ≤ 60) {P : Int32 → gS → Prop} (hP : P 1 (upA (upA σ 4 f) 3 (va_cpy f (σ 3) 0 (60 * t + j) n))) : ∀ d q, q + d = n → G (XM l D cA ad) mX7_copy (g_ri P) 157 [some (.ref 0), some (.int (nI s)), some (.int (nI i)), some (.int (nI t)), some (.int (nI j)), some (.int (nI n)), some (.int (nI q))] [] (upA (upA σ 4 f) 3 (va_cpy f (σ 3) 0 (60 * t + j) q)) := by
  intro d
  induction d with
  | zero =>
    intro q hq
    have hq : q = n := by omega
    subst hq
    refine G.iload (i := 6) rfl dX7_copy_157 ?_
    refine G.iload (i := 5) rfl dX7_copy_159 ?_
    refine G.icmp_ge (tgt := 192) (by decide) dX7_copy_161 (fun c_161 => ?_) (fun c_161 => absurd (nI_le (Nat.le_refl _) (by omega)) c_161)
    refine G.iconst (v := 1) (by decide) dX7_copy_192 ?_
    exact G.iret rfl (hP) dX7_copy_193
  | succ d ih =>
    intro q hq
    refine G.iload (i := 6) rfl dX7_copy_157 ?_
    refine G.iload (i := 5) rfl dX7_copy_159 ?_
    refine G.icmp_ge (tgt := 192) (by decide) dX7_copy_161 (fun c_161 => absurd c_161 (nI_ge (by omega) (by omega))) (fun c_161 => ?_)
    refine G.aload_n (k := 0) rfl dX7_copy_164 ?_
    refine G.getr (j := 2) rfl gci_X7 (by decide) rfl fl_X7_16 dX7_copy_165 ?_
    refine G.bipush (v := 60) (by decide) dX7_copy_168 ?_
    refine G.iload_n (k := 3) rfl dX7_copy_170 ?_
    refine G.imul dX7_copy_171 ?_
    refine G.iload (i := 4) rfl dX7_copy_172 ?_
    rw [nu_60']
    refine G.iadd dX7_copy_174 ?_
    refine G.iload (i := 6) rfl dX7_copy_175 ?_
    rw [nI_add]
    refine G.iadd dX7_copy_177 ?_
    rw [nI_add]
    refine G.aload_n (k := 0) rfl dX7_copy_178 ?_
    refine G.getr (j := 3) rfl gci_X7 (by decide) rfl fl_X7_19 dX7_copy_179 ?_
    refine G.iload (i := 6) rfl dX7_copy_182 ?_
    refine G.ialdN (k := q) rfl (rfl) (by omega) (by decide) dX7_copy_184 ?_
    refine G.iastN (k := 60 * t + j + q) rfl (rfl) (by omega) (by decide) dX7_copy_185 ?_
    have e : up2 (upA (upA σ 4 f) 3 (va_cpy f (σ 3) 0 (60 * t + j) q)) 3 (60 * t + j + q) (upA (upA σ 4 f) 3 (va_cpy f (σ 3) 0 (60 * t + j) q) 4 q) = upA (upA σ 4 f) 3 (va_cpy f (σ 3) 0 (60 * t + j) (q + 1)) := by
      rw [up2_eq, upA_same, upA_upA, upA_ne _ _ (show (4 : Nat) ≠ 3 by decide), upA_same]
      have h := va_cpy_s f (σ 3) 0 (60 * t + j) q
      rw [Nat.zero_add] at h
      rw [h]
    rw [e]
    refine G.inc6 (d := 1) (by decide) (by decide) rfl dX7_copy_186 ?_
    refine G.goto (tgt := 157) (by decide) dX7_copy_189 ?_
    rw [nI_1]
    exact ih (q + 1) (by omega)
set_option maxHeartbeats 4000000 in
set_option maxRecDepth 100000 in
theorem l_X7_copy1 {s i t j n : Nat} (hs : s < 4) (ht : t < 4) (h1 : i + n ≤ 60) (h2 : j + n ≤ 60) {P : Int32 → gS → Prop} (hP : P 1 (upA (upA σ 4 (va_cpy (σ 3) (σ 4) (60 * s + i) 0 n)) 3 (va_cpy (σ 3) (σ 3) (60 * s + i) (60 * t + j) n))) : ∀ d q, q + d = n → G (XM l D cA ad) mX7_copy (g_ri P) 120 [some (.ref 0), some (.int (nI s)), some (.int (nI i)), some (.int (nI t)), some (.int (nI j)), some (.int (nI n)), some (.int (nI q))] [] (upA σ 4 (va_cpy (σ 3) (σ 4) (60 * s + i) 0 q)) := by
  intro d
  induction d with
  | zero =>
    intro q hq
    have hq : q = n := by omega
    subst hq
    refine G.iload (i := 6) rfl dX7_copy_120 ?_
    refine G.iload (i := 5) rfl dX7_copy_122 ?_
    refine G.icmp_ge (tgt := 154) (by decide) dX7_copy_124 (fun c_124 => ?_) (fun c_124 => absurd (nI_le (Nat.le_refl _) (by omega)) c_124)
    refine G.iconst (v := 0) (by decide) dX7_copy_154 ?_
    refine G.ist6 (by decide) rfl dX7_copy_155 ?_
    have e : va_cpy (va_cpy (σ 3) (σ 4) (60 * s + i) 0 q) (σ 3) 0 (60 * t + j) q = va_cpy (σ 3) (σ 3) (60 * s + i) (60 * t + j) q := by
      funext k
      unfold va_cpy
      by_cases h : 60 * t + j ≤ k ∧ k < 60 * t + j + q
      · rw [if_pos h, if_pos h, if_pos (by omega)]
        congr 1
        omega
      · rw [if_neg h, if_neg h]
    have h := l_X7_copy2 (l := l) (D := D) (cA := cA) (ad := ad) (σ := σ) (f := va_cpy (σ 3) (σ 4) (60 * s + i) 0 q) hs ht h1 h2 (P := P) (by rw [e]; exact hP) q 0 (by omega)
    rw [va_cpy_0, show upA (upA σ 4 (va_cpy (σ 3) (σ 4) (60 * s + i) 0 q)) 3 (σ 3) = upA σ 4 (va_cpy (σ 3) (σ 4) (60 * s + i) 0 q) by
      have h3 := upA_id (upA σ 4 (va_cpy (σ 3) (σ 4) (60 * s + i) 0 q)) 3
      rw [upA_ne _ _ (show (3 : Nat) ≠ 4 by decide)] at h3
      exact h3] at h
    exact h
  | succ d ih =>
    intro q hq
    refine G.iload (i := 6) rfl dX7_copy_120 ?_
    refine G.iload (i := 5) rfl dX7_copy_122 ?_
    refine G.icmp_ge (tgt := 154) (by decide) dX7_copy_124 (fun c_124 => absurd c_124 (nI_ge (by omega) (by omega))) (fun c_124 => ?_)
    refine G.aload_n (k := 0) rfl dX7_copy_127 ?_
    refine G.getr (j := 3) rfl gci_X7 (by decide) rfl fl_X7_19 dX7_copy_128 ?_
    refine G.iload (i := 6) rfl dX7_copy_131 ?_
    refine G.aload_n (k := 0) rfl dX7_copy_133 ?_
    refine G.getr (j := 2) rfl gci_X7 (by decide) rfl fl_X7_16 dX7_copy_134 ?_
    refine G.bipush (v := 60) (by decide) dX7_copy_137 ?_
    refine G.iload_n (k := 1) rfl dX7_copy_139 ?_
    refine G.imul dX7_copy_140 ?_
    refine G.iload_n (k := 2) rfl dX7_copy_141 ?_
    rw [nu_60']
    refine G.iadd dX7_copy_142 ?_
    refine G.iload (i := 6) rfl dX7_copy_143 ?_
    rw [nI_add]
    refine G.iadd dX7_copy_145 ?_
    rw [nI_add]
    refine G.ialdN (k := 60 * s + i + q) rfl (rfl) (by omega) (by decide) dX7_copy_146 ?_
    refine G.iastN (k := q) rfl (rfl) (by omega) (by decide) dX7_copy_147 ?_
    have e : up2 (upA σ 4 (va_cpy (σ 3) (σ 4) (60 * s + i) 0 q)) 4 q (upA σ 4 (va_cpy (σ 3) (σ 4) (60 * s + i) 0 q) 3 (60 * s + i + q)) = upA σ 4 (va_cpy (σ 3) (σ 4) (60 * s + i) 0 (q + 1)) := by
      rw [up2_eq, upA_same, upA_upA, upA_ne _ _ (show (3 : Nat) ≠ 4 by decide)]
      have h := va_cpy_s (σ 3) (σ 4) (60 * s + i) 0 q
      rw [Nat.zero_add] at h
      rw [h]
    rw [e]
    refine G.inc6 (d := 1) (by decide) (by decide) rfl dX7_copy_148 ?_
    refine G.goto (tgt := 120) (by decide) dX7_copy_151 ?_
    rw [nI_1]
    exact ih (q + 1) (by omega)
set_option maxHeartbeats 4000000 in
set_option maxRecDepth 100000 in
theorem c_X7_copy {s i t j n : Int32} (hI : shI 1 2 σ) : GM (XM l D cA ad) mX7_copy [.ref 0, .int s, .int i, .int t, .int j, .int n] σ (g_ri (fun r τ => ∃ mv, r = (sp_copy 1 2 3 0 4 σ s i t j n).1 ∧ τ = upA (sp_copy 1 2 3 0 4 σ s i t j n).2 4 mv)) := by
  refine GM.of (ls := [some (.ref 0), some (.int s), some (.int i), some (.int t), some (.int j), some (.int n), none]) (by decide) (Nat.le_of_ble_eq_true rfl) rfl ?_
  refine G.iload_n (k := 1) rfl dX7_copy_0 ?_
  refine G.callSif (c_X7_isSheet) ml_X7_104 ws_yX7_isSheet gcl_X7_isSheet (by decide) rfl rfl (Nat.le_of_ble_eq_true rfl) dX7_copy_1 ?_
  refine G.if_eq (tgt := 14) (by decide) dX7_copy_4 (fun c_4 => ?_) (fun c_4 => ?_)
  · have h1 := in_f 3 (by decide) c_4
    refine G.bipush (v := (-2)) (by decide) dX7_copy_14 ?_
    exact G.iret rfl (⟨σ 4, by unfold sp_copy; rw [if_neg (by first | (simp [h1]; done) | simp [h1, h2])], by unfold sp_copy; rw [if_neg (by first | (simp [h1]; done) | simp [h1, h2])]; exact (upA_id σ 4).symm⟩) dX7_copy_16
  · have h1 := in_t 3 (by decide) c_4
    refine G.iload_n (k := 3) rfl dX7_copy_7 ?_
    refine G.callSif (c_X7_isSheet) ml_X7_104 ws_yX7_isSheet gcl_X7_isSheet (by decide) rfl rfl (Nat.le_of_ble_eq_true rfl) dX7_copy_8 ?_
    refine G.if_ne (tgt := 17) (by decide) dX7_copy_11 (fun c_11 => ?_) (fun c_11 => ?_)
    · have h2 := in_t 3 (by decide) c_11
      obtain ⟨q, hq, eq⟩ := inB_of (by decide) h1
      subst eq
      have xq : ix (nI q) = q := ix_nI (by omega)
      obtain ⟨g, hg, eg⟩ := inB_of (by decide) h2
      subst eg
      have xg : ix (nI g) = g := ix_nI (by omega)
      have hneg : ∀ x : Int32, (x = -1 ∨ x = 0 ∨ x = 1 ∨ x = 2) → (x < 0 ↔ x = -1) := fun x h => by rcases h with h | h | h | h <;> subst h <;> decide
      have hl64 : ∀ {z : Nat} {a b : Int32}, z ≤ 60 → ¬ a < 0 → ¬ b < 0 → ((0 < lg_cmp (a.toInt64 + b.toInt64) (nI z).toInt64) ↔ ¬ sp_has (nI z) a b = true) := fun {z a b} hz ha hb => by
        have b1 := Int32.toInt_lt a
        have b2 := Int32.toInt_lt b
        rw [Int32.lt_iff_toInt_lt, show (0 : Int32).toInt = 0 from by decide] at ha hb
        rw [lg_gt, Int64.lt_iff_toInt_lt, Int64.toInt_add, Int32.toInt_toInt64, Int32.toInt_toInt64, Int32.toInt_toInt64, nI_toInt (by omega), Int.bmod_eq_of_le (by omega) (by omega), sp_has, decide_eq_true_eq, nI_toInt (by omega)]
        omega
      have hh : ∀ {z : Nat} {a b : Int32}, z ≤ 60 → sp_has (nI z) a b = true → ∃ u w, a = nI u ∧ b = nI w ∧ u + w ≤ z := fun {z a b} hz h => by
        rw [sp_has, decide_eq_true_eq, nI_toInt (by omega)] at h
        obtain ⟨u, hu, eu⟩ := nI_of (x := a) (by rw [Int32.lt_iff_toInt_lt, show (0 : Int32).toInt = 0 from by decide]; omega)
        obtain ⟨w, hw, ew⟩ := nI_of (x := b) (by rw [Int32.lt_iff_toInt_lt, show (0 : Int32).toInt = 0 from by decide]; omega)
        subst eu ew
        rw [nI_toInt hu, nI_toInt hw] at h
        exact ⟨u, w, rfl, rfl, by omega⟩
      have hno : ∀ {z : Nat} {a b : Int32}, (a < 0 ∨ b < 0) → ¬ sp_has (nI z) a b = true := fun {z a b} h q => by
        rw [sp_has, decide_eq_true_eq] at q
        rw [Int32.lt_iff_toInt_lt, Int32.lt_iff_toInt_lt, show (0 : Int32).toInt = 0 from by decide] at h
        omega
      obtain ⟨hfm, z, hz, ez⟩ := hI q hq
      obtain ⟨hfn, y, hy, ey⟩ := hI g hg
      refine G.aload_n (k := 0) rfl dX7_copy_17 ?_
      refine G.getr (j := 0) rfl gci_X7 (by decide) rfl fl_X7_7 dX7_copy_18 ?_
      refine G.iload_n (k := 1) rfl dX7_copy_21 ?_
      refine G.ialdN (k := q) rfl (rfl) (hq) (by decide) dX7_copy_22 ?_
      refine G.if_lt (tgt := 35) (by decide) dX7_copy_23 (fun c_23 => ?_) (fun c_23 => ?_)
      · have h3 : σ 1 q = -1 ∨ σ 1 g = -1 := Or.inl ((hneg _ hfm).mp c_23)
        have hsp : sp_copy 1 2 3 0 4 σ (nI q) i (nI g) j n = sp_find 0 4 σ 1 := by unfold sp_copy; rw [if_pos (by simp [h1, h2]), xq, xg, if_pos h3]
        refine G.aload_n (k := 0) rfl dX7_copy_35 ?_
        refine G.iconst (v := 1) (by decide) dX7_copy_36 ?_
        refine G.callVif (c_X7_finds) rfl (gci_X7).1 ml_X7_110 im_yX7_finds se_yX7_finds gcl_X7_finds (by decide) rfl rfl (Nat.le_of_ble_eq_true rfl) dX7_copy_37 ?_
        exact G.iret rfl (⟨σ 4, by rw [hsp]; rfl, by rw [hsp]; exact (show up2 σ 0 4 1 = upA (up2 σ 0 4 1) 4 (σ 4) from (upA_id (up2 σ 0 4 1) 4).symm)⟩) dX7_copy_40
      · have h3a : ¬ σ 1 q = -1 := fun e => c_23 ((hneg _ hfm).mpr e)
        refine G.aload_n (k := 0) rfl dX7_copy_26 ?_
        refine G.getr (j := 0) rfl gci_X7 (by decide) rfl fl_X7_7 dX7_copy_27 ?_
        refine G.iload_n (k := 3) rfl dX7_copy_30 ?_
        refine G.ialdN (k := g) rfl (rfl) (hg) (by decide) dX7_copy_31 ?_
        refine G.if_ge (tgt := 41) (by decide) dX7_copy_32 (fun c_32 => ?_) (fun c_32 => ?_)
        · have h3 : ¬ (σ 1 q = -1 ∨ σ 1 g = -1) := fun w => w.elim h3a (fun e => absurd ((hneg _ hfn).mpr e) (Int32.not_lt.mpr c_32))
          refine G.aload_n (k := 0) rfl dX7_copy_41 ?_
          refine G.getr (j := 0) rfl gci_X7 (by decide) rfl fl_X7_7 dX7_copy_42 ?_
          refine G.iload_n (k := 1) rfl dX7_copy_45 ?_
          refine G.ialdN (k := q) rfl (rfl) (hq) (by decide) dX7_copy_46 ?_
          refine G.aload_n (k := 0) rfl dX7_copy_47 ?_
          refine G.getr (j := 0) rfl gci_X7 (by decide) rfl fl_X7_7 dX7_copy_48 ?_
          refine G.iload_n (k := 3) rfl dX7_copy_51 ?_
          refine G.ialdN (k := g) rfl (rfl) (hg) (by decide) dX7_copy_52 ?_
          refine G.icmp_eq (tgt := 62) (by decide) dX7_copy_53 (fun c_53 => ?_) (fun c_53 => ?_)
          · have h4 := c_53
            refine G.iload_n (k := 2) rfl dX7_copy_62 ?_
            refine G.if_lt (tgt := 111) (by decide) dX7_copy_63 (fun c_63 => ?_) (fun c_63 => ?_)
            · have h6 : ¬ (sp_has (nI z) i n && sp_has (nI y) j n) = true := by have := hno (z := z) (a := i) (b := n) (Or.inl c_63); simp [this]
              have hsp : sp_copy 1 2 3 0 4 σ (nI q) i (nI g) j n = sp_find 0 4 σ 2 := by unfold sp_copy; rw [if_pos (by simp [h1, h2]), xq, xg, if_neg h3, if_pos h4, ez, ey, if_neg h6]
              refine G.aload_n (k := 0) rfl dX7_copy_111 ?_
              refine G.iconst (v := 2) (by decide) dX7_copy_112 ?_
              refine G.callVif (c_X7_finds) rfl (gci_X7).1 ml_X7_110 im_yX7_finds se_yX7_finds gcl_X7_finds (by decide) rfl rfl (Nat.le_of_ble_eq_true rfl) dX7_copy_113 ?_
              exact G.iret rfl (⟨σ 4, by rw [hsp]; rfl, by rw [hsp]; exact (show up2 σ 0 4 2 = upA (up2 σ 0 4 2) 4 (σ 4) from (upA_id (up2 σ 0 4 2) 4).symm)⟩) dX7_copy_116
            · have h5 := c_63
              refine G.iload (i := 4) rfl dX7_copy_66 ?_
              refine G.if_lt (tgt := 111) (by decide) dX7_copy_68 (fun c_68 => ?_) (fun c_68 => ?_)
              · have h6 : ¬ (sp_has (nI z) i n && sp_has (nI y) j n) = true := by have := hno (z := y) (a := j) (b := n) (Or.inl c_68); simp [this]
                have hsp : sp_copy 1 2 3 0 4 σ (nI q) i (nI g) j n = sp_find 0 4 σ 2 := by unfold sp_copy; rw [if_pos (by simp [h1, h2]), xq, xg, if_neg h3, if_pos h4, ez, ey, if_neg h6]
                refine G.aload_n (k := 0) rfl dX7_copy_111 ?_
                refine G.iconst (v := 2) (by decide) dX7_copy_112 ?_
                refine G.callVif (c_X7_finds) rfl (gci_X7).1 ml_X7_110 im_yX7_finds se_yX7_finds gcl_X7_finds (by decide) rfl rfl (Nat.le_of_ble_eq_true rfl) dX7_copy_113 ?_
                exact G.iret rfl (⟨σ 4, by rw [hsp]; rfl, by rw [hsp]; exact (show up2 σ 0 4 2 = upA (up2 σ 0 4 2) 4 (σ 4) from (upA_id (up2 σ 0 4 2) 4).symm)⟩) dX7_copy_116
              · have h7 := c_68
                refine G.iload (i := 5) rfl dX7_copy_71 ?_
                refine G.if_lt (tgt := 111) (by decide) dX7_copy_73 (fun c_73 => ?_) (fun c_73 => ?_)
                · have h6 : ¬ (sp_has (nI z) i n && sp_has (nI y) j n) = true := by have := hno (z := y) (a := j) (b := n) (Or.inr c_73); simp [this]
                  have hsp : sp_copy 1 2 3 0 4 σ (nI q) i (nI g) j n = sp_find 0 4 σ 2 := by unfold sp_copy; rw [if_pos (by simp [h1, h2]), xq, xg, if_neg h3, if_pos h4, ez, ey, if_neg h6]
                  refine G.aload_n (k := 0) rfl dX7_copy_111 ?_
                  refine G.iconst (v := 2) (by decide) dX7_copy_112 ?_
                  refine G.callVif (c_X7_finds) rfl (gci_X7).1 ml_X7_110 im_yX7_finds se_yX7_finds gcl_X7_finds (by decide) rfl rfl (Nat.le_of_ble_eq_true rfl) dX7_copy_113 ?_
                  exact G.iret rfl (⟨σ 4, by rw [hsp]; rfl, by rw [hsp]; exact (show up2 σ 0 4 2 = upA (up2 σ 0 4 2) 4 (σ 4) from (upA_id (up2 σ 0 4 2) 4).symm)⟩) dX7_copy_116
                · have h8 := c_73
                  refine G.iload_n (k := 2) rfl dX7_copy_76 ?_
                  refine G.i2l dX7_copy_77 ?_
                  refine G.iload (i := 5) rfl dX7_copy_78 ?_
                  refine G.i2l dX7_copy_80 ?_
                  refine G.ladd dX7_copy_81 ?_
                  refine G.aload_n (k := 0) rfl dX7_copy_82 ?_
                  refine G.getr (j := 1) rfl gci_X7 (by decide) rfl fl_X7_13 dX7_copy_83 ?_
                  refine G.iload_n (k := 1) rfl dX7_copy_86 ?_
                  refine G.ialdN (k := q) rfl (rfl) (hq) (by decide) dX7_copy_87 ?_
                  rw [ez]
                  refine G.i2l dX7_copy_88 ?_
                  refine G.lcmp dX7_copy_89 ?_
                  refine G.if_gt (tgt := 111) (by decide) dX7_copy_90 (fun c_90 => ?_) (fun c_90 => ?_)
                  · have h6 : ¬ (sp_has (nI z) i n && sp_has (nI y) j n) = true := by have := (hl64 hz h5 h8).mp c_90; simp [this]
                    have hsp : sp_copy 1 2 3 0 4 σ (nI q) i (nI g) j n = sp_find 0 4 σ 2 := by unfold sp_copy; rw [if_pos (by simp [h1, h2]), xq, xg, if_neg h3, if_pos h4, ez, ey, if_neg h6]
                    refine G.aload_n (k := 0) rfl dX7_copy_111 ?_
                    refine G.iconst (v := 2) (by decide) dX7_copy_112 ?_
                    refine G.callVif (c_X7_finds) rfl (gci_X7).1 ml_X7_110 im_yX7_finds se_yX7_finds gcl_X7_finds (by decide) rfl rfl (Nat.le_of_ble_eq_true rfl) dX7_copy_113 ?_
                    exact G.iret rfl (⟨σ 4, by rw [hsp]; rfl, by rw [hsp]; exact (show up2 σ 0 4 2 = upA (up2 σ 0 4 2) 4 (σ 4) from (upA_id (up2 σ 0 4 2) 4).symm)⟩) dX7_copy_116
                  · have h9 : sp_has (nI z) i n = true := by by_cases w : sp_has (nI z) i n = true; exact w; exact absurd ((hl64 hz h5 h8).mpr w) c_90
                    refine G.iload (i := 4) rfl dX7_copy_93 ?_
                    refine G.i2l dX7_copy_95 ?_
                    refine G.iload (i := 5) rfl dX7_copy_96 ?_
                    refine G.i2l dX7_copy_98 ?_
                    refine G.ladd dX7_copy_99 ?_
                    refine G.aload_n (k := 0) rfl dX7_copy_100 ?_
                    refine G.getr (j := 1) rfl gci_X7 (by decide) rfl fl_X7_13 dX7_copy_101 ?_
                    refine G.iload_n (k := 3) rfl dX7_copy_104 ?_
                    refine G.ialdN (k := g) rfl (rfl) (hg) (by decide) dX7_copy_105 ?_
                    rw [ey]
                    refine G.i2l dX7_copy_106 ?_
                    refine G.lcmp dX7_copy_107 ?_
                    refine G.if_le (tgt := 117) (by decide) dX7_copy_108 (fun c_108 => ?_) (fun c_108 => ?_)
                    · have h10 : sp_has (nI y) j n = true := by by_cases w : sp_has (nI y) j n = true; exact w; exact absurd ((hl64 hy h7 h8).mpr w) (Int32.not_lt.mpr c_108)
                      obtain ⟨u, w, eu, ew, huw⟩ := hh hz h9
                      obtain ⟨u2, w2, eu2, ew2, huw2⟩ := hh hy h10
                      subst eu ew eu2
                      have e9 : w = w2 := by
                        have a1 : w < 2 ^ 31 := by omega
                        have a2 : w2 < 2 ^ 31 := by omega
                        exact (nI_eq a1 a2).mp ew2
                      subst e9
                      have xu : ix (nI u) = u := ix_nI (by omega)
                      have xw : ix (nI w) = w := ix_nI (by omega)
                      have xu2 : ix (nI u2) = u2 := ix_nI (by omega)
                      have hsp : sp_copy 1 2 3 0 4 σ (nI q) (nI u) (nI g) (nI u2) (nI w) = (1, upA σ 3 (va_cpy (σ 3) (σ 3) (60 * q + u) (60 * g + u2) w)) := by unfold sp_copy; rw [if_pos (by simp [h1, h2]), xq, xg, if_neg h3, if_pos h4, ez, ey, if_pos (by simp [h9, h10]), xu, xw, xu2]
                      refine G.iconst (v := 0) (by decide) dX7_copy_117 ?_
                      refine G.ist6 (by decide) rfl dX7_copy_118 ?_
                      have h := l_X7_copy1 (l := l) (D := D) (cA := cA) (ad := ad) (σ := σ) (i := u) (j := u2) (n := w) hq hg (by omega) (by omega) (P := fun r τ => ∃ mv, r = (sp_copy 1 2 3 0 4 σ (nI q) (nI u) (nI g) (nI u2) (nI w)).1 ∧ τ = upA (sp_copy 1 2 3 0 4 σ (nI q) (nI u) (nI g) (nI u2) (nI w)).2 4 mv) ⟨_, by rw [hsp], by rw [hsp]; exact upA_comm σ (by decide) _ _⟩ w 0 (by omega)
                      rw [va_cpy_0, upA_id] at h
                      exact h
                    · have h6 : ¬ (sp_has (nI z) i n && sp_has (nI y) j n) = true := by have := (hl64 hy h7 h8).mp (Int32.not_le.mp c_108); simp [this]
                      have hsp : sp_copy 1 2 3 0 4 σ (nI q) i (nI g) j n = sp_find 0 4 σ 2 := by unfold sp_copy; rw [if_pos (by simp [h1, h2]), xq, xg, if_neg h3, if_pos h4, ez, ey, if_neg h6]
                      refine G.aload_n (k := 0) rfl dX7_copy_111 ?_
                      refine G.iconst (v := 2) (by decide) dX7_copy_112 ?_
                      refine G.callVif (c_X7_finds) rfl (gci_X7).1 ml_X7_110 im_yX7_finds se_yX7_finds gcl_X7_finds (by decide) rfl rfl (Nat.le_of_ble_eq_true rfl) dX7_copy_113 ?_
                      exact G.iret rfl (⟨σ 4, by rw [hsp]; rfl, by rw [hsp]; exact (show up2 σ 0 4 2 = upA (up2 σ 0 4 2) 4 (σ 4) from (upA_id (up2 σ 0 4 2) 4).symm)⟩) dX7_copy_116
          · have hsp : sp_copy 1 2 3 0 4 σ (nI q) i (nI g) j n = sp_find 0 4 σ 4 := by unfold sp_copy; rw [if_pos (by simp [h1, h2]), xq, xg, if_neg h3, if_neg c_53]
            refine G.aload_n (k := 0) rfl dX7_copy_56 ?_
            refine G.iconst (v := 4) (by decide) dX7_copy_57 ?_
            refine G.callVif (c_X7_finds) rfl (gci_X7).1 ml_X7_110 im_yX7_finds se_yX7_finds gcl_X7_finds (by decide) rfl rfl (Nat.le_of_ble_eq_true rfl) dX7_copy_58 ?_
            exact G.iret rfl (⟨σ 4, by rw [hsp]; rfl, by rw [hsp]; exact (show up2 σ 0 4 4 = upA (up2 σ 0 4 4) 4 (σ 4) from (upA_id (up2 σ 0 4 4) 4).symm)⟩) dX7_copy_61
        · have h3 : σ 1 q = -1 ∨ σ 1 g = -1 := Or.inr ((hneg _ hfn).mp (Int32.not_le.mp c_32))
          have hsp : sp_copy 1 2 3 0 4 σ (nI q) i (nI g) j n = sp_find 0 4 σ 1 := by unfold sp_copy; rw [if_pos (by simp [h1, h2]), xq, xg, if_pos h3]
          refine G.aload_n (k := 0) rfl dX7_copy_35 ?_
          refine G.iconst (v := 1) (by decide) dX7_copy_36 ?_
          refine G.callVif (c_X7_finds) rfl (gci_X7).1 ml_X7_110 im_yX7_finds se_yX7_finds gcl_X7_finds (by decide) rfl rfl (Nat.le_of_ble_eq_true rfl) dX7_copy_37 ?_
          exact G.iret rfl (⟨σ 4, by rw [hsp]; rfl, by rw [hsp]; exact (show up2 σ 0 4 1 = upA (up2 σ 0 4 1) 4 (σ 4) from (upA_id (up2 σ 0 4 1) 4).symm)⟩) dX7_copy_40
    · have h2 := in_f 3 (by decide) c_11
      refine G.bipush (v := (-2)) (by decide) dX7_copy_14 ?_
      exact G.iret rfl (⟨σ 4, by unfold sp_copy; rw [if_neg (by first | (simp [h1]; done) | simp [h1, h2])], by unfold sp_copy; rw [if_neg (by first | (simp [h1]; done) | simp [h1, h2])]; exact (upA_id σ 4).symm⟩) dX7_copy_16
end T24

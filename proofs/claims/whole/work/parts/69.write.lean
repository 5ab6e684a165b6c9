/-! ===== write, way ===== -/
def wrS (f : Nat → Int32) (s : Nat) (form : Int32) (L : List Nat) : Nat → Nat → Int32
  | 0 => f
  | i + 1 => upd (wrS f s form L i) (s + i) (sh_cut form (nI (L.getD i 0)))
noncomputable def wrM (σ : gS) (ln B : Nat → Nat) (u s : Int32) : Nat := min (vaU ln B (ix u)).length (ix (σ 14 (ix s)))
noncomputable def wrP (σ : gS) (ln B : Nat → Nat) (u s : Int32) (r : Int32) (τ : gS) : Prop := if (inB u 6 && inB s 4) = true then (if σ 13 (ix s) = -1 then r = -11 ∧ τ = up2 σ 12 3 1 else r = nI (wrM σ ln B u s) ∧ IX τ ln B ∧ τ 12 = σ 12 ∧ τ 13 = σ 13 ∧ τ 14 = σ 14 ∧ τ 15 = wrS (σ 15) (60 * ix s) (σ 13 (ix s)) (vaU ln B (ix u)) (wrM σ ln B u s)) else r = -2 ∧ τ = σ
theorem lnT_at {L : List Nat} {i : Nat} (hL : L.length ≤ 60) (hi : i < L.length) : lnT L (nI i) = nI (L.getD i 0) := by
  unfold lnT
  rw [if_neg (ne_m1 (by omega)), if_pos (inB_nI (by omega) hi), ix_nI (by omega)]
theorem min_nI {a z : Nat} (ha : a ≤ 60) (hz : z ≤ 60) : (if nI z < nI a then nI z else nI a) = nI (min a z) := by
  by_cases e : z < a
  · rw [if_pos ((nI_ltI (by omega) (by omega)).mpr e), Nat.min_eq_right (by omega)]
  · rw [if_neg (fun y => e ((nI_ltI (by omega) (by omega)).mp y)), Nat.min_eq_left (by omega)]
noncomputable def sp_way (ln B : Nat → Nat) (k w : Int32) : Int32 := if (inB k 24 && inB w 4) = true then fnd B (usol ln B (ix k) 15) (ix w) else -2
theorem sh1_24 : ∀ q, q < 24 → (1 : Int32) <<< (nI q &&& 31) = nI (2 ^ q) ∧ 2 ^ q < 2 ^ 24 := by decide +kernel
/-- four findings are written down -/
def wyI (τ σ : gS) (q i : Nat) (f : Nat → Int32) : Prop := (∀ k, k ≠ 28 → σ k = τ k) ∧ (∀ x, ¬ (4 * q ≤ x ∧ x < 4 * q + 4) → σ 28 x = τ 28 x) ∧ ∀ j, j < i → σ 28 (4 * q + j) = f j
theorem wyI_s {τ σ : gS} {q i : Nat} {f : Nat → Int32} (hi : i < 4) (h : wyI τ σ q i f) : wyI τ (up2 σ 28 (4 * q + i) (f i)) q (i + 1) f := by
  obtain ⟨a, b, c⟩ := h
  have r : ∀ x, up2 σ 28 (4 * q + i) (f i) 28 x = if x = 4 * q + i then f i else σ 28 x := fun x => rfl
  refine ⟨fun k hk => by rw [up2_ne _ _ _ hk]; exact a k hk, fun x hx => by rw [r, if_neg (by omega)]; exact b x hx, fun j hj => ?_⟩
  rw [r]
  by_cases e : j = i
  · rw [e, if_pos rfl]
  · rw [if_neg (by omega)]; exact c j (by omega)
theorem IX_way {σ τ υ : gS} {ln B : Nat → Nat} {q wk : Nat} (hq : q < 24) (h : IX σ ln B) (hF : svF σ τ 22) (hw : wyI τ υ q 4 (fnd B (usol ln B q 15))) (h24 : wk < 2 ^ 24) (hwk : ∀ k, k < 24 → wk.testBit k = true → ∀ i, i < 4 → σ 28 (4 * k + i) = fnd B (usol ln B k 15) i) : IX (up2 υ 0 6 (nI (wk ||| 2 ^ q))) ln B ∧ qF σ (up2 υ 0 6 (nI (wk ||| 2 ^ q))) := by
  obtain ⟨a1, a2, a3, a4, a5, a6, a7, a8, a9⟩ := h
  obtain ⟨b1, b2, b3⟩ := hw
  have r0 : ∀ k, k ≠ 0 → up2 υ 0 6 (nI (wk ||| 2 ^ q)) k = υ k := fun k hk => up2_ne _ _ _ hk
  have r : ∀ k, k ≠ 0 → k ≠ 28 → k < 22 ∨ 27 < k → up2 υ 0 6 (nI (wk ||| 2 ^ q)) k = σ k := fun k h0 h1 hk => by rw [r0 k h0, b1 k h1]; exact hF k (by omega)
  have r' : ∀ k, 1 ≤ k → k ≤ 11 → up2 υ 0 6 (nI (wk ||| 2 ^ q)) k = σ k := fun k _ z => r k (by omega) (by omega) (by omega)
  have e28 : up2 υ 0 6 (nI (wk ||| 2 ^ q)) 28 = υ 28 := r0 28 (by decide)
  refine ⟨⟨TX_F r' a1, fun t ht => FX_F r' (a2 t ht), cS_congr (by show υ 0 4 = σ 0 4; rw [b1 0 (by decide), hF 0 (by omega)]) (fun k a z => r k (by omega) (by omega) (by omega)) a3, ⟨wk ||| 2 ^ q, Nat.or_lt_two_pow h24 (sh1_24 q hq).2, rfl, fun k hk hb i hi => ?_⟩, ?_, ?_, ?_, ?_, fun u hu => by rw [r 29 (by decide) (by decide) (by decide)]; exact a9 u hu⟩, fun k hk => r k (by omega) (by omega) (by omega)⟩
  · rw [e28]
    by_cases e : k = q
    · rw [e]; exact b3 i hi
    · rw [b2 _ (by omega), hF 28 (by omega)]
      refine hwk k hk ?_ i hi
      rw [Nat.testBit_or, Nat.testBit_two_pow, Bool.or_eq_true] at hb
      rcases hb with z | z
      · exact z
      · exact absurd (of_decide_eq_true z).symm e
  · exact cL_congr (fun _ _ => by rw [r 30 (by decide) (by decide) (by decide)]) (r 31 (by decide) (by decide) (by decide)) a5
  · exact cL_congr (fun _ _ => by rw [r 33 (by decide) (by decide) (by decide)]) (r 34 (by decide) (by decide) (by decide)) a6
  · exact cL_congr (fun _ _ => by rw [r 36 (by decide) (by decide) (by decide)]) (r 37 (by decide) (by decide) (by decide)) a7
  · exact cL_congr (fun _ _ => by rw [r 39 (by decide) (by decide) (by decide)]) (r 40 (by decide) (by decide) (by decide)) a8
section T69
variable {l : Launch} {D : va_G} {cA : ClassId} {ad : Nat → Nat}
variable {σ σ0 : gS}
set_option maxHeartbeats 4000000 in
set_option maxRecDepth 100000 in
theorem l_X6_write {υ : gS} {q g z m : Nat} {L : List Nat} (hg : g < 4) (hz : z ≤ 60) (ez : υ 14 g = nI z) (hL : LnH υ 36 L) (hmL : m ≤ L.length) (hmz : m ≤ z) {P : Int32 → gS → Prop} (K : ∀ τ, (∀ k, k ≠ 15 → τ k = υ k) → τ 15 = wrS (υ 15) (60 * g) (υ 13 g) L m → P (nI m) τ) : ∀ j i (σ : gS), i + j = m → (∀ k, k ≠ 15 → σ k = υ k) → σ 15 = wrS (υ 15) (60 * g) (υ 13 g) L i → G (XC l D cA ad) mX6_write (g_ri P) 72 [some (.ref 0), some (.int (nI q)), some (.int (nI g)), some (.int (nI m)), some (.int (nI i))] [] σ := by
  intro j
  induction j with
  | zero =>
    intro i σ hi hF h15
    have hi2 : i = m := by omega
    subst hi2
    refine G.iload (i := 4) rfl dX6_write_72 ?_
    refine G.iload_n (k := 3) rfl dX6_write_74 ?_
    refine G.icmp_ge (tgt := 103) (by decide) dX6_write_75 (fun c_75 => ?_) (fun c_75 => absurd (Int32.le_refl _) c_75)
    refine G.iload_n (k := 3) rfl dX6_write_103 ?_
    exact G.iret rfl (K σ hF h15) dX6_write_104
  | succ j ih =>
    intro i σ hi hF h15
    have hL2 : LnH σ 36 L := LnH_congr (by rw [hF 36 (by decide)]) (hF 37 (by decide)) hL
    have ez2 : σ 14 g = nI z := by rw [hF 14 (by decide)]; exact ez
    refine G.iload (i := 4) rfl dX6_write_72 ?_
    refine G.iload_n (k := 3) rfl dX6_write_74 ?_
    refine G.icmp_ge (tgt := 103) (by decide) dX6_write_75 (fun c_75 => absurd c_75 (nI_ge (by omega) (by have := hL.2.1; omega))) (fun c_75 => ?_)
    refine G.aload_n (k := 0) rfl dX6_write_78 ?_
    refine G.getr (j := 1) rfl gci_X6 (by decide) rfl fl_X6_12 dX6_write_79 ?_
    refine G.iload_n (k := 2) rfl dX6_write_82 ?_
    refine G.iload (i := 4) rfl dX6_write_83 ?_
    refine G.aload_n (k := 0) rfl dX6_write_85 ?_
    refine G.getr (j := 10) rfl gci_X6 (by decide) rfl fl_X6_41 dX6_write_86 ?_
    refine G.iload (i := 4) rfl dX6_write_89 ?_
    refine G.callVif (c_X0_tell lnA_36 hL2) rfl (gci_X0).1 ml_X6_148 im_yX0_tell se_yX0_tell gcl_X0_tell (by decide) rfl rfl (Nat.le_of_ble_eq_true rfl) dX6_write_91 ?_
    rw [lnT_at hL.2.1 (show i < L.length by omega)]
    refine G.callVvf (c_X1_put hg hz ez2 (i := i) (by omega)) rfl (gci_X1).1 ml_X6_202 im_yX1_put se_yX1_put gcl_X1_put (by decide) rfl rfl (Nat.le_of_ble_eq_true rfl) dX6_write_94 ?_
    refine G.inc4 (d := 1) (by decide) (by decide) rfl dX6_write_97 ?_
    refine G.goto (tgt := 72) (by decide) dX6_write_100 ?_
    rw [nI_1]
    exact ih (i + 1) _ (by omega) (fun k hk => by rw [up2_ne _ _ _ hk]; exact hF k hk) (by rw [up2_same, h15, hF 13 (by decide)]; rfl)
set_option maxHeartbeats 4000000 in
set_option maxRecDepth 100000 in
theorem c_X6_write {ln B : Nat → Nat} (h : IX σ ln B) {u s : Int32} (hS : shI 13 14 σ) : GM (XC l D cA ad) mX6_write [.ref 0, .int u, .int s] σ (g_ri (wrP σ ln B u s)) := by
  refine GM.of (ls := [some (.ref 0), some (.int u), some (.int s), none, none]) (by decide) (Nat.le_of_ble_eq_true rfl) rfl ?_
  refine G.iload_n (k := 1) rfl dX6_write_0 ?_
  refine G.bipush (v := 6) (by decide) dX6_write_1 ?_
  refine G.callSif (c_X6_isOutside) ml_X6_72 ws_yX6_isOutside gcl_X6_isOutside (by decide) rfl rfl (Nat.le_of_ble_eq_true rfl) dX6_write_3 ?_
  refine G.if_ne (tgt := 17) (by decide) dX6_write_6 (fun c_6 => ?_) (fun c_6 => ?_)
  · have h1 := ou_t 6 (by decide) c_6
    refine G.bipush (v := (-2)) (by decide) dX6_write_17 ?_
    exact G.iret rfl (by unfold wrP; rw [if_neg (by first | (simp [h1]; done) | simp [h1, h2])]; exact ⟨rfl, rfl⟩) dX6_write_19
  · have h1 := ou_f 6 (by decide) c_6
    refine G.iload_n (k := 2) rfl dX6_write_9 ?_
    refine G.iconst (v := 4) (by decide) dX6_write_10 ?_
    refine G.callSif (c_X6_isOutside) ml_X6_72 ws_yX6_isOutside gcl_X6_isOutside (by decide) rfl rfl (Nat.le_of_ble_eq_true rfl) dX6_write_11 ?_
    refine G.if_eq (tgt := 20) (by decide) dX6_write_14 (fun c_14 => ?_) (fun c_14 => ?_)
    · have h2 := ou_f 4 (by decide) c_14
      obtain ⟨q, hq, eq⟩ := inB_of (by decide) h1
      subst eq
      have xq : ix (nI q) = q := ix_nI (by omega)
      obtain ⟨g, hg, eg⟩ := inB_of (by decide) h2
      subst eg
      have xg : ix (nI g) = g := ix_nI (by omega)
      obtain ⟨hfm, z, hz, ez⟩ := hS g hg
      refine G.aload_n (k := 0) rfl dX6_write_20 ?_
      refine G.getr (j := 1) rfl gci_X6 (by decide) rfl fl_X6_12 dX6_write_21 ?_
      refine G.iload_n (k := 2) rfl dX6_write_24 ?_
      refine G.callVif (c_X1_isLost hg) rfl (gci_X1).1 ml_X6_94 im_yX1_isLost se_yX1_isLost gcl_X1_isLost (by decide) rfl rfl (Nat.le_of_ble_eq_true rfl) dX6_write_25 ?_
      refine G.if_eq (tgt := 40) (by decide) dX6_write_28 (fun c_28 => ?_) (fun c_28 => ?_)
      · have h3 := bo_0.mp c_28
        refine G.aload_n (k := 0) rfl dX6_write_40 ?_
        refine G.callVv (c_X6_settle h) rfl (gci_X6).1 ml_X6_180 im_yX6_settle se_yX6_settle gcl_X6_settle (by decide) rfl rfl (Nat.le_of_ble_eq_true rfl) dX6_write_41 (fun τ hq9 => ?_)
        refine G.aload_n (k := 0) rfl dX6_write_44 ?_
        refine G.iload_n (k := 1) rfl dX6_write_45 ?_
        refine G.callVv (c_X6_showValue hq9.1 hq hq9.2.2.1) rfl (gci_X6).1 ml_X6_186 im_yX6_showValue se_yX6_showValue gcl_X6_showValue (by decide) rfl rfl (Nat.le_of_ble_eq_true rfl) dX6_write_46 (fun υ hu => ?_)
        have hQ := qF_tr hq9.2.1 hu.2.1
        have ez2 : υ 14 g = nI z := by rw [hQ 14 (by decide)]; exact ez
        refine G.aload_n (k := 0) rfl dX6_write_49 ?_
        refine G.getr (j := 10) rfl gci_X6 (by decide) rfl fl_X6_41 dX6_write_50 ?_
        refine G.iconst (v := (-1)) (by decide) dX6_write_53 ?_
        refine G.callVif (c_X0_tell lnA_36 hu.2.2) rfl (gci_X0).1 ml_X6_148 im_yX0_tell se_yX0_tell gcl_X0_tell (by decide) rfl rfl (Nat.le_of_ble_eq_true rfl) dX6_write_54 ?_
        rw [show lnT (vaU ln B q) (-1) = nI (vaU ln B q).length from if_pos rfl]
        refine G.aload_n (k := 0) rfl dX6_write_57 ?_
        refine G.getr (j := 1) rfl gci_X6 (by decide) rfl fl_X6_12 dX6_write_58 ?_
        refine G.iload_n (k := 2) rfl dX6_write_61 ?_
        refine G.callVif (c_X1_sizeOf hg) rfl (gci_X1).1 ml_X6_101 im_yX1_sizeOf se_yX1_sizeOf gcl_X1_sizeOf (by decide) rfl rfl (Nat.le_of_ble_eq_true rfl) dX6_write_62 ?_
        rw [ez2]
        refine G.callSif (c_J9_min_7cf53) ml_X6_217 ws_yJ9_min_7cf53 gcl_J9_min_7cf53 (by decide) rfl rfl (Nat.le_of_ble_eq_true rfl) dX6_write_65 ?_
        rw [min_nI hu.2.2.2.1 hz]
        refine G.ist3 (by decide) rfl dX6_write_68 ?_
        refine G.iconst (v := 0) (by decide) dX6_write_69 ?_
        refine G.ist4 (by decide) rfl dX6_write_70 ?_
        refine l_X6_write (q := q) (m := min (vaU ln B q).length z) hg hz ez2 hu.2.2 (Nat.min_le_left _ _) (Nat.min_le_right _ _) (fun τ2 e3 e4 => ?_) _ 0 υ (Nat.zero_add _) (fun _ _ => rfl) rfl
        unfold wrP wrM
        rw [if_pos (show (inB (nI q) 6 && inB (nI g) 4) = true by simp [h1, h2]), xg, if_neg h3, xq, ez, ix_nI (show z < 2 ^ 31 by omega)]
        have ro : ∀ k, 12 ≤ k → k ≤ 14 → τ2 k = σ k := fun k a b => by rw [e3 k (by omega)]; exact hQ k (Or.inl ⟨by omega, by omega⟩)
        refine ⟨rfl, IX_F (fun k hk => e3 k (by omega)) hu.1, ro 12 (by decide) (by decide), ro 13 (by decide) (by decide), ro 14 (by decide) (by decide), ?_⟩
        rw [e4, hQ 15 (by decide), hQ 13 (by decide)]
      · have h3 := bo_n.mp c_28
        refine G.aload_n (k := 0) rfl dX6_write_31 ?_
        refine G.getr (j := 1) rfl gci_X6 (by decide) rfl fl_X6_12 dX6_write_32 ?_
        refine G.iconst (v := 1) (by decide) dX6_write_35 ?_
        refine G.callVif (c_X1_find) rfl (gci_X1).1 ml_X6_98 im_yX1_find se_yX1_find gcl_X1_find (by decide) rfl rfl (Nat.le_of_ble_eq_true rfl) dX6_write_36 ?_
        exact G.iret rfl (by unfold wrP; rw [if_pos (by simp [h1, h2]), xg, if_pos h3]; exact ⟨by decide, rfl⟩) dX6_write_39
    · have h2 := ou_t 4 (by decide) c_14
      refine G.bipush (v := (-2)) (by decide) dX6_write_17 ?_
      exact G.iret rfl (by unfold wrP; rw [if_neg (by first | (simp [h1]; done) | simp [h1, h2])]; exact ⟨rfl, rfl⟩) dX6_write_19
end T69

/-! ===== what the class keeps of its texts ===== -/
def TX (σ : gS) (ln B : Nat → Nat) : Prop := ∀ t, t < 10 → σ 4 t = nI (ln t) ∧ ln t ≤ tcap t ∧ ∀ i, i < ln t → tok σ B (30 * t + i)
def m2 (B : Nat → Nat) (s n sec : Nat) : Nat := if fl2 B s n sec n 0 = -1 then n else 0
def FX (σ : gS) (ln B : Nat → Nat) (t : Nat) : Prop := if t < 8 then (σ 5 t = flT B (30 * t) (ln t) ∧ (wel B (30 * t) (ln t) → ∀ p, p < ln t → Me σ B (30 * t + p))) else if t = 8 then (σ 5 8 = fl2 B 240 (ln 8) 2 (ln 8) 0 ∧ ∀ u, u < 6 → σ 11 u = nI (tld B (m2 B 240 (ln 8) 2 / 2) u)) else (σ 5 9 = fl2 B 270 (ln 9) 1 (ln 9) 0 ∧ σ 1 10 = nI (tnT B (m2 B 270 (ln 9) 1 / 2)))
theorem tcap_le (t : Nat) : tcap t ≤ 30 := by unfold tcap; split <;> omega
theorem ne_m1 {q : Nat} (hq : q < 2 ^ 31) : ¬ nI q = -1 := fun e => nI_pos hq (by rw [e]; decide)
theorem flg_well {B : Nat → Nat} {s n : Nat} (hn : n < 2 ^ 31) : ∀ j i, i + j = n → (flg B s n j i = -1 ↔ (n = 0 ∨ scn B s n = some (0, 0)) ∧ (∀ q, i < q → q ≤ n → scn B s q ≠ none)) := by
  intro j
  induction j with
  | zero =>
    intro i hi
    rw [flg]
    constructor
    · intro h
      by_cases h2 : n = 0 ∨ scn B s n = some (0, 0)
      · exact ⟨h2, fun q h3 h4 => by omega⟩
      · rw [if_neg h2] at h; exact absurd h (ne_m1 hn)
    · intro h
      rw [if_pos h.1]
  | succ j ih =>
    intro i hi
    rw [flg]
    by_cases h2 : scn B s (i + 1) = none
    · rw [if_pos h2]
      exact ⟨fun h => absurd h (ne_m1 (by omega)), fun h => absurd h2 (h.2 (i + 1) (by omega) (by omega))⟩
    · rw [if_neg h2, ih (i + 1) (by omega)]
      constructor
      · intro h
        refine ⟨h.1, fun q h3 h4 => ?_⟩
        rcases Nat.lt_or_ge (i + 1) q with h5 | h5
        · exact h.2 q h5 h4
        · rw [show q = i + 1 by omega]; exact h2
      · intro h
        exact ⟨h.1, fun q h3 h4 => h.2 q (by omega) h4⟩
theorem flT_well {B : Nat → Nat} {s n : Nat} (hn : n < 2 ^ 31) (h0 : 0 < n) : flT B s n = -1 ↔ wel B s n := by
  rw [flT, flg_well hn n 0 (by omega)]
  constructor
  · intro h
    exact ⟨h0, h.1.resolve_left (by omega)⟩
  · intro h
    refine ⟨Or.inr h.2, fun q _ hq e => ?_⟩
    obtain ⟨a, b, hs⟩ := scn_some h.2 hq
    rw [hs] at e
    cases e
theorem wlB_wel {σ : gS} {B : Nat → Nat} {t n : Nat} (hn : n ≤ 30) (h1 : σ 4 t = nI n) (h2 : σ 5 t = flT B (30 * t) n) : wlB σ t = true ↔ wel B (30 * t) n := by
  unfold wlB
  rw [decide_eq_true_eq, h1, h2]
  constructor
  · intro h
    have h0 : 0 < n := (nI_ltI (a := 0) (by decide) (by omega)).mp h.1
    exact (flT_well (by omega) h0).mp h.2
  · intro h
    exact ⟨nI_lt (a := 0) h.1 (by omega), (flT_well (by omega) h.1).mpr h⟩
theorem FX_wl {σ : gS} {ln B : Nat → Nat} {t : Nat} (hT : TX σ ln B) (ht : t < 8) (hF : FX σ ln B t) : wlB σ t = true ↔ wel B (30 * t) (ln t) := by
  have h1 := hT t (by omega)
  rw [FX, if_pos ht] at hF
  exact wlB_wel (Nat.le_trans h1.2.1 (tcap_le t)) h1.1 hF.1
theorem m2_wl {σ : gS} {B : Nat → Nat} {t s n sec : Nat} (hn : n < 2 ^ 31) (h1 : σ 4 t = nI n) (h2 : σ 5 t = fl2 B s n sec n 0) : (if wlB σ t = true then n else 0) = m2 B s n sec := by
  unfold m2 wlB
  rw [h1, h2]
  by_cases h0 : n = 0
  · subst h0; simp
  · have h3 : (0 : Int32) < nI n := nI_lt (a := 0) (by omega) hn
    by_cases h4 : fl2 B s n sec n 0 = -1
    · rw [if_pos h4, if_pos (by simp [h3, h4])]
    · rw [if_neg h4, if_neg (by simp [h4])]
theorem m2_le (B : Nat → Nat) (s n sec : Nat) : m2 B s n sec ≤ n := by unfold m2; split <;> omega
theorem m2_k {B : Nat → Nat} {s n sec : Nat} (hn : n < 2 ^ 31) : m2 B s n sec % 2 = 0 ∧ ∀ q, q < m2 B s n sec → kd (B (s + q)) = (if q % 2 = 0 then 1 else sec) := by
  unfold m2
  split
  · rename_i h
    obtain ⟨h1, h2⟩ := fl2_well hn n 0 (by omega) h
    exact ⟨h1, fun q hq => h2 q (by omega) hq⟩
  · exact ⟨rfl, fun q hq => by omega⟩
/-- every byte of a well text starts a term, or is a name -/
theorem wel_all {B ln : Nat → Nat} {t p : Nat} (ht : t < 8) (hl : ln t ≤ 30) (hw : wel B (30 * t) (ln t)) (hp : p < ln t) : nd B ln (30 * t + p) ∨ kd (B (30 * t + p)) = 1 := by
  obtain ⟨nm, op, hs⟩ := scn_some hw.2 (show p ≤ ln t by omega)
  obtain ⟨a, b, hs1⟩ := scn_some hw.2 (show p + 1 ≤ ln t by omega)
  rw [scn_s hs] at hs1
  by_cases h0 : 0 < nm
  · right
    simp only [sstep, if_pos h0] at hs1
    by_cases h1 : kd (B (30 * t + p)) = 1
    · exact h1
    · rw [if_neg h1] at hs1; cases hs1
  · left
    have h1 : nm = 0 := by omega
    subst h1
    by_cases h2 : op = 0
    · subst h2; simp [sstep] at hs1
    · exact ⟨t, p, op - 1, ht, rfl, hw, hl, hp, by rw [hs, show op - 1 + 1 = op by omega]⟩
/-- what scan of text t may change -/
def scF (σ τ : gS) (t : Nat) : Prop := (∀ k, (k < 5 ∨ 11 < k) → k ≠ 1 → τ k = σ k) ∧ (∀ i, i ≠ 10 → τ 1 i = σ 1 i) ∧ (∀ i, i ≠ t → τ 5 i = σ 5 i) ∧ (∀ k i, 6 ≤ k → k ≤ 10 → ¬ (30 * t ≤ i ∧ i < 30 * t + 30) → τ k i = σ k i) ∧ (t ≠ 8 → τ 11 = σ 11) ∧ (t ≠ 9 → τ 1 10 = σ 1 10)
theorem scF_TX {σ τ : gS} {ln B : Nat → Nat} {t : Nat} (h : scF σ τ t) (hT : TX σ ln B) : TX τ ln B := by
  intro q hq
  have h2 := h.1 2 (by omega) (by omega)
  have h3 := h.1 3 (by omega) (by omega)
  have h4 := h.1 4 (by omega) (by omega)
  obtain ⟨a, b, c⟩ := hT q hq
  refine ⟨by rw [h4]; exact a, b, fun i hi => ?_⟩
  have := c i hi
  exact ⟨this.1, by rw [h2]; exact this.2.1, by rw [h3]; exact this.2.2⟩
theorem scF_FX {σ τ : gS} {ln B : Nat → Nat} {t : Nat} (h : scF σ τ t) {q : Nat} (hq : q < 10) (hne : q ≠ t) (hl : ln q ≤ 30) (hF : FX σ ln B q) : FX τ ln B q := by
  unfold FX at hF ⊢
  by_cases h8 : q < 8
  · rw [if_pos h8] at hF ⊢
    refine ⟨by rw [h.2.2.1 q hne]; exact hF.1, fun hw p hp => ?_⟩
    have M := hF.2 hw p hp
    have e : ∀ k, 6 ≤ k → k ≤ 10 → τ k (30 * q + p) = σ k (30 * q + p) := fun k h6 h10 => h.2.2.2.1 k _ h6 h10 (by omega)
    exact ⟨by rw [e 6 (by omega) (by omega)]; exact M.1, by rw [e 7 (by omega) (by omega)]; exact M.2.1, by rw [e 8 (by omega) (by omega)]; exact M.2.2.1, by rw [e 9 (by omega) (by omega)]; exact M.2.2.2.1, by rw [e 10 (by omega) (by omega)]; exact M.2.2.2.2⟩
  · rw [if_neg h8] at hF ⊢
    by_cases h9 : q = 8
    · rw [if_pos h9] at hF ⊢
      subst h9
      exact ⟨by rw [h.2.2.1 8 hne]; exact hF.1, fun u hu => by rw [h.2.2.2.2.1 (fun e => hne e.symm)]; exact hF.2 u hu⟩
    · rw [if_neg h9] at hF ⊢
      have h9 : q = 9 := by omega
      subst h9
      exact ⟨by rw [h.2.2.1 9 hne]; exact hF.1, by rw [h.2.2.2.2.2 (fun e => hne e.symm)]; exact hF.2⟩
theorem nu_plt {n : Nat} (h : n < 2 ^ 31) : nI n - 1 < nI n := by
  rw [Int32.lt_iff_toInt_lt, Int32.toInt_sub, nI_toInt h, show (1 : Int32).toInt = 1 from by decide, Int.bmod_eq_of_le (by omega) (by omega)]
  omega
section T34
variable {l : Launch} {D : va_G} {cA : ClassId} {ad : Nat → Nat}
variable {σ : gS}
set_option maxHeartbeats 4000000 in
set_option maxRecDepth 100000 in
theorem l_X4_scan {ln B : Nat → Nat} {t : Nat} {P : gS → Prop} (ht : t < 8) (hl : ln t ≤ 30) (hw : wel B (30 * t) (ln t)) (hB : ∀ i, i < ln t → tok σ B (30 * t + i)) (hP : ∀ τ, (∀ k i, ¬ (6 ≤ k ∧ k ≤ 10 ∧ 30 * t ≤ i ∧ i < 30 * t + ln t) → τ k i = σ k i) → (∀ i, 30 * t ≤ i → i < 30 * t + ln t → Me τ B i) → P τ) : ∀ j x τ, j ≤ ln t → x = nI (30 * t + j) - 1 → (∀ k i, ¬ (6 ≤ k ∧ k ≤ 10 ∧ 30 * t + j ≤ i ∧ i < 30 * t + ln t) → τ k i = σ k i) → (∀ i, 30 * t + j ≤ i → i < 30 * t + ln t → Me τ B i) → G (XC l D cA ad) mX4_scan (g_rv P) 41 [some (.ref 1), some (.int (nI t)), some (.int (nI (30 * t))), some (.int x)] [] τ := by
  intro j
  induction j with
  | zero =>
    intro x τ hj hx h1 h2
    subst hx
    refine G.iload_n (k := 3) rfl dX4_scan_41 ?_
    refine G.iload_n (k := 2) rfl dX4_scan_42 ?_
    refine G.icmp_lt (tgt := 57) (by decide) dX4_scan_43 (fun c_43 => ?_) (fun c_43 => absurd (nu_plt (show 30 * t + 0 < 2 ^ 31 by omega)) c_43)
    refine G.goto (tgt := 101) (by decide) dX4_scan_57 ?_
    exact G.vret rfl (hP τ (fun k i h => h1 k i (by omega)) (fun i h3 h4 => h2 i (by omega) h4)) dX4_scan_101
  | succ j ih =>
    intro x τ hj hx h1 h2
    have hx : x = nI (30 * t + j) := by rw [hx, ← Nat.add_assoc]; exact nI_pred _
    subst hx
    have rows : ∀ k, (k < 6 ∨ 10 < k) → ∀ i, τ k i = σ k i := fun k hk i => h1 k i (by omega)
    have tk : ∀ i, i < ln t → tok τ B (30 * t + i) := fun i hi => ⟨(hB i hi).1, by rw [rows 2 (by omega)]; exact (hB i hi).2.1, by rw [rows 3 (by omega)]; exact (hB i hi).2.2⟩
    refine G.iload_n (k := 3) rfl dX4_scan_41 ?_
    refine G.iload_n (k := 2) rfl dX4_scan_42 ?_
    refine G.icmp_lt (tgt := 57) (by decide) dX4_scan_43 (fun c_43 => absurd c_43 (nI_nlt (by omega) (by omega))) (fun c_43 => ?_)
    refine G.aload_n (k := 0) rfl dX4_scan_46 ?_
    refine G.iload_n (k := 3) rfl dX4_scan_47 ?_
    have hM0 : ∀ h, nd B ln h → 30 * t + j < h → h / 30 = (30 * t + j) / 30 → Me τ B h := fun h hn h3 h4 => by
      refine h2 h (by omega) ?_
      obtain ⟨t2, p2, op, q1, q2, q3, q4, q5, q6⟩ := hn
      have e : t2 = t := by omega
      subst e
      omega
    have ht0 : ∀ h, 30 * t + j < h → h < 30 * ((30 * t + j) / 30) + ln ((30 * t + j) / 30) → tok τ B h := fun h h3 h4 => by
      have e : (30 * t + j) / 30 = t := by omega
      rw [e] at h4
      have := tk (h - 30 * t) (by omega)
      rwa [show 30 * t + (h - 30 * t) = h by omega] at this
    refine G.callVvf (c_X4_weigh (ln := ln) (by omega) (tk j (by omega)) (wel_all ht hl hw (by omega)) hM0 ht0) rfl (gci_X4).1 ml_X4_100 im_yX4_weigh se_yX4_weigh gcl_X4_weigh (by decide) rfl rfl (Nat.le_of_ble_eq_true rfl) dX4_scan_48 ?_
    refine G.inc3 (d := -1) (by decide) (by decide) rfl dX4_scan_51 ?_
    rw [show nI (30 * t + j) + (-1) = nI (30 * t + j) - 1 from (Int32.sub_eq_add_neg _ _).symm]
    refine G.goto (tgt := 41) (by decide) dX4_scan_54 ?_
    refine ih _ _ (by omega) rfl (fun k i h => ?_) (fun i h3 h4 => ?_)
    · by_cases hi : i = 30 * t + j
      · subst hi
        rw [show s5B τ B (30 * t + j) k = τ k from s5_row _ _ _ _ _ _ _ (by omega)]
        exact h1 k _ (by omega)
      · rw [show s5B τ B (30 * t + j) k i = τ k i from s5_ne _ _ _ _ _ _ k hi]
        exact h1 k i (by omega)
    · by_cases hi : i = 30 * t + j
      · subst hi
        exact ⟨s5_r6 _ _ _ _ _ _ _, s5_r7 _ _ _ _ _ _ _, s5_r8 _ _ _ _ _ _ _, s5_r9 _ _ _ _ _ _ _, s5_r10 _ _ _ _ _ _ _⟩
      · have M := h2 i (by omega) h4
        have e : ∀ k, s5B τ B (30 * t + j) k i = τ k i := fun k => s5_ne _ _ _ _ _ _ k hi
        exact ⟨by rw [e]; exact M.1, by rw [e]; exact M.2.1, by rw [e]; exact M.2.2.1, by rw [e]; exact M.2.2.2.1, by rw [e]; exact M.2.2.2.2⟩
set_option maxHeartbeats 4000000 in
set_option maxRecDepth 100000 in
theorem c_X4_scan {ln B : Nat → Nat} {t : Nat} (ht : t < 10) (hT : TX σ ln B) : GM (XC l D cA ad) mX4_scan [.ref 1, .int (nI t)] σ (g_rv (fun τ => FX τ ln B t ∧ scF σ τ t)) := by
  refine GM.of (ls := [some (.ref 1), some (.int (nI t)), none, none]) (by decide) (Nat.le_of_ble_eq_true rfl) rfl ?_
  obtain ⟨hl, hcap, hB⟩ := hT t ht
  have h30 := Nat.le_trans hcap (tcap_le t)
  refine G.iload_n (k := 1) rfl dX4_scan_0 ?_
  refine G.bipush (v := 8) (by decide) dX4_scan_1 ?_
  refine G.icmp_ge (tgt := 60) (by decide) dX4_scan_3 (fun c_3 => ?_) (fun c_3 => ?_)
  · have h8 : 8 ≤ t := by
      rcases Nat.lt_or_ge t 8 with q | q
      · exact absurd c_3 (nI_ge (b := 8) q (by decide))
      · exact q
    refine G.iload_n (k := 1) rfl dX4_scan_60 ?_
    refine G.bipush (v := 8) (by decide) dX4_scan_61 ?_
    refine G.icmp_ne (tgt := 85) (by decide) dX4_scan_63 (fun c_63 => ?_) (fun c_63 => ?_)
    · have e9 : t = 9 := by
        have : ¬ t = 8 := fun e => c_63 (by rw [e]; rfl)
        omega
      subst e9
      have f5 : ∀ x : Int32, scF σ (up2 σ 5 9 x) 9 := fun x => ⟨fun k hk _ => up2_ne _ _ _ (by omega), fun i _ => by rw [up2_ne _ _ _ (by decide)], fun i hi => by rw [up2_same]; exact if_neg hi, fun k i h6 h10 _ => by rw [up2_ne _ _ _ (by omega)], fun _ => up2_ne _ _ _ (by decide), fun _ => by rw [up2_ne _ _ _ (by decide)]⟩
      refine G.aload_n (k := 0) rfl dX4_scan_85 ?_
      refine G.getr (j := 3) rfl gci_X4 (by decide) rfl fl_X4_21 dX4_scan_86 ?_
      refine G.iload_n (k := 1) rfl dX4_scan_89 ?_
      refine G.aload_n (k := 0) rfl dX4_scan_90 ?_
      refine G.iload_n (k := 1) rfl dX4_scan_91 ?_
      refine G.iconst (v := 1) (by decide) dX4_scan_92 ?_
      refine G.callVif (c_X4_faultOfTwos (sec := 1) ht h30 (by omega) hl hB) rfl (gci_X4).1 ml_X4_104 im_yX4_faultOfTwos se_yX4_faultOfTwos gcl_X4_faultOfTwos (by decide) rfl rfl (Nat.le_of_ble_eq_true rfl) dX4_scan_93 ?_
      refine G.iastN (k := 9) rfl (rfl) (by omega) (by decide) dX4_scan_96 ?_
      refine G.aload_n (k := 0) rfl dX4_scan_97 ?_
      have e4 : ∀ x, up2 σ 5 9 x 4 = σ 4 := fun x => up2_ne _ _ _ (by decide)
      have em := m2_wl (σ := up2 σ 5 9 (fl2 B 270 (ln 9) 1 (ln 9) 0)) (B := B) (t := 9) (s := 270) (n := ln 9) (sec := 1) (by omega) (by rw [e4]; exact hl) (up2_at _ _ _ _)
      have hm := m2_k (B := B) (s := 270) (n := ln 9) (sec := 1) (by omega)
      have hml := m2_le B 270 (ln 9) 1
      have hc24 : ln 9 ≤ 24 := hcap
      have F := f5 (fl2 B 270 (ln 9) 1 (ln 9) 0)
      refine G.callVvf (c_X4_findTheTurn (n := ln 9) (m := m2 B 270 (ln 9) 1) hc24 (by rw [e4]; exact hl) em.symm hm.1 (fun i hi => ⟨(hB i (by omega)).1, by rw [up2_ne _ _ _ (by decide)]; exact (hB i (by omega)).2.1, by rw [up2_ne _ _ _ (by decide)]; exact (hB i (by omega)).2.2⟩) (fun i hi => by have := hm.2 i hi; split at this <;> exact this)) rfl (gci_X4).1 ml_X4_110 im_yX4_findTheTurn se_yX4_findTheTurn gcl_X4_findTheTurn (by decide) rfl rfl (Nat.le_of_ble_eq_true rfl) dX4_scan_98 ?_
      have hfin : FX (up2 (up2 σ 5 9 (fl2 B 270 (ln 9) 1 (ln 9) 0)) 1 10 (nI (tnT B (m2 B 270 (ln 9) 1 / 2)))) ln B 9 ∧ scF σ (up2 (up2 σ 5 9 (fl2 B 270 (ln 9) 1 (ln 9) 0)) 1 10 (nI (tnT B (m2 B 270 (ln 9) 1 / 2)))) 9 := by
        refine ⟨?_, fun k hk h1 => ?_, fun i hi => ?_, fun i hi => ?_, fun k i h6 h10 h7 => ?_, fun h => ?_, fun h => absurd rfl h⟩
        · rw [FX, if_neg (by decide), if_neg (by decide)]
          exact ⟨by rw [up2_ne _ _ _ (by decide)]; exact up2_at _ _ _ _, up2_at _ _ _ _⟩
        · rw [up2_ne _ _ _ h1]; exact F.1 k hk h1
        · rw [up2_same]; exact (if_neg hi).trans (F.2.1 i hi)
        · rw [up2_ne _ _ _ (by decide)]; exact F.2.2.1 i hi
        · rw [up2_ne _ _ _ (by omega)]; exact F.2.2.2.1 k i h6 h10 h7
        · rw [up2_ne _ _ _ (by decide)]; exact F.2.2.2.2.1 h
      exact G.vret rfl (hfin) dX4_scan_101
    · have e8 : t = 8 := (nI_eq (by omega) (by decide)).mp c_63
      subst e8
      have f5 : ∀ x : Int32, scF σ (up2 σ 5 8 x) 8 := fun x => ⟨fun k hk _ => up2_ne _ _ _ (by omega), fun i _ => by rw [up2_ne _ _ _ (by decide)], fun i hi => by rw [up2_same]; exact if_neg hi, fun k i h6 h10 _ => by rw [up2_ne _ _ _ (by omega)], fun _ => up2_ne _ _ _ (by decide), fun _ => by rw [up2_ne _ _ _ (by decide)]⟩
      refine G.aload_n (k := 0) rfl dX4_scan_66 ?_
      refine G.getr (j := 3) rfl gci_X4 (by decide) rfl fl_X4_21 dX4_scan_67 ?_
      refine G.iload_n (k := 1) rfl dX4_scan_70 ?_
      refine G.aload_n (k := 0) rfl dX4_scan_71 ?_
      refine G.iload_n (k := 1) rfl dX4_scan_72 ?_
      refine G.iconst (v := 2) (by decide) dX4_scan_73 ?_
      refine G.callVif (c_X4_faultOfTwos (sec := 2) ht h30 (by omega) hl hB) rfl (gci_X4).1 ml_X4_104 im_yX4_faultOfTwos se_yX4_faultOfTwos gcl_X4_faultOfTwos (by decide) rfl rfl (Nat.le_of_ble_eq_true rfl) dX4_scan_74 ?_
      refine G.iastN (k := 8) rfl (rfl) (by omega) (by decide) dX4_scan_77 ?_
      refine G.aload_n (k := 0) rfl dX4_scan_78 ?_
      have e4 : ∀ x, up2 σ 5 8 x 4 = σ 4 := fun x => up2_ne _ _ _ (by decide)
      have em := m2_wl (σ := up2 σ 5 8 (fl2 B 240 (ln 8) 2 (ln 8) 0)) (B := B) (t := 8) (s := 240) (n := ln 8) (sec := 2) (by omega) (by rw [e4]; exact hl) (up2_at _ _ _ _)
      have hm := m2_k (B := B) (s := 240) (n := ln 8) (sec := 2) (by omega)
      have hml := m2_le B 240 (ln 8) 2
      have hc24 : ln 8 ≤ 24 := hcap
      refine G.callVv (c_X4_findToldFresh (n := ln 8) (m := m2 B 240 (ln 8) 2) hc24 (by rw [e4]; exact hl) em.symm hm.1 (fun i hi => ⟨(hB i (by omega)).1, by rw [up2_ne _ _ _ (by decide)]; exact (hB i (by omega)).2.1, by rw [up2_ne _ _ _ (by decide)]; exact (hB i (by omega)).2.2⟩) hm.2) rfl (gci_X4).1 ml_X4_107 im_yX4_findToldFresh se_yX4_findToldFresh gcl_X4_findToldFresh (by decide) rfl rfl (Nat.le_of_ble_eq_true rfl) dX4_scan_79 (fun τ hq => ?_)
      refine G.goto (tgt := 101) (by decide) dX4_scan_82 ?_
      obtain ⟨f, rfl, hf⟩ := hq
      have F := f5 (fl2 B 240 (ln 8) 2 (ln 8) 0)
      have hfin : FX (upA (up2 σ 5 8 (fl2 B 240 (ln 8) 2 (ln 8) 0)) 11 f) ln B 8 ∧ scF σ (upA (up2 σ 5 8 (fl2 B 240 (ln 8) 2 (ln 8) 0)) 11 f) 8 := by
        refine ⟨?_, fun k hk h1 => ?_, fun i hi => ?_, fun i hi => ?_, fun k i h6 h10 h7 => ?_, fun h => absurd rfl h, fun h => ?_⟩
        · rw [FX, if_neg (by decide), if_pos rfl]
          exact ⟨by rw [upA_ne _ _ (by decide)]; exact up2_at _ _ _ _, fun u hu => by rw [upA_same]; exact hf u hu⟩
        · rw [upA_ne _ _ (by omega)]; exact F.1 k hk h1
        · rw [upA_ne _ _ (by decide)]; exact F.2.1 i hi
        · rw [upA_ne _ _ (by decide)]; exact F.2.2.1 i hi
        · rw [upA_ne _ _ (by omega)]; exact F.2.2.2.1 k i h6 h10 h7
        · rw [upA_ne _ _ (by decide)]; exact F.2.2.2.2.2 h
      exact G.vret rfl (hfin) dX4_scan_101
  · have h8 : t < 8 := by
      rcases Nat.lt_or_ge t 8 with q | q
      · exact q
      · exact absurd (nI_le (a := 8) q (by omega)) c_3
    refine G.aload_n (k := 0) rfl dX4_scan_6 ?_
    refine G.getr (j := 3) rfl gci_X4 (by decide) rfl fl_X4_21 dX4_scan_7 ?_
    refine G.iload_n (k := 1) rfl dX4_scan_10 ?_
    refine G.aload_n (k := 0) rfl dX4_scan_11 ?_
    refine G.iload_n (k := 1) rfl dX4_scan_12 ?_
    refine G.callVif (c_X4_faultOfTerm h8 h30 hl hB) rfl (gci_X4).1 ml_X4_97 im_yX4_faultOfTerm se_yX4_faultOfTerm gcl_X4_faultOfTerm (by decide) rfl rfl (Nat.le_of_ble_eq_true rfl) dX4_scan_13 ?_
    refine G.iastN (k := t) rfl (rfl) (by omega) (by decide) dX4_scan_16 ?_
    refine G.aload_n (k := 0) rfl dX4_scan_17 ?_
    refine G.iload_n (k := 1) rfl dX4_scan_18 ?_
    have fr : scF σ (up2 σ 5 t (flT B (30 * t) (ln t))) t := ⟨fun k hk _ => up2_ne _ _ _ (by omega), fun i _ => by rw [up2_ne _ _ _ (by decide)], fun i hi => by rw [up2_same]; exact if_neg hi, fun k i h6 h10 _ => by rw [up2_ne _ _ _ (by omega)], fun _ => up2_ne _ _ _ (by decide), fun _ => by rw [up2_ne _ _ _ (by decide)]⟩
    have hl1 : up2 σ 5 t (flT B (30 * t) (ln t)) 4 = σ 4 := up2_ne _ _ _ (by decide)
    have h51 : up2 σ 5 t (flT B (30 * t) (ln t)) 5 t = flT B (30 * t) (ln t) := up2_at _ _ _ _
    have hwl := wlB_wel (σ := up2 σ 5 t (flT B (30 * t) (ln t))) (B := B) (t := t) (n := ln t) h30 (by rw [hl1]; exact hl) h51
    refine G.callVif (c_X4_isWell (t := t) (by omega)) rfl (gci_X4).1 ml_X4_59 im_yX4_isWell se_yX4_isWell gcl_X4_isWell (by decide) rfl rfl (Nat.le_of_ble_eq_true rfl) dX4_scan_19 ?_
    refine G.if_eq (tgt := 101) (by decide) dX4_scan_22 (fun c_22 => ?_) (fun c_22 => ?_)
    · have hnw : ¬ wel B (30 * t) (ln t) := fun h => (bo_0.mp c_22) (hwl.mpr h)
      exact G.vret rfl (⟨by rw [FX, if_pos h8]; exact ⟨h51, fun h => absurd h hnw⟩, fr⟩) dX4_scan_101
    · have hw : wel B (30 * t) (ln t) := hwl.mp (bo_n.mp c_22)
      refine G.iload_n (k := 1) rfl dX4_scan_25 ?_
      refine G.bipush (v := 30) (by decide) dX4_scan_26 ?_
      refine G.imul dX4_scan_28 ?_
      rw [nu_30]
      refine G.ist2 (by decide) rfl dX4_scan_29 ?_
      refine G.iload_n (k := 2) rfl dX4_scan_30 ?_
      refine G.aload_n (k := 0) rfl dX4_scan_31 ?_
      refine G.getr (j := 2) rfl gci_X4 (by decide) rfl fl_X4_18 dX4_scan_32 ?_
      refine G.iload_n (k := 1) rfl dX4_scan_35 ?_
      refine G.ialdN (k := t) rfl (rfl) (by omega) (by decide) dX4_scan_36 ?_
      rw [hl1, hl]
      refine G.iadd dX4_scan_37 ?_
      rw [nI_add]
      refine G.iconst (v := 1) (by decide) dX4_scan_38 ?_
      refine G.isub dX4_scan_39 ?_
      refine G.ist3 (by decide) rfl dX4_scan_40 ?_
      refine l_X4_scan h8 h30 hw (fun i hi => ⟨(hB i hi).1, by rw [up2_ne _ _ _ (by decide)]; exact (hB i hi).2.1, by rw [up2_ne _ _ _ (by decide)]; exact (hB i hi).2.2⟩) (fun τ q1 q2 => ⟨?_, ?_⟩) (ln t) _ _ (Nat.le_refl _) rfl (fun _ _ _ => rfl) (fun i _ _ => by omega)
      · rw [FX, if_pos h8]
        exact ⟨by rw [q1 5 t (by omega)]; exact h51, fun _ p hp => q2 _ (by omega) (by omega)⟩
      · refine ⟨fun k hk h1 => ?_, fun i hi => ?_, fun i hi => ?_, fun k i h6 h10 h7 => ?_, fun h => ?_, fun h => ?_⟩
        · funext i; rw [q1 k i (by omega)]; exact congrFun (fr.1 k hk h1) i
        · rw [q1 1 i (by omega)]; exact fr.2.1 i hi
        · rw [q1 5 i (by omega)]; exact fr.2.2.1 i hi
        · rw [q1 k i (by omega)]; exact fr.2.2.2.1 k i h6 h10 h7
        · funext i; rw [q1 11 i (by omega)]; exact congrFun (fr.2.2.2.2.1 h) i
        · rw [q1 1 10 (by omega)]; exact fr.2.2.2.2.2 h
end T34

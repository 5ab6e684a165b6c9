/-! ===== what is asked, as a matter of the texts alone ===== -/
def wlA (ln B : Nat → Nat) (t : Nat) : Bool := decide (0 < ln t ∧ scn B (30 * t) (ln t) = some (0, 0))
theorem wlA_iff {ln B : Nat → Nat} {t : Nat} : wlA ln B t = true ↔ wel B (30 * t) (ln t) := by unfold wlA wel; exact decide_eq_true_iff
def thA (ln B : Nat → Nat) (e : Nat) : Bool := wlA ln B (2 * e) && wlA ln B (2 * e + 1)
def tdA (ln B : Nat → Nat) (u : Nat) : Nat := tld B (m2 B 240 (ln 8) 2 / 2) u
def ttA (ln B : Nat → Nat) : Nat := tnT B (m2 B 270 (ln 9) 1 / 2)
def ordN : List Nat := [0x0123, 0x0132, 0x0213, 0x0231, 0x0312, 0x0321, 0x1023, 0x1032, 0x1203, 0x1230, 0x1302, 0x1320, 0x2013, 0x2031, 0x2103, 0x2130, 0x2301, 0x2310, 0x3012, 0x3021, 0x3102, 0x3120, 0x3201, 0x3210]
def ordE (k p : Nat) : Nat := (ordN.getD k 0) / 16 ^ p % 4
theorem ordE_ok : ∀ k, k < 24 → ∀ p, p < 4 → (g_ord k >>> ((4 * nI p) &&& 31)) &&& 3 = nI (ordE k p) := by decide +kernel
theorem ordE_lt (k p : Nat) : ordE k p < 4 := Nat.mod_lt _ (by decide)
noncomputable def usol (ln B : Nat → Nat) (k wm : Nat) : uS × Nat × Int32 := useq false B (fun e => wm.testBit e && thA ln B e) (lst (ordE k) 4) (((fun _ => none), [], tdA ln B, [], 0), 600, -1)
noncomputable def uwhy (B : Nat → Nat) (R : uS × Nat × Int32) : Nat := if R.1.2.2.2.2 ≠ 0 then R.1.2.2.2.2 else @ite _ (BD B R.1.1 R.1.2.2.2.1 R.1.2.2.1) (Classical.propDecidable _) 3 0
noncomputable def uMu (B : Nat → Nat) (R : uS × Nat × Int32) (u : Nat) : Nat := ms_of (fun m => @decide (LU B R.1.1 R.1.2.2.2.1 R.1.2.2.1 u m) (Classical.propDecidable _))
noncomputable def fnd (B : Nat → Nat) (R : uS × Nat × Int32) (i : Nat) : Int32 := if i = 0 then nI (uwhy B R) else if i = 1 then R.2.2 else if i = 2 then nI (600 - R.2.1) else nI (cntV R.1.1 6)
def RunQ (τ : gS) (b : Nat) (B : Nat → Nat) (R : uS × Nat × Int32) : Prop := (∀ u, u < 6 → τ (b + 1) u = vrow R.1.1 u) ∧ τ b 10 = nI (600 - R.2.1) ∧ τ b 9 = R.2.2 ∧ τ b 2 = nI (cntV R.1.1 6) ∧ τ b 8 = nI (uwhy B R) ∧ (R.1.2.2.2.2 = 0 → ∀ u, u < 6 → τ (b + 5) u = nI (uMu B R u))
theorem RunP_Q {σ τ : gS} {b : Nat} {B : Nat → Nat} {rig : Bool} {R : uS × Nat × Int32} (h : RunP σ τ b B rig R) : RunQ τ b B R := by
  obtain ⟨h1, h2, h3, h4, h5, h6, h7⟩ := h
  by_cases e : R.1.2.2.2.2 = 0
  · obtain ⟨bd, mU, q1, q2, q3⟩ := h7 e
    refine ⟨h2, h3, h4, h5, ?_, fun _ u hu => ?_⟩
    · unfold uwhy
      rw [q1, if_neg (fun h => h e)]
      by_cases c : BD B R.1.1 R.1.2.2.2.1 R.1.2.2.1
      · rw [if_pos c, q2.mpr c]; rfl
      · rw [if_neg c]
        have : bd = false := by
          cases bd with
          | false => rfl
          | true => exact absurd (q2.mp rfl) c
        rw [this]; rfl
    · rw [(q3 u hu).1]
      refine congrArg nI (ms_ext (q3 u hu).2.1 (ms_lt _) (fun n hn => ?_))
      rw [uMu, ms_bit _ n hn]
      by_cases c : LU B R.1.1 R.1.2.2.2.1 R.1.2.2.1 u n
      · rw [((q3 u hu).2.2 n).mpr ⟨hn, c⟩]
        exact (@decide_eq_true _ (Classical.propDecidable _) c).symm
      · have h9 : ¬ (mU u).testBit n = true := fun h => c (((q3 u hu).2.2 n).mp h).2
        simp at h9
        rw [h9]
        exact (@decide_eq_false _ (Classical.propDecidable _) c).symm
  · exact ⟨h2, h3, h4, h5, by unfold uwhy; rw [if_pos e]; exact h6 e, fun h => absurd h e⟩
theorem uwhy_lt {B ln : Nat → Nat} {R : uS × Nat × Int32} (h : uG B ln R.1) : uwhy B R < 8 := by
  unfold uwhy
  split
  · exact h.2.2.2.2.2
  · by_cases c : BD B R.1.1 R.1.2.2.2.1 R.1.2.2.1
    · rw [if_pos c]; decide
    · rw [if_neg c]; decide
theorem useq_congr {rig : Bool} {B : Nat → Nat} {th th' : Nat → Bool} : ∀ es z, (∀ e ∈ es, th e = th' e) → useq rig B th es z = useq rig B th' es z := by
  intro es
  induction es with
  | nil => intro z _; rfl
  | cons e es ih =>
    intro z h
    have h1 := h e List.mem_cons_self
    have h2 := fun z => ih z (fun x hx => h x (List.mem_cons_of_mem _ hx))
    rw [useq, useq, h1, h2, h2]
theorem useq_G {rig : Bool} {B ln : Nat → Nat} {th : Nat → Bool} (hth : ∀ e, th e = true → nd B ln (60 * e) ∧ nd B ln (60 * e + 30)) : ∀ es z, uG B ln z.1 → uG B ln (useq rig B th es z).1 := by
  intro es
  induction es with
  | nil => intro z h; exact h
  | cons e es ih =>
    intro z h
    rw [useq]
    split
    · exact ih z h
    · split
      · exact ih z h
      · rename_i h1
        have h2 := hth e (by simpa using h1)
        have h3 := urun_G (ln := ln) rig z.2.1 (z.1.1, [((60 * e, tn_id), (60 * e + 30, tn_id))], z.1.2.2.1, z.1.2.2.2.1, z.1.2.2.2.2) ⟨h.1, h.2.1, fun y hy => by rw [List.mem_singleton.mp hy]; exact ⟨h2.1, tn_P_id, h2.2, tn_P_id⟩, h.2.2.2.1, h.2.2.2.2.1, h.2.2.2.2.2⟩
        refine ih _ ⟨h3.1, h3.2.1, h3.2.2.1, h3.2.2.2.1, h3.2.2.2.2.1, ?_⟩
        dsimp only
        split
        · decide
        · exact h3.2.2.2.2.2
theorem lst_lt (k : Nat) : ∀ n, ∀ e ∈ lst (ordE k) n, e < 4 := by
  intro n
  induction n with
  | zero => intro e he; cases he
  | succ n ih =>
    intro e he
    rcases List.mem_cons.mp he with h | h
    · rw [h]; exact ordE_lt k n
    · exact ih e h
theorem tdA_lt (ln B : Nat → Nat) (hn : ln 8 < 2 ^ 31) (u : Nat) : tdA ln B u < 64 := by
  have hm := m2_k (B := B) (s := 240) (n := ln 8) (sec := 2) hn
  refine tld_lt _ u (fun q hq => ?_)
  have := hm.2 (2 * q) (by omega)
  rwa [if_pos (by omega)] at this
theorem ttA_P (ln B : Nat → Nat) (hn : ln 9 < 2 ^ 31) : tn_P (ttA ln B) := by
  have hm := m2_k (B := B) (s := 270) (n := ln 9) (sec := 1) hn
  refine tnT_P _ (fun q hq => ?_)
  have := hm.2 q (by omega)
  split at this <;> exact this
/-- bytes that are shown of a text -/
def shT (ln B : Nat → Nat) (t c : Nat) : List Nat := if wlA ln B t = true then (ush B (fun _ => none) 60 [(30 * t, c)]).take 60 else []
noncomputable def vaU (ln B : Nat → Nat) (u : Nat) : List Nat := if uwhy B (usol ln B 0 15) = 0 then (match (usol ln B 0 15).1.1 u with | none => [80 + u] | some q => (ush B (usol ln B 0 15).1.1 60 [q]).take 60) else []
/-- what the class keeps beside its texts -/
def cS (σ : gS) (ln B : Nat → Nat) : Prop := (σ 0 4 = 0 ∨ σ 0 4 = 1) ∧ (σ 0 4 = 1 → RunQ σ 16 B (usol ln B 0 15))
def cW (σ : gS) (ln B : Nat → Nat) : Prop := ∃ wk, wk < 2 ^ 24 ∧ σ 0 6 = nI wk ∧ ∀ k, k < 24 → wk.testBit k = true → ∀ i, i < 4 → σ 28 (4 * k + i) = fnd B (usol ln B k 15) i
def cL (σ : gS) (b N : Nat) (f : Nat → List Nat) : Prop := σ b 2 = -1 ∨ ∃ t, t < N ∧ σ b 2 = nI t ∧ LnH σ b (f t)
def IX (σ : gS) (ln B : Nat → Nat) : Prop := TX σ ln B ∧ (∀ t, t < 10 → FX σ ln B t) ∧ cS σ ln B ∧ cW σ ln B ∧ cL σ 30 8 (fun t => shT ln B t tn_id) ∧ cL σ 33 8 (fun t => shT ln B t (ttA ln B)) ∧ cL σ 36 6 (fun u => vaU ln B u) ∧ cL σ 39 1 (fun _ => (tn_by (ttA ln B) 6).take 60) ∧ ∀ u, u < 6 → σ 29 u = -1
def qF (σ τ : gS) : Prop := ∀ k, (1 ≤ k ∧ k ≤ 15) ∨ k = 29 → τ k = σ k
theorem qF_rf (σ : gS) : qF σ σ := fun _ _ => rfl
theorem qF_tr {σ τ υ : gS} (h1 : qF σ τ) (h2 : qF τ υ) : qF σ υ := fun k h => (h2 k h).trans (h1 k h)
theorem LnH_congr {σ τ : gS} {b : Nat} {L : List Nat} (h1 : τ b 1 = σ b 1) (h2 : τ (b + 1) = σ (b + 1)) (h : LnH σ b L) : LnH τ b L := ⟨by rw [h1]; exact h.1, h.2.1, fun i x hi => by rw [h2]; exact h.2.2 i x hi⟩
theorem cL_congr {σ τ : gS} {b N : Nat} {f : Nat → List Nat} (h1 : ∀ i, i = 1 ∨ i = 2 → τ b i = σ b i) (h2 : τ (b + 1) = σ (b + 1)) (h : cL σ b N f) : cL τ b N f := by
  rcases h with h | ⟨t, ht, e, hL⟩
  · exact Or.inl (by rw [h1 2 (Or.inr rfl)]; exact h)
  · exact Or.inr ⟨t, ht, by rw [h1 2 (Or.inr rfl)]; exact e, LnH_congr (h1 1 (Or.inl rfl)) h2 hL⟩
theorem RunQ_congr {σ τ : gS} {b : Nat} {B : Nat → Nat} {R : uS × Nat × Int32} (h : ∀ k, b ≤ k → k ≤ b + 5 → τ k = σ k) (hR : RunQ σ b B R) : RunQ τ b B R := by
  have h0 := h b (by omega) (by omega)
  have h1 := h (b + 1) (by omega) (by omega)
  have h5 := h (b + 5) (by omega) (by omega)
  obtain ⟨a1, a2, a3, a4, a5, a6⟩ := hR
  exact ⟨fun u hu => by rw [h1]; exact a1 u hu, by rw [h0]; exact a2, by rw [h0]; exact a3, by rw [h0]; exact a4, by rw [h0]; exact a5, fun e u hu => by rw [h5]; exact a6 e u hu⟩
theorem cS_congr {σ τ : gS} {ln B : Nat → Nat} (h0 : τ 0 4 = σ 0 4) (h : ∀ k, 16 ≤ k → k ≤ 21 → τ k = σ k) (hS : cS σ ln B) : cS τ ln B := ⟨by rw [h0]; exact hS.1, fun e => RunQ_congr (fun k a b => h k a (by omega)) (hS.2 (by rw [← h0]; exact e))⟩
theorem cW_congr {σ τ : gS} {ln B : Nat → Nat} (h0 : τ 0 6 = σ 0 6) (h : τ 28 = σ 28) (hW : cW σ ln B) : cW τ ln B := by
  obtain ⟨wk, a1, a2, a3⟩ := hW
  exact ⟨wk, a1, by rw [h0]; exact a2, fun k hk hb i hi => by rw [h]; exact a3 k hk hb i hi⟩
theorem TX_F {σ τ : gS} {ln B : Nat → Nat} (h : ∀ k, 1 ≤ k → k ≤ 11 → τ k = σ k) (hT : TX σ ln B) : TX τ ln B := by
  intro t ht
  obtain ⟨a, b, c⟩ := hT t ht
  refine ⟨by rw [h 4 (by decide) (by decide)]; exact a, b, fun i hi => ?_⟩
  have := c i hi
  exact ⟨this.1, by rw [h 2 (by decide) (by decide)]; exact this.2.1, by rw [h 3 (by decide) (by decide)]; exact this.2.2⟩
theorem FX_F {σ τ : gS} {ln B : Nat → Nat} {t : Nat} (h : ∀ k, 1 ≤ k → k ≤ 11 → τ k = σ k) (hF : FX σ ln B t) : FX τ ln B t := by
  unfold FX at hF ⊢
  rw [h 5 (by decide) (by decide), h 11 (by decide) (by decide), h 1 (by decide) (by decide)]
  split
  · rw [if_pos (by assumption)] at hF
    refine ⟨hF.1, fun hw p hp => ?_⟩
    have M := hF.2 hw p hp
    exact ⟨by rw [h 6 (by decide) (by decide)]; exact M.1, by rw [h 7 (by decide) (by decide)]; exact M.2.1, by rw [h 8 (by decide) (by decide)]; exact M.2.2.1, by rw [h 9 (by decide) (by decide)]; exact M.2.2.2.1, by rw [h 10 (by decide) (by decide)]; exact M.2.2.2.2⟩
  · rw [if_neg (by assumption)] at hF
    exact hF
section IXL
variable {σ : gS} {ln B : Nat → Nat}
theorem IX_wl (h : IX σ ln B) {t : Nat} (ht : t < 8) : wlB σ t = wlA ln B t := by
  have h1 := FX_wl h.1 ht (h.2.1 t (by omega))
  rw [← wlA_iff] at h1
  by_cases e : wlA ln B t = true
  · rw [e, h1.mpr e]
  · have e2 : ¬ wlB σ t = true := fun q => e (h1.mp q)
    simp at e e2
    rw [e, e2]
theorem IX_th (h : IX σ ln B) {e : Nat} (he : e < 4) : thX σ e = thA ln B e := by unfold thX thA; rw [IX_wl h (by omega), IX_wl h (by omega)]
theorem IX_tx (h : IX σ ln B) : tx3 σ ln B := tx3_of h.1 (fun t ht => h.2.1 t (by omega))
theorem IX_ln (h : IX σ ln B) {t : Nat} (ht : t < 10) : ln t ≤ 30 := Nat.le_trans (h.1 t ht).2.1 (tcap_le t)
theorem IX_nd (h : IX σ ln B) {t : Nat} (ht : t < 8) (hw : wlA ln B t = true) : nd B ln (30 * t) := (nd_0 ht (wlA_iff.mp hw) (IX_ln h (by omega))).1
theorem IX_th2 (h : IX σ ln B) : ∀ e, e < 4 → thA ln B e = true → nd B ln (60 * e) ∧ nd B ln (60 * e + 30) := by
  intro e he ht
  unfold thA at ht
  rw [Bool.and_eq_true] at ht
  have h1 := IX_nd h (t := 2 * e) (by omega) ht.1
  have h2 := IX_nd h (t := 2 * e + 1) (by omega) ht.2
  rw [show 30 * (2 * e) = 60 * e by omega] at h1
  rw [show 30 * (2 * e + 1) = 60 * e + 30 by omega] at h2
  exact ⟨h1, h2⟩
theorem IX_thOK (h : IX σ ln B) : thOK σ B ln := fun e he ht => IX_th2 h e he (by rw [← IX_th h he]; exact ht)
theorem IX_td (h : IX σ ln B) : ∀ u, u < 6 → σ 11 u = nI (tdA ln B u) := by
  have h8 := h.2.1 8 (by decide)
  rw [FX, if_neg (by decide), if_pos rfl] at h8
  exact h8.2
theorem IX_tt (h : IX σ ln B) : σ 1 10 = nI (ttA ln B) := by
  have h9 := h.2.1 9 (by decide)
  rw [FX, if_neg (by decide), if_neg (by decide)] at h9
  exact h9.2
theorem IX_ttP (h : IX σ ln B) : tn_P (ttA ln B) := ttA_P ln B (by have := IX_ln h (t := 9) (by decide); omega)
theorem IX_td6 (h : IX σ ln B) (u : Nat) : tdA ln B u < 64 := tdA_lt ln B (by have := IX_ln h (t := 8) (by decide); omega) u
theorem usol_G (h : IX σ ln B) (k wm : Nat) : uG B ln (usol ln B k wm).1 := by
  unfold usol
  rw [useq_congr (th' := fun e => decide (e < 4) && (wm.testBit e && thA ln B e)) _ _ (fun e he => by simp [lst_lt k 4 e he])]
  refine useq_G (fun e he => ?_) _ _ ⟨VG_no B ln, rkd_no B, fun y hy => (by cases hy), fun u => IX_td6 h u, fun y hy => (by cases hy), Nat.zero_lt_succ _⟩
  simp only [Bool.and_eq_true, decide_eq_true_eq] at he
  exact IX_th2 h e he.1 he.2.2
/-- a run of a solver, in the words of the texts -/
theorem IX_run (h : IX σ ln B) (k wm : Nat) : useq false B (fun e => wm.testBit e && thX σ e) (lst (ordE k) 4) (((fun _ => none), [], (fun u => if false = true then 0 else tdA ln B u), [], 0), 600, -1) = usol ln B k wm := by
  unfold usol
  rw [show (fun u => if false = true then 0 else tdA ln B u) = tdA ln B from funext (fun u => if_neg (by decide))]
  exact useq_congr _ _ (fun e he => by rw [IX_th h (lst_lt k 4 e he)])
end IXL

/-! ===== class and model side by side ===== -/
def SR (σx σm : gS) : Prop := shI 13 14 σx ∧ shI 1 2 σm ∧ (∀ s, s < 4 → σx 13 s = σm 1 s) ∧ (∀ s, s < 4 → σx 13 s ≠ -1 → σx 14 s = σm 2 s) ∧ σx 15 = σm 3 ∧ σx 12 3 = σm 0 4
def RLn (σx σm : gS) : Prop := ∃ ln B, IX σx ln B ∧ TM σm ln B ∧ SR σx σm
theorem SR_k {σx σm τx τm : gS} (hx : ∀ k, 13 ≤ k → k ≤ 15 → τx k = σx k) (h12 : τx 12 3 = σx 12 3) (hm : ∀ k, 1 ≤ k → k ≤ 3 → τm k = σm k) (h04 : τm 0 4 = σm 0 4) (h : SR σx σm) : SR τx τm := by
  unfold SR shI at *
  rw [hx 13 (by decide) (by decide), hx 14 (by decide) (by decide), hx 15 (by decide) (by decide), h12, hm 1 (by decide) (by decide), hm 2 (by decide) (by decide), hm 3 (by decide) (by decide), h04]
  exact h
theorem SR_find {σx σm : gS} (f : Int32) (h : SR σx σm) : SR (up2 σx 12 3 f) (up2 σm 0 4 f) := by
  have rx : ∀ k, k ≠ 12 → up2 σx 12 3 f k = σx k := fun k hk => up2_ne _ _ _ hk
  have rm : ∀ k, k ≠ 0 → up2 σm 0 4 f k = σm k := fun k hk => up2_ne _ _ _ hk
  unfold SR shI at *
  rw [rx 13 (by decide), rx 14 (by decide), rx 15 (by decide), rm 1 (by decide), rm 2 (by decide), rm 3 (by decide), up2_at, up2_at]
  exact ⟨h.1, h.2.1, h.2.2.1, h.2.2.2.1, h.2.2.2.2.1, rfl⟩
section PR
variable {σx σm τx τm : gS} {ln B : Nat → Nat} {r1 r2 : Int32}
theorem pr_text {R : tS} (hS : SR σx σm) (h1 : aP σx R r1 τx) (h2 : mP σm R r2 τm) : r1 = r2 ∧ RLn τx τm := ⟨h1.1.trans h2.1.symm, _, _, h1.2.1, h2.2.1, SR_k (fun k a b => h1.2.2 k (by omega) (by omega)) (by rw [h1.2.2 12 (by decide) (by decide)]) (fun k a b => h2.2.2 k (by omega) (by omega)) (by rw [h2.2.2 0 (by decide) (by decide)]) hS⟩
theorem TM_Q (hT : TM σm ln B) (h : mQ σm τm) : TM τm ln B := TM_F (h.1 5 (by decide) (by decide)) (h.1 6 (by decide) (by decide)) hT
theorem pr_ask {x : Int32} (hT : TM σm ln B) (hS : SR σx σm) (h1 : aQ σx ln B x r1 τx) (h2 : r2 = x ∧ mQ σm τm) : r1 = r2 ∧ RLn τx τm := ⟨h1.1.trans h2.1.symm, ln, B, h1.2.1, TM_Q hT h2.2, SR_k (fun k a b => h1.2.2 k (by omega)) (by rw [h1.2.2 12 (by decide)]) (fun k a b => h2.2.1 k (by omega) (by omega)) h2.2.2 hS⟩
theorem pr_fun {x : Int32} (hI : IX σx ln B) (hT : TM σm ln B) (hS : SR σx σm) (h1 : r1 = x ∧ τx = σx) (h2 : r2 = x ∧ mQ σm τm) : r1 = r2 ∧ RLn τx τm := pr_ask hT hS ⟨h1.1, by rw [h1.2]; exact hI, by rw [h1.2]; exact qF_rf _⟩ h2
theorem mQ_up13 (x : Int32) : mQ σm (up2 σm 0 13 x) := ⟨fun k a b => up2_ne _ _ _ (by omega), by rw [up2_r, if_neg (by decide)]⟩
theorem mQ_tf (h : (∀ k, k ≠ 0 → k ≠ 13 → τm k = σm k) ∧ ∀ i, i ≠ 13 → i ≠ 15 → τm 0 i = σm 0 i) : mQ σm τm := ⟨fun k a b => h.1 k (by omega) (by omega), h.2 4 (by decide) (by decide)⟩
theorem pr_read {t s : Int32} (hI : IX σx ln B) (hT : TM σm ln B) (hS : SR σx σm) (h1 : rdP σx ln B t s r1 τx) (h2 : rdM σm ln B t s r2 τm) : r1 = r2 ∧ RLn τx τm := by
  unfold rdP at h1
  unfold rdM at h2
  by_cases c : (inB t 10 && inB s 4) = true
  · rw [if_pos c] at h1 h2
    rw [Bool.and_eq_true] at c
    obtain ⟨q, hq, e⟩ := inB_of (by decide) c.2
    have xs : ix s = q := by rw [e]; exact ix_nI (by omega)
    rw [xs] at h1 h2
    have hf := hS.2.2.1 q hq
    by_cases c2 : σx 13 q = -1
    · rw [if_pos c2] at h1
      rw [if_pos (hf ▸ c2)] at h2
      refine ⟨h1.1.trans h2.1.symm, ln, B, ?_, ?_, ?_⟩
      · rw [h1.2]; exact IX_F (fun k hk => up2_ne _ _ _ (by omega)) hI
      · rw [h2.2]; exact TM_F (up2_ne _ _ _ (by decide)) (up2_ne _ _ _ (by decide)) hT
      · rw [h1.2, h2.2]; exact SR_find 1 hS
    · rw [if_neg c2] at h1
      rw [if_neg (fun z => c2 (hf.trans z)), ← hS.2.2.2.1 q hq c2, ← hS.2.2.2.2.1] at h2
      exact pr_text hS h1 h2
  · rw [if_neg c] at h1 h2
    refine ⟨h1.1.trans h2.1.symm, ln, B, ?_, ?_, ?_⟩
    · rw [h1.2]; exact hI
    · rw [h2.2]; exact hT
    · rw [h1.2, h2.2]; exact hS
theorem pr_same (hI : IX σx ln B) (hT : TM σm ln B) (hS : SR σx σm) {x : Int32} (h1 : (r1, τx) = (x, σx)) (h2 : (r2, τm) = (x, σm)) : r1 = r2 ∧ RLn τx τm := by
  obtain ⟨a1, a2⟩ := Prod.mk.inj h1
  obtain ⟨b1, b2⟩ := Prod.mk.inj h2
  rw [a1, b1, a2, b2]
  exact ⟨rfl, ln, B, hI, hT, hS⟩
theorem pr_find (hI : IX σx ln B) (hT : TM σm ln B) (hS : SR σx σm) {f : Int32} (h1 : (r1, τx) = sp_find 12 3 σx f) (h2 : (r2, τm) = sp_find 0 4 σm f) : r1 = r2 ∧ RLn τx τm := by
  obtain ⟨a1, a2⟩ := Prod.mk.inj h1
  obtain ⟨b1, b2⟩ := Prod.mk.inj h2
  rw [a1, b1, a2, b2]
  exact ⟨rfl, ln, B, IX_F (fun k hk => up2_ne _ _ _ (by omega)) hI, TM_F (up2_ne _ _ _ (by decide)) (up2_ne _ _ _ (by decide)) hT, SR_find f hS⟩
theorem pr_sheet {s f n : Int32} (hI : IX σx ln B) (hT : TM σm ln B) (hS : SR σx σm) (h1 : (r1, τx) = sp_sheet 13 14 15 12 3 σx s f n) (h2 : (r2, τm) = sp_sheet 1 2 3 0 4 σm s f n) : r1 = r2 ∧ RLn τx τm := by
  unfold sp_sheet at h1 h2
  by_cases c : (inB s 4 && inB f 3 && decide (n ≤ 60)) = true
  · rw [if_pos c] at h1 h2
    rw [Bool.and_eq_true, Bool.and_eq_true] at c
    by_cases c2 : n < 0
    · rw [if_pos c2] at h1 h2
      exact pr_find hI hT hS h1 h2
    · rw [if_neg c2] at h1 h2
      obtain ⟨q, hq, e⟩ := inB_of (by decide) c.1.1
      have xs : ix s = q := by rw [e]; exact ix_nI (by omega)
      rw [xs] at h1 h2
      have hn60 : n ≤ 60 := of_decide_eq_true c.2
      obtain ⟨z, hz, ez⟩ : ∃ z, z ≤ 60 ∧ n = nI z := by
        have h3 : inB n 61 = true := decide_eq_true (by
          have a1 : ¬ n.toInt < 0 := fun y => c2 (Int32.lt_iff_toInt_lt.mpr y)
          have a2 : n.toInt ≤ (60 : Int32).toInt := Int32.le_iff_toInt_le.mp hn60
          have a3 : (60 : Int32).toInt = 60 := by decide
          omega)
        obtain ⟨z, hz, ez⟩ := inB_of (by decide) h3
        exact ⟨z, by omega, ez⟩
      have hf : f = -1 ∨ f = 0 ∨ f = 1 ∨ f = 2 := by
        obtain ⟨y, hy, ey⟩ := inB_of (by decide) c.1.2
        have c3 : y = 0 ∨ y = 1 ∨ y = 2 := by omega
        rcases c3 with y0 | y0 | y0 <;> subst y0 <;> subst ey
        · exact Or.inr (Or.inl rfl)
        · exact Or.inr (Or.inr (Or.inl rfl))
        · exact Or.inr (Or.inr (Or.inr rfl))
      obtain ⟨a1, a2⟩ := Prod.mk.inj h1
      obtain ⟨b1, b2⟩ := Prod.mk.inj h2
      have x13 : ∀ k, τx 13 k = if k = q then f else σx 13 k := fun k => by
        rw [a2]; unfold flr; rw [upA_ne _ _ (by decide), up2_ne _ _ _ (by decide), up2_r]
        by_cases e9 : k = q
        · rw [if_pos ⟨rfl, e9⟩, if_pos e9]
        · rw [if_neg (fun y => e9 y.2), if_neg e9]
      have x14 : ∀ k, τx 14 k = if k = q then n else σx 14 k := fun k => by
        rw [a2]; unfold flr; rw [upA_ne _ _ (by decide), up2_r]
        by_cases e9 : k = q
        · rw [if_pos ⟨rfl, e9⟩, if_pos e9]
        · rw [if_neg (fun y => e9 y.2), if_neg e9, up2_ne _ _ _ (by decide)]
      have m1 : ∀ k, τm 1 k = if k = q then f else σm 1 k := fun k => by
        rw [b2]; unfold flr; rw [upA_ne _ _ (by decide), up2_ne _ _ _ (by decide), up2_r]
        by_cases e9 : k = q
        · rw [if_pos ⟨rfl, e9⟩, if_pos e9]
        · rw [if_neg (fun y => e9 y.2), if_neg e9]
      have m2' : ∀ k, τm 2 k = if k = q then n else σm 2 k := fun k => by
        rw [b2]; unfold flr; rw [upA_ne _ _ (by decide), up2_r]
        by_cases e9 : k = q
        · rw [if_pos ⟨rfl, e9⟩, if_pos e9]
        · rw [if_neg (fun y => e9 y.2), if_neg e9, up2_ne _ _ _ (by decide)]
      refine ⟨a1.trans b1.symm, ln, B, ?_, ?_, ?_⟩
      · rw [a2]; exact IX_F (fun k hk => by unfold flr; rw [upA_ne _ _ (by omega), up2_ne _ _ _ (by omega), up2_ne _ _ _ (by omega)]) hI
      · rw [b2]; exact TM_F (by unfold flr; rw [upA_ne _ _ (by decide), up2_ne _ _ _ (by decide), up2_ne _ _ _ (by decide)]) (by unfold flr; rw [upA_ne _ _ (by decide), up2_ne _ _ _ (by decide), up2_ne _ _ _ (by decide)]) hT
      · refine ⟨fun k hk => ?_, fun k hk => ?_, fun k hk => ?_, fun k hk h => ?_, ?_, ?_⟩
        · rw [x13, x14]
          by_cases e9 : k = q
          · rw [if_pos e9, if_pos e9]; exact ⟨hf, z, hz, ez⟩
          · rw [if_neg e9, if_neg e9]; exact hS.1 k hk
        · rw [m1, m2']
          by_cases e9 : k = q
          · rw [if_pos e9, if_pos e9]; exact ⟨hf, z, hz, ez⟩
          · rw [if_neg e9, if_neg e9]; exact hS.2.1 k hk
        · rw [x13, m1]
          by_cases e9 : k = q
          · rw [if_pos e9, if_pos e9]
          · rw [if_neg e9, if_neg e9]; exact hS.2.2.1 k hk
        · rw [x13] at h
          rw [x14, m2']
          by_cases e9 : k = q
          · rw [if_pos e9, if_pos e9]
          · rw [if_neg e9] at h
            rw [if_neg e9, if_neg e9]; exact hS.2.2.2.1 k hk h
        · rw [a2, b2]
          unfold flr
          rw [upA_same, upA_same, up2_ne _ _ _ (by decide), up2_ne _ _ _ (by decide), up2_ne _ _ _ (by decide), up2_ne _ _ _ (by decide), hS.2.2.2.2.1]
        · rw [a2, b2]
          unfold flr
          rw [upA_ne _ _ (by decide), upA_ne _ _ (by decide), up2_ne _ _ _ (by decide), up2_ne _ _ _ (by decide), up2_ne _ _ _ (by decide), up2_ne _ _ _ (by decide)]
          exact hS.2.2.2.2.2
  · rw [if_neg c] at h1 h2
    exact pr_same hI hT hS h1 h2
theorem pr_lose {s : Int32} (hI : IX σx ln B) (hT : TM σm ln B) (hS : SR σx σm) (h1 : (r1, τx) = (if inB s 4 = true then (if σx 13 (ix s) = -1 then sp_find 12 3 σx 1 else (σx 14 (ix s), up2 (up2 σx 13 (ix s) (-1)) 14 (ix s) 0)) else (-2, σx))) (h2 : (r2, τm) = (if inB s 4 = true then (if σm 1 (ix s) = -1 then sp_find 0 4 σm 1 else (σm 2 (ix s), up2 σm 1 (ix s) (-1))) else (-2, σm))) : r1 = r2 ∧ RLn τx τm := by
  by_cases c : inB s 4 = true
  · rw [if_pos c] at h1 h2
    obtain ⟨q, hq, e⟩ := inB_of (by decide) c
    have xs : ix s = q := by rw [e]; exact ix_nI (by omega)
    rw [xs] at h1 h2
    have hf := hS.2.2.1 q hq
    by_cases c2 : σx 13 q = -1
    · rw [if_pos c2] at h1
      rw [if_pos (hf ▸ c2)] at h2
      exact pr_find hI hT hS h1 h2
    · rw [if_neg c2] at h1
      rw [if_neg (fun z => c2 (hf.trans z))] at h2
      obtain ⟨a1, a2⟩ := Prod.mk.inj h1
      obtain ⟨b1, b2⟩ := Prod.mk.inj h2
      have x13 : ∀ k, τx 13 k = if k = q then -1 else σx 13 k := fun k => by
        rw [a2, up2_ne _ _ _ (by decide), up2_r]
        by_cases e9 : k = q
        · rw [if_pos ⟨rfl, e9⟩, if_pos e9]
        · rw [if_neg (fun y => e9 y.2), if_neg e9]
      have x14 : ∀ k, τx 14 k = if k = q then 0 else σx 14 k := fun k => by
        rw [a2, up2_r]
        by_cases e9 : k = q
        · rw [if_pos ⟨rfl, e9⟩, if_pos e9]
        · rw [if_neg (fun y => e9 y.2), if_neg e9, up2_ne _ _ _ (by decide)]
      have m1 : ∀ k, τm 1 k = if k = q then -1 else σm 1 k := fun k => by
        rw [b2, up2_r]
        by_cases e9 : k = q
        · rw [if_pos ⟨rfl, e9⟩, if_pos e9]
        · rw [if_neg (fun y => e9 y.2), if_neg e9]
      have m2' : ∀ k, τm 2 k = σm 2 k := fun k => by rw [b2, up2_ne _ _ _ (by decide)]
      refine ⟨by rw [a1, b1]; exact hS.2.2.2.1 q hq c2, ln, B, ?_, ?_, ?_⟩
      · rw [a2]; exact IX_F (fun k hk => by rw [up2_ne _ _ _ (by omega), up2_ne _ _ _ (by omega)]) hI
      · rw [b2]; exact TM_F (up2_ne _ _ _ (by decide)) (up2_ne _ _ _ (by decide)) hT
      · refine ⟨fun k hk => ?_, fun k hk => ?_, fun k hk => ?_, fun k hk h => ?_, ?_, ?_⟩
        · rw [x13, x14]
          by_cases e9 : k = q
          · rw [if_pos e9, if_pos e9]; exact ⟨Or.inl rfl, 0, by decide, rfl⟩
          · rw [if_neg e9, if_neg e9]; exact hS.1 k hk
        · rw [m1, m2']
          by_cases e9 : k = q
          · rw [if_pos e9]; exact ⟨Or.inl rfl, (hS.2.1 k hk).2⟩
          · rw [if_neg e9]; exact hS.2.1 k hk
        · rw [x13, m1]
          by_cases e9 : k = q
          · rw [if_pos e9, if_pos e9]
          · rw [if_neg e9, if_neg e9]; exact hS.2.2.1 k hk
        · rw [x13] at h
          rw [x14, m2']
          by_cases e9 : k = q
          · rw [if_pos e9] at h; exact absurd rfl h
          · rw [if_neg e9] at h
            rw [if_neg e9]; exact hS.2.2.2.1 k hk h
        · rw [a2, b2, up2_ne _ _ _ (by decide), up2_ne _ _ _ (by decide), up2_ne _ _ _ (by decide)]; exact hS.2.2.2.2.1
        · rw [a2, b2, up2_ne _ _ _ (by decide), up2_ne _ _ _ (by decide), up2_ne _ _ _ (by decide)]; exact hS.2.2.2.2.2
  · rw [if_neg c] at h1 h2
    exact pr_same hI hT hS h1 h2
theorem SR_wr (hS : SR σx σm) {q : Nat} (hq : q < 4) (f i : Int32) : sp_wr 13 14 σx q f i = sp_wr 1 2 σm q f i := by
  unfold sp_wr
  rw [← hS.2.2.1 q hq]
  by_cases c : σx 13 q = -1
  · rw [if_pos c, if_pos c]
  · rw [if_neg c, if_neg c, hS.2.2.2.1 q hq c]
theorem pr_lay {s f i v : Int32} (hI : IX σx ln B) (hT : TM σm ln B) (hS : SR σx σm) (h1 : (r1, τx) = sp_lay 13 14 15 12 3 σx s f i v) (h2 : (r2, τm) = sp_lay 1 2 3 0 4 σm s f i v) : r1 = r2 ∧ RLn τx τm := by
  unfold sp_lay at h1 h2
  by_cases c : (inB s 4 && inB f 3) = true
  · rw [if_pos c] at h1 h2
    rw [Bool.and_eq_true] at c
    obtain ⟨q, hq, e⟩ := inB_of (by decide) c.1
    have xs : ix s = q := by rw [e]; exact ix_nI (by omega)
    rw [xs] at h1 h2
    rw [← SR_wr hS hq] at h2
    by_cases c2 : sp_wr 13 14 σx q f i = 0
    · rw [if_pos c2] at h1 h2
      obtain ⟨a1, a2⟩ := Prod.mk.inj h1
      obtain ⟨b1, b2⟩ := Prod.mk.inj h2
      refine ⟨a1.trans b1.symm, ln, B, ?_, ?_, ?_⟩
      · rw [a2]; exact IX_F (fun k hk => up2_ne _ _ _ (by omega)) hI
      · rw [b2]; exact TM_F (up2_ne _ _ _ (by decide)) (up2_ne _ _ _ (by decide)) hT
      · rw [a2, b2]
        unfold SR shI
        rw [up2_ne σx _ _ (show (13 : Nat) ≠ 15 by decide), up2_ne σx _ _ (show (14 : Nat) ≠ 15 by decide), up2_ne σm _ _ (show (1 : Nat) ≠ 3 by decide), up2_ne σm _ _ (show (2 : Nat) ≠ 3 by decide), up2_ne σx _ _ (show (12 : Nat) ≠ 15 by decide), up2_ne σm _ _ (show (0 : Nat) ≠ 3 by decide), up2_same, up2_same, hS.2.2.2.2.1]
        exact ⟨hS.1, hS.2.1, hS.2.2.1, hS.2.2.2.1, rfl, hS.2.2.2.2.2⟩
    · rw [if_neg c2] at h1 h2
      exact pr_find hI hT hS h1 h2
  · rw [if_neg c] at h1 h2
    exact pr_same hI hT hS h1 h2
theorem pr_get {s f i : Int32} (hI : IX σx ln B) (hT : TM σm ln B) (hS : SR σx σm) (h1 : (r1, τx) = sp_get 13 14 15 12 3 σx s f i) (h2 : (r2, τm) = sp_get 1 2 3 0 4 σm s f i) : r1 = r2 ∧ RLn τx τm := by
  unfold sp_get at h1 h2
  by_cases c : (inB s 4 && inB f 3) = true
  · rw [if_pos c] at h1 h2
    rw [Bool.and_eq_true] at c
    obtain ⟨q, hq, e⟩ := inB_of (by decide) c.1
    have xs : ix s = q := by rw [e]; exact ix_nI (by omega)
    rw [xs] at h1 h2
    rw [← SR_wr hS hq] at h2
    by_cases c2 : sp_wr 13 14 σx q f i = 0
    · rw [if_pos c2] at h1 h2
      rw [← hS.2.2.2.2.1] at h2
      exact pr_same hI hT hS h1 h2
    · rw [if_neg c2] at h1 h2
      obtain ⟨a1, a2⟩ := Prod.mk.inj h1
      obtain ⟨b1, b2⟩ := Prod.mk.inj h2
      rw [a2, b2]
      exact ⟨a1.trans b1.symm, ln, B, IX_F (fun k hk => up2_ne _ _ _ (by omega)) hI, TM_F (up2_ne _ _ _ (by decide)) (up2_ne _ _ _ (by decide)) hT, SR_find _ hS⟩
  · rw [if_neg c] at h1 h2
    exact pr_same hI hT hS h1 h2
theorem RLn_4 {mv : Nat → Int32} (h : RLn τx τm) : RLn τx (upA τm 4 mv) := by
  obtain ⟨ln, B, h1, h2, h3⟩ := h
  exact ⟨ln, B, h1, TM_F (upA_ne _ _ (by decide)) (upA_ne _ _ (by decide)) h2, SR_k (fun _ _ _ => rfl) rfl (fun k a b => upA_ne _ _ (by omega)) (by rw [upA_ne _ _ (by decide)]) h3⟩
theorem pr_copy0 {s i t j n : Int32} (hI : IX σx ln B) (hT : TM σm ln B) (hS : SR σx σm) (h1 : (r1, τx) = sp_copy 13 14 15 12 3 σx s i t j n) (h2 : (r2, τm) = sp_copy 1 2 3 0 4 σm s i t j n) : r1 = r2 ∧ RLn τx τm := by
  unfold sp_copy at h1 h2
  by_cases c : (inB s 4 && inB t 4) = true
  · rw [if_pos c] at h1 h2
    rw [Bool.and_eq_true] at c
    obtain ⟨q, hq, e⟩ := inB_of (by decide) c.1
    obtain ⟨q2, hq2, e2⟩ := inB_of (by decide) c.2
    have xs : ix s = q := by rw [e]; exact ix_nI (by omega)
    have xt : ix t = q2 := by rw [e2]; exact ix_nI (by omega)
    rw [xs, xt] at h1 h2
    rw [← hS.2.2.1 q hq, ← hS.2.2.1 q2 hq2] at h2
    by_cases c2 : σx 13 q = -1 ∨ σx 13 q2 = -1
    · rw [if_pos c2] at h1 h2
      exact pr_find hI hT hS h1 h2
    · rw [if_neg c2] at h1 h2
      by_cases c3 : σx 13 q = σx 13 q2
      · rw [if_pos c3] at h1 h2
        rw [← hS.2.2.2.1 q hq (fun y => c2 (Or.inl y)), ← hS.2.2.2.1 q2 hq2 (fun y => c2 (Or.inr y))] at h2
        by_cases c4 : (sp_has (σx 14 q) i n && sp_has (σx 14 q2) j n) = true
        · rw [if_pos c4] at h1 h2
          obtain ⟨a1, a2⟩ := Prod.mk.inj h1
          obtain ⟨b1, b2⟩ := Prod.mk.inj h2
          refine ⟨a1.trans b1.symm, ln, B, ?_, ?_, ?_⟩
          · rw [a2]; exact IX_F (fun k hk => upA_ne _ _ (by omega)) hI
          · rw [b2]; exact TM_F (upA_ne _ _ (by decide)) (upA_ne _ _ (by decide)) hT
          · rw [a2, b2]
            unfold SR shI
            rw [upA_ne σx _ (show (13 : Nat) ≠ 15 by decide), upA_ne σx _ (show (14 : Nat) ≠ 15 by decide), upA_ne σm _ (show (1 : Nat) ≠ 3 by decide), upA_ne σm _ (show (2 : Nat) ≠ 3 by decide), upA_ne σx _ (show (12 : Nat) ≠ 15 by decide), upA_ne σm _ (show (0 : Nat) ≠ 3 by decide), upA_same, upA_same, hS.2.2.2.2.1]
            exact ⟨hS.1, hS.2.1, hS.2.2.1, hS.2.2.2.1, rfl, hS.2.2.2.2.2⟩
        · rw [if_neg c4] at h1 h2
          exact pr_find hI hT hS h1 h2
      · rw [if_neg c3] at h1 h2
        exact pr_find hI hT hS h1 h2
  · rw [if_neg c] at h1 h2
    exact pr_same hI hT hS h1 h2
theorem pr_copy {s i t j n : Int32} (hI : IX σx ln B) (hT : TM σm ln B) (hS : SR σx σm) (h1 : (r1, τx) = sp_copy 13 14 15 12 3 σx s i t j n) (h2 : ∃ mv, r2 = (sp_copy 1 2 3 0 4 σm s i t j n).1 ∧ τm = upA (sp_copy 1 2 3 0 4 σm s i t j n).2 4 mv) : r1 = r2 ∧ RLn τx τm := by
  obtain ⟨mv, b1, b2⟩ := h2
  have h := pr_copy0 (r2 := (sp_copy 1 2 3 0 4 σm s i t j n).1) (τm := (sp_copy 1 2 3 0 4 σm s i t j n).2) hI hT hS h1 rfl
  rw [b2]
  exact ⟨h.1.trans b1.symm, RLn_4 h.2⟩
theorem pr_write {u s : Int32} (hI : IX σx ln B) (hT : TM σm ln B) (hS : SR σx σm) (h1 : wrP σx ln B u s r1 τx) (h2 : wrPM σm ln B u s r2 τm) : r1 = r2 ∧ RLn τx τm := by
  unfold wrP at h1
  unfold wrPM at h2
  by_cases c : (inB u 6 && inB s 4) = true
  · rw [if_pos c] at h1 h2
    rw [Bool.and_eq_true] at c
    obtain ⟨q, hq, e⟩ := inB_of (by decide) c.2
    have xs : ix s = q := by rw [e]; exact ix_nI (by omega)
    have hf := hS.2.2.1 q hq
    by_cases c2 : σx 13 q = -1
    · rw [xs, if_pos c2] at h1
      rw [xs, if_pos (hf ▸ c2)] at h2
      rw [h1.2, h2.2]
      exact ⟨h1.1.trans h2.1.symm, ln, B, IX_F (fun k hk => up2_ne _ _ _ (by omega)) hI, TM_F (up2_ne _ _ _ (by decide)) (up2_ne _ _ _ (by decide)) hT, SR_find 1 hS⟩
    · rw [xs, if_neg c2] at h1
      rw [xs, if_neg (fun z => c2 (hf.trans z))] at h2
      have hN : wrN σm ln B u s = wrM σx ln B u s := by unfold wrN wrM; rw [xs, hS.2.2.2.1 q hq c2]
      rw [hN] at h2
      refine ⟨h1.1.trans h2.1.symm, ln, B, h1.2.1, h2.2.1, ?_⟩
      unfold SR shI
      rw [h1.2.2.2.1, h1.2.2.2.2.1, h1.2.2.2.2.2, h1.2.2.1, h2.2.2.2.1, h2.2.2.2.2.1, h2.2.2.2.2.2, h2.2.2.1, hS.2.2.2.2.1, hf]
      exact ⟨hS.1, hS.2.1, hS.2.2.1, hS.2.2.2.1, rfl, hS.2.2.2.2.2⟩
  · rw [if_neg c] at h1 h2
    rw [h1.2, h2.2]
    exact ⟨h1.1.trans h2.1.symm, ln, B, hI, hT, hS⟩
theorem pr_count {w : Int32} (hT : TM σm ln B) (hS : SR σx σm) (h1 : aQ σx ln B (sp_count ln B (σx 12 3) w) r1 τx) (h2 : r2 = sp_count ln B (σm 0 4) w ∧ DI σm τm ln B) : r1 = r2 ∧ RLn τx τm := by
  rw [hS.2.2.2.2.2] at h1
  exact pr_ask hT hS h1 ⟨h2.1, h2.2.2.2⟩
theorem pr_digest {d1 d2 : Int64} (hS : SR σx σm) (h1 : d1 = sp_digest ln B (σx 12 3) ∧ IX τx ln B ∧ qF σx τx) (h2 : d2 = sp_digest ln B (σm 0 4) ∧ TM τm ln B ∧ mQ σm τm) : d1 = d2 ∧ RLn τx τm := by
  rw [hS.2.2.2.2.2] at h1
  exact ⟨h1.1.trans h2.1.symm, ln, B, h1.2.1, h2.2.1, SR_k (fun k a b => h1.2.2 k (by omega)) (by rw [h1.2.2 12 (by decide)]) (fun k a b => h2.2.2.1 k (by omega) (by omega)) h2.2.2.2 hS⟩
end PR

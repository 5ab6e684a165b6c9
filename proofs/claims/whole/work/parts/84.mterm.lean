/-! ===== the model reads the text of a term: parts ===== -/
def stb (B : Nat → Nat) (s i : Nat) : Bool := (scn B s i).any (fun q => decide (q.1 = 0 ∧ 0 < q.2))
section P84
variable {B : Nat → Nat} {s i nm op : Nat}
theorem stb_1 (h : scn B s i = some (0, op + 1)) : stb B s i = true := by rw [stb, h]; simp
theorem stb_0 (h : scn B s i = some (nm, op)) (hn : 0 < nm) : stb B s i = false := by
  rw [stb, h]
  show decide (nm = 0 ∧ 0 < op) = false
  exact decide_eq_false (fun q => by omega)
theorem stb_of (h : stb B s i = true) : ∃ op, scn B s i = some (0, op + 1) := by
  unfold stb at h
  cases e : scn B s i with
  | none => rw [e] at h; cases h
  | some z =>
    rw [e] at h
    obtain ⟨a, b⟩ := z
    have h2 : a = 0 ∧ 0 < b := of_decide_eq_true h
    exact ⟨b - 1, by rw [h2.1, show b - 1 + 1 = b by omega]⟩
def cst (B : Nat → Nat) (s : Nat) : Nat → Nat
  | 0 => 0
  | i + 1 => cst B s i + (if stb B s i = true then 1 else 0)
theorem cst_s (h : stb B s i = true) : cst B s (i + 1) = cst B s i + 1 := by rw [cst, if_pos h]
theorem cst_n (h : stb B s i = false) : cst B s (i + 1) = cst B s i := by rw [cst, if_neg (by rw [h]; decide)]; rfl
theorem cst_le : ∀ i, cst B s i ≤ i := by
  intro i
  induction i with
  | zero => exact Nat.le_refl _
  | succ i ih => rw [cst]; split <;> omega
theorem cst_mono : ∀ d i, cst B s i ≤ cst B s (i + d) := by
  intro d
  induction d with
  | zero => intro i; exact Nat.le_refl _
  | succ d ih => intro i; have := ih i; rw [show i + (d + 1) = i + d + 1 by omega, cst]; omega
theorem cst_lt {p q : Nat} (h : stb B s p = true) (hq : p < q) : cst B s p < cst B s q := by
  have h1 := cst_s h
  have h2 := cst_mono (B := B) (s := s) (q - (p + 1)) (p + 1)
  rw [show p + 1 + (q - (p + 1)) = q by omega] at h2
  omega
theorem cst_ne {p q : Nat} (h : stb B s p = true) (hq : stb B s q = true) (e : p ≠ q) : cst B s p ≠ cst B s q := by
  rcases Nat.lt_or_gt_of_ne e with z | z
  · have := cst_lt h z; omega
  · have := cst_lt hq z; omega
end P84
def nmr (B : Nat → Nat) (g : Nat) : Nat := if kd (B g) = 1 then B g - 97 else if kd (B g) = 2 then B g - 80 else if kd (B g) = 4 then B g - 48 else if kd (B g) = 6 ∨ kd (B g) = 7 then B (g + 1) - 97 else 0
def rtF (σ0 σ : gS) (t : Nat) : Prop := (∀ k, (k < 7 ∨ 11 < k) → σ k = σ0 k) ∧ (∀ s, s ≠ t → σ 7 s = σ0 7 s) ∧ ∀ k i, 8 ≤ k → k ≤ 11 → ¬ (30 * t ≤ i ∧ i < 30 * t + 30) → σ k i = σ0 k i
def rR (σ : gS) (B : Nat → Nat) (t p : Nat) : Prop := σ 9 (30 * t + cst B (30 * t) p) = nI (nmr B (30 * t + p)) ∧ (kd (B (30 * t + p)) = 7 → σ 10 (30 * t + cst B (30 * t) p) = nI (B (30 * t + p + 2) - 97))
def rK (σ : gS) (B : Nat → Nat) (t p : Nat) : Prop := σ 8 (30 * t + cst B (30 * t) p) = nI (kd (B (30 * t + p)) - 1)
def rI (σ0 σ : gS) (B : Nat → Nat) (t i nm q : Nat) : Prop := rtF σ0 σ t ∧ σ 7 t = 0 ∧ (∀ p, p < i → stb B (30 * t) p = true → rK σ B t p ∧ (nm = 0 ∨ p ≠ q → rR σ B t p)) ∧ (0 < nm → q < i ∧ stb B (30 * t) q = true ∧ cst B (30 * t) i = cst B (30 * t) q + 1 ∧ ((kd (B (30 * t + q)) = 6 ∧ nm = 1 ∧ i = q + 1) ∨ (kd (B (30 * t + q)) = 7 ∧ nm = 2 ∧ i = q + 1) ∨ (kd (B (30 * t + q)) = 7 ∧ nm = 1 ∧ i = q + 2 ∧ σ 9 (30 * t + cst B (30 * t) q) = nI (nmr B (30 * t + q)))))
theorem rtF_u {σ0 σ : gS} {t k i : Nat} {x : Int32} (h : rtF σ0 σ t) (hk : 8 ≤ k) (hk2 : k ≤ 11) (hi : 30 * t ≤ i ∧ i < 30 * t + 30) : rtF σ0 (up2 σ k i x) t := by
  refine ⟨fun k' hk' => by rw [up2_ne _ _ _ (by omega)]; exact h.1 k' hk', fun s hs => by rw [up2_ne _ _ _ (by omega)]; exact h.2.1 s hs, fun k' i' h1 h2 h3 => ?_⟩
  show (if k' = k then upd (σ k) i x else σ k') i' = _
  by_cases e : k' = k
  · rw [if_pos e]
    show (if i' = i then x else σ k i') = _
    rw [if_neg (fun z => h3 (by rw [z]; exact hi)), ← e]
    exact h.2.2 k' i' h1 h2 h3
  · rw [if_neg e]; exact h.2.2 k' i' h1 h2 h3
theorem up2_r (σ : gS) (k i k' i' : Nat) (x : Int32) : up2 σ k i x k' i' = if k' = k ∧ i' = i then x else σ k' i' := by
  unfold up2
  by_cases e : k' = k
  · subst e
    rw [if_pos rfl]
    show (if i' = i then x else σ k' i') = _
    by_cases e2 : i' = i
    · rw [if_pos e2, if_pos ⟨rfl, e2⟩]
    · rw [if_neg e2, if_neg (fun z => e2 z.2)]
  · rw [if_neg e, if_neg (fun z => e z.1)]
/-- a part starts -/
theorem rI_s {σ0 σ : gS} {B : Nat → Nat} {t i op q nm : Nat} {x : Int32} (hi : i < 30) (h : rI σ0 σ B t i 0 q) (hs : scn B (30 * t) i = some (0, op + 1)) (h6 : kd (B (30 * t + i)) = 6 → nm = 1) (h7 : kd (B (30 * t + i)) = 7 → nm = 2) (hx : ¬ (kd (B (30 * t + i)) = 6 ∨ kd (B (30 * t + i)) = 7) → nm = 0 ∧ x = nI (nmr B (30 * t + i))) :
    rI σ0 (up2 (up2 σ 8 (30 * t + cst B (30 * t) i) (nI (kd (B (30 * t + i)) - 1))) 9 (30 * t + cst B (30 * t) i) x) B t (i + 1) nm i := by
  have hst := stb_1 hs
  have hc := cst_s hst
  have hle := cst_le (B := B) (s := 30 * t) i
  obtain ⟨a1, a2, a3, a4⟩ := h
  refine ⟨rtF_u (rtF_u a1 (by decide) (by decide) (by omega)) (by decide) (by decide) (by omega), ?_, fun p hp hp2 => ?_, fun hnm => ⟨by omega, hst, hc, ?_⟩⟩
  · rw [up2_ne _ _ _ (by decide), up2_ne _ _ _ (by decide)]; exact a2
  · by_cases e : p = i
    · subst e
      refine ⟨?_, fun hz => ?_⟩
      · unfold rK; rw [up2_ne _ _ _ (by decide), up2_at]
      · have hz0 : nm = 0 := hz.resolve_right (fun z => z rfl)
        have hk : ¬ (kd (B (30 * t + p)) = 6 ∨ kd (B (30 * t + p)) = 7) := fun z => z.elim (fun z => by have := h6 z; omega) (fun z => by have := h7 z; omega)
        exact ⟨by rw [up2_at]; exact (hx hk).2, fun z => absurd (Or.inr z) hk⟩
    · have hne := cst_ne hp2 hst e
      obtain ⟨b1, b2⟩ := a3 p (by omega) hp2
      obtain ⟨b3, b4⟩ := b2 (Or.inl rfl)
      refine ⟨?_, fun _ => ⟨?_, fun z => ?_⟩⟩
      · unfold rK; rw [up2_r, if_neg (by omega), up2_r, if_neg (by omega)]; exact b1
      · rw [up2_r, if_neg (by omega), up2_r, if_neg (by omega)]; exact b3
      · rw [up2_r, if_neg (by omega), up2_r, if_neg (by omega)]; exact b4 z
  · by_cases e6 : kd (B (30 * t + i)) = 6
    · exact Or.inl ⟨e6, h6 e6, rfl⟩
    · by_cases e7 : kd (B (30 * t + i)) = 7
      · exact Or.inr (Or.inl ⟨e7, h7 e7, rfl⟩)
      · have := (hx (fun z => z.elim e6 e7)).1; omega
theorem nmr_67 {B : Nat → Nat} {g : Nat} (h : kd (B g) = 6 ∨ kd (B g) = 7) : nmr B g = B (g + 1) - 97 := by
  unfold nmr
  rw [if_neg (by omega), if_neg (by omega), if_neg (by omega), if_pos h]
/-- a first name is read -/
theorem rI_a {σ0 σ : gS} {B : Nat → Nat} {t i op q nm : Nat} {y : Int32} (hi : i < 30) (h : rI σ0 σ B t i nm q) (hs : scn B (30 * t) i = some (nm, op)) (hn : 0 < nm) (hA : kd (B (30 * t + q)) = 6 ∨ nm = 2) :
    rI σ0 (up2 (up2 σ 9 (30 * t + cst B (30 * t) q) (nI (B (30 * t + i) - 97))) 10 (30 * t + cst B (30 * t) q) y) B t (i + 1) (nm - 1) q := by
  have hst := stb_0 hs hn
  have hc := cst_n hst
  obtain ⟨a1, a2, a3, a4⟩ := h
  obtain ⟨c1, c2, c3, c4⟩ := a4 hn
  have hle := cst_le (B := B) (s := 30 * t) q
  have hq : i = q + 1 ∧ (kd (B (30 * t + q)) = 6 ∨ kd (B (30 * t + q)) = 7) := by omega
  have hnq : nmr B (30 * t + q) = B (30 * t + i) - 97 := by rw [nmr_67 hq.2, show 30 * t + q + 1 = 30 * t + i by omega]
  refine ⟨rtF_u (rtF_u a1 (by decide) (by decide) (by omega)) (by decide) (by decide) (by omega), ?_, fun p hp hp2 => ?_, fun hnm => ⟨by omega, c2, by omega, ?_⟩⟩
  · rw [up2_ne _ _ _ (by decide), up2_ne _ _ _ (by decide)]; exact a2
  · have hpi : p ≠ i := fun e => by rw [e, hst] at hp2; cases hp2
    obtain ⟨b1, b2⟩ := a3 p (by omega) hp2
    refine ⟨by unfold rK; rw [up2_ne _ _ _ (by decide), up2_ne _ _ _ (by decide)]; exact b1, fun hz => ?_⟩
    by_cases e : p = q
    · subst e
      refine ⟨by rw [up2_ne _ _ _ (by decide), up2_at, hnq], fun z => ?_⟩
      omega
    · have hne := cst_ne hp2 c2 e
      obtain ⟨b3, b4⟩ := b2 (Or.inr e)
      exact ⟨by rw [up2_r, if_neg (by omega), up2_r, if_neg (by omega)]; exact b3, fun z => by rw [up2_r, if_neg (by omega), up2_r, if_neg (by omega)]; exact b4 z⟩
  · exact Or.inr (Or.inr ⟨by omega, by omega, by omega, by rw [up2_ne _ _ _ (by decide), up2_at, hnq]⟩)
/-- a second name is read -/
theorem rI_b {σ0 σ : gS} {B : Nat → Nat} {t i op q nm : Nat} (hi : i < 30) (h : rI σ0 σ B t i nm q) (hs : scn B (30 * t) i = some (nm, op)) (hn : 0 < nm) (hA : ¬ kd (B (30 * t + q)) = 6) (hB : nm ≠ 2) :
    rI σ0 (up2 (up2 σ 9 (30 * t + cst B (30 * t) q) (σ 9 (30 * t + cst B (30 * t) q))) 10 (30 * t + cst B (30 * t) q) (nI (B (30 * t + i) - 97))) B t (i + 1) (nm - 1) q := by
  have hst := stb_0 hs hn
  have hc := cst_n hst
  obtain ⟨a1, a2, a3, a4⟩ := h
  obtain ⟨c1, c2, c3, c4⟩ := a4 hn
  have hle := cst_le (B := B) (s := 30 * t) q
  have hq : kd (B (30 * t + q)) = 7 ∧ nm = 1 ∧ i = q + 2 ∧ σ 9 (30 * t + cst B (30 * t) q) = nI (nmr B (30 * t + q)) := by
    rcases c4 with z | z | z
    · exact absurd z.1 hA
    · exact absurd z.2.1 hB
    · exact z
  refine ⟨rtF_u (rtF_u a1 (by decide) (by decide) (by omega)) (by decide) (by decide) (by omega), ?_, fun p hp hp2 => ?_, fun hnm => by omega⟩
  · rw [up2_ne _ _ _ (by decide), up2_ne _ _ _ (by decide)]; exact a2
  · have hpi : p ≠ i := fun e => by rw [e, hst] at hp2; cases hp2
    obtain ⟨b1, b2⟩ := a3 p (by omega) hp2
    refine ⟨by unfold rK; rw [up2_ne _ _ _ (by decide), up2_ne _ _ _ (by decide)]; exact b1, fun hz => ?_⟩
    by_cases e : p = q
    · subst e
      refine ⟨by rw [up2_ne _ _ _ (by decide), up2_at]; exact hq.2.2.2, fun z => ?_⟩
      rw [up2_at, show 30 * t + p + 2 = 30 * t + i by omega]
    · have hne := cst_ne hp2 c2 e
      obtain ⟨b3, b4⟩ := b2 (Or.inr e)
      exact ⟨by rw [up2_r, if_neg (by omega), up2_r, if_neg (by omega)]; exact b3, fun z => by rw [up2_r, if_neg (by omega), up2_r, if_neg (by omega)]; exact b4 z⟩
/-- the part at which what stands at g of text t begins -/
def pt (B : Nat → Nat) (t g : Nat) : Nat := 30 * t + cst B (30 * t) (g - 30 * t)
abbrev pN (B : Nat → Nat) (g : Nat) : Nat := pt B (g / 30) g
theorem pt_p (B : Nat → Nat) (t p : Nat) : pt B t (30 * t + p) = 30 * t + cst B (30 * t) p := by unfold pt; rw [Nat.add_sub_cancel_left]
theorem pN_p {B : Nat → Nat} {t p : Nat} (hp : p < 30) : pN B (30 * t + p) = 30 * t + cst B (30 * t) p := by unfold pN; rw [show (30 * t + p) / 30 = t by omega, pt_p]
theorem nd_p {B ln : Nat → Nat} {g : Nat} (h : nd B ln g) : ∃ t p op, t < 8 ∧ p < 30 ∧ p < ln t ∧ g = 30 * t + p ∧ wel B (30 * t) (ln t) ∧ ln t ≤ 30 ∧ scn B (30 * t) p = some (0, op + 1) := by
  obtain ⟨t, p, op, h1, h2, h3, h4, h5, h6⟩ := h
  exact ⟨t, p, op, h1, by omega, h5, h2, h3, h4, h6⟩
section NX
variable {B ln : Nat → Nat} {g : Nat}
theorem pN_lt (h : nd B ln g) : 30 * (g / 30) ≤ pN B g ∧ pN B g < 30 * (g / 30) + 30 ∧ pN B g < 240 := by
  obtain ⟨t, p, op, h1, h2, h3, h4, h5, h6⟩ := nd_p h
  subst h4
  have := cst_le (B := B) (s := 30 * t) p
  rw [pN_p h2]
  omega
theorem pt_leaf (h : nd B ln g) : pt B (g / 30) (g + 1) = pN B g + 1 := by
  obtain ⟨t, p, op, h1, h2, h3, h4, h5, h6, h7⟩ := nd_p h
  subst h4
  rw [pN_p h2, show (30 * t + p) / 30 = t by omega, show 30 * t + p + 1 = 30 * t + (p + 1) by omega, pt_p, cst_s (stb_1 h7)]
  omega
theorem pN_45 (h : nd B ln g) (h2 : nd B ln (g + 1)) (e : (g + 1) / 30 = g / 30) : pN B (g + 1) = pN B g + 1 := by
  have := pt_leaf h
  unfold pN
  rw [e, this]
theorem pN_6 (h : nd B ln g) (c : kd (B g) = 6) : pN B (g + 2) = pN B g + 1 := by
  have h0 := nd_6 h c
  obtain ⟨t, p, op, h1, h2, h3, h4, h5, h6, h7⟩ := nd_p h
  subst h4
  have hp : p + 2 < 30 := by have := h0.2.2.2; omega
  rw [show 30 * t + p + 2 = 30 * t + (p + 2) by omega, pN_p h2, pN_p hp]
  rcases st_kd h5 h3 h7 with ⟨c2, e⟩ | ⟨c2, l, e⟩ | ⟨c2, l, e⟩ | ⟨c2, k1, l, e1, e⟩ | ⟨c2, k1, k2, l, _, _, e⟩
  · omega
  · omega
  · omega
  · rw [cst_n (i := p + 1) (stb_0 e1 (by decide)), cst_s (stb_1 h7)]; omega
  · omega
theorem pN_7 (h : nd B ln g) (c : kd (B g) = 7) : pN B (g + 3) = pN B g + 1 := by
  have h0 := nd_7 h c
  obtain ⟨t, p, op, h1, h2, h3, h4, h5, h6, h7⟩ := nd_p h
  subst h4
  have hp : p + 3 < 30 := by have := h0.2.2.2.2; omega
  rw [show 30 * t + p + 3 = 30 * t + (p + 3) by omega, pN_p h2, pN_p hp]
  rcases st_kd h5 h3 h7 with ⟨c2, e⟩ | ⟨c2, l, e⟩ | ⟨c2, l, e⟩ | ⟨c2, k1, l, e1, e⟩ | ⟨c2, k1, k2, l, e1, e2, e⟩
  · omega
  · omega
  · omega
  · omega
  · rw [cst_n (i := p + 2) (stb_0 e2 (by decide)), cst_n (i := p + 1) (stb_0 e1 (by decide)), cst_s (stb_1 h7)]; omega
end NX
/-- what the model holds of a part -/
def PrM (σ : gS) (B : Nat → Nat) (g : Nat) : Prop := σ 8 (pN B g) = nI (kd (B g) - 1) ∧ σ 9 (pN B g) = nI (nmr B g) ∧ (kd (B g) = 7 → σ 10 (pN B g) = nI (B (g + 2) - 97)) ∧ σ 11 (pN B g) = nI (pt B (g / 30) (tE B g))
def PTM (σ : gS) (ln B : Nat → Nat) (t : Nat) : Prop := σ 7 t = nI (if wlA ln B t = true then cst B (30 * t) (ln t) else 0) ∧ (wlA ln B t = true → ∀ p, p < ln t → stb B (30 * t) p = true → PrM σ B (30 * t + p))
def eI (σ0 σ : gS) (B : Nat → Nat) (t n p : Nat) : Prop := rtF σ0 σ t ∧ σ 7 t = 0 ∧ (∀ q, q < n → stb B (30 * t) q = true → rK σ B t q ∧ rR σ B t q) ∧ ∀ q, p ≤ q → q < n → stb B (30 * t) q = true → σ 11 (30 * t + cst B (30 * t) q) = nI (pt B t (tE B (30 * t + q)))
theorem eI_s {σ0 σ : gS} {B : Nat → Nat} {t n p : Nat} (hp : p < n) (hn : n ≤ 30) (h : eI σ0 σ B t n (p + 1)) (hs : stb B (30 * t) p = true) : eI σ0 (up2 σ 11 (30 * t + cst B (30 * t) p) (nI (pt B t (tE B (30 * t + p))))) B t n p := by
  have hle := cst_le (B := B) (s := 30 * t) p
  obtain ⟨a1, a2, a3, a4⟩ := h
  refine ⟨rtF_u a1 (by decide) (by decide) (by omega), by rw [up2_ne _ _ _ (by decide)]; exact a2, fun q h1 h2 => ?_, fun q h1 h2 h3 => ?_⟩
  · obtain ⟨b1, b2, b3⟩ := a3 q h1 h2
    exact ⟨by unfold rK; rw [up2_ne _ _ _ (by decide)]; exact b1, by rw [up2_ne _ _ _ (by decide)]; exact b2, fun z => by rw [up2_ne _ _ _ (by decide)]; exact b3 z⟩
  · by_cases e : q = p
    · subst e; rw [up2_at]
    · have := cst_ne h3 hs e
      rw [up2_r, if_neg (by omega)]
      exact a4 q (by omega) h2 h3
theorem eI_w {σ0 σ : gS} {B : Nat → Nat} {t n p : Nat} (h : eI σ0 σ B t n (p + 1)) (hs : stb B (30 * t) p = false) : eI σ0 σ B t n p := by
  refine ⟨h.1, h.2.1, h.2.2.1, fun q h1 h2 h3 => ?_⟩
  have : q ≠ p := fun e => by rw [e, hs] at h3; cases h3
  exact h.2.2.2 q (by omega) h2 h3
theorem nb_M {B : Nat → Nat} {g : Nat} (hb : B g < 256) (h0 : kd (B g) ≠ 0) (h : ¬ (kd (B g) = 6 ∨ kd (B g) = 7)) : nbM (nI (kd (B g) - 1)) (nI (B g)) = nI (nmr B g) := by
  have e : ∀ b, b < 256 → kd b ≠ 0 → ¬ (kd b = 6 ∨ kd b = 7) → nbM (nI (kd b - 1)) (nI b) = nI (if kd b = 1 then b - 97 else if kd b = 2 then b - 80 else if kd b = 4 then b - 48 else 0) := by decide +kernel
  rw [e _ hb h0 h, nmr]
  refine congrArg nI ?_
  rw [if_neg h]
theorem kdM_9 {b : Nat} (hb : b < 256) : ¬ kdM b = -9 ↔ kd b ≠ 0 := by
  revert hb; revert b; decide +kernel
theorem wel_no {B : Nat → Nat} {s i n : Nat} (hi : i < n) (h : scn B s (i + 1) = none) : ¬ wel B s n := fun hw => by
  have := scn_up (n - (i + 1)) h
  rw [show i + 1 + (n - (i + 1)) = n by omega, hw.2] at this
  cases this
section T84
variable {l : Launch} {D : va_G} {cA : ClassId} {ad : Nat → Nat}
variable {σ σ0 : gS}
set_option maxHeartbeats 4000000 in
set_option maxRecDepth 100000 in
theorem l2_X7_readsTerm {ln B : Nat → Nat} {t : Nat} (ht : t < 8) (hn : ln t ≤ 30) (hB : ∀ i, i < ln t → B (30 * t + i) < 256 ∧ σ0 5 (30 * t + i) = nI (B (30 * t + i))) (hr : (-1 : Int32) = flT B (30 * t) (ln t)) (hw : wel B (30 * t) (ln t) ∨ ln t = 0) {y5 y6 : Int32} {y8 y9 y10 : Option Value} : ∀ p (σ : gS), eI σ0 σ B t (ln t) p → p ≤ ln t → G (XM l D cA ad) mX7_readsTerm (g_ri (fun r τ => r = flT B (30 * t) (ln t) ∧ rtF σ0 τ t ∧ PTM τ ln B t)) 294 [some (.ref 0), some (.int (nI t)), some (.int (nI (ln t))), some (.int (nI (30 * t))), some (.int (nI (cst B (30 * t) (ln t)))), some (.int y5), some (.int y6), some (.int (nI (30 * t + cst B (30 * t) p) + (-1))), y8, y9, y10] [] σ := by
  intro p
  induction p with
  | zero =>
    intro σ hI hp
    have e0 : nI (30 * t + cst B (30 * t) 0) + (-1) < nI (30 * t) := by
      rw [show nI (30 * t + cst B (30 * t) 0) + (-1) = nI (30 * t) - 1 from (Int32.sub_eq_add_neg ..).symm]
      exact nu_plt (by omega)
    refine G.iload (i := 7) rfl dX7_readsTerm_294 ?_
    refine G.iload_n (k := 3) rfl dX7_readsTerm_296 ?_
    refine G.icmp_lt (tgt := 368) (by decide) dX7_readsTerm_297 (fun c_297 => ?_) (fun c_297 => absurd e0 c_297)
    refine G.aload_n (k := 0) rfl dX7_readsTerm_368 ?_
    refine G.getr (j := 7) rfl gci_X7 (by decide) rfl fl_X7_28 dX7_readsTerm_369 ?_
    refine G.iload_n (k := 1) rfl dX7_readsTerm_372 ?_
    refine G.iload (i := 4) rfl dX7_readsTerm_373 ?_
    refine G.iastN (k := t) rfl (rfl) (ht) (by decide) dX7_readsTerm_375 ?_
    refine G.iconst (v := (-1)) (by decide) dX7_readsTerm_376 ?_
    exact G.iret rfl (by
        refine ⟨hr, ⟨fun k hk => by rw [up2_ne _ _ _ (by omega)]; exact hI.1.1 k hk, fun s hs => by rw [up2_r, if_neg (fun z => hs z.2)]; exact hI.1.2.1 s hs, fun k i h1 h2 h3 => by rw [up2_ne _ _ _ (by omega)]; exact hI.1.2.2 k i h1 h2 h3⟩, ?_, fun hw2 p hp2 hs => ?_⟩
        · rw [up2_at]
          rcases hw with z | z
          · rw [if_pos (wlA_iff.mpr z)]
          · rw [if_neg (fun q => by have := (wlA_iff.mp q).1; omega), z]; rfl
        · have h1 := hI.2.2.1 p hp2 hs
          have h2 := hI.2.2.2 p (Nat.zero_le _) hp2 hs
          have h3 := pN_p (B := B) (t := t) (p := p) (by omega)
          refine ⟨?_, ?_, fun z => ?_, ?_⟩
          · rw [up2_ne _ _ _ (by decide), h3]; exact h1.1
          · rw [up2_ne _ _ _ (by decide), h3]; exact h1.2.1
          · rw [up2_ne _ _ _ (by decide), h3]; exact h1.2.2 z
          · rw [up2_ne _ _ _ (by decide), h3, show (30 * t + p) / 30 = t by omega]; exact h2) dX7_readsTerm_377
  | succ p ih =>
    intro σ hI hp
    cases hs : stb B (30 * t) p with
    | false =>
      rw [cst_n hs]
      exact ih σ (eI_w hI hs) (by omega)
    | true =>
      have hwl : wel B (30 * t) (ln t) := hw.resolve_right (by omega)
      obtain ⟨op, hop⟩ := stb_of hs
      have hnd : nd B ln (30 * t + p) := nd_mk ht hwl hn (by omega) hop
      have hle := cst_le (B := B) (s := 30 * t) p
      rw [cst_s hs, show nI (30 * t + (cst B (30 * t) p + 1)) + (-1) = nI (30 * t + cst B (30 * t) p) by rw [nu_dec (by omega)]; exact congrArg nI (by omega)]
      have hK : σ 8 (30 * t + cst B (30 * t) p) = nI (kd (B (30 * t + p)) - 1) := (hI.2.2.1 p (by omega) hs).1
      have nx : ∀ h, nd B ln h → 30 * t + p < h → h / 30 = t → σ 11 (pN B h) = nI (pt B t (tE B h)) := by
        intro h hh hlt h30
        obtain ⟨t2, p2, op2, z1, z2, z3, z4, z5, z6, z7⟩ := nd_p hh
        have : t2 = t := by omega
        subst this
        rw [z4, pN_p z2]
        exact hI.2.2.2 p2 (by omega) z3 (stb_1 z7)
      have hPp := pN_p (B := B) (t := t) (p := p) (by omega)
      have hT2 : (30 * t + p) / 30 = t := by omega
      have c7 := nd_kd hnd
      have cc : kd (B (30 * t + p)) = 1 ∨ kd (B (30 * t + p)) = 2 ∨ kd (B (30 * t + p)) = 3 ∨ kd (B (30 * t + p)) = 4 ∨ kd (B (30 * t + p)) = 5 ∨ kd (B (30 * t + p)) = 6 ∨ kd (B (30 * t + p)) = 7 := by omega
      rcases cc with c | c | c | c | c | c | c
      · have hE : pt B t (tE B (30 * t + p)) = 30 * t + cst B (30 * t) p + 1 := by
          have := pt_leaf hnd
          rw [nd_leaf (by omega), ← hPp, ← this, hT2]
        refine G.iload (i := 7) rfl dX7_readsTerm_294 ?_
        refine G.iload_n (k := 3) rfl dX7_readsTerm_296 ?_
        refine G.icmp_lt (tgt := 368) (by decide) dX7_readsTerm_297 (fun c_297 => absurd c_297 (nI_nlt (by omega) (by omega))) (fun c_297 => ?_)
        refine G.aload_n (k := 0) rfl dX7_readsTerm_300 ?_
        refine G.getr (j := 11) rfl gci_X7 (by decide) rfl fl_X7_40 dX7_readsTerm_301 ?_
        refine G.iload (i := 7) rfl dX7_readsTerm_304 ?_
        refine G.aload_n (k := 0) rfl dX7_readsTerm_306 ?_
        refine G.getr (j := 8) rfl gci_X7 (by decide) rfl fl_X7_31 dX7_readsTerm_307 ?_
        refine G.iload (i := 7) rfl dX7_readsTerm_310 ?_
        refine G.ialdN (k := 30 * t + cst B (30 * t) p) rfl (rfl) (by omega) (by decide) dX7_readsTerm_312 ?_
        rw [show σ 8 (30 * t + cst B (30 * t) p) = 0 by rw [hK, c]; rfl]
        refine G.iconst (v := 3) (by decide) dX7_readsTerm_313 ?_
        refine G.icmp_ge (tgt := 324) (by decide) dX7_readsTerm_314 (fun c_314 => absurd c_314 (by decide)) (fun c_314 => ?_)
        refine G.iload (i := 7) rfl dX7_readsTerm_317 ?_
        refine G.iconst (v := 1) (by decide) dX7_readsTerm_319 ?_
        refine G.iadd dX7_readsTerm_320 ?_
        rw [nI_1]
        rw [show 30 * t + cst B (30 * t) p + 1 = pt B t (tE B (30 * t + p)) from hE.symm]
        refine G.goto (tgt := 361) (by decide) dX7_readsTerm_321 ?_
        refine G.iastN (k := 30 * t + cst B (30 * t) p) rfl (rfl) (by omega) (by decide) dX7_readsTerm_361 ?_
        refine G.inc7 (d := -1) (by decide) (by decide) rfl dX7_readsTerm_362 ?_
        refine G.goto (tgt := 294) (by decide) dX7_readsTerm_365 ?_
        exact ih _ (eI_s (by omega) hn hI hs) (by omega)
      · have hE : pt B t (tE B (30 * t + p)) = 30 * t + cst B (30 * t) p + 1 := by
          have := pt_leaf hnd
          rw [nd_leaf (by omega), ← hPp, ← this, hT2]
        refine G.iload (i := 7) rfl dX7_readsTerm_294 ?_
        refine G.iload_n (k := 3) rfl dX7_readsTerm_296 ?_
        refine G.icmp_lt (tgt := 368) (by decide) dX7_readsTerm_297 (fun c_297 => absurd c_297 (nI_nlt (by omega) (by omega))) (fun c_297 => ?_)
        refine G.aload_n (k := 0) rfl dX7_readsTerm_300 ?_
        refine G.getr (j := 11) rfl gci_X7 (by decide) rfl fl_X7_40 dX7_readsTerm_301 ?_
        refine G.iload (i := 7) rfl dX7_readsTerm_304 ?_
        refine G.aload_n (k := 0) rfl dX7_readsTerm_306 ?_
        refine G.getr (j := 8) rfl gci_X7 (by decide) rfl fl_X7_31 dX7_readsTerm_307 ?_
        refine G.iload (i := 7) rfl dX7_readsTerm_310 ?_
        refine G.ialdN (k := 30 * t + cst B (30 * t) p) rfl (rfl) (by omega) (by decide) dX7_readsTerm_312 ?_
        rw [show σ 8 (30 * t + cst B (30 * t) p) = 1 by rw [hK, c]; rfl]
        refine G.iconst (v := 3) (by decide) dX7_readsTerm_313 ?_
        refine G.icmp_ge (tgt := 324) (by decide) dX7_readsTerm_314 (fun c_314 => absurd c_314 (by decide)) (fun c_314 => ?_)
        refine G.iload (i := 7) rfl dX7_readsTerm_317 ?_
        refine G.iconst (v := 1) (by decide) dX7_readsTerm_319 ?_
        refine G.iadd dX7_readsTerm_320 ?_
        rw [nI_1]
        rw [show 30 * t + cst B (30 * t) p + 1 = pt B t (tE B (30 * t + p)) from hE.symm]
        refine G.goto (tgt := 361) (by decide) dX7_readsTerm_321 ?_
        refine G.iastN (k := 30 * t + cst B (30 * t) p) rfl (rfl) (by omega) (by decide) dX7_readsTerm_361 ?_
        refine G.inc7 (d := -1) (by decide) (by decide) rfl dX7_readsTerm_362 ?_
        refine G.goto (tgt := 294) (by decide) dX7_readsTerm_365 ?_
        exact ih _ (eI_s (by omega) hn hI hs) (by omega)
      · have hE : pt B t (tE B (30 * t + p)) = 30 * t + cst B (30 * t) p + 1 := by
          have := pt_leaf hnd
          rw [nd_leaf (by omega), ← hPp, ← this, hT2]
        refine G.iload (i := 7) rfl dX7_readsTerm_294 ?_
        refine G.iload_n (k := 3) rfl dX7_readsTerm_296 ?_
        refine G.icmp_lt (tgt := 368) (by decide) dX7_readsTerm_297 (fun c_297 => absurd c_297 (nI_nlt (by omega) (by omega))) (fun c_297 => ?_)
        refine G.aload_n (k := 0) rfl dX7_readsTerm_300 ?_
        refine G.getr (j := 11) rfl gci_X7 (by decide) rfl fl_X7_40 dX7_readsTerm_301 ?_
        refine G.iload (i := 7) rfl dX7_readsTerm_304 ?_
        refine G.aload_n (k := 0) rfl dX7_readsTerm_306 ?_
        refine G.getr (j := 8) rfl gci_X7 (by decide) rfl fl_X7_31 dX7_readsTerm_307 ?_
        refine G.iload (i := 7) rfl dX7_readsTerm_310 ?_
        refine G.ialdN (k := 30 * t + cst B (30 * t) p) rfl (rfl) (by omega) (by decide) dX7_readsTerm_312 ?_
        rw [show σ 8 (30 * t + cst B (30 * t) p) = 2 by rw [hK, c]; rfl]
        refine G.iconst (v := 3) (by decide) dX7_readsTerm_313 ?_
        refine G.icmp_ge (tgt := 324) (by decide) dX7_readsTerm_314 (fun c_314 => absurd c_314 (by decide)) (fun c_314 => ?_)
        refine G.iload (i := 7) rfl dX7_readsTerm_317 ?_
        refine G.iconst (v := 1) (by decide) dX7_readsTerm_319 ?_
        refine G.iadd dX7_readsTerm_320 ?_
        rw [nI_1]
        rw [show 30 * t + cst B (30 * t) p + 1 = pt B t (tE B (30 * t + p)) from hE.symm]
        refine G.goto (tgt := 361) (by decide) dX7_readsTerm_321 ?_
        refine G.iastN (k := 30 * t + cst B (30 * t) p) rfl (rfl) (by omega) (by decide) dX7_readsTerm_361 ?_
        refine G.inc7 (d := -1) (by decide) (by decide) rfl dX7_readsTerm_362 ?_
        refine G.goto (tgt := 294) (by decide) dX7_readsTerm_365 ?_
        exact ih _ (eI_s (by omega) hn hI hs) (by omega)
      · obtain ⟨n1, n2, n3⟩ := nd_4 hnd c
        have hp1 := pN_45 hnd n1 n3
        rw [hPp] at hp1
        have hE1 : σ 11 (30 * t + cst B (30 * t) p + 1) = nI (pt B t (tE B (30 * t + p))) := by rw [← hp1, n2]; exact nx _ n1 (by omega) (by omega)
        have := pN_lt n1
        refine G.iload (i := 7) rfl dX7_readsTerm_294 ?_
        refine G.iload_n (k := 3) rfl dX7_readsTerm_296 ?_
        refine G.icmp_lt (tgt := 368) (by decide) dX7_readsTerm_297 (fun c_297 => absurd c_297 (nI_nlt (by omega) (by omega))) (fun c_297 => ?_)
        refine G.aload_n (k := 0) rfl dX7_readsTerm_300 ?_
        refine G.getr (j := 11) rfl gci_X7 (by decide) rfl fl_X7_40 dX7_readsTerm_301 ?_
        refine G.iload (i := 7) rfl dX7_readsTerm_304 ?_
        refine G.aload_n (k := 0) rfl dX7_readsTerm_306 ?_
        refine G.getr (j := 8) rfl gci_X7 (by decide) rfl fl_X7_31 dX7_readsTerm_307 ?_
        refine G.iload (i := 7) rfl dX7_readsTerm_310 ?_
        refine G.ialdN (k := 30 * t + cst B (30 * t) p) rfl (rfl) (by omega) (by decide) dX7_readsTerm_312 ?_
        rw [show σ 8 (30 * t + cst B (30 * t) p) = 3 by rw [hK, c]; rfl]
        refine G.iconst (v := 3) (by decide) dX7_readsTerm_313 ?_
        refine G.icmp_ge (tgt := 324) (by decide) dX7_readsTerm_314 (fun c_314 => ?_) (fun c_314 => absurd (by decide) c_314)
        refine G.aload_n (k := 0) rfl dX7_readsTerm_324 ?_
        refine G.getr (j := 8) rfl gci_X7 (by decide) rfl fl_X7_31 dX7_readsTerm_325 ?_
        refine G.iload (i := 7) rfl dX7_readsTerm_328 ?_
        refine G.ialdN (k := 30 * t + cst B (30 * t) p) rfl (rfl) (by omega) (by decide) dX7_readsTerm_330 ?_
        rw [show σ 8 (30 * t + cst B (30 * t) p) = 3 by rw [hK, c]; rfl]
        refine G.iconst (v := 4) (by decide) dX7_readsTerm_331 ?_
        refine G.icmp_ne (tgt := 352) (by decide) dX7_readsTerm_332 (fun c_332 => ?_) (fun c_332 => absurd c_332 (by decide))
        refine G.aload_n (k := 0) rfl dX7_readsTerm_352 ?_
        refine G.getr (j := 11) rfl gci_X7 (by decide) rfl fl_X7_40 dX7_readsTerm_353 ?_
        refine G.iload (i := 7) rfl dX7_readsTerm_356 ?_
        refine G.iconst (v := 1) (by decide) dX7_readsTerm_358 ?_
        refine G.iadd dX7_readsTerm_359 ?_
        rw [nI_1]
        refine G.ialdN (k := 30 * t + cst B (30 * t) p + 1) rfl (rfl) (by omega) (by decide) dX7_readsTerm_360 ?_
        rw [hE1]
        refine G.iastN (k := 30 * t + cst B (30 * t) p) rfl (rfl) (by omega) (by decide) dX7_readsTerm_361 ?_
        refine G.inc7 (d := -1) (by decide) (by decide) rfl dX7_readsTerm_362 ?_
        refine G.goto (tgt := 294) (by decide) dX7_readsTerm_365 ?_
        exact ih _ (eI_s (by omega) hn hI hs) (by omega)
      · obtain ⟨n1, n2, n3, n4, n5⟩ := nd_5 hnd c
        have hp1 := pN_45 hnd n1 n4
        rw [hPp] at hp1
        have hE1 : σ 11 (30 * t + cst B (30 * t) p + 1) = nI (pt B t (tE B (30 * t + p + 1))) := by rw [← hp1]; exact nx _ n1 (by omega) (by omega)
        have := pN_lt n1
        have q2 := pN_lt n2
        have q3 := nd_E n1
        have hE2 : σ 11 (pt B t (tE B (30 * t + p + 1))) = nI (pt B t (tE B (30 * t + p))) := by
          have q4 := nx _ n2 (by omega) (by omega)
          rw [n3, ← q4]
          unfold pN
          rw [n5, hT2]
        unfold pN at q2
        rw [n5, hT2] at q2
        refine G.iload (i := 7) rfl dX7_readsTerm_294 ?_
        refine G.iload_n (k := 3) rfl dX7_readsTerm_296 ?_
        refine G.icmp_lt (tgt := 368) (by decide) dX7_readsTerm_297 (fun c_297 => absurd c_297 (nI_nlt (by omega) (by omega))) (fun c_297 => ?_)
        refine G.aload_n (k := 0) rfl dX7_readsTerm_300 ?_
        refine G.getr (j := 11) rfl gci_X7 (by decide) rfl fl_X7_40 dX7_readsTerm_301 ?_
        refine G.iload (i := 7) rfl dX7_readsTerm_304 ?_
        refine G.aload_n (k := 0) rfl dX7_readsTerm_306 ?_
        refine G.getr (j := 8) rfl gci_X7 (by decide) rfl fl_X7_31 dX7_readsTerm_307 ?_
        refine G.iload (i := 7) rfl dX7_readsTerm_310 ?_
        refine G.ialdN (k := 30 * t + cst B (30 * t) p) rfl (rfl) (by omega) (by decide) dX7_readsTerm_312 ?_
        rw [show σ 8 (30 * t + cst B (30 * t) p) = 4 by rw [hK, c]; rfl]
        refine G.iconst (v := 3) (by decide) dX7_readsTerm_313 ?_
        refine G.icmp_ge (tgt := 324) (by decide) dX7_readsTerm_314 (fun c_314 => ?_) (fun c_314 => absurd (by decide) c_314)
        refine G.aload_n (k := 0) rfl dX7_readsTerm_324 ?_
        refine G.getr (j := 8) rfl gci_X7 (by decide) rfl fl_X7_31 dX7_readsTerm_325 ?_
        refine G.iload (i := 7) rfl dX7_readsTerm_328 ?_
        refine G.ialdN (k := 30 * t + cst B (30 * t) p) rfl (rfl) (by omega) (by decide) dX7_readsTerm_330 ?_
        rw [show σ 8 (30 * t + cst B (30 * t) p) = 4 by rw [hK, c]; rfl]
        refine G.iconst (v := 4) (by decide) dX7_readsTerm_331 ?_
        refine G.icmp_ne (tgt := 352) (by decide) dX7_readsTerm_332 (fun c_332 => absurd rfl c_332) (fun c_332 => ?_)
        refine G.aload_n (k := 0) rfl dX7_readsTerm_335 ?_
        refine G.getr (j := 11) rfl gci_X7 (by decide) rfl fl_X7_40 dX7_readsTerm_336 ?_
        refine G.aload_n (k := 0) rfl dX7_readsTerm_339 ?_
        refine G.getr (j := 11) rfl gci_X7 (by decide) rfl fl_X7_40 dX7_readsTerm_340 ?_
        refine G.iload (i := 7) rfl dX7_readsTerm_343 ?_
        refine G.iconst (v := 1) (by decide) dX7_readsTerm_345 ?_
        refine G.iadd dX7_readsTerm_346 ?_
        rw [nI_1]
        refine G.ialdN (k := 30 * t + cst B (30 * t) p + 1) rfl (rfl) (by omega) (by decide) dX7_readsTerm_347 ?_
        rw [hE1]
        refine G.ialdN (k := pt B t (tE B (30 * t + p + 1))) rfl (rfl) (by omega) (by decide) dX7_readsTerm_348 ?_
        rw [hE2]
        refine G.goto (tgt := 361) (by decide) dX7_readsTerm_349 ?_
        refine G.iastN (k := 30 * t + cst B (30 * t) p) rfl (rfl) (by omega) (by decide) dX7_readsTerm_361 ?_
        refine G.inc7 (d := -1) (by decide) (by decide) rfl dX7_readsTerm_362 ?_
        refine G.goto (tgt := 294) (by decide) dX7_readsTerm_365 ?_
        exact ih _ (eI_s (by omega) hn hI hs) (by omega)
      · obtain ⟨m1, n1, n2, n3⟩ := nd_6 hnd c
        have hp1 := pN_6 hnd c
        rw [hPp] at hp1
        have hE1 : σ 11 (30 * t + cst B (30 * t) p + 1) = nI (pt B t (tE B (30 * t + p))) := by rw [← hp1, n2]; exact nx _ n1 (by omega) (by omega)
        have := pN_lt n1
        refine G.iload (i := 7) rfl dX7_readsTerm_294 ?_
        refine G.iload_n (k := 3) rfl dX7_readsTerm_296 ?_
        refine G.icmp_lt (tgt := 368) (by decide) dX7_readsTerm_297 (fun c_297 => absurd c_297 (nI_nlt (by omega) (by omega))) (fun c_297 => ?_)
        refine G.aload_n (k := 0) rfl dX7_readsTerm_300 ?_
        refine G.getr (j := 11) rfl gci_X7 (by decide) rfl fl_X7_40 dX7_readsTerm_301 ?_
        refine G.iload (i := 7) rfl dX7_readsTerm_304 ?_
        refine G.aload_n (k := 0) rfl dX7_readsTerm_306 ?_
        refine G.getr (j := 8) rfl gci_X7 (by decide) rfl fl_X7_31 dX7_readsTerm_307 ?_
        refine G.iload (i := 7) rfl dX7_readsTerm_310 ?_
        refine G.ialdN (k := 30 * t + cst B (30 * t) p) rfl (rfl) (by omega) (by decide) dX7_readsTerm_312 ?_
        rw [show σ 8 (30 * t + cst B (30 * t) p) = 5 by rw [hK, c]; rfl]
        refine G.iconst (v := 3) (by decide) dX7_readsTerm_313 ?_
        refine G.icmp_ge (tgt := 324) (by decide) dX7_readsTerm_314 (fun c_314 => ?_) (fun c_314 => absurd (by decide) c_314)
        refine G.aload_n (k := 0) rfl dX7_readsTerm_324 ?_
        refine G.getr (j := 8) rfl gci_X7 (by decide) rfl fl_X7_31 dX7_readsTerm_325 ?_
        refine G.iload (i := 7) rfl dX7_readsTerm_328 ?_
        refine G.ialdN (k := 30 * t + cst B (30 * t) p) rfl (rfl) (by omega) (by decide) dX7_readsTerm_330 ?_
        rw [show σ 8 (30 * t + cst B (30 * t) p) = 5 by rw [hK, c]; rfl]
        refine G.iconst (v := 4) (by decide) dX7_readsTerm_331 ?_
        refine G.icmp_ne (tgt := 352) (by decide) dX7_readsTerm_332 (fun c_332 => ?_) (fun c_332 => absurd c_332 (by decide))
        refine G.aload_n (k := 0) rfl dX7_readsTerm_352 ?_
        refine G.getr (j := 11) rfl gci_X7 (by decide) rfl fl_X7_40 dX7_readsTerm_353 ?_
        refine G.iload (i := 7) rfl dX7_readsTerm_356 ?_
        refine G.iconst (v := 1) (by decide) dX7_readsTerm_358 ?_
        refine G.iadd dX7_readsTerm_359 ?_
        rw [nI_1]
        refine G.ialdN (k := 30 * t + cst B (30 * t) p + 1) rfl (rfl) (by omega) (by decide) dX7_readsTerm_360 ?_
        rw [hE1]
        refine G.iastN (k := 30 * t + cst B (30 * t) p) rfl (rfl) (by omega) (by decide) dX7_readsTerm_361 ?_
        refine G.inc7 (d := -1) (by decide) (by decide) rfl dX7_readsTerm_362 ?_
        refine G.goto (tgt := 294) (by decide) dX7_readsTerm_365 ?_
        exact ih _ (eI_s (by omega) hn hI hs) (by omega)
      · obtain ⟨m1, m2, n1, n2, n3⟩ := nd_7 hnd c
        have hp1 := pN_7 hnd c
        rw [hPp] at hp1
        have hE1 : σ 11 (30 * t + cst B (30 * t) p + 1) = nI (pt B t (tE B (30 * t + p))) := by rw [← hp1, n2]; exact nx _ n1 (by omega) (by omega)
        have := pN_lt n1
        refine G.iload (i := 7) rfl dX7_readsTerm_294 ?_
        refine G.iload_n (k := 3) rfl dX7_readsTerm_296 ?_
        refine G.icmp_lt (tgt := 368) (by decide) dX7_readsTerm_297 (fun c_297 => absurd c_297 (nI_nlt (by omega) (by omega))) (fun c_297 => ?_)
        refine G.aload_n (k := 0) rfl dX7_readsTerm_300 ?_
        refine G.getr (j := 11) rfl gci_X7 (by decide) rfl fl_X7_40 dX7_readsTerm_301 ?_
        refine G.iload (i := 7) rfl dX7_readsTerm_304 ?_
        refine G.aload_n (k := 0) rfl dX7_readsTerm_306 ?_
        refine G.getr (j := 8) rfl gci_X7 (by decide) rfl fl_X7_31 dX7_readsTerm_307 ?_
        refine G.iload (i := 7) rfl dX7_readsTerm_310 ?_
        refine G.ialdN (k := 30 * t + cst B (30 * t) p) rfl (rfl) (by omega) (by decide) dX7_readsTerm_312 ?_
        rw [show σ 8 (30 * t + cst B (30 * t) p) = 6 by rw [hK, c]; rfl]
        refine G.iconst (v := 3) (by decide) dX7_readsTerm_313 ?_
        refine G.icmp_ge (tgt := 324) (by decide) dX7_readsTerm_314 (fun c_314 => ?_) (fun c_314 => absurd (by decide) c_314)
        refine G.aload_n (k := 0) rfl dX7_readsTerm_324 ?_
        refine G.getr (j := 8) rfl gci_X7 (by decide) rfl fl_X7_31 dX7_readsTerm_325 ?_
        refine G.iload (i := 7) rfl dX7_readsTerm_328 ?_
        refine G.ialdN (k := 30 * t + cst B (30 * t) p) rfl (rfl) (by omega) (by decide) dX7_readsTerm_330 ?_
        rw [show σ 8 (30 * t + cst B (30 * t) p) = 6 by rw [hK, c]; rfl]
        refine G.iconst (v := 4) (by decide) dX7_readsTerm_331 ?_
        refine G.icmp_ne (tgt := 352) (by decide) dX7_readsTerm_332 (fun c_332 => ?_) (fun c_332 => absurd c_332 (by decide))
        refine G.aload_n (k := 0) rfl dX7_readsTerm_352 ?_
        refine G.getr (j := 11) rfl gci_X7 (by decide) rfl fl_X7_40 dX7_readsTerm_353 ?_
        refine G.iload (i := 7) rfl dX7_readsTerm_356 ?_
        refine G.iconst (v := 1) (by decide) dX7_readsTerm_358 ?_
        refine G.iadd dX7_readsTerm_359 ?_
        rw [nI_1]
        refine G.ialdN (k := 30 * t + cst B (30 * t) p + 1) rfl (rfl) (by omega) (by decide) dX7_readsTerm_360 ?_
        rw [hE1]
        refine G.iastN (k := 30 * t + cst B (30 * t) p) rfl (rfl) (by omega) (by decide) dX7_readsTerm_361 ?_
        refine G.inc7 (d := -1) (by decide) (by decide) rfl dX7_readsTerm_362 ?_
        refine G.goto (tgt := 294) (by decide) dX7_readsTerm_365 ?_
        exact ih _ (eI_s (by omega) hn hI hs) (by omega)
set_option maxHeartbeats 4000000 in
set_option maxRecDepth 100000 in
theorem b_X7_readsTerm {Q : Option Value → gS → Prop} {a1 a2 a3 a4 y6 : Int32} {y8 y10 : Option Value} {k i op : Nat} (hop : 0 < op) (hk : k = 1 ∨ k = 2 ∨ k = 3 ∨ k = 4 ∨ k = 5 ∨ k = 6 ∨ k = 7) (K : ∀ y8 y9 y10, G (XM l D cA ad) mX7_readsTerm Q 31 [some (.ref 0), some (.int a1), some (.int a2), some (.int a3), some (.int a4), some (.int (nI (if k = 5 then op + 1 else if k < 4 then op - 1 else op))), some (.int (nI (if k = 6 then 1 else if k = 7 then 2 else 0))), some (.int (nI (i + 1))), y8, y9, y10] [] σ) : G (XM l D cA ad) mX7_readsTerm Q 214 [some (.ref 0), some (.int a1), some (.int a2), some (.int a3), some (.int a4), some (.int (nI op)), some (.int y6), some (.int (nI i)), y8, some (.int (nI (k - 1))), y10] [] σ := by
  rcases hk with c | c | c | c | c | c | c
  · subst c
    refine G.iload (i := 9) rfl dX7_readsTerm_214 ?_
    refine G.iconst (v := 5) (by decide) dX7_readsTerm_216 ?_
    refine G.icmp_ne (tgt := 224) (by decide) dX7_readsTerm_217 (fun c_217 => ?_) (fun c_217 => absurd c_217 (by decide))
    refine G.iload (i := 9) rfl dX7_readsTerm_224 ?_
    refine G.bipush (v := 6) (by decide) dX7_readsTerm_226 ?_
    refine G.icmp_ne (tgt := 235) (by decide) dX7_readsTerm_228 (fun c_228 => ?_) (fun c_228 => absurd c_228 (by decide))
    refine G.iconst (v := 0) (by decide) dX7_readsTerm_235 ?_
    refine G.ist6 (by decide) rfl dX7_readsTerm_236 ?_
    refine G.iload (i := 5) rfl dX7_readsTerm_238 ?_
    refine G.iload (i := 9) rfl dX7_readsTerm_240 ?_
    refine G.iconst (v := 4) (by decide) dX7_readsTerm_242 ?_
    refine G.icmp_ne (tgt := 250) (by decide) dX7_readsTerm_243 (fun c_243 => ?_) (fun c_243 => absurd c_243 (by decide))
    refine G.iload (i := 9) rfl dX7_readsTerm_250 ?_
    refine G.iconst (v := 3) (by decide) dX7_readsTerm_252 ?_
    refine G.icmp_ge (tgt := 260) (by decide) dX7_readsTerm_253 (fun c_253 => absurd c_253 (by decide)) (fun c_253 => ?_)
    refine G.iconst (v := (-1)) (by decide) dX7_readsTerm_256 ?_
    refine G.goto (tgt := 261) (by decide) dX7_readsTerm_257 ?_
    refine G.iadd dX7_readsTerm_261 ?_
    rw [nu_dec hop]
    refine G.ist5 (by decide) rfl dX7_readsTerm_262 ?_
    refine G.inc7 (d := 1) (by decide) (by decide) rfl dX7_readsTerm_264 ?_
    refine G.goto (tgt := 31) (by decide) dX7_readsTerm_267 ?_
    rw [nI_1]
    exact K _ _ _
  · subst c
    refine G.iload (i := 9) rfl dX7_readsTerm_214 ?_
    refine G.iconst (v := 5) (by decide) dX7_readsTerm_216 ?_
    refine G.icmp_ne (tgt := 224) (by decide) dX7_readsTerm_217 (fun c_217 => ?_) (fun c_217 => absurd c_217 (by decide))
    refine G.iload (i := 9) rfl dX7_readsTerm_224 ?_
    refine G.bipush (v := 6) (by decide) dX7_readsTerm_226 ?_
    refine G.icmp_ne (tgt := 235) (by decide) dX7_readsTerm_228 (fun c_228 => ?_) (fun c_228 => absurd c_228 (by decide))
    refine G.iconst (v := 0) (by decide) dX7_readsTerm_235 ?_
    refine G.ist6 (by decide) rfl dX7_readsTerm_236 ?_
    refine G.iload (i := 5) rfl dX7_readsTerm_238 ?_
    refine G.iload (i := 9) rfl dX7_readsTerm_240 ?_
    refine G.iconst (v := 4) (by decide) dX7_readsTerm_242 ?_
    refine G.icmp_ne (tgt := 250) (by decide) dX7_readsTerm_243 (fun c_243 => ?_) (fun c_243 => absurd c_243 (by decide))
    refine G.iload (i := 9) rfl dX7_readsTerm_250 ?_
    refine G.iconst (v := 3) (by decide) dX7_readsTerm_252 ?_
    refine G.icmp_ge (tgt := 260) (by decide) dX7_readsTerm_253 (fun c_253 => absurd c_253 (by decide)) (fun c_253 => ?_)
    refine G.iconst (v := (-1)) (by decide) dX7_readsTerm_256 ?_
    refine G.goto (tgt := 261) (by decide) dX7_readsTerm_257 ?_
    refine G.iadd dX7_readsTerm_261 ?_
    rw [nu_dec hop]
    refine G.ist5 (by decide) rfl dX7_readsTerm_262 ?_
    refine G.inc7 (d := 1) (by decide) (by decide) rfl dX7_readsTerm_264 ?_
    refine G.goto (tgt := 31) (by decide) dX7_readsTerm_267 ?_
    rw [nI_1]
    exact K _ _ _
  · subst c
    refine G.iload (i := 9) rfl dX7_readsTerm_214 ?_
    refine G.iconst (v := 5) (by decide) dX7_readsTerm_216 ?_
    refine G.icmp_ne (tgt := 224) (by decide) dX7_readsTerm_217 (fun c_217 => ?_) (fun c_217 => absurd c_217 (by decide))
    refine G.iload (i := 9) rfl dX7_readsTerm_224 ?_
    refine G.bipush (v := 6) (by decide) dX7_readsTerm_226 ?_
    refine G.icmp_ne (tgt := 235) (by decide) dX7_readsTerm_228 (fun c_228 => ?_) (fun c_228 => absurd c_228 (by decide))
    refine G.iconst (v := 0) (by decide) dX7_readsTerm_235 ?_
    refine G.ist6 (by decide) rfl dX7_readsTerm_236 ?_
    refine G.iload (i := 5) rfl dX7_readsTerm_238 ?_
    refine G.iload (i := 9) rfl dX7_readsTerm_240 ?_
    refine G.iconst (v := 4) (by decide) dX7_readsTerm_242 ?_
    refine G.icmp_ne (tgt := 250) (by decide) dX7_readsTerm_243 (fun c_243 => ?_) (fun c_243 => absurd c_243 (by decide))
    refine G.iload (i := 9) rfl dX7_readsTerm_250 ?_
    refine G.iconst (v := 3) (by decide) dX7_readsTerm_252 ?_
    refine G.icmp_ge (tgt := 260) (by decide) dX7_readsTerm_253 (fun c_253 => absurd c_253 (by decide)) (fun c_253 => ?_)
    refine G.iconst (v := (-1)) (by decide) dX7_readsTerm_256 ?_
    refine G.goto (tgt := 261) (by decide) dX7_readsTerm_257 ?_
    refine G.iadd dX7_readsTerm_261 ?_
    rw [nu_dec hop]
    refine G.ist5 (by decide) rfl dX7_readsTerm_262 ?_
    refine G.inc7 (d := 1) (by decide) (by decide) rfl dX7_readsTerm_264 ?_
    refine G.goto (tgt := 31) (by decide) dX7_readsTerm_267 ?_
    rw [nI_1]
    exact K _ _ _
  · subst c
    refine G.iload (i := 9) rfl dX7_readsTerm_214 ?_
    refine G.iconst (v := 5) (by decide) dX7_readsTerm_216 ?_
    refine G.icmp_ne (tgt := 224) (by decide) dX7_readsTerm_217 (fun c_217 => ?_) (fun c_217 => absurd c_217 (by decide))
    refine G.iload (i := 9) rfl dX7_readsTerm_224 ?_
    refine G.bipush (v := 6) (by decide) dX7_readsTerm_226 ?_
    refine G.icmp_ne (tgt := 235) (by decide) dX7_readsTerm_228 (fun c_228 => ?_) (fun c_228 => absurd c_228 (by decide))
    refine G.iconst (v := 0) (by decide) dX7_readsTerm_235 ?_
    refine G.ist6 (by decide) rfl dX7_readsTerm_236 ?_
    refine G.iload (i := 5) rfl dX7_readsTerm_238 ?_
    refine G.iload (i := 9) rfl dX7_readsTerm_240 ?_
    refine G.iconst (v := 4) (by decide) dX7_readsTerm_242 ?_
    refine G.icmp_ne (tgt := 250) (by decide) dX7_readsTerm_243 (fun c_243 => ?_) (fun c_243 => absurd c_243 (by decide))
    refine G.iload (i := 9) rfl dX7_readsTerm_250 ?_
    refine G.iconst (v := 3) (by decide) dX7_readsTerm_252 ?_
    refine G.icmp_ge (tgt := 260) (by decide) dX7_readsTerm_253 (fun c_253 => ?_) (fun c_253 => absurd (by decide) c_253)
    refine G.iconst (v := 0) (by decide) dX7_readsTerm_260 ?_
    refine G.iadd dX7_readsTerm_261 ?_
    rw [Int32.add_zero]
    refine G.ist5 (by decide) rfl dX7_readsTerm_262 ?_
    refine G.inc7 (d := 1) (by decide) (by decide) rfl dX7_readsTerm_264 ?_
    refine G.goto (tgt := 31) (by decide) dX7_readsTerm_267 ?_
    rw [nI_1]
    exact K _ _ _
  · subst c
    refine G.iload (i := 9) rfl dX7_readsTerm_214 ?_
    refine G.iconst (v := 5) (by decide) dX7_readsTerm_216 ?_
    refine G.icmp_ne (tgt := 224) (by decide) dX7_readsTerm_217 (fun c_217 => ?_) (fun c_217 => absurd c_217 (by decide))
    refine G.iload (i := 9) rfl dX7_readsTerm_224 ?_
    refine G.bipush (v := 6) (by decide) dX7_readsTerm_226 ?_
    refine G.icmp_ne (tgt := 235) (by decide) dX7_readsTerm_228 (fun c_228 => ?_) (fun c_228 => absurd c_228 (by decide))
    refine G.iconst (v := 0) (by decide) dX7_readsTerm_235 ?_
    refine G.ist6 (by decide) rfl dX7_readsTerm_236 ?_
    refine G.iload (i := 5) rfl dX7_readsTerm_238 ?_
    refine G.iload (i := 9) rfl dX7_readsTerm_240 ?_
    refine G.iconst (v := 4) (by decide) dX7_readsTerm_242 ?_
    refine G.icmp_ne (tgt := 250) (by decide) dX7_readsTerm_243 (fun c_243 => absurd rfl c_243) (fun c_243 => ?_)
    refine G.iconst (v := 1) (by decide) dX7_readsTerm_246 ?_
    refine G.goto (tgt := 261) (by decide) dX7_readsTerm_247 ?_
    refine G.iadd dX7_readsTerm_261 ?_
    rw [nI_1]
    refine G.ist5 (by decide) rfl dX7_readsTerm_262 ?_
    refine G.inc7 (d := 1) (by decide) (by decide) rfl dX7_readsTerm_264 ?_
    refine G.goto (tgt := 31) (by decide) dX7_readsTerm_267 ?_
    rw [nI_1]
    exact K _ _ _
  · subst c
    refine G.iload (i := 9) rfl dX7_readsTerm_214 ?_
    refine G.iconst (v := 5) (by decide) dX7_readsTerm_216 ?_
    refine G.icmp_ne (tgt := 224) (by decide) dX7_readsTerm_217 (fun c_217 => absurd rfl c_217) (fun c_217 => ?_)
    refine G.iconst (v := 1) (by decide) dX7_readsTerm_220 ?_
    refine G.goto (tgt := 236) (by decide) dX7_readsTerm_221 ?_
    refine G.ist6 (by decide) rfl dX7_readsTerm_236 ?_
    refine G.iload (i := 5) rfl dX7_readsTerm_238 ?_
    refine G.iload (i := 9) rfl dX7_readsTerm_240 ?_
    refine G.iconst (v := 4) (by decide) dX7_readsTerm_242 ?_
    refine G.icmp_ne (tgt := 250) (by decide) dX7_readsTerm_243 (fun c_243 => ?_) (fun c_243 => absurd c_243 (by decide))
    refine G.iload (i := 9) rfl dX7_readsTerm_250 ?_
    refine G.iconst (v := 3) (by decide) dX7_readsTerm_252 ?_
    refine G.icmp_ge (tgt := 260) (by decide) dX7_readsTerm_253 (fun c_253 => ?_) (fun c_253 => absurd (by decide) c_253)
    refine G.iconst (v := 0) (by decide) dX7_readsTerm_260 ?_
    refine G.iadd dX7_readsTerm_261 ?_
    rw [Int32.add_zero]
    refine G.ist5 (by decide) rfl dX7_readsTerm_262 ?_
    refine G.inc7 (d := 1) (by decide) (by decide) rfl dX7_readsTerm_264 ?_
    refine G.goto (tgt := 31) (by decide) dX7_readsTerm_267 ?_
    rw [nI_1]
    exact K _ _ _
  · subst c
    refine G.iload (i := 9) rfl dX7_readsTerm_214 ?_
    refine G.iconst (v := 5) (by decide) dX7_readsTerm_216 ?_
    refine G.icmp_ne (tgt := 224) (by decide) dX7_readsTerm_217 (fun c_217 => ?_) (fun c_217 => absurd c_217 (by decide))
    refine G.iload (i := 9) rfl dX7_readsTerm_224 ?_
    refine G.bipush (v := 6) (by decide) dX7_readsTerm_226 ?_
    refine G.icmp_ne (tgt := 235) (by decide) dX7_readsTerm_228 (fun c_228 => absurd rfl c_228) (fun c_228 => ?_)
    refine G.iconst (v := 2) (by decide) dX7_readsTerm_231 ?_
    refine G.goto (tgt := 236) (by decide) dX7_readsTerm_232 ?_
    refine G.ist6 (by decide) rfl dX7_readsTerm_236 ?_
    refine G.iload (i := 5) rfl dX7_readsTerm_238 ?_
    refine G.iload (i := 9) rfl dX7_readsTerm_240 ?_
    refine G.iconst (v := 4) (by decide) dX7_readsTerm_242 ?_
    refine G.icmp_ne (tgt := 250) (by decide) dX7_readsTerm_243 (fun c_243 => ?_) (fun c_243 => absurd c_243 (by decide))
    refine G.iload (i := 9) rfl dX7_readsTerm_250 ?_
    refine G.iconst (v := 3) (by decide) dX7_readsTerm_252 ?_
    refine G.icmp_ge (tgt := 260) (by decide) dX7_readsTerm_253 (fun c_253 => ?_) (fun c_253 => absurd (by decide) c_253)
    refine G.iconst (v := 0) (by decide) dX7_readsTerm_260 ?_
    refine G.iadd dX7_readsTerm_261 ?_
    rw [Int32.add_zero]
    refine G.ist5 (by decide) rfl dX7_readsTerm_262 ?_
    refine G.inc7 (d := 1) (by decide) (by decide) rfl dX7_readsTerm_264 ?_
    refine G.goto (tgt := 31) (by decide) dX7_readsTerm_267 ?_
    rw [nI_1]
    exact K _ _ _
set_option maxHeartbeats 4000000 in
set_option maxRecDepth 100000 in
theorem l1_X7_readsTerm {ln B : Nat → Nat} {t : Nat} (ht : t < 8) (hn : ln t ≤ 30) (hB : ∀ i, i < ln t → B (30 * t + i) < 256 ∧ σ0 5 (30 * t + i) = nI (B (30 * t + i))) : ∀ j i nm op q (σ : gS) (y8 y9 y10 : Option Value), i + j = ln t → rI σ0 σ B t i nm q → scn B (30 * t) i = some (nm, op) → nm ≤ 2 → op ≤ i + 1 → flT B (30 * t) (ln t) = flg B (30 * t) (ln t) j i → G (XM l D cA ad) mX7_readsTerm (g_ri (fun r τ => r = flT B (30 * t) (ln t) ∧ rtF σ0 τ t ∧ PTM τ ln B t)) 31 [some (.ref 0), some (.int (nI t)), some (.int (nI (ln t))), some (.int (nI (30 * t))), some (.int (nI (cst B (30 * t) i))), some (.int (nI (op))), some (.int (nI (nm))), some (.int (nI i)), y8, y9, y10] [] σ := by
  intro j
  induction j with
  | zero =>
    intro i nm op q σ y8 y9 y10 hi hI hs hnm hop hfl
    have hi2 : i = ln t := by omega
    subst hi2
    rw [flg] at hfl
    refine G.iload (i := 7) rfl dX7_readsTerm_31 ?_
    refine G.iload_n (k := 2) rfl dX7_readsTerm_33 ?_
    refine G.icmp_ge (tgt := 270) (by decide) dX7_readsTerm_34 (fun c_34 => ?_) (fun c_34 => absurd (Int32.le_refl _) c_34)
    refine G.iload_n (k := 2) rfl dX7_readsTerm_270 ?_
    refine G.if_le (tgt := 286) (by decide) dX7_readsTerm_271 (fun c_271 => ?_) (fun c_271 => ?_)
    · have h0 : ln t = 0 := by
        rcases Nat.eq_zero_or_pos (ln t) with z | z
        · exact z
        · exact absurd c_271 (nI_nle z (by omega))
      refine G.iload_n (k := 3) rfl dX7_readsTerm_286 ?_
      refine G.iload (i := 4) rfl dX7_readsTerm_287 ?_
      refine G.iadd dX7_readsTerm_289 ?_
      rw [nI_add]
      refine G.iconst (v := 1) (by decide) dX7_readsTerm_290 ?_
      refine G.isub dX7_readsTerm_291 ?_
      rw [Int32.sub_eq_add_neg]
      refine G.ist7 (by decide) rfl dX7_readsTerm_292 ?_
      have hw : wel B (30 * t) (ln t) ∨ ln t = 0 := by
        first | exact Or.inr h0 | (refine Or.inl ⟨h0, ?_⟩; rw [hs, ho, hm])
      have hr : (-1 : Int32) = flT B (30 * t) (ln t) := by
        rw [hfl, if_pos]
        rcases hw with z | z
        · exact Or.inr z.2
        · exact Or.inl z
      have hm2 : nm = 0 := by
        first | exact hm | (rw [h0] at hs; simp only [scn, Option.some.injEq, Prod.mk.injEq] at hs; omega)
      exact l2_X7_readsTerm ht hn hB hr hw (ln t) _ ⟨hI.1, hI.2.1, fun q h1 h2 => ⟨(hI.2.2.1 q h1 h2).1, (hI.2.2.1 q h1 h2).2 (Or.inl hm2)⟩, fun q h1 h2 => by omega⟩ (Nat.le_refl _)
    · have h0 : 0 < ln t := by
        rcases Nat.eq_zero_or_pos (ln t) with z | z
        · rw [z] at c_271; exact absurd (by decide) c_271
        · exact z
      refine G.iload (i := 5) rfl dX7_readsTerm_274 ?_
      refine G.if_gt (tgt := 284) (by decide) dX7_readsTerm_276 (fun c_276 => ?_) (fun c_276 => ?_)
      · have ho : 0 < op := by
          rcases Nat.eq_zero_or_pos op with z | z
          · rw [z] at c_276; exact absurd c_276 (by decide)
          · exact z
        refine G.iload_n (k := 2) rfl dX7_readsTerm_284 ?_
        exact G.iret rfl (by
  have hne : ¬ (ln t = 0 ∨ scn B (30 * t) (ln t) = some (0, 0)) := fun z => z.elim (fun z => by omega) (fun z => by rw [hs] at z; simp at z; omega)
  have hwn : ¬ wel B (30 * t) (ln t) := fun z => hne (Or.inr z.2)
  exact ⟨by rw [hfl, if_neg hne], hI.1, by rw [if_neg (fun q => hwn (wlA_iff.mp q))]; exact hI.2.1, fun q => absurd (wlA_iff.mp q) hwn⟩) dX7_readsTerm_285
      · have ho : op = 0 := by
          rcases Nat.eq_zero_or_pos op with z | z
          · exact z
          · exact absurd ((nI_ltI (a := 0) (by decide) (by omega)).mpr z) c_276
        have hm : nm = 0 := by
          rcases Nat.eq_zero_or_pos nm with z | z
          · exact z
          · have := scn_nm _ _ _ hs z; omega
        refine G.iload (i := 6) rfl dX7_readsTerm_279 ?_
        refine G.if_le (tgt := 286) (by decide) dX7_readsTerm_281 (fun c_281 => ?_) (fun c_281 => absurd (show nI nm ≤ 0 by rw [hm]; decide) c_281)
        refine G.iload_n (k := 3) rfl dX7_readsTerm_286 ?_
        refine G.iload (i := 4) rfl dX7_readsTerm_287 ?_
        refine G.iadd dX7_readsTerm_289 ?_
        rw [nI_add]
        refine G.iconst (v := 1) (by decide) dX7_readsTerm_290 ?_
        refine G.isub dX7_readsTerm_291 ?_
        rw [Int32.sub_eq_add_neg]
        refine G.ist7 (by decide) rfl dX7_readsTerm_292 ?_
        have hw : wel B (30 * t) (ln t) ∨ ln t = 0 := by
          first | exact Or.inr h0 | (refine Or.inl ⟨h0, ?_⟩; rw [hs, ho, hm])
        have hr : (-1 : Int32) = flT B (30 * t) (ln t) := by
          rw [hfl, if_pos]
          rcases hw with z | z
          · exact Or.inr z.2
          · exact Or.inl z
        have hm2 : nm = 0 := by
          first | exact hm | (rw [h0] at hs; simp only [scn, Option.some.injEq, Prod.mk.injEq] at hs; omega)
        exact l2_X7_readsTerm ht hn hB hr hw (ln t) _ ⟨hI.1, hI.2.1, fun q h1 h2 => ⟨(hI.2.2.1 q h1 h2).1, (hI.2.2.1 q h1 h2).2 (Or.inl hm2)⟩, fun q h1 h2 => by omega⟩ (Nat.le_refl _)
  | succ j ih =>
    intro i nm op q σ y8 y9 y10 hi hI hs hnm hop hfl
    have b0 := hB i (by omega)
    have hss := scn_s hs
    have hk7 := kd_le (B (30 * t + i))
    have hle := cst_le (B := B) (s := 30 * t) i
    have hfl2 : ∀ a b, scn B (30 * t) (i + 1) = some (a, b) → flT B (30 * t) (ln t) = flg B (30 * t) (ln t) j (i + 1) := by
      intro a b h
      rw [hfl, flg, if_neg (by rw [h]; exact fun z => by cases z)]
    rcases Nat.eq_zero_or_pos nm with hz | hz
    · subst hz
      rcases Nat.eq_zero_or_pos op with ho | ho
      · subst ho
        have hs2 : scn B (30 * t) (i + 1) = none := by rw [hss]; simp [sstep]
        refine G.iload (i := 7) rfl dX7_readsTerm_31 ?_
        refine G.iload_n (k := 2) rfl dX7_readsTerm_33 ?_
        refine G.icmp_ge (tgt := 270) (by decide) dX7_readsTerm_34 (fun c_34 => absurd c_34 (nI_ge (by omega) (by omega))) (fun c_34 => ?_)
        refine G.aload_n (k := 0) rfl dX7_readsTerm_37 ?_
        refine G.getr (j := 5) rfl gci_X7 (by decide) rfl fl_X7_22 dX7_readsTerm_38 ?_
        refine G.bipush (v := 30) (by decide) dX7_readsTerm_41 ?_
        refine G.iload_n (k := 1) rfl dX7_readsTerm_43 ?_
        refine G.imul dX7_readsTerm_44 ?_
        rw [nu_30']
        refine G.iload (i := 7) rfl dX7_readsTerm_45 ?_
        refine G.iadd dX7_readsTerm_47 ?_
        rw [nI_add]
        refine G.ialdN (k := 30 * t + i) rfl (rfl) (by omega) (by decide) dX7_readsTerm_48 ?_
        rw [hI.1.1 5 (by decide), b0.2]
        refine G.ist8 (by decide) rfl dX7_readsTerm_49 ?_
        refine G.iload (i := 6) rfl dX7_readsTerm_51 ?_
        refine G.if_le (tgt := 64) (by decide) dX7_readsTerm_53 (fun c_53 => ?_) (fun c_53 => absurd (by decide) c_53)
        refine G.iload (i := 5) rfl dX7_readsTerm_64 ?_
        refine G.if_le (tgt := 77) (by decide) dX7_readsTerm_66 (fun c_66 => ?_) (fun c_66 => absurd (by decide) c_66)
        refine G.bipush (v := (-9)) (by decide) dX7_readsTerm_77 ?_
        refine G.ist9 (by decide) rfl dX7_readsTerm_79 ?_
        refine G.iload (i := 9) rfl dX7_readsTerm_81 ?_
        refine G.bipush (v := (-9)) (by decide) dX7_readsTerm_83 ?_
        refine G.icmp_ne (tgt := 91) (by decide) dX7_readsTerm_85 (fun c_85 => absurd rfl c_85) (fun c_85 => ?_)
        have hr : nI i = flT B (30 * t) (ln t) := by rw [hfl, flg, if_pos hs2]
        have hwn := wel_no (show i < ln t by omega) hs2
        refine G.iload (i := 7) rfl dX7_readsTerm_88 ?_
        exact G.iret rfl (⟨hr, hI.1, by rw [if_neg (fun q => hwn (wlA_iff.mp q))]; exact hI.2.1, fun q => absurd (wlA_iff.mp q) hwn⟩) dX7_readsTerm_90
      · have hsx : scn B (30 * t) i = some (0, op - 1 + 1) := by rw [show op - 1 + 1 = op by omega]; exact hs
        refine G.iload (i := 7) rfl dX7_readsTerm_31 ?_
        refine G.iload_n (k := 2) rfl dX7_readsTerm_33 ?_
        refine G.icmp_ge (tgt := 270) (by decide) dX7_readsTerm_34 (fun c_34 => absurd c_34 (nI_ge (by omega) (by omega))) (fun c_34 => ?_)
        refine G.aload_n (k := 0) rfl dX7_readsTerm_37 ?_
        refine G.getr (j := 5) rfl gci_X7 (by decide) rfl fl_X7_22 dX7_readsTerm_38 ?_
        refine G.bipush (v := 30) (by decide) dX7_readsTerm_41 ?_
        refine G.iload_n (k := 1) rfl dX7_readsTerm_43 ?_
        refine G.imul dX7_readsTerm_44 ?_
        rw [nu_30']
        refine G.iload (i := 7) rfl dX7_readsTerm_45 ?_
        refine G.iadd dX7_readsTerm_47 ?_
        rw [nI_add]
        refine G.ialdN (k := 30 * t + i) rfl (rfl) (by omega) (by decide) dX7_readsTerm_48 ?_
        rw [hI.1.1 5 (by decide), b0.2]
        refine G.ist8 (by decide) rfl dX7_readsTerm_49 ?_
        refine G.iload (i := 6) rfl dX7_readsTerm_51 ?_
        refine G.if_le (tgt := 64) (by decide) dX7_readsTerm_53 (fun c_53 => ?_) (fun c_53 => absurd (by decide) c_53)
        refine G.iload (i := 5) rfl dX7_readsTerm_64 ?_
        refine G.if_le (tgt := 77) (by decide) dX7_readsTerm_66 (fun c_66 => absurd c_66 (nI_nle ho (by omega))) (fun c_66 => ?_)
        refine G.iload (i := 8) rfl dX7_readsTerm_69 ?_
        refine G.callSif (c_X7_kindOf b0.1) ml_X7_148 ws_yX7_kindOf gcl_X7_kindOf (by decide) rfl rfl (Nat.le_of_ble_eq_true rfl) dX7_readsTerm_71 ?_
        refine G.goto (tgt := 79) (by decide) dX7_readsTerm_74 ?_
        refine G.ist9 (by decide) rfl dX7_readsTerm_79 ?_
        refine G.iload (i := 9) rfl dX7_readsTerm_81 ?_
        refine G.bipush (v := (-9)) (by decide) dX7_readsTerm_83 ?_
        refine G.icmp_ne (tgt := 91) (by decide) dX7_readsTerm_85 (fun c_85 => ?_) (fun c_85 => ?_)
        · have hk := (kdM_9 b0.1).mp c_85
          have hke : kdM (B (30 * t + i)) = nI (kd (B (30 * t + i)) - 1) := if_neg hk
          rw [hke]
          refine G.iload (i := 6) rfl dX7_readsTerm_91 ?_
          refine G.if_le (tgt := 184) (by decide) dX7_readsTerm_93 (fun c_93 => ?_) (fun c_93 => absurd (by decide) c_93)
          refine G.aload_n (k := 0) rfl dX7_readsTerm_184 ?_
          refine G.getr (j := 8) rfl gci_X7 (by decide) rfl fl_X7_31 dX7_readsTerm_185 ?_
          refine G.iload_n (k := 3) rfl dX7_readsTerm_188 ?_
          refine G.iload (i := 4) rfl dX7_readsTerm_189 ?_
          refine G.iadd dX7_readsTerm_191 ?_
          rw [nI_add]
          refine G.iload (i := 9) rfl dX7_readsTerm_192 ?_
          refine G.iastN (k := 30 * t + cst B (30 * t) i) rfl (rfl) (by omega) (by decide) dX7_readsTerm_194 ?_
          refine G.aload_n (k := 0) rfl dX7_readsTerm_195 ?_
          refine G.getr (j := 9) rfl gci_X7 (by decide) rfl fl_X7_34 dX7_readsTerm_196 ?_
          refine G.iload_n (k := 3) rfl dX7_readsTerm_199 ?_
          refine G.iload (i := 4) rfl dX7_readsTerm_200 ?_
          refine G.iadd dX7_readsTerm_202 ?_
          rw [nI_add]
          refine G.iload (i := 9) rfl dX7_readsTerm_203 ?_
          refine G.iload (i := 8) rfl dX7_readsTerm_205 ?_
          refine G.callSif (c_X7_numberOf) ml_X7_151 ws_yX7_numberOf gcl_X7_numberOf (by decide) rfl rfl (Nat.le_of_ble_eq_true rfl) dX7_readsTerm_207 ?_
          refine G.iastN (k := 30 * t + cst B (30 * t) i) rfl (rfl) (by omega) (by decide) dX7_readsTerm_210 ?_
          refine G.inc4 (d := 1) (by decide) (by decide) rfl dX7_readsTerm_211 ?_
          rw [nI_1]
          refine b_X7_readsTerm (k := kd (B (30 * t + i))) ho (by omega) (fun y8 y9 y10 => ?_)
          have hs2 : scn B (30 * t) (i + 1) = some (if kd (B (30 * t + i)) = 6 then 1 else if kd (B (30 * t + i)) = 7 then 2 else 0, if kd (B (30 * t + i)) = 5 then op + 1 else if kd (B (30 * t + i)) < 4 then op - 1 else op) := by
            rw [hss]
            simp only [sstep]
            rw [if_neg (by omega), if_neg (by omega)]
            have cc : kd (B (30 * t + i)) = 1 ∨ kd (B (30 * t + i)) = 2 ∨ kd (B (30 * t + i)) = 3 ∨ kd (B (30 * t + i)) = 4 ∨ kd (B (30 * t + i)) = 5 ∨ kd (B (30 * t + i)) = 6 ∨ kd (B (30 * t + i)) = 7 := by omega
            rcases cc with c | c | c | c | c | c | c <;> rw [c] <;> rfl
          have hR := rI_s (nm := if kd (B (30 * t + i)) = 6 then 1 else if kd (B (30 * t + i)) = 7 then 2 else 0) (x := nbM (nI (kd (B (30 * t + i)) - 1)) (nI (B (30 * t + i)))) (by omega) hI hsx (fun z => if_pos z) (fun z => by rw [if_neg (by omega), if_pos z]) (fun z => ⟨by rw [if_neg (fun y => z (Or.inl y)), if_neg (fun y => z (Or.inr y))], nb_M b0.1 hk z⟩)
          have hq1 : (if kd (B (30 * t + i)) = 6 then 1 else if kd (B (30 * t + i)) = 7 then 2 else 0) ≤ 2 := by
            repeat' split
            all_goals omega
          have hq2 : (if kd (B (30 * t + i)) = 5 then op + 1 else if kd (B (30 * t + i)) < 4 then op - 1 else op) ≤ i + 1 + 1 := by
            repeat' split
            all_goals omega
          have e := ih (i + 1) _ _ i _ y8 y9 y10 (by omega) hR hs2 hq1 hq2 (hfl2 _ _ hs2)
          rw [cst_s (stb_1 hsx)] at e
          exact e
        · have hk : kd (B (30 * t + i)) = 0 := Decidable.byContradiction (fun e => (kdM_9 b0.1).mpr e c_85)
          have hs2 : scn B (30 * t) (i + 1) = none := by rw [hss]; simp [sstep, hk]
          have hr : nI i = flT B (30 * t) (ln t) := by rw [hfl, flg, if_pos hs2]
          have hwn := wel_no (show i < ln t by omega) hs2
          refine G.iload (i := 7) rfl dX7_readsTerm_88 ?_
          exact G.iret rfl (⟨hr, hI.1, by rw [if_neg (fun q => hwn (wlA_iff.mp q))]; exact hI.2.1, fun q => absurd (wlA_iff.mp q) hwn⟩) dX7_readsTerm_90
    · obtain ⟨z1, z2, z3, zz⟩ := hI.2.2.2 hz
      have hleq := cst_le (B := B) (s := 30 * t) q
      have hKK : nI (30 * t + cst B (30 * t) i) - 1 = nI (30 * t + cst B (30 * t) q) := by rw [show (1 : Int32) = nI 1 from rfl, nu_sub (by omega)]; exact congrArg nI (by omega)
      have KN : ∀ τ y8 y9 y10, rI σ0 τ B t (i + 1) (nm - 1) q → kd (B (30 * t + i)) = 1 → G (XM l D cA ad) mX7_readsTerm (g_ri (fun r τ => r = flT B (30 * t) (ln t) ∧ rtF σ0 τ t ∧ PTM τ ln B t)) 31 [some (.ref 0), some (.int (nI t)), some (.int (nI (ln t))), some (.int (nI (30 * t))), some (.int (nI (cst B (30 * t) i))), some (.int (nI (op))), some (.int (nI (nm - 1))), some (.int (nI (i + 1))), y8, y9, y10] [] τ := by
        intro τ y8 y9 y10 hR hk
        have hs2 : scn B (30 * t) (i + 1) = some (nm - 1, op) := by rw [hss]; simp only [sstep]; rw [if_pos hz, if_pos hk]
        have e := ih (i + 1) (nm - 1) op q τ y8 y9 y10 (by omega) hR hs2 (by omega) (by omega) (hfl2 _ _ hs2)
        rw [cst_n (stb_0 hs hz)] at e
        exact e
      refine G.iload (i := 7) rfl dX7_readsTerm_31 ?_
      refine G.iload_n (k := 2) rfl dX7_readsTerm_33 ?_
      refine G.icmp_ge (tgt := 270) (by decide) dX7_readsTerm_34 (fun c_34 => absurd c_34 (nI_ge (by omega) (by omega))) (fun c_34 => ?_)
      refine G.aload_n (k := 0) rfl dX7_readsTerm_37 ?_
      refine G.getr (j := 5) rfl gci_X7 (by decide) rfl fl_X7_22 dX7_readsTerm_38 ?_
      refine G.bipush (v := 30) (by decide) dX7_readsTerm_41 ?_
      refine G.iload_n (k := 1) rfl dX7_readsTerm_43 ?_
      refine G.imul dX7_readsTerm_44 ?_
      rw [nu_30']
      refine G.iload (i := 7) rfl dX7_readsTerm_45 ?_
      refine G.iadd dX7_readsTerm_47 ?_
      rw [nI_add]
      refine G.ialdN (k := 30 * t + i) rfl (rfl) (by omega) (by decide) dX7_readsTerm_48 ?_
      rw [hI.1.1 5 (by decide), b0.2]
      refine G.ist8 (by decide) rfl dX7_readsTerm_49 ?_
      refine G.iload (i := 6) rfl dX7_readsTerm_51 ?_
      refine G.if_le (tgt := 64) (by decide) dX7_readsTerm_53 (fun c_53 => absurd c_53 (nI_nle hz (by omega))) (fun c_53 => ?_)
      refine G.iload (i := 8) rfl dX7_readsTerm_56 ?_
      refine G.callSif (c_X7_nameOf b0.1) ml_X7_137 ws_yX7_nameOf gcl_X7_nameOf (by decide) rfl rfl (Nat.le_of_ble_eq_true rfl) dX7_readsTerm_58 ?_
      refine G.goto (tgt := 79) (by decide) dX7_readsTerm_61 ?_
      refine G.ist9 (by decide) rfl dX7_readsTerm_79 ?_
      refine G.iload (i := 9) rfl dX7_readsTerm_81 ?_
      refine G.bipush (v := (-9)) (by decide) dX7_readsTerm_83 ?_
      refine G.icmp_ne (tgt := 91) (by decide) dX7_readsTerm_85 (fun c_85 => ?_) (fun c_85 => ?_)
      · have hk := (nmM_9 b0.1).mp c_85
        rw [show nmM (B (30 * t + i)) = nI (B (30 * t + i) - 97) from if_pos hk]
        have KN := fun τ y8 y9 y10 h => KN τ y8 y9 y10 h hk
        rcases zz with ⟨z4, z5, z6⟩ | ⟨z4, z5, z6⟩ | ⟨z4, z5, z6, z7⟩
        · subst z5
          refine G.iload (i := 6) rfl dX7_readsTerm_91 ?_
          refine G.if_le (tgt := 184) (by decide) dX7_readsTerm_93 (fun c_93 => absurd c_93 (by decide)) (fun c_93 => ?_)
          refine G.aload_n (k := 0) rfl dX7_readsTerm_96 ?_
          refine G.getr (j := 8) rfl gci_X7 (by decide) rfl fl_X7_31 dX7_readsTerm_97 ?_
          refine G.iload_n (k := 3) rfl dX7_readsTerm_100 ?_
          refine G.iload (i := 4) rfl dX7_readsTerm_101 ?_
          refine G.iadd dX7_readsTerm_103 ?_
          rw [nI_add]
          refine G.iconst (v := 1) (by decide) dX7_readsTerm_104 ?_
          refine G.isub dX7_readsTerm_105 ?_
          rw [hKK]
          refine G.ialdN (k := 30 * t + cst B (30 * t) q) rfl (rfl) (by omega) (by decide) dX7_readsTerm_106 ?_
          rw [show σ 8 (30 * t + cst B (30 * t) q) = 5 by rw [(hI.2.2.1 q z1 z2).1, z4]; rfl]
          refine G.iconst (v := 5) (by decide) dX7_readsTerm_107 ?_
          refine G.icmp_eq (tgt := 117) (by decide) dX7_readsTerm_108 (fun c_108 => ?_) (fun c_108 => absurd rfl c_108)
          refine G.iconst (v := 1) (by decide) dX7_readsTerm_117 ?_
          refine G.goto (tgt := 122) (by decide) dX7_readsTerm_118 ?_
          refine G.ist10 (by decide) rfl dX7_readsTerm_122 ?_
          refine G.aload_n (k := 0) rfl dX7_readsTerm_124 ?_
          refine G.getr (j := 9) rfl gci_X7 (by decide) rfl fl_X7_34 dX7_readsTerm_125 ?_
          refine G.iload_n (k := 3) rfl dX7_readsTerm_128 ?_
          refine G.iload (i := 4) rfl dX7_readsTerm_129 ?_
          refine G.iadd dX7_readsTerm_131 ?_
          rw [nI_add]
          refine G.iconst (v := 1) (by decide) dX7_readsTerm_132 ?_
          refine G.isub dX7_readsTerm_133 ?_
          rw [hKK]
          refine G.iload (i := 10) rfl dX7_readsTerm_134 ?_
          refine G.if_eq (tgt := 144) (by decide) dX7_readsTerm_136 (fun c_136 => absurd c_136 (by decide)) (fun c_136 => ?_)
          refine G.iload (i := 9) rfl dX7_readsTerm_139 ?_
          refine G.goto (tgt := 155) (by decide) dX7_readsTerm_141 ?_
          refine G.iastN (k := 30 * t + cst B (30 * t) q) rfl (rfl) (by omega) (by decide) dX7_readsTerm_155 ?_
          refine G.aload_n (k := 0) rfl dX7_readsTerm_156 ?_
          refine G.getr (j := 10) rfl gci_X7 (by decide) rfl fl_X7_37 dX7_readsTerm_157 ?_
          refine G.iload_n (k := 3) rfl dX7_readsTerm_160 ?_
          refine G.iload (i := 4) rfl dX7_readsTerm_161 ?_
          refine G.iadd dX7_readsTerm_163 ?_
          rw [nI_add]
          refine G.iconst (v := 1) (by decide) dX7_readsTerm_164 ?_
          refine G.isub dX7_readsTerm_165 ?_
          rw [hKK]
          refine G.iload (i := 10) rfl dX7_readsTerm_166 ?_
          refine G.if_eq (tgt := 175) (by decide) dX7_readsTerm_168 (fun c_168 => absurd c_168 (by decide)) (fun c_168 => ?_)
          refine G.iconst (v := 0) (by decide) dX7_readsTerm_171 ?_
          refine G.goto (tgt := 177) (by decide) dX7_readsTerm_172 ?_
          refine G.iastN (k := 30 * t + cst B (30 * t) q) rfl (rfl) (by omega) (by decide) dX7_readsTerm_177 ?_
          refine G.inc6 (d := -1) (by decide) (by decide) rfl dX7_readsTerm_178 ?_
          rw [nu_dec (by decide)]
          refine G.goto (tgt := 264) (by decide) dX7_readsTerm_181 ?_
          refine G.inc7 (d := 1) (by decide) (by decide) rfl dX7_readsTerm_264 ?_
          refine G.goto (tgt := 31) (by decide) dX7_readsTerm_267 ?_
          rw [nI_1]
          exact KN _ _ _ _ (rI_a (by omega) hI hs (by decide) (Or.inl z4))
        · subst z5
          refine G.iload (i := 6) rfl dX7_readsTerm_91 ?_
          refine G.if_le (tgt := 184) (by decide) dX7_readsTerm_93 (fun c_93 => absurd c_93 (by decide)) (fun c_93 => ?_)
          refine G.aload_n (k := 0) rfl dX7_readsTerm_96 ?_
          refine G.getr (j := 8) rfl gci_X7 (by decide) rfl fl_X7_31 dX7_readsTerm_97 ?_
          refine G.iload_n (k := 3) rfl dX7_readsTerm_100 ?_
          refine G.iload (i := 4) rfl dX7_readsTerm_101 ?_
          refine G.iadd dX7_readsTerm_103 ?_
          rw [nI_add]
          refine G.iconst (v := 1) (by decide) dX7_readsTerm_104 ?_
          refine G.isub dX7_readsTerm_105 ?_
          rw [hKK]
          refine G.ialdN (k := 30 * t + cst B (30 * t) q) rfl (rfl) (by omega) (by decide) dX7_readsTerm_106 ?_
          rw [show σ 8 (30 * t + cst B (30 * t) q) = 6 by rw [(hI.2.2.1 q z1 z2).1, z4]; rfl]
          refine G.iconst (v := 5) (by decide) dX7_readsTerm_107 ?_
          refine G.icmp_eq (tgt := 117) (by decide) dX7_readsTerm_108 (fun c_108 => absurd c_108 (by decide)) (fun c_108 => ?_)
          refine G.iload (i := 6) rfl dX7_readsTerm_111 ?_
          refine G.iconst (v := 2) (by decide) dX7_readsTerm_113 ?_
          refine G.icmp_ne (tgt := 121) (by decide) dX7_readsTerm_114 (fun c_114 => absurd rfl c_114) (fun c_114 => ?_)
          refine G.iconst (v := 1) (by decide) dX7_readsTerm_117 ?_
          refine G.goto (tgt := 122) (by decide) dX7_readsTerm_118 ?_
          refine G.ist10 (by decide) rfl dX7_readsTerm_122 ?_
          refine G.aload_n (k := 0) rfl dX7_readsTerm_124 ?_
          refine G.getr (j := 9) rfl gci_X7 (by decide) rfl fl_X7_34 dX7_readsTerm_125 ?_
          refine G.iload_n (k := 3) rfl dX7_readsTerm_128 ?_
          refine G.iload (i := 4) rfl dX7_readsTerm_129 ?_
          refine G.iadd dX7_readsTerm_131 ?_
          rw [nI_add]
          refine G.iconst (v := 1) (by decide) dX7_readsTerm_132 ?_
          refine G.isub dX7_readsTerm_133 ?_
          rw [hKK]
          refine G.iload (i := 10) rfl dX7_readsTerm_134 ?_
          refine G.if_eq (tgt := 144) (by decide) dX7_readsTerm_136 (fun c_136 => absurd c_136 (by decide)) (fun c_136 => ?_)
          refine G.iload (i := 9) rfl dX7_readsTerm_139 ?_
          refine G.goto (tgt := 155) (by decide) dX7_readsTerm_141 ?_
          refine G.iastN (k := 30 * t + cst B (30 * t) q) rfl (rfl) (by omega) (by decide) dX7_readsTerm_155 ?_
          refine G.aload_n (k := 0) rfl dX7_readsTerm_156 ?_
          refine G.getr (j := 10) rfl gci_X7 (by decide) rfl fl_X7_37 dX7_readsTerm_157 ?_
          refine G.iload_n (k := 3) rfl dX7_readsTerm_160 ?_
          refine G.iload (i := 4) rfl dX7_readsTerm_161 ?_
          refine G.iadd dX7_readsTerm_163 ?_
          rw [nI_add]
          refine G.iconst (v := 1) (by decide) dX7_readsTerm_164 ?_
          refine G.isub dX7_readsTerm_165 ?_
          rw [hKK]
          refine G.iload (i := 10) rfl dX7_readsTerm_166 ?_
          refine G.if_eq (tgt := 175) (by decide) dX7_readsTerm_168 (fun c_168 => absurd c_168 (by decide)) (fun c_168 => ?_)
          refine G.iconst (v := 0) (by decide) dX7_readsTerm_171 ?_
          refine G.goto (tgt := 177) (by decide) dX7_readsTerm_172 ?_
          refine G.iastN (k := 30 * t + cst B (30 * t) q) rfl (rfl) (by omega) (by decide) dX7_readsTerm_177 ?_
          refine G.inc6 (d := -1) (by decide) (by decide) rfl dX7_readsTerm_178 ?_
          rw [nu_dec (by decide)]
          refine G.goto (tgt := 264) (by decide) dX7_readsTerm_181 ?_
          refine G.inc7 (d := 1) (by decide) (by decide) rfl dX7_readsTerm_264 ?_
          refine G.goto (tgt := 31) (by decide) dX7_readsTerm_267 ?_
          rw [nI_1]
          exact KN _ _ _ _ (rI_a (by omega) hI hs (by decide) (Or.inr rfl))
        · subst z5
          refine G.iload (i := 6) rfl dX7_readsTerm_91 ?_
          refine G.if_le (tgt := 184) (by decide) dX7_readsTerm_93 (fun c_93 => absurd c_93 (by decide)) (fun c_93 => ?_)
          refine G.aload_n (k := 0) rfl dX7_readsTerm_96 ?_
          refine G.getr (j := 8) rfl gci_X7 (by decide) rfl fl_X7_31 dX7_readsTerm_97 ?_
          refine G.iload_n (k := 3) rfl dX7_readsTerm_100 ?_
          refine G.iload (i := 4) rfl dX7_readsTerm_101 ?_
          refine G.iadd dX7_readsTerm_103 ?_
          rw [nI_add]
          refine G.iconst (v := 1) (by decide) dX7_readsTerm_104 ?_
          refine G.isub dX7_readsTerm_105 ?_
          rw [hKK]
          refine G.ialdN (k := 30 * t + cst B (30 * t) q) rfl (rfl) (by omega) (by decide) dX7_readsTerm_106 ?_
          rw [show σ 8 (30 * t + cst B (30 * t) q) = 6 by rw [(hI.2.2.1 q z1 z2).1, z4]; rfl]
          refine G.iconst (v := 5) (by decide) dX7_readsTerm_107 ?_
          refine G.icmp_eq (tgt := 117) (by decide) dX7_readsTerm_108 (fun c_108 => absurd c_108 (by decide)) (fun c_108 => ?_)
          refine G.iload (i := 6) rfl dX7_readsTerm_111 ?_
          refine G.iconst (v := 2) (by decide) dX7_readsTerm_113 ?_
          refine G.icmp_ne (tgt := 121) (by decide) dX7_readsTerm_114 (fun c_114 => ?_) (fun c_114 => absurd c_114 (by decide))
          refine G.iconst (v := 0) (by decide) dX7_readsTerm_121 ?_
          refine G.ist10 (by decide) rfl dX7_readsTerm_122 ?_
          refine G.aload_n (k := 0) rfl dX7_readsTerm_124 ?_
          refine G.getr (j := 9) rfl gci_X7 (by decide) rfl fl_X7_34 dX7_readsTerm_125 ?_
          refine G.iload_n (k := 3) rfl dX7_readsTerm_128 ?_
          refine G.iload (i := 4) rfl dX7_readsTerm_129 ?_
          refine G.iadd dX7_readsTerm_131 ?_
          rw [nI_add]
          refine G.iconst (v := 1) (by decide) dX7_readsTerm_132 ?_
          refine G.isub dX7_readsTerm_133 ?_
          rw [hKK]
          refine G.iload (i := 10) rfl dX7_readsTerm_134 ?_
          refine G.if_eq (tgt := 144) (by decide) dX7_readsTerm_136 (fun c_136 => ?_) (fun c_136 => absurd rfl c_136)
          refine G.aload_n (k := 0) rfl dX7_readsTerm_144 ?_
          refine G.getr (j := 9) rfl gci_X7 (by decide) rfl fl_X7_34 dX7_readsTerm_145 ?_
          refine G.iload_n (k := 3) rfl dX7_readsTerm_148 ?_
          refine G.iload (i := 4) rfl dX7_readsTerm_149 ?_
          refine G.iadd dX7_readsTerm_151 ?_
          rw [nI_add]
          refine G.iconst (v := 1) (by decide) dX7_readsTerm_152 ?_
          refine G.isub dX7_readsTerm_153 ?_
          rw [hKK]
          refine G.ialdN (k := 30 * t + cst B (30 * t) q) rfl (rfl) (by omega) (by decide) dX7_readsTerm_154 ?_
          refine G.iastN (k := 30 * t + cst B (30 * t) q) rfl (rfl) (by omega) (by decide) dX7_readsTerm_155 ?_
          refine G.aload_n (k := 0) rfl dX7_readsTerm_156 ?_
          refine G.getr (j := 10) rfl gci_X7 (by decide) rfl fl_X7_37 dX7_readsTerm_157 ?_
          refine G.iload_n (k := 3) rfl dX7_readsTerm_160 ?_
          refine G.iload (i := 4) rfl dX7_readsTerm_161 ?_
          refine G.iadd dX7_readsTerm_163 ?_
          rw [nI_add]
          refine G.iconst (v := 1) (by decide) dX7_readsTerm_164 ?_
          refine G.isub dX7_readsTerm_165 ?_
          rw [hKK]
          refine G.iload (i := 10) rfl dX7_readsTerm_166 ?_
          refine G.if_eq (tgt := 175) (by decide) dX7_readsTerm_168 (fun c_168 => ?_) (fun c_168 => absurd rfl c_168)
          refine G.iload (i := 9) rfl dX7_readsTerm_175 ?_
          refine G.iastN (k := 30 * t + cst B (30 * t) q) rfl (rfl) (by omega) (by decide) dX7_readsTerm_177 ?_
          refine G.inc6 (d := -1) (by decide) (by decide) rfl dX7_readsTerm_178 ?_
          rw [nu_dec (by decide)]
          refine G.goto (tgt := 264) (by decide) dX7_readsTerm_181 ?_
          refine G.inc7 (d := 1) (by decide) (by decide) rfl dX7_readsTerm_264 ?_
          refine G.goto (tgt := 31) (by decide) dX7_readsTerm_267 ?_
          rw [nI_1]
          exact KN _ _ _ _ (rI_b (by omega) hI hs (by decide) (by omega) (by decide))
      · have hk : ¬ kd (B (30 * t + i)) = 1 := fun e => (nmM_9 b0.1).mpr e c_85
        have hs2 : scn B (30 * t) (i + 1) = none := by rw [hss]; simp only [sstep]; rw [if_pos hz, if_neg hk]
        have hr : nI i = flT B (30 * t) (ln t) := by rw [hfl, flg, if_pos hs2]
        have hwn := wel_no (show i < ln t by omega) hs2
        refine G.iload (i := 7) rfl dX7_readsTerm_88 ?_
        exact G.iret rfl (⟨hr, hI.1, by rw [if_neg (fun q => hwn (wlA_iff.mp q))]; exact hI.2.1, fun q => absurd (wlA_iff.mp q) hwn⟩) dX7_readsTerm_90
set_option maxHeartbeats 4000000 in
set_option maxRecDepth 100000 in
theorem c_X7_readsTerm {ln B : Nat → Nat} {t : Nat} (hT : TM σ ln B) (ht : t < 8) : GM (XM l D cA ad) mX7_readsTerm [.ref 0, .int (nI t)] σ (g_ri (fun r τ => r = flT B (30 * t) (ln t) ∧ rtF σ τ t ∧ PTM τ ln B t)) := by
  refine GM.of (ls := [some (.ref 0), some (.int (nI t)), none, none, none, none, none, none, none, none, none]) (by decide) (Nat.le_of_ble_eq_true rfl) rfl ?_
  refine G.aload_n (k := 0) rfl dX7_readsTerm_0 ?_
  refine G.getr (j := 6) rfl gci_X7 (by decide) rfl fl_X7_25 dX7_readsTerm_1 ?_
  refine G.iload_n (k := 1) rfl dX7_readsTerm_4 ?_
  refine G.ialdN (k := t) rfl (rfl) (by omega) (by decide) dX7_readsTerm_5 ?_
  rw [(hT t (by omega)).1]
  refine G.ist2 (by decide) rfl dX7_readsTerm_6 ?_
  refine G.bipush (v := 30) (by decide) dX7_readsTerm_7 ?_
  refine G.iload_n (k := 1) rfl dX7_readsTerm_9 ?_
  refine G.imul dX7_readsTerm_10 ?_
  rw [nu_30']
  refine G.ist3 (by decide) rfl dX7_readsTerm_11 ?_
  refine G.iconst (v := 0) (by decide) dX7_readsTerm_12 ?_
  refine G.ist4 (by decide) rfl dX7_readsTerm_13 ?_
  refine G.iconst (v := 1) (by decide) dX7_readsTerm_15 ?_
  refine G.ist5 (by decide) rfl dX7_readsTerm_16 ?_
  refine G.iconst (v := 0) (by decide) dX7_readsTerm_18 ?_
  refine G.ist6 (by decide) rfl dX7_readsTerm_19 ?_
  refine G.aload_n (k := 0) rfl dX7_readsTerm_21 ?_
  refine G.getr (j := 7) rfl gci_X7 (by decide) rfl fl_X7_28 dX7_readsTerm_22 ?_
  refine G.iload_n (k := 1) rfl dX7_readsTerm_25 ?_
  refine G.iconst (v := 0) (by decide) dX7_readsTerm_26 ?_
  refine G.iastN (k := t) rfl (rfl) (ht) (by decide) dX7_readsTerm_27 ?_
  refine G.iconst (v := 0) (by decide) dX7_readsTerm_28 ?_
  refine G.ist7 (by decide) rfl dX7_readsTerm_29 ?_
  have h30 : ln t ≤ 30 := Nat.le_trans (hT t (by omega)).2.1 (tcap_le t)
  exact l1_X7_readsTerm ht h30 (hT t (by omega)).2.2 (ln t) 0 0 1 0 _ none none none (by omega) ⟨⟨fun k hk => up2_ne _ _ _ (by omega), fun s hs => by rw [up2_r, if_neg (fun z => hs z.2)], fun k i h1 h2 h3 => by rw [up2_ne _ _ _ (by omega)]⟩, by rw [up2_at], fun p hp => absurd hp (Nat.not_lt_zero _), fun h => absurd h (by decide)⟩ rfl (by decide) (by decide) rfl
end T84

/-! ===== how a text of a term is read: names and terms that are due behind i bytes ===== -/
def sstep (k nm op : Nat) : Option (Nat × Nat) := if 0 < nm then (if k = 1 then some (nm - 1, op) else none) else if op = 0 ∨ k = 0 then none else if k = 5 then some (0, op + 1) else if k = 6 then some (1, op) else if k = 7 then some (2, op) else if k = 4 then some (0, op) else some (0, op - 1)
def scn (B : Nat → Nat) (s : Nat) : Nat → Option (Nat × Nat)
  | 0 => some (0, 1)
  | i + 1 => (scn B s i).bind (fun q => sstep (kd (B (s + i))) q.1 q.2)
def wel (B : Nat → Nat) (s n : Nat) : Prop := 0 < n ∧ scn B s n = some (0, 0)
theorem kd_le (b : Nat) : kd b ≤ 7 := by
  unfold kd
  repeat' split
  all_goals omega
theorem scn_up {B : Nat → Nat} {s n : Nat} : ∀ d, scn B s n = none → scn B s (n + d) = none := by
  intro d
  induction d with
  | zero => intro h; exact h
  | succ d ih => intro h; show (scn B s (n + d)).bind _ = none; rw [ih h]; rfl
theorem scn_some {B : Nat → Nat} {s n i : Nat} {q : Nat × Nat} (h : scn B s n = some q) (hi : i ≤ n) : ∃ nm op, scn B s i = some (nm, op) := by
  cases e : scn B s i with
  | some z => exact ⟨z.1, z.2, rfl⟩
  | none =>
    have h1 := scn_up (n - i) e
    rw [show i + (n - i) = n by omega, h] at h1
    cases h1
theorem scn_nm {B : Nat → Nat} {s : Nat} : ∀ i nm op, scn B s i = some (nm, op) → 0 < nm → 0 < op := by
  intro i
  induction i with
  | zero => intro nm op h h0; simp only [scn, Option.some.injEq, Prod.mk.injEq] at h; omega
  | succ i ih =>
    intro nm op h h0
    simp only [scn] at h
    cases e : scn B s i with
    | none => rw [e] at h; cases h
    | some z =>
      rw [e] at h
      obtain ⟨a, b⟩ := z
      simp only [Option.bind_some, sstep] at h
      by_cases ha : 0 < a
      · rw [if_pos ha] at h
        have hb := ih a b e ha
        split at h
        · simp only [Option.some.injEq, Prod.mk.injEq] at h; omega
        · cases h
      · rw [if_neg ha] at h
        repeat' split at h
        all_goals first | (cases h; done) | (simp only [Option.some.injEq, Prod.mk.injEq] at h; omega)
/-- what stands where a term starts, and what is due behind it -/
theorem st_kd {B : Nat → Nat} {s n p op : Nat} (hw : wel B s n) (hp : p < n) (h : scn B s p = some (0, op + 1)) :
    ((kd (B (s + p)) = 1 ∨ kd (B (s + p)) = 2 ∨ kd (B (s + p)) = 3) ∧ scn B s (p + 1) = some (0, op)) ∨
    (kd (B (s + p)) = 4 ∧ p + 1 < n ∧ scn B s (p + 1) = some (0, op + 1)) ∨
    (kd (B (s + p)) = 5 ∧ p + 1 < n ∧ scn B s (p + 1) = some (0, op + 2)) ∨
    (kd (B (s + p)) = 6 ∧ kd (B (s + p + 1)) = 1 ∧ p + 2 < n ∧ scn B s (p + 1) = some (1, op + 1) ∧ scn B s (p + 2) = some (0, op + 1)) ∨
    (kd (B (s + p)) = 7 ∧ kd (B (s + p + 1)) = 1 ∧ kd (B (s + p + 2)) = 1 ∧ p + 3 < n ∧ scn B s (p + 1) = some (2, op + 1) ∧ scn B s (p + 2) = some (1, op + 1) ∧ scn B s (p + 3) = some (0, op + 1)) := by
  obtain ⟨h0, hE⟩ := hw
  have e1 : scn B s (p + 1) = sstep (kd (B (s + p))) 0 (op + 1) := by show (scn B s p).bind _ = _; rw [h]; rfl
  have s1 := scn_some hE (show p + 1 ≤ n by omega)
  have lt : ∀ (i a b : Nat), i ≤ n → scn B s i = some (a, b + 1) → i < n := by
    intro i a b hi hs
    rcases Nat.lt_or_ge i n with q | q
    · exact q
    · rw [show i = n by omega, hE] at hs; simp at hs
  have hk := kd_le (B (s + p))
  have hc : kd (B (s + p)) = 0 ∨ kd (B (s + p)) = 1 ∨ kd (B (s + p)) = 2 ∨ kd (B (s + p)) = 3 ∨ kd (B (s + p)) = 4 ∨ kd (B (s + p)) = 5 ∨ kd (B (s + p)) = 6 ∨ kd (B (s + p)) = 7 := by omega
  have nxt : ∀ (i a b : Nat), scn B s i = some (a + 1, b) → i + 1 ≤ n → kd (B (s + i)) = 1 ∧ scn B s (i + 1) = some (a, b) := by
    intro i a b hs hi
    have e2 : scn B s (i + 1) = sstep (kd (B (s + i))) (a + 1) b := by show (scn B s i).bind _ = _; rw [hs]; rfl
    obtain ⟨u, v, s2⟩ := scn_some hE hi
    rw [e2] at s2 ⊢
    simp only [sstep, Nat.succ_pos, if_true] at s2 ⊢
    by_cases h1 : kd (B (s + i)) = 1
    · rw [if_pos h1]; exact ⟨h1, rfl⟩
    · rw [if_neg h1] at s2; cases s2
  rcases hc with c | c | c | c | c | c | c | c
  · obtain ⟨u, v, s2⟩ := s1
    rw [e1, c] at s2
    simp [sstep] at s2
  · exact Or.inl ⟨Or.inl c, by rw [e1, c]; simp [sstep]⟩
  · exact Or.inl ⟨Or.inr (Or.inl c), by rw [e1, c]; simp [sstep]⟩
  · exact Or.inl ⟨Or.inr (Or.inr c), by rw [e1, c]; simp [sstep]⟩
  · have e2 : scn B s (p + 1) = some (0, op + 1) := by rw [e1, c]; simp [sstep]
    exact Or.inr (Or.inl ⟨c, lt _ _ _ (by omega) e2, e2⟩)
  · have e2 : scn B s (p + 1) = some (0, op + 2) := by rw [e1, c]; simp [sstep]
    exact Or.inr (Or.inr (Or.inl ⟨c, lt _ _ _ (by omega) e2, e2⟩))
  · have e2 : scn B s (p + 1) = some (1, op + 1) := by rw [e1, c]; simp [sstep]
    have l2 := lt _ _ _ (by omega) e2
    obtain ⟨k1, e3⟩ := nxt (p + 1) 0 (op + 1) e2 (by omega)
    exact Or.inr (Or.inr (Or.inr (Or.inl ⟨c, k1, lt _ _ _ (by omega) e3, e2, e3⟩)))
  · have e2 : scn B s (p + 1) = some (2, op + 1) := by rw [e1, c]; simp [sstep]
    have l2 := lt _ _ _ (by omega) e2
    obtain ⟨k1, e3⟩ := nxt (p + 1) 1 (op + 1) e2 (by omega)
    have l3 := lt _ _ _ (by omega) e3
    obtain ⟨k2, e4⟩ := nxt (p + 2) 0 (op + 1) e3 (by omega)
    exact Or.inr (Or.inr (Or.inr (Or.inr ⟨c, k1, k2, lt _ _ _ (by omega) e4, e2, e3, e4⟩)))
/-- the end of the term that starts at g -/
def te (B : Nat → Nat) : Nat → Nat → Nat
  | 0, g => g + 1
  | f + 1, g => if kd (B g) = 4 then te B f (g + 1) else if kd (B g) = 5 then te B f (te B f (g + 1)) else if kd (B g) = 6 then te B f (g + 2) else if kd (B g) = 7 then te B f (g + 3) else g + 1
theorem te_leaf {B : Nat → Nat} {g : Nat} (h : kd (B g) = 1 ∨ kd (B g) = 2 ∨ kd (B g) = 3) (f : Nat) : te B f g = g + 1 := by
  cases f with
  | zero => rfl
  | succ f => unfold te; rcases h with h | h | h <;> simp [h]
theorem te_span {B : Nat → Nat} {s n : Nat} (hw : wel B s n) : ∀ f p op, p < n → n - p ≤ f → scn B s p = some (0, op + 1) → ∃ q, te B f (s + p) = s + q ∧ p < q ∧ q ≤ n ∧ scn B s q = some (0, op) := by
  have lt : ∀ (i b : Nat), i ≤ n → scn B s i = some (0, b + 1) → i < n := by
    intro i b hi hs
    rcases Nat.lt_or_ge i n with q | q
    · exact q
    · rw [show i = n by omega, hw.2] at hs; simp at hs
  intro f
  induction f with
  | zero => intro p op hp hf; omega
  | succ f ih =>
    intro p op hp hf h
    rcases st_kd hw hp h with ⟨c, e⟩ | ⟨c, l, e⟩ | ⟨c, l, e⟩ | ⟨c, k1, l, _, e⟩ | ⟨c, k1, k2, l, _, _, e⟩
    · exact ⟨p + 1, te_leaf c _, by omega, by omega, e⟩
    · obtain ⟨q, e1, e2, e3, e4⟩ := ih (p + 1) op l (by omega) e
      exact ⟨q, by unfold te; rw [if_pos c]; exact e1, by omega, e3, e4⟩
    · obtain ⟨q, e1, e2, e3, e4⟩ := ih (p + 1) (op + 1) l (by omega) e
      have hq := lt q op e3 e4
      obtain ⟨q2, f1, f2, f3, f4⟩ := ih q op hq (by omega) e4
      refine ⟨q2, ?_, by omega, f3, f4⟩
      unfold te
      rw [if_neg (by omega), if_pos c, show s + p + 1 = s + (p + 1) by omega, e1, f1]
    · obtain ⟨q, e1, e2, e3, e4⟩ := ih (p + 2) op l (by omega) e
      exact ⟨q, by unfold te; rw [if_neg (by omega), if_neg (by omega), if_pos c]; exact e1, by omega, e3, e4⟩
    · obtain ⟨q, e1, e2, e3, e4⟩ := ih (p + 3) op l (by omega) e
      exact ⟨q, by unfold te; rw [if_neg (by omega), if_neg (by omega), if_neg (by omega), if_pos c]; exact e1, by omega, e3, e4⟩
theorem te_fuel {B : Nat → Nat} {s n : Nat} (hw : wel B s n) : ∀ f f' p op, p < n → n - p ≤ f → n - p ≤ f' → scn B s p = some (0, op + 1) → te B f (s + p) = te B f' (s + p) := by
  intro f
  induction f with
  | zero => intro f' p op hp hf; omega
  | succ f ih =>
    intro f' p op hp hf hf' h
    cases f' with
    | zero => omega
    | succ f' =>
      rcases st_kd hw hp h with ⟨c, e⟩ | ⟨c, l, e⟩ | ⟨c, l, e⟩ | ⟨c, k1, l, _, e⟩ | ⟨c, k1, k2, l, _, _, e⟩
      · rw [te_leaf c, te_leaf c]
      · unfold te
        rw [if_pos c, if_pos c]
        exact ih f' (p + 1) op l (by omega) (by omega) e
      · obtain ⟨q, e1, e2, e3, e4⟩ := te_span hw f (p + 1) (op + 1) l (by omega) e
        have h1 := ih f' (p + 1) (op + 1) l (by omega) (by omega) e
        have hq : q < n := by
          rcases Nat.lt_or_ge q n with z | z
          · exact z
          · rw [show q = n by omega, hw.2] at e4; simp at e4
        unfold te
        rw [if_neg (by omega), if_pos c, if_neg (by omega), if_pos c, show s + p + 1 = s + (p + 1) by omega, ← h1, e1]
        exact ih f' q op hq (by omega) (by omega) e4
      · unfold te
        rw [if_neg (by omega), if_neg (by omega), if_pos c, if_neg (by omega), if_neg (by omega), if_pos c]
        exact ih f' (p + 2) op l (by omega) (by omega) e
      · unfold te
        rw [if_neg (by omega), if_neg (by omega), if_neg (by omega), if_pos c, if_neg (by omega), if_neg (by omega), if_neg (by omega), if_pos c]
        exact ih f' (p + 3) op l (by omega) (by omega) e
def tE (B : Nat → Nat) (g : Nat) : Nat := te B 30 g
/-- a fold over the term that starts at g -/
def tfo {α : Type} (B : Nat → Nat) (lf : Nat → α) (sg : Nat → α → α) (pr : Nat → α → α → α) (bi sw : Nat → α → α) : Nat → Nat → α
  | 0, g => lf g
  | f + 1, g => if kd (B g) = 4 then sg g (tfo B lf sg pr bi sw f (g + 1)) else if kd (B g) = 5 then pr g (tfo B lf sg pr bi sw f (g + 1)) (tfo B lf sg pr bi sw f (tE B (g + 1))) else if kd (B g) = 6 then bi g (tfo B lf sg pr bi sw f (g + 2)) else if kd (B g) = 7 then sw g (tfo B lf sg pr bi sw f (g + 3)) else lf g
/-- a node at which a term of a well text starts -/
def nd (B ln : Nat → Nat) (g : Nat) : Prop := ∃ t p op, t < 8 ∧ g = 30 * t + p ∧ wel B (30 * t) (ln t) ∧ ln t ≤ 30 ∧ p < ln t ∧ scn B (30 * t) p = some (0, op + 1)
section ND
variable {B ln : Nat → Nat} {g : Nat}
theorem nd_lt (h : nd B ln g) : g < 240 := by
  obtain ⟨t, p, op, h1, h2, h3, h4, h5, h6⟩ := h
  omega
theorem nd_kd (h : nd B ln g) : 1 ≤ kd (B g) ∧ kd (B g) ≤ 7 := by
  obtain ⟨t, p, op, h1, h2, h3, h4, h5, h6⟩ := h
  subst h2
  rcases st_kd h3 h5 h6 with ⟨c, e⟩ | ⟨c, l, e⟩ | ⟨c, l, e⟩ | ⟨c, k1, l, e⟩ | ⟨c, k1, k2, l, e⟩ <;> omega
/-- the end: behind the start, within the text, at the same count of terms less one -/
theorem nd_E (h : nd B ln g) : g < tE B g ∧ tE B g ≤ 30 * (g / 30) + ln (g / 30) ∧ tE B g ≤ 30 * (g / 30) + 30 := by
  obtain ⟨t, p, op, h1, h2, h3, h4, h5, h6⟩ := h
  subst h2
  obtain ⟨q, e1, e2, e3, e4⟩ := te_span h3 30 p op h5 (by omega) h6
  have ht : (30 * t + p) / 30 = t := by omega
  rw [tE, e1, ht]
  omega
theorem nd_leaf (h : kd (B g) = 1 ∨ kd (B g) = 2 ∨ kd (B g) = 3) : tE B g = g + 1 := te_leaf h 30
theorem nd_mk {t p op : Nat} (h1 : t < 8) (h3 : wel B (30 * t) (ln t)) (h4 : ln t ≤ 30) (h5 : p < ln t) (h6 : scn B (30 * t) p = some (0, op + 1)) : nd B ln (30 * t + p) := ⟨t, p, op, h1, rfl, h3, h4, h5, h6⟩
theorem nd_4 (h : nd B ln g) (c : kd (B g) = 4) : nd B ln (g + 1) ∧ tE B g = tE B (g + 1) ∧ (g + 1) / 30 = g / 30 := by
  obtain ⟨t, p, op, h1, h2, h3, h4, h5, h6⟩ := h
  subst h2
  rcases st_kd h3 h5 h6 with ⟨c2, e⟩ | ⟨c2, l, e⟩ | ⟨c2, l, e⟩ | ⟨c2, k1, l, _, e⟩ | ⟨c2, k1, k2, l, _, _, e⟩
  · omega
  · refine ⟨nd_mk h1 h3 h4 l e, ?_, by omega⟩
    have h7 := te_fuel h3 29 30 (p + 1) op l (by omega) (by omega) e
    show te B (29 + 1) (30 * t + p) = te B 30 (30 * t + p + 1)
    rw [te, if_pos c]
    exact h7
  · omega
  · omega
  · omega
theorem nd_5 (h : nd B ln g) (c : kd (B g) = 5) : nd B ln (g + 1) ∧ nd B ln (tE B (g + 1)) ∧ tE B g = tE B (tE B (g + 1)) ∧ (g + 1) / 30 = g / 30 ∧ tE B (g + 1) / 30 = g / 30 := by
  obtain ⟨t, p, op, h1, h2, h3, h4, h5, h6⟩ := h
  subst h2
  rcases st_kd h3 h5 h6 with ⟨c2, e⟩ | ⟨c2, l, e⟩ | ⟨c2, l, e⟩ | ⟨c2, k1, l, _, e⟩ | ⟨c2, k1, k2, l, _, _, e⟩
  · omega
  · omega
  · obtain ⟨q, e1, e2, e3, e4⟩ := te_span h3 30 (p + 1) (op + 1) l (by omega) e
    have hq : q < ln t := by
      rcases Nat.lt_or_ge q (ln t) with z | z
      · exact z
      · rw [show q = ln t by omega, h3.2] at e4; simp at e4
    have e5 : tE B (30 * t + p + 1) = 30 * t + q := e1
    refine ⟨nd_mk h1 h3 h4 l e, by rw [e5]; exact nd_mk h1 h3 h4 hq e4, ?_, by omega, by rw [e5]; omega⟩
    have h7 := te_fuel h3 29 30 (p + 1) (op + 1) l (by omega) (by omega) e
    have h8 := te_fuel h3 29 30 q op hq (by omega) (by omega) e4
    rw [e5]
    show te B (29 + 1) (30 * t + p) = te B 30 (30 * t + q)
    rw [te, if_neg (by omega), if_pos c, show te B 29 (30 * t + p + 1) = 30 * t + q from h7.trans e1]
    exact h8
  · omega
  · omega
theorem nd_6 (h : nd B ln g) (c : kd (B g) = 6) : kd (B (g + 1)) = 1 ∧ nd B ln (g + 2) ∧ tE B g = tE B (g + 2) ∧ (g + 2) / 30 = g / 30 := by
  obtain ⟨t, p, op, h1, h2, h3, h4, h5, h6⟩ := h
  subst h2
  rcases st_kd h3 h5 h6 with ⟨c2, e⟩ | ⟨c2, l, e⟩ | ⟨c2, l, e⟩ | ⟨c2, k1, l, _, e⟩ | ⟨c2, k1, k2, l, _, _, e⟩
  · omega
  · omega
  · omega
  · refine ⟨k1, nd_mk h1 h3 h4 l e, ?_, by omega⟩
    have h7 := te_fuel h3 29 30 (p + 2) op l (by omega) (by omega) e
    show te B (29 + 1) (30 * t + p) = te B 30 (30 * t + p + 2)
    rw [te, if_neg (by omega), if_neg (by omega), if_pos c]
    exact h7
  · omega
theorem nd_7 (h : nd B ln g) (c : kd (B g) = 7) : kd (B (g + 1)) = 1 ∧ kd (B (g + 2)) = 1 ∧ nd B ln (g + 3) ∧ tE B g = tE B (g + 3) ∧ (g + 3) / 30 = g / 30 := by
  obtain ⟨t, p, op, h1, h2, h3, h4, h5, h6⟩ := h
  subst h2
  rcases st_kd h3 h5 h6 with ⟨c2, e⟩ | ⟨c2, l, e⟩ | ⟨c2, l, e⟩ | ⟨c2, k1, l, _, e⟩ | ⟨c2, k1, k2, l, _, _, e⟩
  · omega
  · omega
  · omega
  · omega
  · refine ⟨k1, k2, nd_mk h1 h3 h4 l e, ?_, by omega⟩
    have h7 := te_fuel h3 29 30 (p + 3) op l (by omega) (by omega) e
    show te B (29 + 1) (30 * t + p) = te B 30 (30 * t + p + 3)
    rw [te, if_neg (by omega), if_neg (by omega), if_neg (by omega), if_pos c]
    exact h7
theorem nd_0 {t : Nat} (h1 : t < 8) (h3 : wel B (30 * t) (ln t)) (h4 : ln t ≤ 30) : nd B ln (30 * t) ∧ tE B (30 * t) = 30 * t + ln t := by
  have h := nd_mk (p := 0) (op := 0) h1 h3 h4 h3.1 rfl
  refine ⟨h, ?_⟩
  obtain ⟨q, e1, e2, e3, e4⟩ := te_span h3 30 0 0 h3.1 (by omega) rfl
  have h5 : ∀ d, scn B (30 * t) q = some (0, 0) → 0 < d → scn B (30 * t) (q + d) = none := by
    intro d hq hd
    have h6 : scn B (30 * t) (q + 1) = none := by show (scn B (30 * t) q).bind _ = none; rw [hq]; simp [sstep]
    have h7 := scn_up (d - 1) h6
    rwa [show q + 1 + (d - 1) = q + d by omega] at h7
  have hq : q = ln t := by
    rcases Nat.lt_or_ge q (ln t) with z | z
    · have h8 := h5 (ln t - q) e4 (by omega)
      rw [show q + (ln t - q) = ln t by omega, h3.2] at h8
      cases h8
    · omega
  have e5 : tE B (30 * t + 0) = 30 * t + q := e1
  rw [Nat.add_zero] at e5
  rw [e5, hq]
/-- downward induction over the nodes of a text -/
theorem nd_ind {P : Nat → Prop} (st : ∀ g, nd B ln g → (∀ h, nd B ln h → g < h → h / 30 = g / 30 → P h) → P g) : ∀ g, nd B ln g → P g := by
  have key : ∀ d g, 240 - g ≤ d → nd B ln g → P g := by
    intro d
    induction d with
    | zero => intro g hd h; have := nd_lt h; omega
    | succ d ih => intro g hd h; exact st g h (fun h' hn hlt _ => ih h' (by have := nd_lt h; omega) hn)
  exact fun g h => key 240 g (by omega) h
end ND
section TF
variable {α : Type} {B ln : Nat → Nat} {lf : Nat → α} {sg : Nat → α → α} {pr : Nat → α → α → α} {bi sw : Nat → α → α}
theorem tfo_leaf {g : Nat} (h : kd (B g) = 1 ∨ kd (B g) = 2 ∨ kd (B g) = 3) (f : Nat) : tfo B lf sg pr bi sw f g = lf g := by
  cases f with
  | zero => rfl
  | succ f => unfold tfo; rcases h with h | h | h <;> simp [h]
theorem tfo_fuel {s n : Nat} (hw : wel B s n) (hn : n ≤ 30) : ∀ f f' p op, p < n → n - p ≤ f → n - p ≤ f' → scn B s p = some (0, op + 1) → tfo B lf sg pr bi sw f (s + p) = tfo B lf sg pr bi sw f' (s + p) := by
  intro f
  induction f with
  | zero => intro f' p op hp hf; omega
  | succ f ih =>
    intro f' p op hp hf hf' h
    cases f' with
    | zero => omega
    | succ f' =>
      rcases st_kd hw hp h with ⟨c, e⟩ | ⟨c, l, e⟩ | ⟨c, l, e⟩ | ⟨c, k1, l, _, e⟩ | ⟨c, k1, k2, l, _, _, e⟩
      · rw [tfo_leaf c, tfo_leaf c]
      · unfold tfo
        rw [if_pos c, if_pos c]
        exact congrArg (sg (s + p)) (ih f' (p + 1) op l (by omega) (by omega) e)
      · obtain ⟨q, e1, e2, e3, e4⟩ := te_span hw 30 (p + 1) (op + 1) l (by omega) e
        have h1 := ih f' (p + 1) (op + 1) l (by omega) (by omega) e
        have hq : q < n := by
          rcases Nat.lt_or_ge q n with z | z
          · exact z
          · rw [show q = n by omega, hw.2] at e4; simp at e4
        have h2 := ih f' q op hq (by omega) (by omega) e4
        unfold tfo
        rw [if_neg (by omega), if_pos c, if_neg (by omega), if_pos c, show tE B (s + p + 1) = s + q from e1, h2]
        exact congrArg (fun z => pr (s + p) z (tfo B lf sg pr bi sw f' (s + q))) h1
      · unfold tfo
        rw [if_neg (by omega), if_neg (by omega), if_pos c, if_neg (by omega), if_neg (by omega), if_pos c]
        exact congrArg (bi (s + p)) (ih f' (p + 2) op l (by omega) (by omega) e)
      · unfold tfo
        rw [if_neg (by omega), if_neg (by omega), if_neg (by omega), if_pos c, if_neg (by omega), if_neg (by omega), if_neg (by omega), if_pos c]
        exact congrArg (sw (s + p)) (ih f' (p + 3) op l (by omega) (by omega) e)
theorem tfo_nd {g : Nat} (h : nd B ln g) : tfo B lf sg pr bi sw 29 g = tfo B lf sg pr bi sw 30 g ∨ g % 30 = 0 := by
  obtain ⟨t, p, op, h1, h2, h3, h4, h5, h6⟩ := h
  subst h2
  by_cases hp : p = 0
  · exact Or.inr (by omega)
  · exact Or.inl (tfo_fuel h3 h4 29 30 p op h5 (by omega) (by omega) h6)
theorem tf_lf {g : Nat} (h : kd (B g) = 1 ∨ kd (B g) = 2 ∨ kd (B g) = 3) : tfo B lf sg pr bi sw 30 g = lf g := tfo_leaf h 30
theorem tf_4 {g : Nat} (h : nd B ln g) (c : kd (B g) = 4) : tfo B lf sg pr bi sw 30 g = sg g (tfo B lf sg pr bi sw 30 (g + 1)) := by
  have h1 := (tfo_nd (lf := lf) (sg := sg) (pr := pr) (bi := bi) (sw := sw) (nd_4 h c).1).resolve_right (by have := (nd_4 h c).2.2; omega)
  rw [← h1, show (30 : Nat) = 29 + 1 from rfl, tfo, if_pos c]
theorem tf_5 {g : Nat} (h : nd B ln g) (c : kd (B g) = 5) : tfo B lf sg pr bi sw 30 g = pr g (tfo B lf sg pr bi sw 30 (g + 1)) (tfo B lf sg pr bi sw 30 (tE B (g + 1))) := by
  obtain ⟨n1, n2, e, d1, d2⟩ := nd_5 h c
  have hE := nd_E n1
  have h1 := (tfo_nd (lf := lf) (sg := sg) (pr := pr) (bi := bi) (sw := sw) n1).resolve_right (by omega)
  have h2 := (tfo_nd (lf := lf) (sg := sg) (pr := pr) (bi := bi) (sw := sw) n2).resolve_right (by omega)
  rw [← h1, ← h2, show (30 : Nat) = 29 + 1 from rfl, tfo, if_neg (by omega), if_pos c]
theorem tf_6 {g : Nat} (h : nd B ln g) (c : kd (B g) = 6) : tfo B lf sg pr bi sw 30 g = bi g (tfo B lf sg pr bi sw 30 (g + 2)) := by
  have h1 := (tfo_nd (lf := lf) (sg := sg) (pr := pr) (bi := bi) (sw := sw) (nd_6 h c).2.1).resolve_right (by have := (nd_6 h c).2.2.2; omega)
  rw [← h1, show (30 : Nat) = 29 + 1 from rfl, tfo, if_neg (by omega), if_neg (by omega), if_pos c]
theorem tf_7 {g : Nat} (h : nd B ln g) (c : kd (B g) = 7) : tfo B lf sg pr bi sw 30 g = sw g (tfo B lf sg pr bi sw 30 (g + 3)) := by
  have h1 := (tfo_nd (lf := lf) (sg := sg) (pr := pr) (bi := bi) (sw := sw) (nd_7 h c).2.2.1).resolve_right (by have := (nd_7 h c).2.2.2.2; omega)
  rw [← h1, show (30 : Nat) = 29 + 1 from rfl, tfo, if_neg (by omega), if_neg (by omega), if_neg (by omega), if_pos c]
end TF

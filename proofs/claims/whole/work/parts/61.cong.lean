/-! ===== what is read of a text depends on its own bytes alone ===== -/
theorem scn_cg {B B' : Nat → Nat} {s n : Nat} (h : ∀ i, i < n → B' (s + i) = B (s + i)) : ∀ m, m ≤ n → scn B' s m = scn B s m := by
  intro m
  induction m with
  | zero => intro _; rfl
  | succ m ih =>
    intro hm
    rw [scn, scn, ih (by omega), h m (by omega)]
theorem flg_cg {B B' : Nat → Nat} {s n : Nat} (h : ∀ i, i < n → B' (s + i) = B (s + i)) : ∀ j i, i + j = n → flg B' s n j i = flg B s n j i := by
  intro j
  induction j with
  | zero => intro i _; rw [flg, flg, scn_cg h n (Nat.le_refl _)]
  | succ j ih => intro i hi; rw [flg, flg, scn_cg h (i + 1) (by omega), ih (i + 1) (by omega)]
theorem fl2_cg {B B' : Nat → Nat} {s n sec : Nat} (h : ∀ i, i < n → B' (s + i) = B (s + i)) : ∀ j i, i + j = n → fl2 B' s n sec j i = fl2 B s n sec j i := by
  intro j
  induction j with
  | zero => intro i _; rfl
  | succ j ih => intro i hi; rw [fl2, fl2, h i (by omega), ih (i + 1) (by omega)]
theorem m2_cg {B B' : Nat → Nat} {s n sec : Nat} (h : ∀ i, i < n → B' (s + i) = B (s + i)) : m2 B' s n sec = m2 B s n sec := by unfold m2; rw [fl2_cg h n 0 (by omega)]
theorem tld_cg {B B' : Nat → Nat} {u : Nat} : ∀ k, (∀ i, i < 2 * k → B' (240 + i) = B (240 + i)) → tld B' k u = tld B k u := by
  intro k
  induction k with
  | zero => intro _; rfl
  | succ k ih =>
    intro h
    rw [tld, tld, show 240 + 2 * k + 1 = 240 + (2 * k + 1) by omega, h (2 * k + 1) (by omega), h (2 * k) (by omega), ih (fun i hi => h i (by omega))]
theorem tnT_cg {B B' : Nat → Nat} : ∀ k, (∀ i, i < 2 * k → B' (270 + i) = B (270 + i)) → tnT B' k = tnT B k := by
  intro k
  induction k with
  | zero => intro _; rfl
  | succ k ih =>
    intro h
    rw [tnT, tnT, show 270 + 2 * k + 1 = 270 + (2 * k + 1) by omega, h (2 * k + 1) (by omega), h (2 * k) (by omega), ih (fun i hi => h i (by omega))]
section CG
variable {B B' ln ln' : Nat → Nat} {t : Nat}
theorem wel_cg (h : ∀ i, i < ln t → B' (30 * t + i) = B (30 * t + i)) (hl : ln' t = ln t) : wel B' (30 * t) (ln' t) ↔ wel B (30 * t) (ln t) := by unfold wel; rw [hl, scn_cg h _ (Nat.le_refl _)]
theorem nd_cg (h : ∀ i, i < ln t → B' (30 * t + i) = B (30 * t + i)) (hl : ln' t = ln t) {g : Nat} (hg : g / 30 = t) (hn : nd B ln g) : nd B' ln' g := by
  obtain ⟨s, p, op, h1, h2, h3, h4, h5, h6⟩ := hn
  have e : s = t := by omega
  subst e
  exact ⟨s, p, op, h1, h2, (wel_cg h hl).mpr h3, by rw [hl]; exact h4, by rw [hl]; exact h5, by rw [scn_cg h p (by omega)]; exact h6⟩
theorem nd_at {g : Nat} (hn : nd B ln g) : g < 30 * (g / 30) + ln (g / 30) := by
  obtain ⟨s, p, op, h1, h2, h3, h4, h5, h6⟩ := hn
  have e : g / 30 = s := by omega
  rw [e]; omega
theorem B_cg (h : ∀ i, i < ln t → B' (30 * t + i) = B (30 * t + i)) {g : Nat} (hg : g / 30 = t) (hlt : g < 30 * t + ln t) : B' g = B g := by
  have := h (g - 30 * t) (by omega)
  rwa [show 30 * t + (g - 30 * t) = g by omega] at this
theorem tfo_cg {α : Type} {lf lf' : Nat → α} {sg : Nat → α → α} {pr : Nat → α → α → α} {bi bi' sw sw' : Nat → α → α} (h : ∀ i, i < ln t → B' (30 * t + i) = B (30 * t + i)) (hl : ln' t = ln t)
    (hlf : ∀ g, nd B ln g → g / 30 = t → lf' g = lf g) (hbi : ∀ g x, nd B ln g → g / 30 = t → kd (B g) = 6 → bi' g x = bi g x) (hsw : ∀ g x, nd B ln g → g / 30 = t → kd (B g) = 7 → sw' g x = sw g x) :
    ∀ g, nd B ln g → g / 30 = t → tE B' g = tE B g ∧ tfo B' lf' sg pr bi' sw' 30 g = tfo B lf sg pr bi sw 30 g := by
  refine nd_ind (fun g hn ih hg => ?_)
  have hn' := nd_cg h hl hg hn
  have hb := B_cg h hg (by have := nd_at hn; rwa [hg] at this)
  have hk := nd_kd hn
  have hc : (kd (B g) = 1 ∨ kd (B g) = 2 ∨ kd (B g) = 3) ∨ kd (B g) = 4 ∨ kd (B g) = 5 ∨ kd (B g) = 6 ∨ kd (B g) = 7 := by omega
  rcases hc with c | c | c | c | c
  · have c' := c
    rw [← hb] at c'
    rw [nd_leaf c, nd_leaf c', tf_lf c, tf_lf c', hlf g hn hg]
    exact ⟨rfl, rfl⟩
  · have c' := c
    rw [← hb] at c'
    obtain ⟨n1, e1, d1⟩ := nd_4 hn c
    have i1 := ih (g + 1) n1 (by omega) d1 (by omega)
    rw [e1, (nd_4 hn' c').2.1, tf_4 hn c, tf_4 hn' c', i1.1, i1.2]
    exact ⟨rfl, rfl⟩
  · have c' := c
    rw [← hb] at c'
    obtain ⟨n1, n2, e1, d1, d2⟩ := nd_5 hn c
    have hE := nd_E n1
    have i1 := ih (g + 1) n1 (by omega) d1 (by omega)
    have i2 := ih _ n2 (by omega) d2 (by omega)
    rw [e1, (nd_5 hn' c').2.2.1, tf_5 hn c, tf_5 hn' c', i1.1, i1.2, i2.1, i2.2]
    exact ⟨rfl, rfl⟩
  · have c' := c
    rw [← hb] at c'
    obtain ⟨_, n1, e1, d1⟩ := nd_6 hn c
    have i1 := ih (g + 2) n1 (by omega) d1 (by omega)
    rw [e1, (nd_6 hn' c').2.2.1, tf_6 hn c, tf_6 hn' c', i1.1, i1.2, hbi g _ hn hg c]
    exact ⟨rfl, rfl⟩
  · have c' := c
    rw [← hb] at c'
    obtain ⟨_, _, n1, e1, d1⟩ := nd_7 hn c
    have i1 := ih (g + 3) n1 (by omega) d1 (by omega)
    rw [e1, (nd_7 hn' c').2.2.2.1, tf_7 hn c, tf_7 hn' c', i1.1, i1.2, hsw g _ hn hg c]
    exact ⟨rfl, rfl⟩
theorem Me_cg (h : ∀ i, i < ln t → B' (30 * t + i) = B (30 * t + i)) (hl : ln' t = ln t) {g : Nat} (hn : nd B ln g) (hg : g / 30 = t) : tE B' g = tE B g ∧ tsz B' g = tsz B g ∧ tdp B' g = tdp B g ∧ tlo B' g = tlo B g ∧ tuk B' g = tuk B g := by
  have hB : ∀ x, nd B ln x → x / 30 = t → B' x = B x := fun x hx hxt => B_cg h hxt (by have := nd_at hx; rwa [hxt] at this)
  have h1 := tfo_cg (lf := fun _ => 1) (lf' := fun _ => 1) (sg := fun _ x => x + 1) (pr := fun _ x y => x + 1 + y) (bi := fun _ x => x + 1) (bi' := fun _ x => x + 1) (sw := fun _ x => x) (sw' := fun _ x => x) h hl (fun _ _ _ => rfl) (fun _ _ _ _ _ => rfl) (fun _ _ _ _ _ => rfl) g hn hg
  have h2 := tfo_cg (lf := fun _ => 1) (lf' := fun _ => 1) (sg := fun _ x => x + 1) (pr := fun _ x y => max (x + 1) (y + 1)) (bi := fun _ x => x + 1) (bi' := fun _ x => x + 1) (sw := fun _ x => x) (sw' := fun _ x => x) h hl (fun _ _ _ => rfl) (fun _ _ _ _ _ => rfl) (fun _ _ _ _ _ => rfl) g hn hg
  have h3 := tfo_cg (lf := fun g => if kd (B g) = 1 then 2 ^ (B g - 97) else 0) (lf' := fun g => if kd (B' g) = 1 then 2 ^ (B' g - 97) else 0) (sg := fun _ x => x) (pr := fun _ x y => x ||| y) (bi := fun g x => mdel x (B (g + 1) - 97)) (bi' := fun g x => mdel x (B' (g + 1) - 97)) (sw := fun g x => tn_ss (tn_sw (B (g + 1) - 97) (B (g + 2) - 97)) x) (sw' := fun g x => tn_ss (tn_sw (B' (g + 1) - 97) (B' (g + 2) - 97)) x) h hl (fun x hx hxt => by rw [hB x hx hxt]) (fun x y hx hxt c => by
      obtain ⟨_, n1, e1, d1⟩ := nd_6 hx c
      have := nd_at n1
      rw [d1, hxt] at this
      show mdel y (B' (x + 1) - 97) = mdel y (B (x + 1) - 97)
      rw [B_cg h (g := x + 1) (by omega) (by omega)]) (fun x y hx hxt c => by
      obtain ⟨_, _, n1, e1, d1⟩ := nd_7 hx c
      have := nd_at n1
      rw [d1, hxt] at this
      show tn_ss (tn_sw (B' (x + 1) - 97) (B' (x + 2) - 97)) y = tn_ss (tn_sw (B (x + 1) - 97) (B (x + 2) - 97)) y
      rw [B_cg h (g := x + 1) (by omega) (by omega), B_cg h (g := x + 2) (by omega) (by omega)]) g hn hg
  have h4 := tfo_cg (lf := fun g => if kd (B g) = 2 then 2 ^ (B g - 80) else 0) (lf' := fun g => if kd (B' g) = 2 then 2 ^ (B' g - 80) else 0) (sg := fun _ x => x) (pr := fun _ x y => x ||| y) (bi := fun _ x => x) (bi' := fun _ x => x) (sw := fun _ x => x) (sw' := fun _ x => x) h hl (fun x hx hxt => by rw [hB x hx hxt]) (fun _ _ _ _ _ => rfl) (fun _ _ _ _ _ => rfl) g hn hg
  exact ⟨h1.1, h1.2, h2.2, h3.2, h4.2⟩
end CG

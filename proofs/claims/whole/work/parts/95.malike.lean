/-! ===== the model: whether two are alike ===== -/
def gD (B : Nat → Nat) (a b : Nat × Nat) : List (Nat × Nat) := if kd (B a.1) = 6 ∧ tn_im a.2 (B (a.1 + 1) - 97) ≠ tn_im b.2 (B (b.1 + 1) - 97) then [(b.1 + 2, tn_src b.2 (tn_im a.2 (B (a.1 + 1) - 97)))] else []
theorem usplit_eq (B : Nat → Nat) (S : uS) (P' : uP) (a b : Nat × Nat) : usplit B S P' a b = (S.1, gK B a b ++ P', S.2.2.1, gD B a b ++ S.2.2.2.1, if gO B a b = true then S.2.2.2.2 else 1) := by
  by_cases c1 : kd (B a.1) = 1
  · by_cases e : tn_im a.2 (B a.1 - 97) = tn_im b.2 (B b.1 - 97) <;> simp [usplit, gK, gD, gO, c1, e]
  · by_cases c4 : kd (B a.1) = 4
    · by_cases e : B a.1 = B b.1
      · have c4b : kd (B b.1) = 4 := by rw [← e]; exact c4
        simp [usplit, gK, gD, gO, c4b, e]
      · simp [usplit, gK, gD, gO, c4, e]
    · by_cases c5 : kd (B a.1) = 5
      · simp [usplit, gK, gD, gO, c5]
      · by_cases c6 : kd (B a.1) = 6
        · by_cases e : tn_im a.2 (B (a.1 + 1) - 97) = tn_im b.2 (B (b.1 + 1) - 97) <;> simp [usplit, gK, gD, gO, c6, e]
        · simp [usplit, gK, gD, gO, c1, c4, c5, c6]
theorem ugive_w {rig : Bool} {B : Nat → Nat} {S : uS} {P' : uP} {u : Nat} {a b : Nat × Nat} : (ugive rig B S P' u a b).2.2.1 = S.2.2.1 ∧ (ugive rig B S P' u a b).2.2.2.1 = S.2.2.2.1 := by
  unfold ugive
  by_cases hr : rig = true
  · rw [if_pos hr]; exact ⟨rfl, rfl⟩
  · rw [if_neg hr]
    by_cases h : rch B S.1 (tuk B b.1) u
    · rw [if_pos h]; exact ⟨rfl, rfl⟩
    · rw [if_neg h]; exact ⟨rfl, rfl⟩
theorem uat_mono (rig : Bool) (B : Nat → Nat) (S : uS) (P' : uP) (a b : Nat × Nat) : (∀ x ∈ S.2.2.2.1, x ∈ (uat rig B S P' a b).2.2.2.1) ∧ ∀ u k, (S.2.2.1 u).testBit k = true → ((uat rig B S P' a b).2.2.1 u).testBit k = true := by
  unfold uat
  by_cases c1 : kd (B a.1) = 2 ∧ kd (B b.1) = 2 ∧ B a.1 = B b.1
  · rw [if_pos c1]
    refine ⟨fun x hx => hx, fun u k h => ?_⟩
    show ((if u = B a.1 - 80 then S.2.2.1 u ||| tn_un a.2 b.2 else S.2.2.1 u).testBit k) = true
    by_cases e : u = B a.1 - 80
    · rw [if_pos e, Nat.testBit_or, h]; rfl
    · rw [if_neg e]; exact h
  · rw [if_neg c1]
    by_cases c2 : kd (B a.1) = 2 ∧ (kd (B b.1) = 2 → B b.1 < B a.1)
    · rw [if_pos c2, (ugive_w (rig := rig)).1, (ugive_w (rig := rig)).2]; exact ⟨fun x hx => hx, fun u k h => h⟩
    · rw [if_neg c2]
      by_cases c3 : kd (B b.1) = 2
      · rw [if_pos c3, (ugive_w (rig := rig)).1, (ugive_w (rig := rig)).2]; exact ⟨fun x hx => hx, fun u k h => h⟩
      · rw [if_neg c3]
        by_cases c4 : kd (B a.1) = kd (B b.1)
        · rw [if_pos c4, usplit_eq]; exact ⟨fun x hx => List.mem_append_right _ hx, fun u k h => h⟩
        · rw [if_neg c4]; exact ⟨fun x hx => hx, fun u k h => h⟩
theorem uat_V (B : Nat → Nat) (S : uS) (P' : uP) (a b : Nat × Nat) : (uat true B S P' a b).1 = S.1 := by
  unfold uat ugive
  rw [if_pos rfl, if_pos rfl, usplit_eq]
  repeat' split
  all_goals rfl
theorem urun_V (B : Nat → Nat) : ∀ f S, (urun true B f S).1.1 = S.1 := by
  intro f
  induction f with
  | zero => intro S; rfl
  | succ f ih =>
    intro S
    rw [urun]
    split
    · rfl
    · rw [ih, ustep]
      split
      · rfl
      · exact uat_V _ _ _ _ _
/-- all demands so far hold -/
def okX (td : Nat → Nat) (B : Nat → Nat) (x : Nat × Nat) : Prop := ¬ Rb B x.1 x.2 ∧ ∀ u k, u < 6 → Ru B x.1 x.2 u k → (td u).testBit k = true
def okS (td : Nat → Nat) (B : Nat → Nat) (S : uS) : Prop := S.2.2.2.2 = 0 ∧ (∀ u k, u < 6 → (S.2.2.1 u).testBit k = true → (td u).testBit k = true) ∧ ∀ x ∈ S.2.2.2.1, okX td B x
theorem bad_run (td : Nat → Nat) (rig : Bool) (B : Nat → Nat) : ∀ f S, ¬ okS td B S → ¬ okS td B (urun rig B f S).1 := by
  intro f
  induction f with
  | zero => intro S h; exact h
  | succ f ih =>
    intro S h
    rw [urun]
    by_cases c : S.2.1 = [] ∨ S.2.2.2.2 ≠ 0
    · rw [if_pos c]; exact h
    · rw [if_neg c]
      refine ih _ (fun hk => h ⟨Decidable.byContradiction (fun z => c (Or.inr z)), ?_, ?_⟩)
      · intro u k hu hb
        refine hk.2.1 u k hu ?_
        rw [ustep]
        split
        · exact hb
        · exact (uat_mono _ _ _ _ _ _).2 u k hb
      · intro x hx
        refine hk.2.2 x ?_
        rw [ustep]
        split
        · exact hx
        · exact (uat_mono _ _ _ _ _ _).1 x hx
def okF (td : Nat → Nat) (B : Nat → Nat) (f : Nat) (S : uS) : Prop := okS td B (urun true B f S).1 ∧ (urun true B f S).1.2.1 = []
theorem okF_no {td B : Nat → Nat} {f : Nat} {S : uS} {x : (Nat × Nat) × (Nat × Nat)} {P' : uP} (hS : S.2.1 = x :: P') (h0 : S.2.2.2.2 = 0) (h : ¬ okS td B (ustep true B S)) : ¬ okF td B (f + 1) S := fun hk => by
  have h1 := hk.1
  rw [urun, if_neg (fun z => z.elim (fun z => by rw [hS] at z; cases z) (fun z => z h0))] at h1
  exact bad_run td true B f _ h h1
theorem okF_st {td B : Nat → Nat} {f : Nat} {S : uS} {x : (Nat × Nat) × (Nat × Nat)} {P' : uP} (hS : S.2.1 = x :: P') (h0 : S.2.2.2.2 = 0) : okF td B (f + 1) S ↔ okF td B f (ustep true B S) := by
  unfold okF
  rw [urun, if_neg (fun z => z.elim (fun z => by rw [hS] at z; cases z) (fun z => z h0))]
theorem okF_nil {td B : Nat → Nat} {f : Nat} {S : uS} (hS : S.2.1 = []) (h : okS td B S) : okF td B f S := by
  unfold okF
  cases f with
  | zero => exact ⟨h, hS⟩
  | succ f => rw [urun, if_pos (Or.inl hS)]; exact ⟨h, hS⟩
def muP (B : Nat → Nat) : uP → Nat
  | [] => 0
  | x :: P => (tE B x.1.1 - x.1.1) + muP B P
theorem muP_app (B : Nat → Nat) : ∀ P Q : uP, muP B (P ++ Q) = muP B P + muP B Q := by
  intro P Q
  induction P with
  | nil => exact (Nat.zero_add _).symm
  | cons x P ih => show (tE B x.1.1 - x.1.1) + muP B (P ++ Q) = _; rw [ih]; show _ = (tE B x.1.1 - x.1.1) + muP B P + muP B Q; omega
theorem en_none {B ln : Nat → Nat} : ∀ f q, nd B ln q.1 → tE B (en B (fun _ => none) f q).1 = tE B q.1 ∧ q.1 ≤ (en B (fun _ => none) f q).1 := by
  intro f
  induction f with
  | zero => intro q _; exact ⟨rfl, Nat.le_refl _⟩
  | succ f ih =>
    intro q hn
    rw [en]
    by_cases c : kd (B q.1) = 7
    · rw [if_pos c]
      obtain ⟨k1, k2, n1, n2, n3⟩ := nd_7 hn c
      obtain ⟨h1, h2⟩ := ih (q.1 + 3, tn_cmp q.2 (tn_sw (B (q.1 + 1) - 97) (B (q.1 + 2) - 97))) n1
      exact ⟨h1.trans n2.symm, Nat.le_trans (Nat.le_add_right _ _) h2⟩
    · rw [if_neg c]
      split
      · exact ⟨rfl, Nat.le_refl _⟩
      · exact ⟨rfl, Nat.le_refl _⟩
theorem muP_gK {B ln : Nat → Nat} {a b : Nat × Nat} (hn : nd B ln a.1) : muP B (gK B a b) + 1 ≤ tE B a.1 - a.1 := by
  have hE := nd_E hn
  unfold gK
  by_cases c4 : kd (B a.1) = 4
  · rw [if_pos c4]
    obtain ⟨n1, n2, n3⟩ := nd_4 hn c4
    have h1 := nd_E n1
    split
    · show (tE B (a.1 + 1) - (a.1 + 1)) + 0 + 1 ≤ _; omega
    · show 0 + 1 ≤ _; omega
  · rw [if_neg c4]
    by_cases c5 : kd (B a.1) = 5
    · rw [if_pos c5]
      obtain ⟨n1, n2, n3, n4, n5⟩ := nd_5 hn c5
      have h1 := nd_E n1
      have h2 := nd_E n2
      show (tE B (a.1 + 1) - (a.1 + 1)) + ((tE B (tE B (a.1 + 1)) - tE B (a.1 + 1)) + 0) + 1 ≤ _
      omega
    · rw [if_neg c5]
      by_cases c6 : kd (B a.1) = 6
      · rw [if_pos c6]
        obtain ⟨k1, n1, n2, n3⟩ := nd_6 hn c6
        have h1 := nd_E n1
        show (tE B (a.1 + 2) - (a.1 + 2)) + 0 + 1 ≤ _
        omega
      · rw [if_neg c6]; show 0 + 1 ≤ _; omega
theorem muP_len {B ln : Nat → Nat} : ∀ P : uP, (∀ x ∈ P, pG B ln x) → P.length ≤ muP B P := by
  intro P
  induction P with
  | nil => intro _; exact Nat.le_refl _
  | cons x P ih =>
    intro h
    have h1 := ih (fun y hy => h y (List.mem_cons_of_mem _ hy))
    have h2 := nd_E (h x List.mem_cons_self).1
    show P.length + 1 ≤ (tE B x.1.1 - x.1.1) + muP B P
    omega
theorem RD_nd {B ln : Nat → Nat} {g m h k : Nat} (hn : nd B ln g) (hm : m < 6) (hr : RD B g m h k) : nd B ln h ∧ k < 6 := by
  refine hr (fun a b => nd B ln a ∧ b < 6) ⟨hn, hm⟩ (fun a b ⟨h1, h2⟩ => ⟨fun c => ⟨(nd_4 h1 c).1, h2⟩, fun c => ⟨⟨(nd_5 h1 c).1, h2⟩, ⟨(nd_5 h1 c).2.1, h2⟩⟩, fun c _ => ⟨(nd_6 h1 c).2.1, h2⟩, fun c => ?_⟩)
  obtain ⟨k1, k2, n1, n2, n3⟩ := nd_7 h1 c
  exact ⟨n1, (tn_P_sw (l97 k1) (l97 k2)).2.1 b h2⟩
theorem Ru_lt {B ln : Nat → Nat} {g m u k : Nat} (hn : nd B ln g) (hm : m < 6) (hr : Ru B g m u k) : k < 6 := by
  obtain ⟨h, h1, _⟩ := hr
  exact (RD_nd hn hm h1).2
theorem lt64_of {x : Nat} (h : ∀ k, x.testBit k = true → k < 6) : x < 64 := by
  refine Nat.lt_pow_two_of_testBit x (n := 6) (fun i hi => ?_)
  cases e : x.testBit i with
  | false => rfl
  | true => have := h i e; omega
theorem and_0 {a b : Nat} (ha : a < 64) (hb : b < 64) : (a &&& (63 ^^^ b) = 0) ↔ ∀ k, a.testBit k = true → b.testBit k = true := by
  refine ⟨fun h k hk => ?_, fun h => ?_⟩
  · have h6 := bit_lt6 ha hk
    have := an_bit a ha b hb k h6
    rw [h, hk] at this
    simpa using this.symm
  · refine ms_ext (an_lt ha) (by decide) (fun n hn => ?_)
    rw [an_bit a ha b hb n hn]
    cases e : a.testBit n with
    | false => simp
    | true => simp [h n e]
theorem ite_ok {P Q : Prop} (h : P ↔ Q) : @ite Int32 P (Classical.propDecidable _) 1 0 = @ite Int32 Q (Classical.propDecidable _) 1 0 := by
  by_cases p : P
  · rw [if_pos p, if_pos (h.mp p)]
  · rw [if_neg p, if_neg (fun q => p (h.mpr q))]
/-- what deciding alikeness may change -/
def kF (σ τ : gS) : Prop := (∀ k, k ≠ 0 → (k < 14 ∨ k = 16 ∨ k = 17 ∨ 23 < k) → τ k = σ k) ∧ ∀ i, i ≠ 18 → i ≠ 23 → (i < 28 ∨ 31 < i) → τ 0 i = σ 0 i
theorem kF_rf (σ : gS) : kF σ σ := ⟨fun _ _ _ => rfl, fun _ _ _ _ => rfl⟩
theorem kF_tr {σ τ υ : gS} (h1 : kF σ τ) (h2 : kF τ υ) : kF σ υ := ⟨fun k a b => (h2.1 k a b).trans (h1.1 k a b), fun i a b c => (h2.2 i a b c).trans (h1.2 i a b c)⟩
theorem pF_k {σ τ : gS} (h : pF σ τ) : kF σ τ := ⟨fun k a b => h.1 k a (by omega), fun i a b c => h.2 i (by omega) (by omega)⟩
theorem eF_k {σ τ : gS} (h : eF σ τ) : kF σ τ := ⟨fun k a b => h.1 k a, fun i a b c => h.2 i (by omega) (by omega)⟩
theorem aF_k {σ τ : gS} (h : aF σ τ) : kF σ τ := ⟨fun k a b => h.1 k a (by omega) (by omega) (by omega) (by omega), fun i a b c => h.2 i a b⟩
theorem kF_Q {σ τ : gS} (h : kF σ τ) : mQ σ τ := ⟨fun k a b => h.1 k (by omega) (by omega), h.2 4 (by decide) (by decide) (by decide)⟩
theorem kF_P {σ τ : gS} {B : Nat → Nat} {g : Nat} (h : kF σ τ) (hP : PrM σ B g) : PrM τ B g := PrM_F (fun k a b => h.1 k (by omega) (by omega)) hP
theorem kF_M {σ τ : gS} {ln B : Nat → Nat} (h : kF σ τ) (hT : TM σ ln B) (hM : MR σ ln B) : TM τ ln B ∧ MR τ ln B := ⟨TM_F (h.1 5 (by decide) (by decide)) (h.1 6 (by decide) (by decide)) hT, MR_F (fun k a b => h.1 k (by omega) (by omega)) (h.2 13 (by decide) (by decide) (by decide)) hT hM⟩
theorem LN_no {B : Nat → Nat} {W : List (Nat × Nat)} {w : Nat → Nat} {g m : Nat} : LN B (fun _ => none) W w g m ↔ ∃ x ∈ W, RD B x.1 x.2 g m := by
  refine ⟨fun h => h (fun g m => ∃ x ∈ W, RD B x.1 x.2 g m) (fun _ _ => True) ⟨fun x hx => ⟨x, hx, RD_rf B _ _⟩, fun _ _ _ _ _ => trivial, fun u q m hq => (by cases hq), fun _ _ _ _ => trivial, fun g m ⟨x, hx, hr⟩ => dwn_mono (fun a b q => ⟨x, hx, q⟩) (RD_cl g m hr)⟩, fun ⟨x, hx, hr⟩ => ?_⟩
  have cl := LN_cl B (fun _ => none) W w
  exact hr (LN B (fun _ => none) W w) (cl.1 x hx) (fun a b h => cl.2.2.2.2 a b h)
theorem BD_no {B : Nat → Nat} {W : List (Nat × Nat)} {w : Nat → Nat} : BD B (fun _ => none) W w ↔ ∃ x ∈ W, Rb B x.1 x.2 := by
  refine ⟨fun ⟨g, h1, h2⟩ => ?_, fun ⟨x, hx, h, h1, h2⟩ => ⟨h, h2, LN_no.mpr ⟨x, hx, h1⟩⟩⟩
  obtain ⟨x, hx, hr⟩ := LN_no.mp h2
  exact ⟨x, hx, g, hr, h1⟩
theorem LU_no {B : Nat → Nat} {W : List (Nat × Nat)} {w : Nat → Nat} {u m : Nat} (hu : u < 6) (hm : m < 6) : LU B (fun _ => none) W w u m ↔ ((w u).testBit m = true ∨ ∃ x ∈ W, Ru B x.1 x.2 u m) := by
  have cl := LN_cl B (fun _ => none) W w
  refine ⟨fun h => ?_, fun h => ?_⟩
  · refine h (fun g m => ∃ x ∈ W, RD B x.1 x.2 g m) (fun u m => (w u).testBit m = true ∨ ∃ x ∈ W, Ru B x.1 x.2 u m) ⟨fun x hx => ⟨x, hx, RD_rf B _ _⟩, fun _ _ _ _ h => Or.inl h, fun u q m hq => (by cases hq), fun g m ⟨x, hx, hr⟩ hk => Or.inr ⟨x, hx, g, hr, hk, rfl⟩, fun g m ⟨x, hx, hr⟩ => dwn_mono (fun a b q => ⟨x, hx, q⟩) (RD_cl g m hr)⟩
  · rcases h with h | ⟨x, hx, g, h1, h2, h3⟩
    · exact cl.2.1 u m hu hm h
    · rw [← h3]; exact cl.2.2.2.1 g m (LN_no.mpr ⟨x, hx, h1⟩) h2
section T95
variable {l : Launch} {D : va_G} {cA : ClassId} {ad : Nat → Nat}
variable {σ σ0 : gS}
set_option maxHeartbeats 4000000 in
set_option maxRecDepth 100000 in
theorem l2_X7_isFresh {ln B : Nat → Nat} {n g p : Nat} (hN : ∀ g, nd B ln g → PrM σ0 B g) (hn6 : n < 6) (hn : nd B ln g) (hP : tn_P p) {td : Nat → Nat} (htd : ∀ u, u < 6 → σ0 12 u = nI (td u)) (ht6 : ∀ u, td u < 64) {z2 : aZ} (hz0 : AskP B g (tn_src p n) ((fun _ => 0), false) z2) : ∀ j u (is : Bool) (σ : gS), u + j = 6 → aH σ z2 → aF σ0 σ → (is = true ↔ (¬ Rb B g (tn_src p n) ∧ ∀ v k, v < u → Ru B g (tn_src p n) v k → (td v).testBit k = true)) → G (XM l D cA ad) mX7_isFresh (g_ri (fun r τ => (r = 0 ∨ r = 1) ∧ (r = 1 ↔ okX td B (g, tn_src p n)) ∧ aF σ0 τ)) 53 [some (.ref 0), some (.int (nI n)), some (.int (nI (pN B g))), some (.int (nI p)), some (.int (if is = true then 1 else 0)), some (.int (nI u))] [] σ := by
  have hm6 := tn_src_lt (c := p) hn6
  intro j
  induction j with
  | zero =>
    intro u is σ hj hz hF hi
    have hu : u = 6 := by omega
    subst hu
    have hfin : ((if is = true then (1 : Int32) else 0) = 0 ∨ (if is = true then (1 : Int32) else 0) = 1) ∧ ((if is = true then (1 : Int32) else 0) = 1 ↔ okX td B (g, tn_src p n)) ∧ aF σ0 σ := by
      refine ⟨?_, ?_, hF⟩
      · split
        · exact Or.inr rfl
        · exact Or.inl rfl
      · rw [show okX td B (g, tn_src p n) ↔ is = true from hi.symm]
        cases is
        · exact ⟨fun h => absurd h (by decide), fun h => (by cases h)⟩
        · exact ⟨fun _ => rfl, fun _ => rfl⟩
    refine G.iload (i := 5) rfl dX7_isFresh_53 ?_
    refine G.bipush (v := 6) (by decide) dX7_isFresh_55 ?_
    refine G.icmp_ge (tgt := 98) (by decide) dX7_isFresh_57 (fun c_57 => ?_) (fun c_57 => absurd (by decide) c_57)
    refine G.iload (i := 4) rfl dX7_isFresh_98 ?_
    exact G.zret rfl (by cases is <;> decide) (hfin) dX7_isFresh_100
  | succ j ih =>
    intro u is σ hj hz hF hi
    have hb64 : z2.1 u < 64 := lt64_of (fun k hk => by
      rcases (hz0.2 u k).mp hk with q | q
      · simp at q
      · exact Ru_lt hn hm6 q)
    have hg := hF.1 12 (by decide) (by decide) (by decide) (by decide) (by decide)
    have hsub : (z2.1 u &&& (63 ^^^ td u) = 0) ↔ ∀ k, Ru B g (tn_src p n) u k → (td u).testBit k = true := by
      rw [and_0 hb64 (ht6 u)]
      refine ⟨fun h k hk => h k ((hz0.2 u k).mpr (Or.inr hk)), fun h k hk => h k (((hz0.2 u k).mp hk).resolve_left (by simp))⟩
    cases is with
    | false =>
      have hno : ∀ b : Bool, b = false → (b = true ↔ (¬ Rb B g (tn_src p n) ∧ ∀ v k, v < u + 1 → Ru B g (tn_src p n) v k → (td v).testBit k = true)) := fun b hb => ⟨fun h => (by rw [hb] at h; cases h), fun h => (by have := hi.mpr ⟨h.1, fun v k hv => h.2 v k (by omega)⟩; cases this)⟩
      refine G.iload (i := 5) rfl dX7_isFresh_53 ?_
      refine G.bipush (v := 6) (by decide) dX7_isFresh_55 ?_
      refine G.icmp_ge (tgt := 98) (by decide) dX7_isFresh_57 (fun c_57 => absurd c_57 (nI_ge (b := 6) (by omega) (by decide))) (fun c_57 => ?_)
      refine G.iload (i := 4) rfl dX7_isFresh_60 ?_
      refine G.if_eq (tgt := 89) (by decide) dX7_isFresh_62 (fun c_62 => ?_) (fun c_62 => absurd (by decide) c_62)
      refine G.iconst (v := 0) (by decide) dX7_isFresh_89 ?_
      refine G.ist4 (by decide) rfl dX7_isFresh_90 ?_
      refine G.inc5 (d := 1) (by decide) (by decide) rfl dX7_isFresh_92 ?_
      refine G.goto (tgt := 53) (by decide) dX7_isFresh_95 ?_
      rw [nI_1]
      exact ih (u + 1) false _ (by omega) hz hF (hno false rfl)
    | true =>
      have hi2 := hi.mp rfl
      refine G.iload (i := 5) rfl dX7_isFresh_53 ?_
      refine G.bipush (v := 6) (by decide) dX7_isFresh_55 ?_
      refine G.icmp_ge (tgt := 98) (by decide) dX7_isFresh_57 (fun c_57 => absurd c_57 (nI_ge (b := 6) (by omega) (by decide))) (fun c_57 => ?_)
      refine G.iload (i := 4) rfl dX7_isFresh_60 ?_
      refine G.if_eq (tgt := 89) (by decide) dX7_isFresh_62 (fun c_62 => absurd c_62 (by decide)) (fun c_62 => ?_)
      refine G.aload_n (k := 0) rfl dX7_isFresh_65 ?_
      refine G.getr (j := 22) rfl gci_X7 (by decide) rfl fl_X7_64 dX7_isFresh_66 ?_
      refine G.iload (i := 5) rfl dX7_isFresh_69 ?_
      refine G.ialdN (k := u) rfl (rfl) (by omega) (by decide) dX7_isFresh_71 ?_
      rw [hz.1 u (by omega)]
      refine G.aload_n (k := 0) rfl dX7_isFresh_72 ?_
      refine G.getr (j := 12) rfl gci_X7 (by decide) rfl fl_X7_43 dX7_isFresh_73 ?_
      refine G.iload (i := 5) rfl dX7_isFresh_76 ?_
      refine G.ialdN (k := u) rfl (rfl) (by omega) (by decide) dX7_isFresh_78 ?_
      rw [hg, htd u (by omega)]
      refine G.iconst (v := (-1)) (by decide) dX7_isFresh_79 ?_
      refine G.ixor dX7_isFresh_80 ?_
      refine G.iand dX7_isFresh_81 ?_
      rw [an_j _ hb64 _ (ht6 u)]
      refine G.if_ne (tgt := 89) (by decide) dX7_isFresh_82 (fun c_82 => ?_) (fun c_82 => ?_)
      · have hs : ¬ z2.1 u &&& (63 ^^^ td u) = 0 := fun e => c_82 (by rw [e]; rfl)
        refine G.iconst (v := 0) (by decide) dX7_isFresh_89 ?_
        refine G.ist4 (by decide) rfl dX7_isFresh_90 ?_
        refine G.inc5 (d := 1) (by decide) (by decide) rfl dX7_isFresh_92 ?_
        refine G.goto (tgt := 53) (by decide) dX7_isFresh_95 ?_
        rw [nI_1]
        first
        | exact ih (u + 1) false _ (by omega) hz hF ⟨fun h => (by cases h), fun h => absurd (hsub.mpr (fun k hk => h.2 u k (by omega) hk)) hs⟩
        | exact ih (u + 1) true _ (by omega) hz hF ⟨fun _ => ⟨hi2.1, fun v k hv hk => if e : v = u then (by subst e; exact hsub.mp hs k hk) else hi2.2 v k (by omega) hk⟩, fun _ => rfl⟩
      · have hs : z2.1 u &&& (63 ^^^ td u) = 0 := (nI_eq (show z2.1 u &&& (63 ^^^ td u) < 2 ^ 31 by have := an_lt (b := td u) hb64; omega) (show 0 < 2 ^ 31 by decide)).mp c_82
        refine G.iconst (v := 1) (by decide) dX7_isFresh_85 ?_
        refine G.goto (tgt := 90) (by decide) dX7_isFresh_86 ?_
        refine G.ist4 (by decide) rfl dX7_isFresh_90 ?_
        refine G.inc5 (d := 1) (by decide) (by decide) rfl dX7_isFresh_92 ?_
        refine G.goto (tgt := 53) (by decide) dX7_isFresh_95 ?_
        rw [nI_1]
        first
        | exact ih (u + 1) false _ (by omega) hz hF ⟨fun h => (by cases h), fun h => absurd (hsub.mpr (fun k hk => h.2 u k (by omega) hk)) hs⟩
        | exact ih (u + 1) true _ (by omega) hz hF ⟨fun _ => ⟨hi2.1, fun v k hv hk => if e : v = u then (by subst e; exact hsub.mp hs k hk) else hi2.2 v k (by omega) hk⟩, fun _ => rfl⟩
set_option maxHeartbeats 4000000 in
set_option maxRecDepth 100000 in
theorem l1_X7_isFresh {ln B : Nat → Nat} {n g p : Nat} (hN : ∀ g, nd B ln g → PrM σ0 B g) (hn6 : n < 6) (hn : nd B ln g) (hP : tn_P p) {td : Nat → Nat} (htd : ∀ u, u < 6 → σ0 12 u = nI (td u)) (ht6 : ∀ u, td u < 64) : ∀ j u (σ : gS), u + j = 6 → aF σ0 σ → (∀ v, v < u → σ 19 v = 0) → G (XM l D cA ad) mX7_isFresh (g_ri (fun r τ => (r = 0 ∨ r = 1) ∧ (r = 1 ↔ okX td B (g, tn_src p n)) ∧ aF σ0 τ)) 3 [some (.ref 0), some (.int (nI n)), some (.int (nI (pN B g))), some (.int (nI p)), some (.int (nI u)), none] [] σ := by
  intro j
  induction j with
  | zero =>
    intro u σ hj hF h0
    have hu : u = 6 := by omega
    subst hu
    have hz : aH (up2 σ 0 23 0) ((fun _ => 0), false) := ⟨fun u hu => by rw [up2_ne _ _ _ (by decide)]; exact h0 u hu, up2_at _ _ _ _⟩
    refine G.iload (i := 4) rfl dX7_isFresh_3 ?_
    refine G.bipush (v := 6) (by decide) dX7_isFresh_5 ?_
    refine G.icmp_ge (tgt := 24) (by decide) dX7_isFresh_7 (fun c_7 => ?_) (fun c_7 => absurd (by decide) c_7)
    refine G.aload_n (k := 0) rfl dX7_isFresh_24 ?_
    refine G.iconst (v := 0) (by decide) dX7_isFresh_25 ?_
    refine G.put (j := 23) rfl gci_X7 gcp_X7 (by decide) rfl rfl (by decide) (by decide) fl_X7_249 dX7_isFresh_26 ?_
    refine G.aload_n (k := 0) rfl dX7_isFresh_29 ?_
    refine G.iload_n (k := 1) rfl dX7_isFresh_30 ?_
    refine G.iload_n (k := 2) rfl dX7_isFresh_31 ?_
    refine G.iload_n (k := 3) rfl dX7_isFresh_32 ?_
    refine G.callVv (c_X7_asks (fun g hg => aF_P (aF_tr hF (aF_b _ _)) (hN g hg)) hn6 hn hP hz) rfl (gci_X7).1 ml_X7_253 im_yX7_asks se_yX7_asks gcl_X7_asks (by decide) rfl rfl (Nat.le_of_ble_eq_true rfl) dX7_isFresh_33 (fun τ hq => ?_)
    obtain ⟨z2, q1, q2, q3⟩ := hq
    refine G.aload_n (k := 0) rfl dX7_isFresh_36 ?_
    refine G.geti (j := 23) rfl gci_X7 (by decide) rfl fl_X7_249 dX7_isFresh_37 ?_
    rw [q2.2]
    refine G.if_ne (tgt := 47) (by decide) dX7_isFresh_40 (fun c_40 => ?_) (fun c_40 => ?_)
    · have hb : z2.2 = true := Decidable.byContradiction (fun e => by rw [if_neg e] at c_40; exact c_40 rfl)
      have hR : Rb B g (tn_src p n) := (q1.1.mp hb).resolve_left (by decide)
      refine G.iconst (v := 0) (by decide) dX7_isFresh_47 ?_
      refine G.ist4 (by decide) rfl dX7_isFresh_48 ?_
      refine G.iconst (v := 0) (by decide) dX7_isFresh_50 ?_
      refine G.ist5 (by decide) rfl dX7_isFresh_51 ?_
      first
      | exact l2_X7_isFresh hN hn6 hn hP htd ht6 q1 6 0 false _ rfl q2 (aF_tr hF (aF_tr (aF_b _ _) q3)) ⟨fun h => (by cases h), fun h => absurd hR h.1⟩
      | exact l2_X7_isFresh hN hn6 hn hP htd ht6 q1 6 0 true _ rfl q2 (aF_tr hF (aF_tr (aF_b _ _) q3)) ⟨fun _ => ⟨hR, fun v k hv => absurd hv (Nat.not_lt_zero _)⟩, fun _ => rfl⟩
    · have hb : ¬ z2.2 = true := fun e => by rw [if_pos e] at c_40; exact absurd c_40 (by decide)
      have hR : ¬ Rb B g (tn_src p n) := fun e => hb (q1.1.mpr (Or.inr e))
      refine G.iconst (v := 1) (by decide) dX7_isFresh_43 ?_
      refine G.goto (tgt := 48) (by decide) dX7_isFresh_44 ?_
      refine G.ist4 (by decide) rfl dX7_isFresh_48 ?_
      refine G.iconst (v := 0) (by decide) dX7_isFresh_50 ?_
      refine G.ist5 (by decide) rfl dX7_isFresh_51 ?_
      first
      | exact l2_X7_isFresh hN hn6 hn hP htd ht6 q1 6 0 false _ rfl q2 (aF_tr hF (aF_tr (aF_b _ _) q3)) ⟨fun h => (by cases h), fun h => absurd hR h.1⟩
      | exact l2_X7_isFresh hN hn6 hn hP htd ht6 q1 6 0 true _ rfl q2 (aF_tr hF (aF_tr (aF_b _ _) q3)) ⟨fun _ => ⟨hR, fun v k hv => absurd hv (Nat.not_lt_zero _)⟩, fun _ => rfl⟩
  | succ j ih =>
    intro u σ hj hF h0
    refine G.iload (i := 4) rfl dX7_isFresh_3 ?_
    refine G.bipush (v := 6) (by decide) dX7_isFresh_5 ?_
    refine G.icmp_ge (tgt := 24) (by decide) dX7_isFresh_7 (fun c_7 => absurd c_7 (nI_ge (b := 6) (by omega) (by decide))) (fun c_7 => ?_)
    refine G.aload_n (k := 0) rfl dX7_isFresh_10 ?_
    refine G.getr (j := 22) rfl gci_X7 (by decide) rfl fl_X7_64 dX7_isFresh_11 ?_
    refine G.iload (i := 4) rfl dX7_isFresh_14 ?_
    refine G.iconst (v := 0) (by decide) dX7_isFresh_16 ?_
    refine G.iastN (k := u) rfl (rfl) (by omega) (by decide) dX7_isFresh_17 ?_
    refine G.inc4 (d := 1) (by decide) (by decide) rfl dX7_isFresh_18 ?_
    refine G.goto (tgt := 3) (by decide) dX7_isFresh_21 ?_
    rw [nI_1]
    have h00 : ∀ v, v < u + 1 → up2 σ 19 u 0 19 v = 0 := by
      intro v hv
      rw [up2_r]
      by_cases e : v = u
      · rw [if_pos ⟨rfl, e⟩]
      · rw [if_neg (fun z => e z.2)]; exact h0 v (by omega)
    exact ih (u + 1) _ (by omega) (aF_tr hF (aF_u _ _ _)) h00
set_option maxHeartbeats 4000000 in
set_option maxRecDepth 100000 in
theorem c_X7_isFresh {ln B : Nat → Nat} {n g p : Nat} (hN : ∀ g, nd B ln g → PrM σ B g) (hn6 : n < 6) (hn : nd B ln g) (hP : tn_P p) {td : Nat → Nat} (htd : ∀ u, u < 6 → σ 12 u = nI (td u)) (ht6 : ∀ u, td u < 64) : GM (XM l D cA ad) mX7_isFresh [.ref 0, .int (nI n), .int (nI (pN B g)), .int (nI p)] σ (g_ri (fun r τ => (r = 0 ∨ r = 1) ∧ (r = 1 ↔ okX td B (g, tn_src p n)) ∧ aF σ τ)) := by
  refine GM.of (ls := [some (.ref 0), some (.int (nI n)), some (.int (nI (pN B g))), some (.int (nI p)), none, none]) (by decide) (Nat.le_of_ble_eq_true rfl) rfl ?_
  refine G.iconst (v := 0) (by decide) dX7_isFresh_0 ?_
  refine G.ist4 (by decide) rfl dX7_isFresh_1 ?_
  exact l1_X7_isFresh hN hn6 hn hP htd ht6 6 0 σ rfl (aF_rf σ) (fun v hv => absurd hv (Nat.not_lt_zero _))
set_option maxHeartbeats 4000000 in
set_option maxRecDepth 100000 in
theorem z_X7_alikeBy {e : Nat} {y3 y4 y5 y6 y7 y8 : Option Value} {R : Int32} (hR : R = 0) (hF : kF σ0 σ) : G (XM l D cA ad) mX7_alikeBy (g_ri (fun r τ => r = R ∧ kF σ0 τ)) 26 [some (.ref 0), some (.int (nI e)), some (.int 0), y3, y4, y5, y6, y7, y8] [] σ := by
  subst hR
  refine G.aload_n (k := 0) rfl dX7_alikeBy_26 ?_
  refine G.geti (j := 28) rfl gci_X7 (by decide) rfl fl_X7_287 dX7_alikeBy_27 ?_
  refine G.if_le (tgt := 258) (by decide) dX7_alikeBy_30 (fun c_30 => ?_) (fun c_30 => ?_)
  · refine G.iload_n (k := 2) rfl dX7_alikeBy_258 ?_
    refine G.if_eq (tgt := 266) (by decide) dX7_alikeBy_259 (fun c_259 => ?_) (fun c_259 => absurd rfl c_259)
    refine G.iconst (v := 0) (by decide) dX7_alikeBy_266 ?_
    exact G.iret rfl (⟨rfl, hF⟩) dX7_alikeBy_267
  · refine G.iload_n (k := 2) rfl dX7_alikeBy_33 ?_
    refine G.if_eq (tgt := 258) (by decide) dX7_alikeBy_34 (fun c_34 => ?_) (fun c_34 => absurd rfl c_34)
    refine G.iload_n (k := 2) rfl dX7_alikeBy_258 ?_
    refine G.if_eq (tgt := 266) (by decide) dX7_alikeBy_259 (fun c_259 => ?_) (fun c_259 => absurd rfl c_259)
    refine G.iconst (v := 0) (by decide) dX7_alikeBy_266 ?_
    exact G.iret rfl (⟨rfl, hF⟩) dX7_alikeBy_267
set_option maxHeartbeats 4000000 in
set_option maxRecDepth 100000 in
theorem l_X7_alikeBy {ln B : Nat → Nat} {e : Nat} {td : Nat → Nat} (hN : ∀ g, nd B ln g → PrM σ0 B g) (htd : ∀ u, u < 6 → σ0 12 u = nI (td u)) (ht6 : ∀ u, td u < 64) : ∀ f S (τ : gS) (y3 y4 y5 y6 y7 y8 : Option Value), muP B S.2.1 ≤ f → S.1 = (fun _ => none) → (uG B ln S ∧ f ≤ 600) → okS td B S → PkM τ B S.2.1 → kF σ0 τ → G (XM l D cA ad) mX7_alikeBy (g_ri (fun r τ => r = @ite _ (okF td B f S) (Classical.propDecidable _) 1 0 ∧ kF σ0 τ)) 26 [some (.ref 0), some (.int (nI e)), some (.int 1), y3, y4, y5, y6, y7, y8] [] τ := by
  intro f
  induction f with
  | zero =>
    intro S τ y3 y4 y5 y6 y7 y8 hmu hV hG hok hS hF
    have hl := muP_len S.2.1 hG.1.2.2.1
    have hSP : S.2.1 = [] := List.length_eq_zero_iff.mp (by omega)
    have hS4 : τ 0 28 = 0 := by rw [hS.2, hSP]; rfl
    rw [show (@ite _ (okF td B 0 S) (Classical.propDecidable _) (1 : Int32) 0) = 1 from if_pos (okF_nil hSP hok)]
    refine G.aload_n (k := 0) rfl dX7_alikeBy_26 ?_
    refine G.geti (j := 28) rfl gci_X7 (by decide) rfl fl_X7_287 dX7_alikeBy_27 ?_
    rw [hS4]
    refine G.if_le (tgt := 258) (by decide) dX7_alikeBy_30 (fun c_30 => ?_) (fun c_30 => absurd (by decide) c_30)
    refine G.iload_n (k := 2) rfl dX7_alikeBy_258 ?_
    refine G.if_eq (tgt := 266) (by decide) dX7_alikeBy_259 (fun c_259 => absurd c_259 (by decide)) (fun c_259 => ?_)
    refine G.iconst (v := 1) (by decide) dX7_alikeBy_262 ?_
    refine G.goto (tgt := 267) (by decide) dX7_alikeBy_263 ?_
    exact G.iret rfl (⟨rfl, hF⟩) dX7_alikeBy_267
  | succ f ih =>
    intro S τ y3 y4 y5 y6 y7 y8 hmu hV hG hok hS hF
    have hl := muP_len S.2.1 hG.1.2.2.1
    have h0 := hok.1
    cases hSP : S.2.1 with
    | nil =>
      have hS4 : τ 0 28 = 0 := by rw [hS.2, hSP]; rfl
      rw [show (@ite _ (okF td B (f + 1) S) (Classical.propDecidable _) (1 : Int32) 0) = 1 from if_pos (okF_nil hSP hok)]
      refine G.aload_n (k := 0) rfl dX7_alikeBy_26 ?_
      refine G.geti (j := 28) rfl gci_X7 (by decide) rfl fl_X7_287 dX7_alikeBy_27 ?_
      rw [hS4]
      refine G.if_le (tgt := 258) (by decide) dX7_alikeBy_30 (fun c_30 => ?_) (fun c_30 => absurd (by decide) c_30)
      refine G.iload_n (k := 2) rfl dX7_alikeBy_258 ?_
      refine G.if_eq (tgt := 266) (by decide) dX7_alikeBy_259 (fun c_259 => absurd c_259 (by decide)) (fun c_259 => ?_)
      refine G.iconst (v := 1) (by decide) dX7_alikeBy_262 ?_
      refine G.goto (tgt := 267) (by decide) dX7_alikeBy_263 ?_
      exact G.iret rfl (⟨rfl, hF⟩) dX7_alikeBy_267
    | cons x P =>
      rw [hSP] at hS hl hmu
      have hS4 : τ 0 28 = nI (P.length + 1) := hS.2
      have hl2 : (x :: P).length = P.length + 1 := rfl
      have hx : pG B ln x := hG.1.2.2.1 x (by rw [hSP]; exact List.mem_cons_self)
      have hG2 : uG B ln (ustep true B S) ∧ f ≤ 600 := ⟨ustep_G true hG.1, by omega⟩
      obtain ⟨a, ha⟩ : ∃ a, en B (fun _ => none) 241 x.1 = a := ⟨_, rfl⟩
      obtain ⟨b, hb⟩ : ∃ b, en B (fun _ => none) 241 x.2 = b := ⟨_, rfl⟩
      have hna := en_nd (VG_no B ln) 241 x.1 hx.1 hx.2.1
      have hnb := en_nd (VG_no B ln) 241 x.2 hx.2.2.1 hx.2.2.2
      have hea := rkd_end (VG_no B ln) (rkd_no B) hx.1 (f := 241) (by decide)
      have heb := rkd_end (VG_no B ln) (rkd_no B) hx.2.2.1 (f := 241) (by decide)
      have hmx := en_none (ln := ln) 241 x.1 hx.1
      rw [ha] at hna hea hmx
      rw [hb] at hnb heb
      have hus : ustep true B S = uat true B S P a b := by
        rw [ustep, hSP]
        show uat true B S P (en B S.1 241 x.1) (en B S.1 241 x.2) = _
        rw [hV, ha, hb]
      have la := pN_lt hna.1
      have lb := pN_lt hnb.1
      have hEa := nd_E hna.1
      have hmu2 : (tE B x.1.1 - x.1.1) + muP B P ≤ f + 1 := hmu
      have hkda := nd_kd hna.1
      have hkdb := nd_kd hnb.1
      refine G.aload_n (k := 0) rfl dX7_alikeBy_26 ?_
      refine G.geti (j := 28) rfl gci_X7 (by decide) rfl fl_X7_287 dX7_alikeBy_27 ?_
      rw [hS4]
      refine G.if_le (tgt := 258) (by decide) dX7_alikeBy_30 (fun c_30 => absurd c_30 (nI_nle (by omega) (by omega))) (fun c_30 => ?_)
      refine G.iload_n (k := 2) rfl dX7_alikeBy_33 ?_
      refine G.if_eq (tgt := 258) (by decide) dX7_alikeBy_34 (fun c_34 => absurd c_34 (by decide)) (fun c_34 => ?_)
      refine G.aload_n (k := 0) rfl dX7_alikeBy_37 ?_
      refine G.dupr dX7_alikeBy_38 ?_
      refine G.geti (j := 28) rfl gci_X7 (by decide) rfl fl_X7_287 dX7_alikeBy_39 ?_
      rw [hS4]
      refine G.iconst (v := 1) (by decide) dX7_alikeBy_42 ?_
      refine G.isub dX7_alikeBy_43 ?_
      rw [nI_pred]
      refine G.put (j := 28) rfl gci_X7 gcp_X7 (by decide) rfl rfl rfl rfl fl_X7_287 dX7_alikeBy_44 ?_
      generalize hτ1 : up2 τ 0 28 (nI P.length) = τ1
      have r1 : ∀ k, k ≠ 0 → τ1 k = τ k := fun k hk => by rw [← hτ1]; exact up2_ne _ _ _ hk
      have r2 : ∀ i, i ≠ 28 → τ1 0 i = τ 0 i := fun i hi => by rw [← hτ1, up2_r]; exact if_neg (fun z => hi z.2)
      have r4 : τ1 0 28 = nI P.length := by rw [← hτ1]; exact up2_at _ _ _ _
      have hF1 : kF σ0 τ1 := kF_tr hF ⟨fun k a _ => r1 k a, fun i _ _ h => r2 i (by omega)⟩
      have hS1 : PkM τ1 B P := ⟨PlM_congr P (fun k i h1 h2 _ => by rw [r1 k (by omega)]) hS.1.2.2.2.2, r4⟩
      refine G.aload_n (k := 0) rfl dX7_alikeBy_47 ?_
      refine G.getr (j := 27) rfl gci_X7 (by decide) rfl fl_X7_76 dX7_alikeBy_48 ?_
      refine G.aload_n (k := 0) rfl dX7_alikeBy_51 ?_
      refine G.geti (j := 28) rfl gci_X7 (by decide) rfl fl_X7_287 dX7_alikeBy_52 ?_
      rw [r4]
      refine G.ialdN (k := P.length) rfl (rfl) (by omega) (by decide) dX7_alikeBy_55 ?_
      rw [r1 23 (by decide), hS.1.2.2.2.1]
      refine G.ist3 (by decide) rfl dX7_alikeBy_56 ?_
      refine G.aload_n (k := 0) rfl dX7_alikeBy_57 ?_
      refine G.getr (j := 26) rfl gci_X7 (by decide) rfl fl_X7_73 dX7_alikeBy_58 ?_
      refine G.aload_n (k := 0) rfl dX7_alikeBy_61 ?_
      refine G.geti (j := 28) rfl gci_X7 (by decide) rfl fl_X7_287 dX7_alikeBy_62 ?_
      rw [r4]
      refine G.ialdN (k := P.length) rfl (rfl) (by omega) (by decide) dX7_alikeBy_65 ?_
      rw [r1 22 (by decide), hS.1.2.2.1]
      refine G.ist4 (by decide) rfl dX7_alikeBy_66 ?_
      refine G.aload_n (k := 0) rfl dX7_alikeBy_68 ?_
      refine G.aload_n (k := 0) rfl dX7_alikeBy_69 ?_
      refine G.getr (j := 24) rfl gci_X7 (by decide) rfl fl_X7_67 dX7_alikeBy_70 ?_
      refine G.aload_n (k := 0) rfl dX7_alikeBy_73 ?_
      refine G.geti (j := 28) rfl gci_X7 (by decide) rfl fl_X7_287 dX7_alikeBy_74 ?_
      rw [r4]
      refine G.ialdN (k := P.length) rfl (rfl) (by omega) (by decide) dX7_alikeBy_77 ?_
      rw [r1 20 (by decide), hS.1.1]
      refine G.aload_n (k := 0) rfl dX7_alikeBy_78 ?_
      refine G.getr (j := 25) rfl gci_X7 (by decide) rfl fl_X7_70 dX7_alikeBy_79 ?_
      refine G.aload_n (k := 0) rfl dX7_alikeBy_82 ?_
      refine G.geti (j := 28) rfl gci_X7 (by decide) rfl fl_X7_287 dX7_alikeBy_83 ?_
      rw [r4]
      refine G.ialdN (k := P.length) rfl (rfl) (by omega) (by decide) dX7_alikeBy_86 ?_
      rw [r1 21 (by decide), hS.1.2.1]
      refine G.iconst (v := 0) (by decide) dX7_alikeBy_87 ?_
      refine G.callVv (c_X7_enters (V := fun _ => none) (q := x.1) (fun g hg => kF_P hF1 (hN g hg)) (VG_no B ln) (rkd_no B) (Or.inl ⟨rfl, fun _ => rfl⟩) hx.1 hx.2.1) rfl (gci_X7).1 ml_X7_303 im_yX7_enters se_yX7_enters gcl_X7_enters (by decide) rfl rfl (Nat.le_of_ble_eq_true rfl) dX7_alikeBy_88 (fun τ2 hq2 => ?_)
      refine G.aload_n (k := 0) rfl dX7_alikeBy_91 ?_
      refine G.geti (j := 29) rfl gci_X7 (by decide) rfl fl_X7_290 dX7_alikeBy_92 ?_
      rw [hq2.1, ha]
      refine G.ist5 (by decide) rfl dX7_alikeBy_95 ?_
      refine G.aload_n (k := 0) rfl dX7_alikeBy_97 ?_
      refine G.geti (j := 30) rfl gci_X7 (by decide) rfl fl_X7_293 dX7_alikeBy_98 ?_
      rw [hq2.2.1, ha]
      refine G.ist6 (by decide) rfl dX7_alikeBy_101 ?_
      refine G.aload_n (k := 0) rfl dX7_alikeBy_103 ?_
      refine G.iload (i := 4) rfl dX7_alikeBy_104 ?_
      refine G.iload_n (k := 3) rfl dX7_alikeBy_106 ?_
      refine G.iconst (v := 0) (by decide) dX7_alikeBy_107 ?_
      refine G.callVv (c_X7_enters (V := fun _ => none) (q := x.2) (fun g hg => kF_P (kF_tr hF1 (eF_k hq2.2.2)) (hN g hg)) (VG_no B ln) (rkd_no B) (Or.inl ⟨rfl, fun _ => rfl⟩) hx.2.2.1 hx.2.2.2) rfl (gci_X7).1 ml_X7_303 im_yX7_enters se_yX7_enters gcl_X7_enters (by decide) rfl rfl (Nat.le_of_ble_eq_true rfl) dX7_alikeBy_108 (fun τ3 hq3 => ?_)
      refine G.aload_n (k := 0) rfl dX7_alikeBy_111 ?_
      refine G.geti (j := 29) rfl gci_X7 (by decide) rfl fl_X7_290 dX7_alikeBy_112 ?_
      rw [hq3.1, hb]
      refine G.ist7 (by decide) rfl dX7_alikeBy_115 ?_
      refine G.aload_n (k := 0) rfl dX7_alikeBy_117 ?_
      refine G.geti (j := 30) rfl gci_X7 (by decide) rfl fl_X7_293 dX7_alikeBy_118 ?_
      rw [hq3.2.1, hb]
      have hF3 : kF σ0 τ3 := kF_tr hF1 (kF_tr (eF_k hq2.2.2) (eF_k hq3.2.2))
      have hS3 : PkM τ3 B P := PkM_F (fun k a b => by rw [hq3.2.2.1 k (by omega), hq2.2.2.1 k (by omega)]) (by rw [hq3.2.2.2 28 (by decide) (by decide), hq2.2.2.2 28 (by decide) (by decide)]) hS1
      have hN3 : ∀ g, nd B ln g → PrM τ3 B g := fun g hg => kF_P hF3 (hN g hg)
      have pa := hN3 _ hna.1
      have pb := hN3 _ hnb.1
      refine G.ist8 (by decide) rfl dX7_alikeBy_121 ?_
      refine G.aload_n (k := 0) rfl dX7_alikeBy_123 ?_
      refine G.getr (j := 8) rfl gci_X7 (by decide) rfl fl_X7_31 dX7_alikeBy_124 ?_
      refine G.iload (i := 5) rfl dX7_alikeBy_127 ?_
      refine G.ialdN (k := pN B a.1) rfl (rfl) (la.2.2) (by decide) dX7_alikeBy_129 ?_
      rw [pa.1]
      refine G.aload_n (k := 0) rfl dX7_alikeBy_130 ?_
      refine G.getr (j := 8) rfl gci_X7 (by decide) rfl fl_X7_31 dX7_alikeBy_131 ?_
      refine G.iload (i := 7) rfl dX7_alikeBy_134 ?_
      refine G.ialdN (k := pN B b.1) rfl (rfl) (lb.2.2) (by decide) dX7_alikeBy_136 ?_
      rw [pb.1]
      by_cases hk : kd (B a.1) = kd (B b.1)
      · by_cases hc : kd (B a.1) = 2
        · have hcb := hk.symm.trans hc
          refine G.icmp_eq (tgt := 145) (by decide) dX7_alikeBy_137 (fun c_137 => ?_) (fun c_137 => absurd (by rw [hk]) c_137)
          refine G.aload_n (k := 0) rfl dX7_alikeBy_145 ?_
          refine G.getr (j := 8) rfl gci_X7 (by decide) rfl fl_X7_31 dX7_alikeBy_146 ?_
          refine G.iload (i := 5) rfl dX7_alikeBy_149 ?_
          refine G.ialdN (k := pN B a.1) rfl (rfl) (la.2.2) (by decide) dX7_alikeBy_151 ?_
          rw [show τ3 8 (pN B a.1) = 1 by rw [pa.1, hc]; rfl]
          refine G.iconst (v := 1) (by decide) dX7_alikeBy_152 ?_
          refine G.icmp_ne (tgt := 207) (by decide) dX7_alikeBy_153 (fun c_153 => absurd rfl c_153) (fun c_153 => ?_)
          refine G.aload_n (k := 0) rfl dX7_alikeBy_156 ?_
          refine G.getr (j := 9) rfl gci_X7 (by decide) rfl fl_X7_34 dX7_alikeBy_157 ?_
          refine G.iload (i := 5) rfl dX7_alikeBy_160 ?_
          refine G.ialdN (k := pN B a.1) rfl (rfl) (la.2.2) (by decide) dX7_alikeBy_162 ?_
          rw [pa.2.1, show nmr B a.1 = B a.1 - 80 by rw [nmr, if_neg (by omega), if_pos hc]]
          refine G.aload_n (k := 0) rfl dX7_alikeBy_163 ?_
          refine G.getr (j := 9) rfl gci_X7 (by decide) rfl fl_X7_34 dX7_alikeBy_164 ?_
          refine G.iload (i := 7) rfl dX7_alikeBy_167 ?_
          refine G.ialdN (k := pN B b.1) rfl (rfl) (lb.2.2) (by decide) dX7_alikeBy_169 ?_
          rw [pb.2.1, show nmr B b.1 = B b.1 - 80 by rw [nmr, if_neg (by omega), if_pos hcb]]
          refine G.icmp_ne (tgt := 202) (by decide) dX7_alikeBy_170 (fun c_170 => ?_) (fun c_170 => ?_)
          · have hne : ¬ B a.1 = B b.1 := fun e => c_170 (by rw [e])
            have hbad : ¬ okS td B (ustep true B S) := fun z => by
              rw [hus] at z
              have := z.1
              unfold uat ugive at this
              rw [if_neg (fun y => hne y.2.2), if_pos rfl] at this
              by_cases q : kd (B a.1) = 2 ∧ (kd (B b.1) = 2 → B b.1 < B a.1)
              · rw [if_pos q] at this; cases this
              · rw [if_neg q, if_pos hcb, if_pos rfl] at this; cases this
            refine G.iconst (v := 0) (by decide) dX7_alikeBy_202 ?_
            refine G.ist2 (by decide) rfl dX7_alikeBy_203 ?_
            refine G.goto (tgt := 255) (by decide) dX7_alikeBy_204 ?_
            refine G.goto (tgt := 26) (by decide) dX7_alikeBy_255 ?_
            first
            | exact z_X7_alikeBy (if_neg (okF_no hSP h0 hbad)) hF3
            | (rw [show (@ite _ (okF td B (f + 1) S) (Classical.propDecidable _) (1 : Int32) 0) = @ite _ (okF td B f (ustep true B S)) (Classical.propDecidable _) 1 0 from ite_ok (okF_st hSP h0)]
               refine ih (ustep true B S) τ3 _ _ _ _ _ _ ?_ ?_ hG2 ?_ ?_ hF3
               · rw [hS2]; show muP B P ≤ f; omega
               · rw [hS2]; exact hV
               · rw [hS2]
                 refine ⟨h0, fun u k hu hk2 => ?_, hok.2.2⟩
                 replace hk2 : (if u = B a.1 - 80 then S.2.2.1 u ||| tn_un a.2 b.2 else S.2.2.1 u).testBit k = true := hk2
                 by_cases e9 : u = B a.1 - 80
                 · rw [if_pos e9, Nat.testBit_or, Bool.or_eq_true] at hk2
                   rcases hk2 with y | y
                   · exact hok.2.1 u k hu y
                   · rw [e9]; exact (and_0 (ms_lt _) (ht6 _)).mp hs k y
                 · rw [if_neg e9] at hk2
                   exact hok.2.1 u k hu hk2
               · rw [hS2]; exact hS3)
          · have heq : B a.1 = B b.1 := by
              have := (nI_eq (show B a.1 - 80 < 2 ^ 31 by have := kd2_ge hc; omega) (show B b.1 - 80 < 2 ^ 31 by have := kd2_ge hcb; omega)).mp c_170
              have := kd2_ge hc
              have := kd2_ge hcb
              omega
            have hS2 : ustep true B S = (S.1, P, (fun v => if v = B a.1 - 80 then S.2.2.1 v ||| tn_un a.2 b.2 else S.2.2.1 v), S.2.2.2.1, S.2.2.2.2) := by rw [hus]; unfold uat; rw [if_pos ⟨hc, hcb, heq⟩]
            refine G.iload (i := 6) rfl dX7_alikeBy_173 ?_
            refine G.iload (i := 8) rfl dX7_alikeBy_175 ?_
            refine G.callSif (c_X7_unlike hna.2.1 hnb.2.1) ml_X7_306 ws_yX7_unlike gcl_X7_unlike (by decide) rfl rfl (Nat.le_of_ble_eq_true rfl) dX7_alikeBy_177 ?_
            refine G.aload_n (k := 0) rfl dX7_alikeBy_180 ?_
            refine G.getr (j := 12) rfl gci_X7 (by decide) rfl fl_X7_43 dX7_alikeBy_181 ?_
            refine G.aload_n (k := 0) rfl dX7_alikeBy_184 ?_
            refine G.getr (j := 9) rfl gci_X7 (by decide) rfl fl_X7_34 dX7_alikeBy_185 ?_
            refine G.iload (i := 5) rfl dX7_alikeBy_188 ?_
            refine G.ialdN (k := pN B a.1) rfl (rfl) (la.2.2) (by decide) dX7_alikeBy_190 ?_
            rw [pa.2.1, show nmr B a.1 = B a.1 - 80 by rw [nmr, if_neg (by omega), if_pos hc]]
            refine G.ialdN (k := B a.1 - 80) rfl (rfl) (l80 hc) (by decide) dX7_alikeBy_191 ?_
            rw [hF3.1 12 (by decide) (by decide), htd _ (l80 hc)]
            refine G.iconst (v := (-1)) (by decide) dX7_alikeBy_192 ?_
            refine G.ixor dX7_alikeBy_193 ?_
            refine G.iand dX7_alikeBy_194 ?_
            rw [an_j (tn_un a.2 b.2) (ms_lt _) _ (ht6 _)]
            refine G.if_ne (tgt := 202) (by decide) dX7_alikeBy_195 (fun c_195 => ?_) (fun c_195 => ?_)
            · have hs : ¬ tn_un a.2 b.2 &&& (63 ^^^ td (B a.1 - 80)) = 0 := fun e => c_195 (by rw [e]; rfl)
              have hbad : ¬ okS td B (ustep true B S) := fun z => by
                rw [hS2] at z
                refine hs ((and_0 (ms_lt _) (ht6 _)).mpr (fun k hk => z.2.1 (B a.1 - 80) k (l80 hc) ?_))
                show ((if B a.1 - 80 = B a.1 - 80 then S.2.2.1 (B a.1 - 80) ||| tn_un a.2 b.2 else S.2.2.1 (B a.1 - 80)).testBit k) = true
                rw [if_pos rfl, Nat.testBit_or, show (tn_un a.2 b.2).testBit k = true from hk, Bool.or_true]
              refine G.iconst (v := 0) (by decide) dX7_alikeBy_202 ?_
              refine G.ist2 (by decide) rfl dX7_alikeBy_203 ?_
              refine G.goto (tgt := 255) (by decide) dX7_alikeBy_204 ?_
              refine G.goto (tgt := 26) (by decide) dX7_alikeBy_255 ?_
              first
              | exact z_X7_alikeBy (if_neg (okF_no hSP h0 hbad)) hF3
              | (rw [show (@ite _ (okF td B (f + 1) S) (Classical.propDecidable _) (1 : Int32) 0) = @ite _ (okF td B f (ustep true B S)) (Classical.propDecidable _) 1 0 from ite_ok (okF_st hSP h0)]
                 refine ih (ustep true B S) τ3 _ _ _ _ _ _ ?_ ?_ hG2 ?_ ?_ hF3
                 · rw [hS2]; show muP B P ≤ f; omega
                 · rw [hS2]; exact hV
                 · rw [hS2]
                   refine ⟨h0, fun u k hu hk2 => ?_, hok.2.2⟩
                   replace hk2 : (if u = B a.1 - 80 then S.2.2.1 u ||| tn_un a.2 b.2 else S.2.2.1 u).testBit k = true := hk2
                   by_cases e9 : u = B a.1 - 80
                   · rw [if_pos e9, Nat.testBit_or, Bool.or_eq_true] at hk2
                     rcases hk2 with y | y
                     · exact hok.2.1 u k hu y
                     · rw [e9]; exact (and_0 (ms_lt _) (ht6 _)).mp hs k y
                   · rw [if_neg e9] at hk2
                     exact hok.2.1 u k hu hk2
                 · rw [hS2]; exact hS3)
            · have hs : tn_un a.2 b.2 &&& (63 ^^^ td (B a.1 - 80)) = 0 := (nI_eq (show tn_un a.2 b.2 &&& (63 ^^^ td (B a.1 - 80)) < 2 ^ 31 by have := an_lt (b := td (B a.1 - 80)) (ms_lt (fun n => decide (tn_im a.2 n ≠ tn_im b.2 n))); exact Nat.lt_trans this (by decide)) (show 0 < 2 ^ 31 by decide)).mp c_195
              refine G.iconst (v := 1) (by decide) dX7_alikeBy_198 ?_
              refine G.goto (tgt := 203) (by decide) dX7_alikeBy_199 ?_
              refine G.ist2 (by decide) rfl dX7_alikeBy_203 ?_
              refine G.goto (tgt := 255) (by decide) dX7_alikeBy_204 ?_
              refine G.goto (tgt := 26) (by decide) dX7_alikeBy_255 ?_
              first
              | exact z_X7_alikeBy (if_neg (okF_no hSP h0 hbad)) hF3
              | (rw [show (@ite _ (okF td B (f + 1) S) (Classical.propDecidable _) (1 : Int32) 0) = @ite _ (okF td B f (ustep true B S)) (Classical.propDecidable _) 1 0 from ite_ok (okF_st hSP h0)]
                 refine ih (ustep true B S) τ3 _ _ _ _ _ _ ?_ ?_ hG2 ?_ ?_ hF3
                 · rw [hS2]; show muP B P ≤ f; omega
                 · rw [hS2]; exact hV
                 · rw [hS2]
                   refine ⟨h0, fun u k hu hk2 => ?_, hok.2.2⟩
                   replace hk2 : (if u = B a.1 - 80 then S.2.2.1 u ||| tn_un a.2 b.2 else S.2.2.1 u).testBit k = true := hk2
                   by_cases e9 : u = B a.1 - 80
                   · rw [if_pos e9, Nat.testBit_or, Bool.or_eq_true] at hk2
                     rcases hk2 with y | y
                     · exact hok.2.1 u k hu y
                     · rw [e9]; exact (and_0 (ms_lt _) (ht6 _)).mp hs k y
                   · rw [if_neg e9] at hk2
                     exact hok.2.1 u k hu hk2
                 · rw [hS2]; exact hS3)
        · have h7 : kd (B a.1) ≠ 7 := hea.1
          have hS2 : ustep true B S = (S.1, gK B a b ++ P, S.2.2.1, gD B a b ++ S.2.2.2.1, if gO B a b = true then S.2.2.2.2 else 1) := by
            rw [hus]; unfold uat
            rw [if_neg (fun z => hc z.1), if_neg (fun z => hc z.1), if_neg (fun z => hc (hk.trans z)), if_pos hk, usplit_eq]
          refine G.icmp_eq (tgt := 145) (by decide) dX7_alikeBy_137 (fun c_137 => ?_) (fun c_137 => absurd (by rw [hk]) c_137)
          refine G.aload_n (k := 0) rfl dX7_alikeBy_145 ?_
          refine G.getr (j := 8) rfl gci_X7 (by decide) rfl fl_X7_31 dX7_alikeBy_146 ?_
          refine G.iload (i := 5) rfl dX7_alikeBy_149 ?_
          refine G.ialdN (k := pN B a.1) rfl (rfl) (la.2.2) (by decide) dX7_alikeBy_151 ?_
          rw [pa.1]
          refine G.iconst (v := 1) (by decide) dX7_alikeBy_152 ?_
          refine G.icmp_ne (tgt := 207) (by decide) dX7_alikeBy_153 (fun c_153 => ?_) (fun c_153 => absurd ((nI_eq (show kd (B a.1) - 1 < 2 ^ 31 by omega) (show 1 < 2 ^ 31 by decide)).mp c_153) (by omega))
          refine G.aload_n (k := 0) rfl dX7_alikeBy_207 ?_
          refine G.iload (i := 5) rfl dX7_alikeBy_208 ?_
          refine G.iload (i := 6) rfl dX7_alikeBy_210 ?_
          refine G.iload (i := 7) rfl dX7_alikeBy_212 ?_
          refine G.iload (i := 8) rfl dX7_alikeBy_214 ?_
          refine G.callVi (c_X7_goesOn hN3 hna.1 hna.2 hnb.1 hnb.2 hk h7 hc hS3 (by omega)) rfl (gci_X7).1 ml_X7_309 im_yX7_goesOn se_yX7_goesOn gcl_X7_goesOn (by decide) rfl rfl (Nat.le_of_ble_eq_true rfl) dX7_alikeBy_216 (fun r4 τ4 hq4 => ?_)
          have hF4 : kF σ0 τ4 := kF_tr hF3 (pF_k hq4.2.2.1)
          rw [hq4.1]
          cases hgo : gO B a b with
          | false =>
            refine G.ist2 (by decide) rfl dX7_alikeBy_219 ?_
            refine G.iload_n (k := 2) rfl dX7_alikeBy_220 ?_
            refine G.if_eq (tgt := 253) (by decide) dX7_alikeBy_221 (fun c_221 => ?_) (fun c_221 => absurd rfl c_221)
            refine G.iconst (v := 0) (by decide) dX7_alikeBy_253 ?_
            refine G.ist2 (by decide) rfl dX7_alikeBy_254 ?_
            refine G.goto (tgt := 26) (by decide) dX7_alikeBy_255 ?_
            have hbad : ¬ okS td B (ustep true B S) := fun z => by
              rw [hS2] at z
              have := z.1
              rw [hgo] at this
              cases this
            exact z_X7_alikeBy (if_neg (okF_no hSP h0 hbad)) hF4
          | true =>
            by_cases hd6 : kd (B a.1) = 6 ∧ tn_im a.2 (B (a.1 + 1) - 97) ≠ tn_im b.2 (B (b.1 + 1) - 97)
            · have hA : gA B a b = nI (tn_im a.2 (B (a.1 + 1) - 97)) := by unfold gA; rw [if_pos hd6.1, if_neg hd6.2]
              have hD : gD B a b = [(b.1 + 2, tn_src b.2 (tn_im a.2 (B (a.1 + 1) - 97)))] := if_pos hd6
              obtain ⟨k1, n1, n2, n3⟩ := nd_6 hna.1 hd6.1
              obtain ⟨k2, m1, m2, m3⟩ := nd_6 hnb.1 (hk.symm.trans hd6.1)
              have p2 := pN_6 hnb.1 (hk.symm.trans hd6.1)
              have i1 := hna.2.2.1 _ (l97 k1)
              refine G.ist2 (by decide) rfl dX7_alikeBy_219 ?_
              refine G.iload_n (k := 2) rfl dX7_alikeBy_220 ?_
              refine G.if_eq (tgt := 253) (by decide) dX7_alikeBy_221 (fun c_221 => absurd c_221 (by decide)) (fun c_221 => ?_)
              refine G.aload_n (k := 0) rfl dX7_alikeBy_224 ?_
              refine G.geti (j := 31) rfl gci_X7 (by decide) rfl fl_X7_296 dX7_alikeBy_225 ?_
              rw [hq4.2.2.2, hA]
              refine G.iconst (v := (-1)) (by decide) dX7_alikeBy_228 ?_
              refine G.icmp_eq (tgt := 249) (by decide) dX7_alikeBy_229 (fun c_229 => absurd c_229 (ne_m1 (show tn_im a.2 (B (a.1 + 1) - 97) < 2 ^ 31 by omega))) (fun c_229 => ?_)
              refine G.aload_n (k := 0) rfl dX7_alikeBy_232 ?_
              refine G.aload_n (k := 0) rfl dX7_alikeBy_233 ?_
              refine G.geti (j := 31) rfl gci_X7 (by decide) rfl fl_X7_296 dX7_alikeBy_234 ?_
              rw [hq4.2.2.2, hA]
              refine G.iload (i := 7) rfl dX7_alikeBy_237 ?_
              refine G.iconst (v := 1) (by decide) dX7_alikeBy_239 ?_
              refine G.iadd dX7_alikeBy_240 ?_
              rw [nI_1, ← p2]
              refine G.iload (i := 8) rfl dX7_alikeBy_241 ?_
              refine G.callVi (c_X7_isFresh (fun g hg => kF_P hF4 (hN g hg)) i1 m1 hnb.2 (fun u hu => by rw [hF4.1 12 (by decide) (by decide)]; exact htd u hu) ht6) rfl (gci_X7).1 ml_X7_313 im_yX7_isFresh se_yX7_isFresh gcl_X7_isFresh (by decide) rfl rfl (Nat.le_of_ble_eq_true rfl) dX7_alikeBy_243 (fun r5 τ5 hq5 => ?_)
              have hF5 : kF σ0 τ5 := kF_tr hF4 (aF_k hq5.2.2)
              have hS5 : PkM τ5 B (gK B a b ++ P) := PkM_F (fun k a b => hq5.2.2.1 k (by omega) (by omega) (by omega) (by omega) (by omega)) (hq5.2.2.2 28 (by decide) (by decide)) hq4.2.1
              refine G.if_eq (tgt := 253) (by decide) dX7_alikeBy_246 (fun c_246 => ?_) (fun c_246 => ?_)
              · have hno : ¬ okX td B (b.1 + 2, tn_src b.2 (tn_im a.2 (B (a.1 + 1) - 97))) := fun z => by
                  have := hq5.2.1.mpr z
                  rw [this] at c_246
                  exact absurd c_246 (by decide)
                have hbad : ¬ okS td B (ustep true B S) := fun z => by
                  rw [hS2] at z
                  exact hno (z.2.2 _ (List.mem_append_left _ (by rw [hD]; exact List.mem_singleton.mpr rfl)))
                refine G.iconst (v := 0) (by decide) dX7_alikeBy_253 ?_
                refine G.ist2 (by decide) rfl dX7_alikeBy_254 ?_
                refine G.goto (tgt := 26) (by decide) dX7_alikeBy_255 ?_
                first
                | exact z_X7_alikeBy (if_neg (okF_no hSP h0 hbad)) hF5
                | (rw [show (@ite _ (okF td B (f + 1) S) (Classical.propDecidable _) (1 : Int32) 0) = @ite _ (okF td B f (ustep true B S)) (Classical.propDecidable _) 1 0 from ite_ok (okF_st hSP h0)]
                   refine ih (ustep true B S) τ5 _ _ _ _ _ _ ?_ ?_ hG2 ?_ ?_ hF5
                   · rw [hS2]
                     show muP B (gK B a b ++ P) ≤ f
                     have := muP_gK (b := b) hna.1
                     rw [muP_app]; omega
                   · rw [hS2]; exact hV
                   · rw [hS2]
                     refine ⟨by rw [hgo]; exact h0, hok.2.1, fun y hy => ?_⟩
                     rcases List.mem_append.mp hy with z | z
                     · rw [hD] at z; rw [List.mem_singleton.mp z]; exact hyes
                     · exact hok.2.2 y z
                   · rw [hS2]; exact hS5)
              · have hyes : okX td B (b.1 + 2, tn_src b.2 (tn_im a.2 (B (a.1 + 1) - 97))) := hq5.2.1.mp (hq5.1.resolve_left c_246)
                refine G.iconst (v := 1) (by decide) dX7_alikeBy_249 ?_
                refine G.goto (tgt := 254) (by decide) dX7_alikeBy_250 ?_
                refine G.ist2 (by decide) rfl dX7_alikeBy_254 ?_
                refine G.goto (tgt := 26) (by decide) dX7_alikeBy_255 ?_
                first
                | exact z_X7_alikeBy (if_neg (okF_no hSP h0 hbad)) hF5
                | (rw [show (@ite _ (okF td B (f + 1) S) (Classical.propDecidable _) (1 : Int32) 0) = @ite _ (okF td B f (ustep true B S)) (Classical.propDecidable _) 1 0 from ite_ok (okF_st hSP h0)]
                   refine ih (ustep true B S) τ5 _ _ _ _ _ _ ?_ ?_ hG2 ?_ ?_ hF5
                   · rw [hS2]
                     show muP B (gK B a b ++ P) ≤ f
                     have := muP_gK (b := b) hna.1
                     rw [muP_app]; omega
                   · rw [hS2]; exact hV
                   · rw [hS2]
                     refine ⟨by rw [hgo]; exact h0, hok.2.1, fun y hy => ?_⟩
                     rcases List.mem_append.mp hy with z | z
                     · rw [hD] at z; rw [List.mem_singleton.mp z]; exact hyes
                     · exact hok.2.2 y z
                   · rw [hS2]; exact hS5)
            · have hA : gA B a b = -1 := by
                unfold gA
                by_cases z : kd (B a.1) = 6
                · rw [if_pos z, if_pos (Decidable.byContradiction (fun y => hd6 ⟨z, y⟩))]
                · rw [if_neg z]
              have hD : gD B a b = [] := if_neg hd6
              refine G.ist2 (by decide) rfl dX7_alikeBy_219 ?_
              refine G.iload_n (k := 2) rfl dX7_alikeBy_220 ?_
              refine G.if_eq (tgt := 253) (by decide) dX7_alikeBy_221 (fun c_221 => absurd c_221 (by decide)) (fun c_221 => ?_)
              refine G.aload_n (k := 0) rfl dX7_alikeBy_224 ?_
              refine G.geti (j := 31) rfl gci_X7 (by decide) rfl fl_X7_296 dX7_alikeBy_225 ?_
              rw [hq4.2.2.2, hA]
              refine G.iconst (v := (-1)) (by decide) dX7_alikeBy_228 ?_
              refine G.icmp_eq (tgt := 249) (by decide) dX7_alikeBy_229 (fun c_229 => ?_) (fun c_229 => absurd rfl c_229)
              refine G.iconst (v := 1) (by decide) dX7_alikeBy_249 ?_
              refine G.goto (tgt := 254) (by decide) dX7_alikeBy_250 ?_
              refine G.ist2 (by decide) rfl dX7_alikeBy_254 ?_
              refine G.goto (tgt := 26) (by decide) dX7_alikeBy_255 ?_
              rw [show (@ite _ (okF td B (f + 1) S) (Classical.propDecidable _) (1 : Int32) 0) = @ite _ (okF td B f (ustep true B S)) (Classical.propDecidable _) 1 0 from ite_ok (okF_st hSP h0)]
              refine ih (ustep true B S) τ4 _ _ _ _ _ _ ?_ ?_ hG2 ?_ ?_ hF4
              · rw [hS2]
                show muP B (gK B a b ++ P) ≤ f
                have := muP_gK (b := b) hna.1
                rw [muP_app]; omega
              · rw [hS2]; exact hV
              · rw [hS2]
                refine ⟨by rw [hgo]; exact h0, hok.2.1, fun y hy => ?_⟩
                rcases List.mem_append.mp hy with z | z
                · rw [hD] at z; cases z
                · exact hok.2.2 y z
              · rw [hS2]; exact hq4.2.1
      · have hbad : ¬ okS td B (ustep true B S) := fun z => by
          rw [hus] at z
          have := z.1
          unfold uat ugive at this
          rw [if_neg (fun y => hk (y.1.trans y.2.1.symm)), if_pos rfl, if_pos rfl] at this
          by_cases q1 : kd (B a.1) = 2 ∧ (kd (B b.1) = 2 → B b.1 < B a.1)
          · rw [if_pos q1] at this; cases this
          · rw [if_neg q1] at this
            by_cases q2 : kd (B b.1) = 2
            · rw [if_pos q2] at this; cases this
            · rw [if_neg q2, if_neg hk] at this; cases this
        refine G.icmp_eq (tgt := 145) (by decide) dX7_alikeBy_137 (fun c_137 => absurd ((nI_eq (show kd (B a.1) - 1 < 2 ^ 31 by omega) (show kd (B b.1) - 1 < 2 ^ 31 by omega)).mp c_137) (by omega)) (fun c_137 => ?_)
        refine G.iconst (v := 0) (by decide) dX7_alikeBy_140 ?_
        refine G.ist2 (by decide) rfl dX7_alikeBy_141 ?_
        refine G.goto (tgt := 255) (by decide) dX7_alikeBy_142 ?_
        refine G.goto (tgt := 26) (by decide) dX7_alikeBy_255 ?_
        exact z_X7_alikeBy (if_neg (okF_no hSP h0 hbad)) hF3
noncomputable def uas (e : Nat) : uS := ((fun _ => none), [((60 * e, tn_id), (60 * e + 30, tn_id))], (fun _ => 0), [], 0)
theorem th_nd {ln B : Nat → Nat} {e : Nat} (h30 : ∀ t, t < 8 → ln t ≤ 30) (he : e < 4) (h : thA ln B e = true) : nd B ln (60 * e) ∧ nd B ln (60 * e + 30) := by
  unfold thA at h
  rw [Bool.and_eq_true] at h
  have h1 := (nd_0 (show 2 * e < 8 by omega) (wlA_iff.mp h.1) (h30 _ (by omega))).1
  have h2 := (nd_0 (show 2 * e + 1 < 8 by omega) (wlA_iff.mp h.2) (h30 _ (by omega))).1
  rw [show 30 * (2 * e) = 60 * e by omega] at h1
  rw [show 30 * (2 * e + 1) = 60 * e + 30 by omega] at h2
  exact ⟨h1, h2⟩
theorem uas_G {B ln : Nat → Nat} {e : Nat} (h : nd B ln (60 * e) ∧ nd B ln (60 * e + 30)) : uG B ln (uas e) := ⟨VG_no B ln, rkd_no B, fun y hy => by rw [List.mem_singleton.mp hy]; exact ⟨h.1, tn_P_id, h.2, tn_P_id⟩, fun u => (by show 0 < 64; decide), fun y hy => (by cases hy), (by show 0 < 8; decide)⟩
theorem pN_60 {B ln : Nat → Nat} {e : Nat} (he : e < 4) : pN B (60 * e) = 60 * e ∧ pN B (60 * e + 30) = 60 * e + 30 := by
  have h1 := pN_p (B := B) (t := 2 * e) (p := 0) (by decide)
  have h2 := pN_p (B := B) (t := 2 * e + 1) (p := 0) (by decide)
  rw [show 30 * (2 * e) + 0 = 60 * e by omega, show 30 * (2 * e) + cst B (30 * (2 * e)) 0 = 60 * e by show 30 * (2 * e) + 0 = _; omega] at h1
  rw [show 30 * (2 * e + 1) + 0 = 60 * e + 30 by omega, show 30 * (2 * e + 1) + cst B (30 * (2 * e + 1)) 0 = 60 * e + 30 by show 30 * (2 * e + 1) + 0 = _; omega] at h2
  exact ⟨h1, h2⟩
set_option maxHeartbeats 4000000 in
set_option maxRecDepth 100000 in
theorem c_X7_alikeBy {ln B : Nat → Nat} {e : Nat} {td : Nat → Nat} (hN : ∀ g, nd B ln g → PrM σ B g) (htd : ∀ u, u < 6 → σ 12 u = nI (td u)) (ht6 : ∀ u, td u < 64) (he : e < 4) (hn : nd B ln (60 * e) ∧ nd B ln (60 * e + 30)) : GM (XM l D cA ad) mX7_alikeBy [.ref 0, .int (nI e)] σ (g_ri (fun r τ => r = @ite _ (okF td B 600 (uas e)) (Classical.propDecidable _) 1 0 ∧ kF σ τ)) := by
  refine GM.of (ls := [some (.ref 0), some (.int (nI e)), none, none, none, none, none, none, none]) (by decide) (Nat.le_of_ble_eq_true rfl) rfl ?_
  obtain ⟨p1, p2⟩ := pN_60 (B := B) (ln := ln) he
  refine G.iconst (v := 1) (by decide) dX7_alikeBy_0 ?_
  refine G.ist2 (by decide) rfl dX7_alikeBy_1 ?_
  refine G.aload_n (k := 0) rfl dX7_alikeBy_2 ?_
  refine G.iconst (v := 0) (by decide) dX7_alikeBy_3 ?_
  refine G.put (j := 28) rfl gci_X7 gcp_X7 (by decide) rfl rfl rfl rfl fl_X7_287 dX7_alikeBy_4 ?_
  generalize hτ1 : up2 σ 0 28 0 = τ1
  have r4 : τ1 0 28 = nI 0 := by rw [← hτ1]; exact up2_at _ _ _ _
  have hF1 : kF σ τ1 := ⟨fun k a _ => by rw [← hτ1, up2_ne _ _ _ a], fun i _ _ h => by rw [← hτ1, up2_r, if_neg (fun z => by omega)]⟩
  refine G.aload_n (k := 0) rfl dX7_alikeBy_7 ?_
  refine G.bipush (v := 60) (by decide) dX7_alikeBy_8 ?_
  refine G.iload_n (k := 1) rfl dX7_alikeBy_10 ?_
  refine G.imul dX7_alikeBy_11 ?_
  rw [show (60 : Int32) * nI e = nI (pN B (60 * e)) by rw [p1]; exact nu_60' e]
  refine G.ldc ct_X7_154 dX7_alikeBy_12 ?_
  refine G.bipush (v := 60) (by decide) dX7_alikeBy_14 ?_
  refine G.iload_n (k := 1) rfl dX7_alikeBy_16 ?_
  refine G.imul dX7_alikeBy_17 ?_
  rw [nu_60']
  refine G.bipush (v := 30) (by decide) dX7_alikeBy_18 ?_
  refine G.iadd dX7_alikeBy_20 ?_
  rw [show nI (60 * e) + 30 = nI (pN B (60 * e + 30)) by rw [p2]; exact nI_add (60 * e) 30]
  refine G.ldc ct_X7_154 dX7_alikeBy_21 ?_
  refine G.callVvf (c_X7_piles (n := 0) r4 (by decide)) rfl (gci_X7).1 ml_X7_299 im_yX7_piles se_yX7_piles gcl_X7_piles (by decide) rfl rfl (Nat.le_of_ble_eq_true rfl) dX7_alikeBy_23 ?_
  have S2 := pi_P (σ := τ1) (B := B) (P := []) ((60 * e, tn_id), (60 * e + 30, tn_id)) trivial
  exact l_X7_alikeBy hN htd ht6 600 (uas e) _ none none none none none none (by
    have h1 := nd_E hn.1
    show (tE B (60 * e) - 60 * e) + 0 ≤ 600
    omega) rfl ⟨uas_G hn, Nat.le_refl _⟩ ⟨rfl, fun u k _ h => (by simp [uas] at h), fun x hx => (by cases hx)⟩ S2 (kF_tr hF1 (pF_k (pi_F _ _ _ _ _ _)))
end T95

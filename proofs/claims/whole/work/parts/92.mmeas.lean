/-! ===== the model measures a term; what is asked of names in it ===== -/
theorem nI_sj (x : Int32) : ∃ n, x = nI n := ⟨x.toBitVec.toNat, Int32.toBitVec_inj.mp (by show x.toBitVec = BitVec.ofNat 32 x.toBitVec.toNat; simp)⟩
theorem tn_sw2_all : ∀ a, a < 6 → ∀ b, b < 6 → ∀ n, n < 6 → tn_im (tn_sw a b) (tn_im (tn_sw a b) n) = n := by decide +kernel
theorem tn_sw2 {a b n : Nat} (ha : a < 6) (hb : b < 6) (hn : n < 6) : tn_im (tn_sw a b) (tn_im (tn_sw a b) n) = n := tn_sw2_all a ha b hb n hn
/-- what (g, m) leads to -/
def RD (B : Nat → Nat) (g m h k : Nat) : Prop := ∀ S : Nat → Nat → Prop, S g m → (∀ a b, S a b → dwn B S a b) → S h k
theorem RD_rf (B : Nat → Nat) (g m : Nat) : RD B g m g m := fun _ h _ => h
theorem RD_cl {B : Nat → Nat} {g m : Nat} : ∀ a b, RD B g m a b → dwn B (RD B g m) a b := by
  intro a b h
  have q : ∀ S : Nat → Nat → Prop, S g m → (∀ a b, S a b → dwn B S a b) → dwn B S a b := fun S h1 h2 => h2 a b (h S h1 h2)
  exact ⟨fun c S h1 h2 => (q S h1 h2).1 c, fun c => ⟨fun S h1 h2 => ((q S h1 h2).2.1 c).1, fun S h1 h2 => ((q S h1 h2).2.1 c).2⟩, fun c c2 S h1 h2 => (q S h1 h2).2.2.1 c c2, fun c S h1 h2 => (q S h1 h2).2.2.2 c⟩
theorem RD_tr {B : Nat → Nat} {g m a b h k : Nat} (h1 : RD B g m a b) (h2 : RD B a b h k) : RD B g m h k := fun S s1 s2 => h2 S (h1 S s1 s2) s2
def RDn (B : Nat → Nat) (g m h k : Nat) : Prop := (h = g ∧ k = m) ∨ (kd (B g) = 4 ∧ RD B (g + 1) m h k) ∨ (kd (B g) = 5 ∧ (RD B (g + 1) m h k ∨ RD B (tE B (g + 1)) m h k)) ∨ (kd (B g) = 6 ∧ m ≠ B (g + 1) - 97 ∧ RD B (g + 2) m h k) ∨ (kd (B g) = 7 ∧ RD B (g + 3) (tn_im (tn_sw (B (g + 1) - 97) (B (g + 2) - 97)) m) h k)
theorem dwn_mono {B : Nat → Nat} {S T : Nat → Nat → Prop} (h : ∀ a b, S a b → T a b) {a b : Nat} (d : dwn B S a b) : dwn B T a b := ⟨fun c => h _ _ (d.1 c), fun c => ⟨h _ _ (d.2.1 c).1, h _ _ (d.2.1 c).2⟩, fun c c2 => h _ _ (d.2.2.1 c c2), fun c => h _ _ (d.2.2.2 c)⟩
theorem RD_iff {B : Nat → Nat} {g m h k : Nat} : RD B g m h k ↔ RDn B g m h k := by
  refine ⟨fun z => z (RDn B g m) (Or.inl ⟨rfl, rfl⟩) ?_, ?_⟩
  · intro a b hs
    rcases hs with ⟨e1, e2⟩ | ⟨c, hs⟩ | ⟨c, hs | hs⟩ | ⟨c, c2, hs⟩ | ⟨c, hs⟩
    · subst e1
      subst e2
      exact ⟨fun c => Or.inr (Or.inl ⟨c, RD_rf B _ _⟩), fun c => ⟨Or.inr (Or.inr (Or.inl ⟨c, Or.inl (RD_rf B _ _)⟩)), Or.inr (Or.inr (Or.inl ⟨c, Or.inr (RD_rf B _ _)⟩))⟩, fun c c2 => Or.inr (Or.inr (Or.inr (Or.inl ⟨c, c2, RD_rf B _ _⟩))), fun c => Or.inr (Or.inr (Or.inr (Or.inr ⟨c, RD_rf B _ _⟩)))⟩
    · exact dwn_mono (fun x y q => Or.inr (Or.inl ⟨c, q⟩)) (RD_cl a b hs)
    · exact dwn_mono (fun x y q => Or.inr (Or.inr (Or.inl ⟨c, Or.inl q⟩))) (RD_cl a b hs)
    · exact dwn_mono (fun x y q => Or.inr (Or.inr (Or.inl ⟨c, Or.inr q⟩))) (RD_cl a b hs)
    · exact dwn_mono (fun x y q => Or.inr (Or.inr (Or.inr (Or.inl ⟨c, c2, q⟩)))) (RD_cl a b hs)
    · exact dwn_mono (fun x y q => Or.inr (Or.inr (Or.inr (Or.inr ⟨c, q⟩)))) (RD_cl a b hs)
  · have d := RD_cl (B := B) g m (RD_rf B g m)
    rintro (⟨e1, e2⟩ | ⟨c, hs⟩ | ⟨c, hs | hs⟩ | ⟨c, c2, hs⟩ | ⟨c, hs⟩)
    · rw [e1, e2]; exact RD_rf B g m
    · exact RD_tr (d.1 c) hs
    · exact RD_tr (d.2.1 c).1 hs
    · exact RD_tr (d.2.1 c).2 hs
    · exact RD_tr (d.2.2.1 c c2) hs
    · exact RD_tr (d.2.2.2 c) hs
def Rb (B : Nat → Nat) (g m : Nat) : Prop := ∃ h, RD B g m h (B h - 97) ∧ kd (B h) = 1
def Ru (B : Nat → Nat) (g m u k : Nat) : Prop := ∃ h, RD B g m h k ∧ kd (B h) = 2 ∧ B h - 80 = u
section RR
variable {B : Nat → Nat} {g m u k : Nat}
theorem RD_lf (c : kd (B g) = 1 ∨ kd (B g) = 2 ∨ kd (B g) = 3) {h k : Nat} : RD B g m h k ↔ (h = g ∧ k = m) := by
  rw [RD_iff]
  refine ⟨fun z => ?_, Or.inl⟩
  rcases z with z | z | z | z | z
  · exact z
  · omega
  · omega
  · omega
  · omega
theorem RD_4 (c : kd (B g) = 4) {h k : Nat} : RD B g m h k ↔ ((h = g ∧ k = m) ∨ RD B (g + 1) m h k) := by
  rw [RD_iff]
  refine ⟨fun z => ?_, fun z => z.elim Or.inl (fun z => Or.inr (Or.inl ⟨c, z⟩))⟩
  rcases z with z | z | z | z | z
  · exact Or.inl z
  · exact Or.inr z.2
  · omega
  · omega
  · omega
theorem RD_5 (c : kd (B g) = 5) {h k : Nat} : RD B g m h k ↔ ((h = g ∧ k = m) ∨ RD B (g + 1) m h k ∨ RD B (tE B (g + 1)) m h k) := by
  rw [RD_iff]
  refine ⟨fun z => ?_, fun z => z.elim Or.inl (fun z => Or.inr (Or.inr (Or.inl ⟨c, z⟩)))⟩
  rcases z with z | z | z | z | z
  · exact Or.inl z
  · omega
  · exact Or.inr z.2
  · omega
  · omega
theorem RD_6 (c : kd (B g) = 6) {h k : Nat} : RD B g m h k ↔ ((h = g ∧ k = m) ∨ (m ≠ B (g + 1) - 97 ∧ RD B (g + 2) m h k)) := by
  rw [RD_iff]
  refine ⟨fun z => ?_, fun z => z.elim Or.inl (fun z => Or.inr (Or.inr (Or.inr (Or.inl ⟨c, z⟩))))⟩
  rcases z with z | z | z | z | z
  · exact Or.inl z
  · omega
  · omega
  · exact Or.inr z.2
  · omega
theorem RD_7 (c : kd (B g) = 7) {h k : Nat} : RD B g m h k ↔ ((h = g ∧ k = m) ∨ RD B (g + 3) (tn_im (tn_sw (B (g + 1) - 97) (B (g + 2) - 97)) m) h k) := by
  rw [RD_iff]
  refine ⟨fun z => ?_, fun z => z.elim Or.inl (fun z => Or.inr (Or.inr (Or.inr (Or.inr ⟨c, z⟩))))⟩
  rcases z with z | z | z | z | z
  · exact Or.inl z
  · omega
  · omega
  · omega
  · exact Or.inr z.2
theorem Rb_1 (c : kd (B g) = 1) : Rb B g m ↔ m = B g - 97 := by
  refine ⟨fun ⟨h, z, z2⟩ => ?_, fun z => ⟨g, by rw [z]; exact RD_rf B _ _, c⟩⟩
  have := (RD_lf (Or.inl c)).mp z
  rw [← this.2, this.1]
theorem Rb_23 (c : kd (B g) = 2 ∨ kd (B g) = 3) : ¬ Rb B g m := fun ⟨h, z, z2⟩ => by
  have := (RD_lf (Or.inr c)).mp z
  rw [this.1] at z2
  omega
theorem Rb_4 (c : kd (B g) = 4) : Rb B g m ↔ Rb B (g + 1) m := by
  refine ⟨fun ⟨h, z, z2⟩ => ?_, fun ⟨h, z, z2⟩ => ⟨h, (RD_4 c).mpr (Or.inr z), z2⟩⟩
  rcases (RD_4 c).mp z with e | e
  · rw [e.1] at z2; omega
  · exact ⟨h, e, z2⟩
theorem Rb_5 (c : kd (B g) = 5) : Rb B g m ↔ (Rb B (g + 1) m ∨ Rb B (tE B (g + 1)) m) := by
  refine ⟨fun ⟨h, z, z2⟩ => ?_, fun z => z.elim (fun ⟨h, z, z2⟩ => ⟨h, (RD_5 c).mpr (Or.inr (Or.inl z)), z2⟩) (fun ⟨h, z, z2⟩ => ⟨h, (RD_5 c).mpr (Or.inr (Or.inr z)), z2⟩)⟩
  rcases (RD_5 c).mp z with e | e | e
  · rw [e.1] at z2; omega
  · exact Or.inl ⟨h, e, z2⟩
  · exact Or.inr ⟨h, e, z2⟩
theorem Rb_6 (c : kd (B g) = 6) : Rb B g m ↔ (m ≠ B (g + 1) - 97 ∧ Rb B (g + 2) m) := by
  refine ⟨fun ⟨h, z, z2⟩ => ?_, fun ⟨y, h, z, z2⟩ => ⟨h, (RD_6 c).mpr (Or.inr ⟨y, z⟩), z2⟩⟩
  rcases (RD_6 c).mp z with e | e
  · rw [e.1] at z2; omega
  · exact ⟨e.1, h, e.2, z2⟩
theorem Rb_7 (c : kd (B g) = 7) : Rb B g m ↔ Rb B (g + 3) (tn_im (tn_sw (B (g + 1) - 97) (B (g + 2) - 97)) m) := by
  refine ⟨fun ⟨h, z, z2⟩ => ?_, fun ⟨h, z, z2⟩ => ⟨h, (RD_7 c).mpr (Or.inr z), z2⟩⟩
  rcases (RD_7 c).mp z with e | e
  · rw [e.1] at z2; omega
  · exact ⟨h, e, z2⟩
theorem Ru_2 (c : kd (B g) = 2) : Ru B g m u k ↔ (k = m ∧ B g - 80 = u) := by
  refine ⟨fun ⟨h, z, z2, z3⟩ => ?_, fun z => ⟨g, by rw [z.1]; exact RD_rf B _ _, c, z.2⟩⟩
  have := (RD_lf (Or.inr (Or.inl c))).mp z
  exact ⟨this.2, by rw [← this.1]; exact z3⟩
theorem Ru_13 (c : kd (B g) = 1 ∨ kd (B g) = 3) : ¬ Ru B g m u k := fun ⟨h, z, z2, z3⟩ => by
  have := (RD_lf (by omega)).mp z
  rw [this.1] at z2
  omega
theorem Ru_4 (c : kd (B g) = 4) : Ru B g m u k ↔ Ru B (g + 1) m u k := by
  refine ⟨fun ⟨h, z, z2⟩ => ?_, fun ⟨h, z, z2⟩ => ⟨h, (RD_4 c).mpr (Or.inr z), z2⟩⟩
  rcases (RD_4 c).mp z with e | e
  · rw [e.1] at z2; omega
  · exact ⟨h, e, z2⟩
theorem Ru_5 (c : kd (B g) = 5) : Ru B g m u k ↔ (Ru B (g + 1) m u k ∨ Ru B (tE B (g + 1)) m u k) := by
  refine ⟨fun ⟨h, z, z2⟩ => ?_, fun z => z.elim (fun ⟨h, z, z2⟩ => ⟨h, (RD_5 c).mpr (Or.inr (Or.inl z)), z2⟩) (fun ⟨h, z, z2⟩ => ⟨h, (RD_5 c).mpr (Or.inr (Or.inr z)), z2⟩)⟩
  rcases (RD_5 c).mp z with e | e | e
  · rw [e.1] at z2; omega
  · exact Or.inl ⟨h, e, z2⟩
  · exact Or.inr ⟨h, e, z2⟩
theorem Ru_6 (c : kd (B g) = 6) : Ru B g m u k ↔ (m ≠ B (g + 1) - 97 ∧ Ru B (g + 2) m u k) := by
  refine ⟨fun ⟨h, z, z2⟩ => ?_, fun ⟨y, h, z, z2⟩ => ⟨h, (RD_6 c).mpr (Or.inr ⟨y, z⟩), z2⟩⟩
  rcases (RD_6 c).mp z with e | e
  · rw [e.1] at z2; omega
  · exact ⟨e.1, h, e.2, z2⟩
theorem Ru_7 (c : kd (B g) = 7) : Ru B g m u k ↔ Ru B (g + 3) (tn_im (tn_sw (B (g + 1) - 97) (B (g + 2) - 97)) m) u k := by
  refine ⟨fun ⟨h, z, z2⟩ => ?_, fun ⟨h, z, z2⟩ => ⟨h, (RD_7 c).mpr (Or.inr z), z2⟩⟩
  rcases (RD_7 c).mp z with e | e
  · rw [e.1] at z2; omega
  · exact ⟨h, e, z2⟩
end RR
/-- the loose names of a term are those that can't be fresh in it -/
theorem tlo_Rb {B ln : Nat → Nat} : ∀ g, nd B ln g → ∀ m, m < 6 → ((tlo B g).testBit m = true ↔ Rb B g m) := by
  refine nd_ind ?_
  intro g hn ih m hm
  have hkd := nd_kd hn
  have cc : kd (B g) = 1 ∨ (kd (B g) = 2 ∨ kd (B g) = 3) ∨ kd (B g) = 4 ∨ kd (B g) = 5 ∨ kd (B g) = 6 ∨ kd (B g) = 7 := by omega
  rcases cc with c | c | c | c | c | c
  · rw [Rb_1 c, tlo_1 (Or.inl c), if_pos c, Nat.testBit_two_pow, decide_eq_true_iff]
    exact ⟨fun e => e.symm, fun e => e.symm⟩
  · rw [tlo_1 (Or.inr c), if_neg (by omega)]
    exact ⟨fun e => by simp at e, fun e => absurd e (Rb_23 c)⟩
  · obtain ⟨n1, n2, n3⟩ := nd_4 hn c
    rw [Rb_4 c, tlo_4 hn c]
    exact ih _ n1 (by omega) n3 m hm
  · obtain ⟨n1, n2, n3, n4, n5⟩ := nd_5 hn c
    have hE := nd_E n1
    rw [Rb_5 c, tlo_5 hn c, Nat.testBit_or, Bool.or_eq_true]
    rw [ih _ n1 (by omega) n4 m hm, ih _ n2 (by omega) n5 m hm]
  · obtain ⟨k1, n1, n2, n3⟩ := nd_6 hn c
    rw [Rb_6 c, tlo_6 hn c, mdel_bit _ (me_b _ n1).1 _ (l97 k1) m hm, Bool.and_eq_true, ih _ n1 (by omega) n3 m hm]
    simp [and_comm]
  · obtain ⟨k1, k2, n1, n2, n3⟩ := nd_7 hn c
    rw [Rb_7 c, tlo_7 hn c, tn_ss, ms_bit _ m hm]
    exact ih _ n1 (by omega) n3 _ ((tn_P_sw (l97 k1) (l97 k2)).2.1 m hm)
/-- where asking has come: what must be fresh, whether a name was met -/
abbrev aZ : Type := (Nat → Nat) × Bool
def aH (σ : gS) (z : aZ) : Prop := (∀ u, u < 6 → σ 19 u = nI (z.1 u)) ∧ σ 0 23 = (if z.2 = true then 1 else 0)
def AskP (B : Nat → Nat) (g m : Nat) (z z' : aZ) : Prop := (z'.2 = true ↔ (z.2 = true ∨ Rb B g m)) ∧ ∀ u k, ((z'.1 u).testBit k = true ↔ ((z.1 u).testBit k = true ∨ Ru B g m u k))
def aF (σ τ : gS) : Prop := (∀ k, k ≠ 0 → k ≠ 14 → k ≠ 15 → k ≠ 18 → k ≠ 19 → τ k = σ k) ∧ ∀ i, i ≠ 18 → i ≠ 23 → τ 0 i = σ 0 i
theorem aF_rf (σ : gS) : aF σ σ := ⟨fun _ _ _ _ _ _ => rfl, fun _ _ _ => rfl⟩
theorem aF_tr {σ τ υ : gS} (h1 : aF σ τ) (h2 : aF τ υ) : aF σ υ := ⟨fun k a b c d e => (h2.1 k a b c d e).trans (h1.1 k a b c d e), fun i a b => (h2.2 i a b).trans (h1.2 i a b)⟩
theorem aF_Q {σ τ : gS} (h : aF σ τ) : mQ σ τ := ⟨fun k a b => h.1 k (by omega) (by omega) (by omega) (by omega) (by omega), h.2 4 (by decide) (by decide)⟩
theorem aF_P {σ τ : gS} {B : Nat → Nat} {g : Nat} (h : aF σ τ) (hP : PrM σ B g) : PrM τ B g := PrM_F (fun k a b => h.1 k (by omega) (by omega) (by omega) (by omega) (by omega)) hP
theorem aF_M {σ τ : gS} {ln B : Nat → Nat} (h : aF σ τ) (hT : TM σ ln B) (hM : MR σ ln B) : TM τ ln B ∧ MR τ ln B := ⟨TM_F (h.1 5 (by decide) (by decide) (by decide) (by decide) (by decide)) (h.1 6 (by decide) (by decide) (by decide) (by decide) (by decide)) hT, MR_F (fun k a b => h.1 k (by omega) (by omega) (by omega) (by omega) (by omega)) (h.2 13 (by decide) (by decide)) hT hM⟩
theorem aH_z (σ : gS) (b : Bool) (h : σ 0 23 = (if b = true then 1 else 0)) : ∃ z : aZ, aH σ z ∧ z.2 = b := by
  have h1 : ∀ u, ∃ n, σ 19 u = nI n := fun u => nI_sj _
  exact ⟨(fun u => Classical.choose (h1 u), b), ⟨fun u _ => Classical.choose_spec (h1 u), h⟩, rfl⟩
theorem pu_a {σ : gS} {n : Nat} {x y : Int32} {z : aZ} (h : aH σ z) : aH (pu σ n x y) z := by
  refine ⟨fun u hu => ?_, ?_⟩
  · unfold pu; rw [up2_ne _ _ _ (by decide), up2_ne _ _ _ (by decide), up2_ne _ _ _ (by decide)]; exact h.1 u hu
  · unfold pu; rw [up2_r, if_neg (by decide), up2_ne _ _ _ (by decide), up2_ne _ _ _ (by decide)]; exact h.2
theorem pu_aF (σ : gS) (n : Nat) (x y : Int32) : aF σ (pu σ n x y) := ⟨fun k a b c d e => by unfold pu; rw [up2_ne _ _ _ a, up2_ne _ _ _ c, up2_ne _ _ _ b], fun i a b => by unfold pu; rw [up2_r, if_neg (fun z => a z.2), up2_ne _ _ _ (by decide), up2_ne _ _ _ (by decide)]⟩
theorem im_src {p n x : Nat} (hp : tn_P p) (hn : n < 6) (hx : x < 6) : tn_im p x = n ↔ x = tn_src p n := by
  have h := tn_src_all p (tn_in_all hp) n hn
  refine ⟨fun e => hp.2.2 x _ hx (tn_src_lt hn) (by rw [e, h]), fun e => by rw [e, h]⟩
theorem src_cmp {p a b n : Nat} (hp : tn_P p) (ha : a < 6) (hb : b < 6) (hn : n < 6) : tn_src (tn_cmp p (tn_sw a b)) n = tn_im (tn_sw a b) (tn_src p n) := by
  have hs := tn_P_sw ha hb
  have hc := tn_P_cmp hp hs
  have l1 := tn_src_lt (c := p) hn
  have l2 := hs.2.1 _ l1
  refine ((im_src hc hn l2).mp ?_).symm
  rw [tn_im_cmp l2, show tn_im (tn_sw a b) (tn_im (tn_sw a b) (tn_src p n)) = tn_src p n from tn_sw2 ha hb l1]
  exact tn_src_all p (tn_in_all hp) n hn
theorem AskP_tr {B : Nat → Nat} {g m : Nat} {z z1 z2 : aZ} (c : kd (B g) = 5) (h1 : AskP B (tE B (g + 1)) m z z1) (h2 : AskP B (g + 1) m z1 z2) : AskP B g m z z2 := by
  refine ⟨?_, fun u k => ?_⟩
  · rw [h2.1, h1.1, Rb_5 c, or_assoc, or_comm (a := Rb B (tE B (g + 1)) m)]
  · rw [h2.2, h1.2, Ru_5 c, or_assoc, or_comm (a := Ru B (tE B (g + 1)) m u k)]
section T92
variable {l : Launch} {D : va_G} {cA : ClassId} {ad : Nat → Nat}
variable {σ σ0 : gS}
theorem pt_gt {B ln : Nat → Nat} {g : Nat} (h : nd B ln g) : pN B g < pt B (g / 30) (tE B g) ∧ pt B (g / 30) (tE B g) ≤ 30 * (g / 30) + 30 := by
  have hE := nd_E h
  obtain ⟨t, p, op, z1, z2, z3, z4, z5, z6, z7⟩ := nd_p h
  subst z4
  have ht : (30 * t + p) / 30 = t := by omega
  rw [ht] at hE
  rw [pN_p z2, ht, pt]
  have h1 := cst_lt (stb_1 z7) (q := tE B (30 * t + p) - 30 * t) (by omega)
  have h2 := cst_le (B := B) (s := 30 * t) (tE B (30 * t + p) - 30 * t)
  omega
theorem pt_in {B : Nat → Nat} {g h : Nat} (hh : h / 30 = g / 30) : pt B (g / 30) h = pN B h := by unfold pN; rw [hh]
set_option maxHeartbeats 4000000 in
set_option maxRecDepth 100000 in
theorem w_X7_manyParts {Q : Option Value → gS → Prop} {ln B : Nat → Nat} {t M : Nat} (hN : ∀ g, nd B ln g → PrM σ B g) (ht : t < 8) (hM : M ≤ 30) (hM7 : σ 7 t = nI M) : ∀ g, nd B ln g → pt B (g / 30) (tE B g) ≤ 30 * t + M → ∀ acc, G (XM l D cA ad) mX7_manyParts Q 7 [some (.ref 0), some (.int (nI t)), some (.int (nI (acc + tsz B g))), some (.int (nI (pt B (g / 30) (tE B g))))] [] σ → G (XM l D cA ad) mX7_manyParts Q 7 [some (.ref 0), some (.int (nI t)), some (.int (nI (acc))), some (.int (nI (pN B g)))] [] σ := by
  refine nd_ind ?_
  intro g hn ih hE acc K
  replace ih : ∀ h, nd B ln h → g < h → h / 30 = g / 30 → pt B (h / 30) (tE B h) ≤ 30 * t + M → ∀ acc, G (XM l D cA ad) mX7_manyParts Q 7 [some (.ref 0), some (.int (nI t)), some (.int (nI (acc + tsz B h))), some (.int (nI (pt B (h / 30) (tE B h))))] [] σ → G (XM l D cA ad) mX7_manyParts Q 7 [some (.ref 0), some (.int (nI t)), some (.int (nI (acc))), some (.int (nI (pN B h)))] [] σ := ih
  have hlt := pN_lt hn
  have hgt := pt_gt hn
  have hPr := hN g hn
  have hkd := nd_kd hn
  have cc : kd (B g) = 1 ∨ kd (B g) = 2 ∨ kd (B g) = 3 ∨ kd (B g) = 4 ∨ kd (B g) = 5 ∨ kd (B g) = 6 ∨ kd (B g) = 7 := by omega
  rcases cc with hc | hc | hc | hc | hc | hc | hc
  · have hp1 : pt B (g / 30) (tE B g) = pN B g + 1 := by rw [nd_leaf (by omega)]; exact pt_leaf hn
    refine G.iload_n (k := 3) rfl dX7_manyParts_7 ?_
    refine G.bipush (v := 30) (by decide) dX7_manyParts_8 ?_
    refine G.iload_n (k := 1) rfl dX7_manyParts_10 ?_
    refine G.imul dX7_manyParts_11 ?_
    rw [nu_30']
    refine G.aload_n (k := 0) rfl dX7_manyParts_12 ?_
    refine G.getr (j := 7) rfl gci_X7 (by decide) rfl fl_X7_28 dX7_manyParts_13 ?_
    refine G.iload_n (k := 1) rfl dX7_manyParts_16 ?_
    refine G.ialdN (k := t) rfl (rfl) (by omega) (by decide) dX7_manyParts_17 ?_
    rw [hM7]
    refine G.iadd dX7_manyParts_18 ?_
    rw [nI_add]
    refine G.icmp_ge (tgt := 47) (by decide) dX7_manyParts_19 (fun c_19 => absurd c_19 (nI_ge (by omega) (by omega))) (fun c_19 => ?_)
    refine G.iload_n (k := 2) rfl dX7_manyParts_22 ?_
    refine G.aload_n (k := 0) rfl dX7_manyParts_23 ?_
    refine G.getr (j := 8) rfl gci_X7 (by decide) rfl fl_X7_31 dX7_manyParts_24 ?_
    refine G.iload_n (k := 3) rfl dX7_manyParts_27 ?_
    refine G.ialdN (k := pN B g) rfl (rfl) (hlt.2.2) (by decide) dX7_manyParts_28 ?_
    rw [show σ 8 (pN B g) = 0 by rw [hPr.1, hc]; rfl]
    refine G.bipush (v := 6) (by decide) dX7_manyParts_29 ?_
    refine G.icmp_ne (tgt := 38) (by decide) dX7_manyParts_31 (fun c_31 => ?_) (fun c_31 => absurd c_31 (by decide))
    refine G.iconst (v := 1) (by decide) dX7_manyParts_38 ?_
    refine G.iadd dX7_manyParts_39 ?_
    rw [nI_1]
    refine G.ist2 (by decide) rfl dX7_manyParts_40 ?_
    refine G.inc3 (d := 1) (by decide) (by decide) rfl dX7_manyParts_41 ?_
    refine G.goto (tgt := 7) (by decide) dX7_manyParts_44 ?_
    rw [show tsz B g = 1 from tf_lf (by omega)] at K
    rw [nI_1, ← hp1]
    exact K
  · have hp1 : pt B (g / 30) (tE B g) = pN B g + 1 := by rw [nd_leaf (by omega)]; exact pt_leaf hn
    refine G.iload_n (k := 3) rfl dX7_manyParts_7 ?_
    refine G.bipush (v := 30) (by decide) dX7_manyParts_8 ?_
    refine G.iload_n (k := 1) rfl dX7_manyParts_10 ?_
    refine G.imul dX7_manyParts_11 ?_
    rw [nu_30']
    refine G.aload_n (k := 0) rfl dX7_manyParts_12 ?_
    refine G.getr (j := 7) rfl gci_X7 (by decide) rfl fl_X7_28 dX7_manyParts_13 ?_
    refine G.iload_n (k := 1) rfl dX7_manyParts_16 ?_
    refine G.ialdN (k := t) rfl (rfl) (by omega) (by decide) dX7_manyParts_17 ?_
    rw [hM7]
    refine G.iadd dX7_manyParts_18 ?_
    rw [nI_add]
    refine G.icmp_ge (tgt := 47) (by decide) dX7_manyParts_19 (fun c_19 => absurd c_19 (nI_ge (by omega) (by omega))) (fun c_19 => ?_)
    refine G.iload_n (k := 2) rfl dX7_manyParts_22 ?_
    refine G.aload_n (k := 0) rfl dX7_manyParts_23 ?_
    refine G.getr (j := 8) rfl gci_X7 (by decide) rfl fl_X7_31 dX7_manyParts_24 ?_
    refine G.iload_n (k := 3) rfl dX7_manyParts_27 ?_
    refine G.ialdN (k := pN B g) rfl (rfl) (hlt.2.2) (by decide) dX7_manyParts_28 ?_
    rw [show σ 8 (pN B g) = 1 by rw [hPr.1, hc]; rfl]
    refine G.bipush (v := 6) (by decide) dX7_manyParts_29 ?_
    refine G.icmp_ne (tgt := 38) (by decide) dX7_manyParts_31 (fun c_31 => ?_) (fun c_31 => absurd c_31 (by decide))
    refine G.iconst (v := 1) (by decide) dX7_manyParts_38 ?_
    refine G.iadd dX7_manyParts_39 ?_
    rw [nI_1]
    refine G.ist2 (by decide) rfl dX7_manyParts_40 ?_
    refine G.inc3 (d := 1) (by decide) (by decide) rfl dX7_manyParts_41 ?_
    refine G.goto (tgt := 7) (by decide) dX7_manyParts_44 ?_
    rw [show tsz B g = 1 from tf_lf (by omega)] at K
    rw [nI_1, ← hp1]
    exact K
  · have hp1 : pt B (g / 30) (tE B g) = pN B g + 1 := by rw [nd_leaf (by omega)]; exact pt_leaf hn
    refine G.iload_n (k := 3) rfl dX7_manyParts_7 ?_
    refine G.bipush (v := 30) (by decide) dX7_manyParts_8 ?_
    refine G.iload_n (k := 1) rfl dX7_manyParts_10 ?_
    refine G.imul dX7_manyParts_11 ?_
    rw [nu_30']
    refine G.aload_n (k := 0) rfl dX7_manyParts_12 ?_
    refine G.getr (j := 7) rfl gci_X7 (by decide) rfl fl_X7_28 dX7_manyParts_13 ?_
    refine G.iload_n (k := 1) rfl dX7_manyParts_16 ?_
    refine G.ialdN (k := t) rfl (rfl) (by omega) (by decide) dX7_manyParts_17 ?_
    rw [hM7]
    refine G.iadd dX7_manyParts_18 ?_
    rw [nI_add]
    refine G.icmp_ge (tgt := 47) (by decide) dX7_manyParts_19 (fun c_19 => absurd c_19 (nI_ge (by omega) (by omega))) (fun c_19 => ?_)
    refine G.iload_n (k := 2) rfl dX7_manyParts_22 ?_
    refine G.aload_n (k := 0) rfl dX7_manyParts_23 ?_
    refine G.getr (j := 8) rfl gci_X7 (by decide) rfl fl_X7_31 dX7_manyParts_24 ?_
    refine G.iload_n (k := 3) rfl dX7_manyParts_27 ?_
    refine G.ialdN (k := pN B g) rfl (rfl) (hlt.2.2) (by decide) dX7_manyParts_28 ?_
    rw [show σ 8 (pN B g) = 2 by rw [hPr.1, hc]; rfl]
    refine G.bipush (v := 6) (by decide) dX7_manyParts_29 ?_
    refine G.icmp_ne (tgt := 38) (by decide) dX7_manyParts_31 (fun c_31 => ?_) (fun c_31 => absurd c_31 (by decide))
    refine G.iconst (v := 1) (by decide) dX7_manyParts_38 ?_
    refine G.iadd dX7_manyParts_39 ?_
    rw [nI_1]
    refine G.ist2 (by decide) rfl dX7_manyParts_40 ?_
    refine G.inc3 (d := 1) (by decide) (by decide) rfl dX7_manyParts_41 ?_
    refine G.goto (tgt := 7) (by decide) dX7_manyParts_44 ?_
    rw [show tsz B g = 1 from tf_lf (by omega)] at K
    rw [nI_1, ← hp1]
    exact K
  · obtain ⟨n1, n2, n3⟩ := nd_4 hn hc
    have hp1 := pN_45 hn n1 n3
    refine G.iload_n (k := 3) rfl dX7_manyParts_7 ?_
    refine G.bipush (v := 30) (by decide) dX7_manyParts_8 ?_
    refine G.iload_n (k := 1) rfl dX7_manyParts_10 ?_
    refine G.imul dX7_manyParts_11 ?_
    rw [nu_30']
    refine G.aload_n (k := 0) rfl dX7_manyParts_12 ?_
    refine G.getr (j := 7) rfl gci_X7 (by decide) rfl fl_X7_28 dX7_manyParts_13 ?_
    refine G.iload_n (k := 1) rfl dX7_manyParts_16 ?_
    refine G.ialdN (k := t) rfl (rfl) (by omega) (by decide) dX7_manyParts_17 ?_
    rw [hM7]
    refine G.iadd dX7_manyParts_18 ?_
    rw [nI_add]
    refine G.icmp_ge (tgt := 47) (by decide) dX7_manyParts_19 (fun c_19 => absurd c_19 (nI_ge (by omega) (by omega))) (fun c_19 => ?_)
    refine G.iload_n (k := 2) rfl dX7_manyParts_22 ?_
    refine G.aload_n (k := 0) rfl dX7_manyParts_23 ?_
    refine G.getr (j := 8) rfl gci_X7 (by decide) rfl fl_X7_31 dX7_manyParts_24 ?_
    refine G.iload_n (k := 3) rfl dX7_manyParts_27 ?_
    refine G.ialdN (k := pN B g) rfl (rfl) (hlt.2.2) (by decide) dX7_manyParts_28 ?_
    rw [show σ 8 (pN B g) = 3 by rw [hPr.1, hc]; rfl]
    refine G.bipush (v := 6) (by decide) dX7_manyParts_29 ?_
    refine G.icmp_ne (tgt := 38) (by decide) dX7_manyParts_31 (fun c_31 => ?_) (fun c_31 => absurd c_31 (by decide))
    refine G.iconst (v := 1) (by decide) dX7_manyParts_38 ?_
    refine G.iadd dX7_manyParts_39 ?_
    rw [nI_1]
    refine G.ist2 (by decide) rfl dX7_manyParts_40 ?_
    refine G.inc3 (d := 1) (by decide) (by decide) rfl dX7_manyParts_41 ?_
    refine G.goto (tgt := 7) (by decide) dX7_manyParts_44 ?_
    rw [nI_1, ← hp1]
    exact ih _ n1 (by omega) n3 (by rw [n3, ← n2]; exact hE) _ (by rw [n3, ← n2]; rw [show acc + 1 + tsz B (g + 1) = acc + tsz B g by rw [tsz_4 hn hc]; omega]; exact K)
  · obtain ⟨n1, n2, n3, n4, n5⟩ := nd_5 hn hc
    have hp1 := pN_45 hn n1 n4
    have e1 := nd_E n1
    have e2 := pt_gt n2
    rw [n5, ← n3] at e2
    have e3 : pt B (g / 30) (tE B (g + 1)) = pN B (tE B (g + 1)) := pt_in n5
    refine G.iload_n (k := 3) rfl dX7_manyParts_7 ?_
    refine G.bipush (v := 30) (by decide) dX7_manyParts_8 ?_
    refine G.iload_n (k := 1) rfl dX7_manyParts_10 ?_
    refine G.imul dX7_manyParts_11 ?_
    rw [nu_30']
    refine G.aload_n (k := 0) rfl dX7_manyParts_12 ?_
    refine G.getr (j := 7) rfl gci_X7 (by decide) rfl fl_X7_28 dX7_manyParts_13 ?_
    refine G.iload_n (k := 1) rfl dX7_manyParts_16 ?_
    refine G.ialdN (k := t) rfl (rfl) (by omega) (by decide) dX7_manyParts_17 ?_
    rw [hM7]
    refine G.iadd dX7_manyParts_18 ?_
    rw [nI_add]
    refine G.icmp_ge (tgt := 47) (by decide) dX7_manyParts_19 (fun c_19 => absurd c_19 (nI_ge (by omega) (by omega))) (fun c_19 => ?_)
    refine G.iload_n (k := 2) rfl dX7_manyParts_22 ?_
    refine G.aload_n (k := 0) rfl dX7_manyParts_23 ?_
    refine G.getr (j := 8) rfl gci_X7 (by decide) rfl fl_X7_31 dX7_manyParts_24 ?_
    refine G.iload_n (k := 3) rfl dX7_manyParts_27 ?_
    refine G.ialdN (k := pN B g) rfl (rfl) (hlt.2.2) (by decide) dX7_manyParts_28 ?_
    rw [show σ 8 (pN B g) = 4 by rw [hPr.1, hc]; rfl]
    refine G.bipush (v := 6) (by decide) dX7_manyParts_29 ?_
    refine G.icmp_ne (tgt := 38) (by decide) dX7_manyParts_31 (fun c_31 => ?_) (fun c_31 => absurd c_31 (by decide))
    refine G.iconst (v := 1) (by decide) dX7_manyParts_38 ?_
    refine G.iadd dX7_manyParts_39 ?_
    rw [nI_1]
    refine G.ist2 (by decide) rfl dX7_manyParts_40 ?_
    refine G.inc3 (d := 1) (by decide) (by decide) rfl dX7_manyParts_41 ?_
    refine G.goto (tgt := 7) (by decide) dX7_manyParts_44 ?_
    rw [nI_1, ← hp1]
    refine ih _ n1 (by omega) n4 (by rw [n4, e3]; omega) _ ?_
    rw [n4, e3]
    exact ih _ n2 (by omega) n5 (by rw [n5, ← n3]; exact hE) _ (by rw [n5, ← n3]; rw [show acc + 1 + tsz B (g + 1) + tsz B (tE B (g + 1)) = acc + tsz B g by rw [tsz_5 hn hc]; omega]; exact K)
  · obtain ⟨k1, n1, n2, n3⟩ := nd_6 hn hc
    have hp1 := pN_6 hn hc
    refine G.iload_n (k := 3) rfl dX7_manyParts_7 ?_
    refine G.bipush (v := 30) (by decide) dX7_manyParts_8 ?_
    refine G.iload_n (k := 1) rfl dX7_manyParts_10 ?_
    refine G.imul dX7_manyParts_11 ?_
    rw [nu_30']
    refine G.aload_n (k := 0) rfl dX7_manyParts_12 ?_
    refine G.getr (j := 7) rfl gci_X7 (by decide) rfl fl_X7_28 dX7_manyParts_13 ?_
    refine G.iload_n (k := 1) rfl dX7_manyParts_16 ?_
    refine G.ialdN (k := t) rfl (rfl) (by omega) (by decide) dX7_manyParts_17 ?_
    rw [hM7]
    refine G.iadd dX7_manyParts_18 ?_
    rw [nI_add]
    refine G.icmp_ge (tgt := 47) (by decide) dX7_manyParts_19 (fun c_19 => absurd c_19 (nI_ge (by omega) (by omega))) (fun c_19 => ?_)
    refine G.iload_n (k := 2) rfl dX7_manyParts_22 ?_
    refine G.aload_n (k := 0) rfl dX7_manyParts_23 ?_
    refine G.getr (j := 8) rfl gci_X7 (by decide) rfl fl_X7_31 dX7_manyParts_24 ?_
    refine G.iload_n (k := 3) rfl dX7_manyParts_27 ?_
    refine G.ialdN (k := pN B g) rfl (rfl) (hlt.2.2) (by decide) dX7_manyParts_28 ?_
    rw [show σ 8 (pN B g) = 5 by rw [hPr.1, hc]; rfl]
    refine G.bipush (v := 6) (by decide) dX7_manyParts_29 ?_
    refine G.icmp_ne (tgt := 38) (by decide) dX7_manyParts_31 (fun c_31 => ?_) (fun c_31 => absurd c_31 (by decide))
    refine G.iconst (v := 1) (by decide) dX7_manyParts_38 ?_
    refine G.iadd dX7_manyParts_39 ?_
    rw [nI_1]
    refine G.ist2 (by decide) rfl dX7_manyParts_40 ?_
    refine G.inc3 (d := 1) (by decide) (by decide) rfl dX7_manyParts_41 ?_
    refine G.goto (tgt := 7) (by decide) dX7_manyParts_44 ?_
    rw [nI_1, ← hp1]
    exact ih _ n1 (by omega) n3 (by rw [n3, ← n2]; exact hE) _ (by rw [n3, ← n2]; rw [show acc + 1 + tsz B (g + 2) = acc + tsz B g by rw [tsz_6 hn hc]; omega]; exact K)
  · obtain ⟨k1, k2, n1, n2, n3⟩ := nd_7 hn hc
    have hp1 := pN_7 hn hc
    refine G.iload_n (k := 3) rfl dX7_manyParts_7 ?_
    refine G.bipush (v := 30) (by decide) dX7_manyParts_8 ?_
    refine G.iload_n (k := 1) rfl dX7_manyParts_10 ?_
    refine G.imul dX7_manyParts_11 ?_
    rw [nu_30']
    refine G.aload_n (k := 0) rfl dX7_manyParts_12 ?_
    refine G.getr (j := 7) rfl gci_X7 (by decide) rfl fl_X7_28 dX7_manyParts_13 ?_
    refine G.iload_n (k := 1) rfl dX7_manyParts_16 ?_
    refine G.ialdN (k := t) rfl (rfl) (by omega) (by decide) dX7_manyParts_17 ?_
    rw [hM7]
    refine G.iadd dX7_manyParts_18 ?_
    rw [nI_add]
    refine G.icmp_ge (tgt := 47) (by decide) dX7_manyParts_19 (fun c_19 => absurd c_19 (nI_ge (by omega) (by omega))) (fun c_19 => ?_)
    refine G.iload_n (k := 2) rfl dX7_manyParts_22 ?_
    refine G.aload_n (k := 0) rfl dX7_manyParts_23 ?_
    refine G.getr (j := 8) rfl gci_X7 (by decide) rfl fl_X7_31 dX7_manyParts_24 ?_
    refine G.iload_n (k := 3) rfl dX7_manyParts_27 ?_
    refine G.ialdN (k := pN B g) rfl (rfl) (hlt.2.2) (by decide) dX7_manyParts_28 ?_
    rw [show σ 8 (pN B g) = 6 by rw [hPr.1, hc]; rfl]
    refine G.bipush (v := 6) (by decide) dX7_manyParts_29 ?_
    refine G.icmp_ne (tgt := 38) (by decide) dX7_manyParts_31 (fun c_31 => absurd rfl c_31) (fun c_31 => ?_)
    refine G.iconst (v := 0) (by decide) dX7_manyParts_34 ?_
    refine G.goto (tgt := 39) (by decide) dX7_manyParts_35 ?_
    refine G.iadd dX7_manyParts_39 ?_
    rw [Int32.add_zero]
    refine G.ist2 (by decide) rfl dX7_manyParts_40 ?_
    refine G.inc3 (d := 1) (by decide) (by decide) rfl dX7_manyParts_41 ?_
    refine G.goto (tgt := 7) (by decide) dX7_manyParts_44 ?_
    rw [nI_1, ← hp1]
    exact ih _ n1 (by omega) n3 (by rw [n3, ← n2]; exact hE) _ (by rw [n3, ← n2]; rw [show acc + tsz B (g + 3) = acc + tsz B g by rw [tsz_7 hn hc]]; exact K)
theorem wl_0 {ln B : Nat → Nat} {t : Nat} (hw : wlA ln B t = true) (ht : t < 8) (h30 : ln t ≤ 30) : nd B ln (30 * t) ∧ tE B (30 * t) = 30 * t + ln t ∧ 30 * t / 30 = t ∧ pN B (30 * t) = 30 * t ∧ pt B t (30 * t + ln t) = 30 * t + cst B (30 * t) (ln t) := by
  obtain ⟨h1, h2⟩ := nd_0 ht (wlA_iff.mp hw) h30
  exact ⟨h1, h2, by omega, pN_p (B := B) (t := t) (p := 0) (by decide), pt_p _ _ _⟩
set_option maxHeartbeats 4000000 in
set_option maxRecDepth 100000 in
theorem c_X7_manyParts {ln B : Nat → Nat} {t : Nat} (hT : TM σ ln B) (hM : MR σ ln B) (ht : t < 8) : GM (XM l D cA ad) mX7_manyParts [.ref 0, .int (nI t)] σ (g_ri (fun r τ => r = (if wlA ln B t = true then nI (tsz B (30 * t)) else 0) ∧ τ = σ)) := by
  refine GM.of (ls := [some (.ref 0), some (.int (nI t)), none, none]) (by decide) (Nat.le_of_ble_eq_true rfl) rfl ?_
  have h30 : ln t ≤ 30 := Nat.le_trans (hT t (by omega)).2.1 (tcap_le t)
  have hle := cst_le (B := B) (s := 30 * t) (ln t)
  refine G.iconst (v := 0) (by decide) dX7_manyParts_0 ?_
  refine G.ist2 (by decide) rfl dX7_manyParts_1 ?_
  refine G.bipush (v := 30) (by decide) dX7_manyParts_2 ?_
  refine G.iload_n (k := 1) rfl dX7_manyParts_4 ?_
  refine G.imul dX7_manyParts_5 ?_
  rw [nu_30']
  refine G.ist3 (by decide) rfl dX7_manyParts_6 ?_
  by_cases hw : wlA ln B t = true
  · rw [if_pos hw]
    obtain ⟨w1, w2, w3, w4, w5⟩ := wl_0 hw ht h30
    have hp7 := (MR_P hM ht).1
    rw [if_pos hw] at hp7
    have e := w_X7_manyParts (l := l) (D := D) (cA := cA) (ad := ad) (Q := g_ri (fun r τ => r = nI (tsz B (30 * t)) ∧ τ = σ)) (fun g hg => MR_nd hM hg) ht (by omega) hp7 (30 * t) w1 (by rw [w2, w3, w5]; omega) 0
    rw [w4, w2, w3, w5, Nat.zero_add] at e
    refine e ?_
    refine G.iload_n (k := 3) rfl dX7_manyParts_7 ?_
    refine G.bipush (v := 30) (by decide) dX7_manyParts_8 ?_
    refine G.iload_n (k := 1) rfl dX7_manyParts_10 ?_
    refine G.imul dX7_manyParts_11 ?_
    rw [nu_30']
    refine G.aload_n (k := 0) rfl dX7_manyParts_12 ?_
    refine G.getr (j := 7) rfl gci_X7 (by decide) rfl fl_X7_28 dX7_manyParts_13 ?_
    refine G.iload_n (k := 1) rfl dX7_manyParts_16 ?_
    refine G.ialdN (k := t) rfl (rfl) (by omega) (by decide) dX7_manyParts_17 ?_
    rw [hp7]
    refine G.iadd dX7_manyParts_18 ?_
    rw [nI_add]
    refine G.icmp_ge (tgt := 47) (by decide) dX7_manyParts_19 (fun c_19 => ?_) (fun c_19 => absurd (Int32.le_refl _) c_19)
    refine G.iload_n (k := 2) rfl dX7_manyParts_47 ?_
    exact G.iret rfl (⟨rfl, rfl⟩) dX7_manyParts_48
  · rw [if_neg hw]
    have hp7 := (MR_P hM ht).1
    rw [if_neg hw] at hp7
    refine G.iload_n (k := 3) rfl dX7_manyParts_7 ?_
    refine G.bipush (v := 30) (by decide) dX7_manyParts_8 ?_
    refine G.iload_n (k := 1) rfl dX7_manyParts_10 ?_
    refine G.imul dX7_manyParts_11 ?_
    rw [nu_30']
    refine G.aload_n (k := 0) rfl dX7_manyParts_12 ?_
    refine G.getr (j := 7) rfl gci_X7 (by decide) rfl fl_X7_28 dX7_manyParts_13 ?_
    refine G.iload_n (k := 1) rfl dX7_manyParts_16 ?_
    refine G.ialdN (k := t) rfl (rfl) (by omega) (by decide) dX7_manyParts_17 ?_
    rw [hp7]
    refine G.iadd dX7_manyParts_18 ?_
    rw [show nI (30 * t) + nI 0 = nI (30 * t) from Int32.add_zero _]
    refine G.icmp_ge (tgt := 47) (by decide) dX7_manyParts_19 (fun c_19 => ?_) (fun c_19 => absurd (Int32.le_refl _) c_19)
    refine G.iload_n (k := 2) rfl dX7_manyParts_47 ?_
    exact G.iret rfl (⟨rfl, rfl⟩) dX7_manyParts_48
set_option maxHeartbeats 4000000 in
set_option maxRecDepth 100000 in
theorem w_X7_unknownsIn {Q : Option Value → gS → Prop} {ln B : Nat → Nat} {P E : Nat} (hN : ∀ g, nd B ln g → PrM σ B g) (hP : P < 240) (hE2 : E ≤ 240) (hE11 : σ 11 P = nI E) : ∀ g, nd B ln g → pt B (g / 30) (tE B g) ≤ E → ∀ acc, G (XM l D cA ad) mX7_unknownsIn Q 4 [some (.ref 0), some (.int (nI P)), some (.int (nI (acc ||| tuk B g))), some (.int (nI (pt B (g / 30) (tE B g))))] [] σ → G (XM l D cA ad) mX7_unknownsIn Q 4 [some (.ref 0), some (.int (nI P)), some (.int (nI (acc))), some (.int (nI (pN B g)))] [] σ := by
  refine nd_ind ?_
  intro g hn ih hE acc K
  replace ih : ∀ h, nd B ln h → g < h → h / 30 = g / 30 → pt B (h / 30) (tE B h) ≤ E → ∀ acc, G (XM l D cA ad) mX7_unknownsIn Q 4 [some (.ref 0), some (.int (nI P)), some (.int (nI (acc ||| tuk B h))), some (.int (nI (pt B (h / 30) (tE B h))))] [] σ → G (XM l D cA ad) mX7_unknownsIn Q 4 [some (.ref 0), some (.int (nI P)), some (.int (nI (acc))), some (.int (nI (pN B h)))] [] σ := ih
  have hlt := pN_lt hn
  have hgt := pt_gt hn
  have hPr := hN g hn
  have hkd := nd_kd hn
  have cc : kd (B g) = 1 ∨ kd (B g) = 2 ∨ kd (B g) = 3 ∨ kd (B g) = 4 ∨ kd (B g) = 5 ∨ kd (B g) = 6 ∨ kd (B g) = 7 := by omega
  rcases cc with hc | hc | hc | hc | hc | hc | hc
  · have hp1 : pt B (g / 30) (tE B g) = pN B g + 1 := by rw [nd_leaf (by omega)]; exact pt_leaf hn
    refine G.iload_n (k := 3) rfl dX7_unknownsIn_4 ?_
    refine G.aload_n (k := 0) rfl dX7_unknownsIn_5 ?_
    refine G.getr (j := 11) rfl gci_X7 (by decide) rfl fl_X7_40 dX7_unknownsIn_6 ?_
    refine G.iload_n (k := 1) rfl dX7_unknownsIn_9 ?_
    refine G.ialdN (k := P) rfl (rfl) (hP) (by decide) dX7_unknownsIn_10 ?_
    rw [hE11]
    refine G.icmp_ge (tgt := 45) (by decide) dX7_unknownsIn_11 (fun c_11 => absurd c_11 (nI_ge (by omega) (by omega))) (fun c_11 => ?_)
    refine G.iload_n (k := 2) rfl dX7_unknownsIn_14 ?_
    refine G.aload_n (k := 0) rfl dX7_unknownsIn_15 ?_
    refine G.getr (j := 8) rfl gci_X7 (by decide) rfl fl_X7_31 dX7_unknownsIn_16 ?_
    refine G.iload_n (k := 3) rfl dX7_unknownsIn_19 ?_
    refine G.ialdN (k := pN B g) rfl (rfl) (hlt.2.2) (by decide) dX7_unknownsIn_20 ?_
    rw [show σ 8 (pN B g) = 0 by rw [hPr.1, hc]; rfl]
    refine G.iconst (v := 1) (by decide) dX7_unknownsIn_21 ?_
    refine G.icmp_ne (tgt := 36) (by decide) dX7_unknownsIn_22 (fun c_22 => ?_) (fun c_22 => absurd c_22 (by decide))
    refine G.iconst (v := 0) (by decide) dX7_unknownsIn_36 ?_
    refine G.ior dX7_unknownsIn_37 ?_
    rw [show (0 : Int32) = nI 0 from rfl, nu_or, Nat.or_zero]
    refine G.ist2 (by decide) rfl dX7_unknownsIn_38 ?_
    refine G.inc3 (d := 1) (by decide) (by decide) rfl dX7_unknownsIn_39 ?_
    refine G.goto (tgt := 4) (by decide) dX7_unknownsIn_42 ?_
    rw [show tuk B g = 0 by rw [tuk_1 (by omega), if_neg (by omega)], Nat.or_zero] at K
    rw [nI_1, ← hp1]
    exact K
  · have hp1 : pt B (g / 30) (tE B g) = pN B g + 1 := by rw [nd_leaf (by omega)]; exact pt_leaf hn
    refine G.iload_n (k := 3) rfl dX7_unknownsIn_4 ?_
    refine G.aload_n (k := 0) rfl dX7_unknownsIn_5 ?_
    refine G.getr (j := 11) rfl gci_X7 (by decide) rfl fl_X7_40 dX7_unknownsIn_6 ?_
    refine G.iload_n (k := 1) rfl dX7_unknownsIn_9 ?_
    refine G.ialdN (k := P) rfl (rfl) (hP) (by decide) dX7_unknownsIn_10 ?_
    rw [hE11]
    refine G.icmp_ge (tgt := 45) (by decide) dX7_unknownsIn_11 (fun c_11 => absurd c_11 (nI_ge (by omega) (by omega))) (fun c_11 => ?_)
    refine G.iload_n (k := 2) rfl dX7_unknownsIn_14 ?_
    refine G.aload_n (k := 0) rfl dX7_unknownsIn_15 ?_
    refine G.getr (j := 8) rfl gci_X7 (by decide) rfl fl_X7_31 dX7_unknownsIn_16 ?_
    refine G.iload_n (k := 3) rfl dX7_unknownsIn_19 ?_
    refine G.ialdN (k := pN B g) rfl (rfl) (hlt.2.2) (by decide) dX7_unknownsIn_20 ?_
    rw [show σ 8 (pN B g) = 1 by rw [hPr.1, hc]; rfl]
    refine G.iconst (v := 1) (by decide) dX7_unknownsIn_21 ?_
    refine G.icmp_ne (tgt := 36) (by decide) dX7_unknownsIn_22 (fun c_22 => absurd rfl c_22) (fun c_22 => ?_)
    refine G.iconst (v := 1) (by decide) dX7_unknownsIn_25 ?_
    refine G.aload_n (k := 0) rfl dX7_unknownsIn_26 ?_
    refine G.getr (j := 9) rfl gci_X7 (by decide) rfl fl_X7_34 dX7_unknownsIn_27 ?_
    refine G.iload_n (k := 3) rfl dX7_unknownsIn_30 ?_
    refine G.ialdN (k := pN B g) rfl (rfl) (hlt.2.2) (by decide) dX7_unknownsIn_31 ?_
    rw [hPr.2.1, show nmr B g = B g - 80 by rw [nmr, if_neg (by omega), if_pos hc]]
    refine G.ishl dX7_unknownsIn_32 ?_
    rw [(sh1_u _ (l80 hc)).1]
    refine G.goto (tgt := 37) (by decide) dX7_unknownsIn_33 ?_
    refine G.ior dX7_unknownsIn_37 ?_
    rw [nu_or]
    refine G.ist2 (by decide) rfl dX7_unknownsIn_38 ?_
    refine G.inc3 (d := 1) (by decide) (by decide) rfl dX7_unknownsIn_39 ?_
    refine G.goto (tgt := 4) (by decide) dX7_unknownsIn_42 ?_
    rw [show tuk B g = 2 ^ (B g - 80) by rw [tuk_1 (by omega), if_pos hc]] at K
    rw [nI_1, ← hp1]
    exact K
  · have hp1 : pt B (g / 30) (tE B g) = pN B g + 1 := by rw [nd_leaf (by omega)]; exact pt_leaf hn
    refine G.iload_n (k := 3) rfl dX7_unknownsIn_4 ?_
    refine G.aload_n (k := 0) rfl dX7_unknownsIn_5 ?_
    refine G.getr (j := 11) rfl gci_X7 (by decide) rfl fl_X7_40 dX7_unknownsIn_6 ?_
    refine G.iload_n (k := 1) rfl dX7_unknownsIn_9 ?_
    refine G.ialdN (k := P) rfl (rfl) (hP) (by decide) dX7_unknownsIn_10 ?_
    rw [hE11]
    refine G.icmp_ge (tgt := 45) (by decide) dX7_unknownsIn_11 (fun c_11 => absurd c_11 (nI_ge (by omega) (by omega))) (fun c_11 => ?_)
    refine G.iload_n (k := 2) rfl dX7_unknownsIn_14 ?_
    refine G.aload_n (k := 0) rfl dX7_unknownsIn_15 ?_
    refine G.getr (j := 8) rfl gci_X7 (by decide) rfl fl_X7_31 dX7_unknownsIn_16 ?_
    refine G.iload_n (k := 3) rfl dX7_unknownsIn_19 ?_
    refine G.ialdN (k := pN B g) rfl (rfl) (hlt.2.2) (by decide) dX7_unknownsIn_20 ?_
    rw [show σ 8 (pN B g) = 2 by rw [hPr.1, hc]; rfl]
    refine G.iconst (v := 1) (by decide) dX7_unknownsIn_21 ?_
    refine G.icmp_ne (tgt := 36) (by decide) dX7_unknownsIn_22 (fun c_22 => ?_) (fun c_22 => absurd c_22 (by decide))
    refine G.iconst (v := 0) (by decide) dX7_unknownsIn_36 ?_
    refine G.ior dX7_unknownsIn_37 ?_
    rw [show (0 : Int32) = nI 0 from rfl, nu_or, Nat.or_zero]
    refine G.ist2 (by decide) rfl dX7_unknownsIn_38 ?_
    refine G.inc3 (d := 1) (by decide) (by decide) rfl dX7_unknownsIn_39 ?_
    refine G.goto (tgt := 4) (by decide) dX7_unknownsIn_42 ?_
    rw [show tuk B g = 0 by rw [tuk_1 (by omega), if_neg (by omega)], Nat.or_zero] at K
    rw [nI_1, ← hp1]
    exact K
  · obtain ⟨n1, n2, n3⟩ := nd_4 hn hc
    have hp1 := pN_45 hn n1 n3
    refine G.iload_n (k := 3) rfl dX7_unknownsIn_4 ?_
    refine G.aload_n (k := 0) rfl dX7_unknownsIn_5 ?_
    refine G.getr (j := 11) rfl gci_X7 (by decide) rfl fl_X7_40 dX7_unknownsIn_6 ?_
    refine G.iload_n (k := 1) rfl dX7_unknownsIn_9 ?_
    refine G.ialdN (k := P) rfl (rfl) (hP) (by decide) dX7_unknownsIn_10 ?_
    rw [hE11]
    refine G.icmp_ge (tgt := 45) (by decide) dX7_unknownsIn_11 (fun c_11 => absurd c_11 (nI_ge (by omega) (by omega))) (fun c_11 => ?_)
    refine G.iload_n (k := 2) rfl dX7_unknownsIn_14 ?_
    refine G.aload_n (k := 0) rfl dX7_unknownsIn_15 ?_
    refine G.getr (j := 8) rfl gci_X7 (by decide) rfl fl_X7_31 dX7_unknownsIn_16 ?_
    refine G.iload_n (k := 3) rfl dX7_unknownsIn_19 ?_
    refine G.ialdN (k := pN B g) rfl (rfl) (hlt.2.2) (by decide) dX7_unknownsIn_20 ?_
    rw [show σ 8 (pN B g) = 3 by rw [hPr.1, hc]; rfl]
    refine G.iconst (v := 1) (by decide) dX7_unknownsIn_21 ?_
    refine G.icmp_ne (tgt := 36) (by decide) dX7_unknownsIn_22 (fun c_22 => ?_) (fun c_22 => absurd c_22 (by decide))
    refine G.iconst (v := 0) (by decide) dX7_unknownsIn_36 ?_
    refine G.ior dX7_unknownsIn_37 ?_
    rw [show (0 : Int32) = nI 0 from rfl, nu_or, Nat.or_zero]
    refine G.ist2 (by decide) rfl dX7_unknownsIn_38 ?_
    refine G.inc3 (d := 1) (by decide) (by decide) rfl dX7_unknownsIn_39 ?_
    refine G.goto (tgt := 4) (by decide) dX7_unknownsIn_42 ?_
    rw [nI_1, ← hp1]
    exact ih _ n1 (by omega) n3 (by rw [n3, ← n2]; exact hE) _ (by rw [n3, ← n2]; rw [← tuk_4 hn hc]; exact K)
  · obtain ⟨n1, n2, n3, n4, n5⟩ := nd_5 hn hc
    have hp1 := pN_45 hn n1 n4
    have e1 := nd_E n1
    have e2 := pt_gt n2
    rw [n5, ← n3] at e2
    have e3 : pt B (g / 30) (tE B (g + 1)) = pN B (tE B (g + 1)) := pt_in n5
    refine G.iload_n (k := 3) rfl dX7_unknownsIn_4 ?_
    refine G.aload_n (k := 0) rfl dX7_unknownsIn_5 ?_
    refine G.getr (j := 11) rfl gci_X7 (by decide) rfl fl_X7_40 dX7_unknownsIn_6 ?_
    refine G.iload_n (k := 1) rfl dX7_unknownsIn_9 ?_
    refine G.ialdN (k := P) rfl (rfl) (hP) (by decide) dX7_unknownsIn_10 ?_
    rw [hE11]
    refine G.icmp_ge (tgt := 45) (by decide) dX7_unknownsIn_11 (fun c_11 => absurd c_11 (nI_ge (by omega) (by omega))) (fun c_11 => ?_)
    refine G.iload_n (k := 2) rfl dX7_unknownsIn_14 ?_
    refine G.aload_n (k := 0) rfl dX7_unknownsIn_15 ?_
    refine G.getr (j := 8) rfl gci_X7 (by decide) rfl fl_X7_31 dX7_unknownsIn_16 ?_
    refine G.iload_n (k := 3) rfl dX7_unknownsIn_19 ?_
    refine G.ialdN (k := pN B g) rfl (rfl) (hlt.2.2) (by decide) dX7_unknownsIn_20 ?_
    rw [show σ 8 (pN B g) = 4 by rw [hPr.1, hc]; rfl]
    refine G.iconst (v := 1) (by decide) dX7_unknownsIn_21 ?_
    refine G.icmp_ne (tgt := 36) (by decide) dX7_unknownsIn_22 (fun c_22 => ?_) (fun c_22 => absurd c_22 (by decide))
    refine G.iconst (v := 0) (by decide) dX7_unknownsIn_36 ?_
    refine G.ior dX7_unknownsIn_37 ?_
    rw [show (0 : Int32) = nI 0 from rfl, nu_or, Nat.or_zero]
    refine G.ist2 (by decide) rfl dX7_unknownsIn_38 ?_
    refine G.inc3 (d := 1) (by decide) (by decide) rfl dX7_unknownsIn_39 ?_
    refine G.goto (tgt := 4) (by decide) dX7_unknownsIn_42 ?_
    rw [nI_1, ← hp1]
    refine ih _ n1 (by omega) n4 (by rw [n4, e3]; omega) _ ?_
    rw [n4, e3]
    exact ih _ n2 (by omega) n5 (by rw [n5, ← n3]; exact hE) _ (by rw [n5, ← n3]; rw [show acc ||| tuk B (g + 1) ||| tuk B (tE B (g + 1)) = acc ||| tuk B g by rw [tuk_5 hn hc, Nat.or_assoc]]; exact K)
  · obtain ⟨k1, n1, n2, n3⟩ := nd_6 hn hc
    have hp1 := pN_6 hn hc
    refine G.iload_n (k := 3) rfl dX7_unknownsIn_4 ?_
    refine G.aload_n (k := 0) rfl dX7_unknownsIn_5 ?_
    refine G.getr (j := 11) rfl gci_X7 (by decide) rfl fl_X7_40 dX7_unknownsIn_6 ?_
    refine G.iload_n (k := 1) rfl dX7_unknownsIn_9 ?_
    refine G.ialdN (k := P) rfl (rfl) (hP) (by decide) dX7_unknownsIn_10 ?_
    rw [hE11]
    refine G.icmp_ge (tgt := 45) (by decide) dX7_unknownsIn_11 (fun c_11 => absurd c_11 (nI_ge (by omega) (by omega))) (fun c_11 => ?_)
    refine G.iload_n (k := 2) rfl dX7_unknownsIn_14 ?_
    refine G.aload_n (k := 0) rfl dX7_unknownsIn_15 ?_
    refine G.getr (j := 8) rfl gci_X7 (by decide) rfl fl_X7_31 dX7_unknownsIn_16 ?_
    refine G.iload_n (k := 3) rfl dX7_unknownsIn_19 ?_
    refine G.ialdN (k := pN B g) rfl (rfl) (hlt.2.2) (by decide) dX7_unknownsIn_20 ?_
    rw [show σ 8 (pN B g) = 5 by rw [hPr.1, hc]; rfl]
    refine G.iconst (v := 1) (by decide) dX7_unknownsIn_21 ?_
    refine G.icmp_ne (tgt := 36) (by decide) dX7_unknownsIn_22 (fun c_22 => ?_) (fun c_22 => absurd c_22 (by decide))
    refine G.iconst (v := 0) (by decide) dX7_unknownsIn_36 ?_
    refine G.ior dX7_unknownsIn_37 ?_
    rw [show (0 : Int32) = nI 0 from rfl, nu_or, Nat.or_zero]
    refine G.ist2 (by decide) rfl dX7_unknownsIn_38 ?_
    refine G.inc3 (d := 1) (by decide) (by decide) rfl dX7_unknownsIn_39 ?_
    refine G.goto (tgt := 4) (by decide) dX7_unknownsIn_42 ?_
    rw [nI_1, ← hp1]
    exact ih _ n1 (by omega) n3 (by rw [n3, ← n2]; exact hE) _ (by rw [n3, ← n2]; rw [← tuk_6 hn hc]; exact K)
  · obtain ⟨k1, k2, n1, n2, n3⟩ := nd_7 hn hc
    have hp1 := pN_7 hn hc
    refine G.iload_n (k := 3) rfl dX7_unknownsIn_4 ?_
    refine G.aload_n (k := 0) rfl dX7_unknownsIn_5 ?_
    refine G.getr (j := 11) rfl gci_X7 (by decide) rfl fl_X7_40 dX7_unknownsIn_6 ?_
    refine G.iload_n (k := 1) rfl dX7_unknownsIn_9 ?_
    refine G.ialdN (k := P) rfl (rfl) (hP) (by decide) dX7_unknownsIn_10 ?_
    rw [hE11]
    refine G.icmp_ge (tgt := 45) (by decide) dX7_unknownsIn_11 (fun c_11 => absurd c_11 (nI_ge (by omega) (by omega))) (fun c_11 => ?_)
    refine G.iload_n (k := 2) rfl dX7_unknownsIn_14 ?_
    refine G.aload_n (k := 0) rfl dX7_unknownsIn_15 ?_
    refine G.getr (j := 8) rfl gci_X7 (by decide) rfl fl_X7_31 dX7_unknownsIn_16 ?_
    refine G.iload_n (k := 3) rfl dX7_unknownsIn_19 ?_
    refine G.ialdN (k := pN B g) rfl (rfl) (hlt.2.2) (by decide) dX7_unknownsIn_20 ?_
    rw [show σ 8 (pN B g) = 6 by rw [hPr.1, hc]; rfl]
    refine G.iconst (v := 1) (by decide) dX7_unknownsIn_21 ?_
    refine G.icmp_ne (tgt := 36) (by decide) dX7_unknownsIn_22 (fun c_22 => ?_) (fun c_22 => absurd c_22 (by decide))
    refine G.iconst (v := 0) (by decide) dX7_unknownsIn_36 ?_
    refine G.ior dX7_unknownsIn_37 ?_
    rw [show (0 : Int32) = nI 0 from rfl, nu_or, Nat.or_zero]
    refine G.ist2 (by decide) rfl dX7_unknownsIn_38 ?_
    refine G.inc3 (d := 1) (by decide) (by decide) rfl dX7_unknownsIn_39 ?_
    refine G.goto (tgt := 4) (by decide) dX7_unknownsIn_42 ?_
    rw [nI_1, ← hp1]
    exact ih _ n1 (by omega) n3 (by rw [n3, ← n2]; exact hE) _ (by rw [n3, ← n2]; rw [← tuk_7 hn hc]; exact K)
set_option maxHeartbeats 4000000 in
set_option maxRecDepth 100000 in
theorem c_X7_unknownsIn {ln B : Nat → Nat} {g : Nat} (hN : ∀ g, nd B ln g → PrM σ B g) (hn : nd B ln g) : GM (XM l D cA ad) mX7_unknownsIn [.ref 0, .int (nI (pN B g))] σ (g_ri (fun r τ => r = nI (tuk B g) ∧ τ = σ)) := by
  refine GM.of (ls := [some (.ref 0), some (.int (nI (pN B g))), none, none]) (by decide) (Nat.le_of_ble_eq_true rfl) rfl ?_
  refine G.iconst (v := 0) (by decide) dX7_unknownsIn_0 ?_
  refine G.ist2 (by decide) rfl dX7_unknownsIn_1 ?_
  refine G.iload_n (k := 1) rfl dX7_unknownsIn_2 ?_
  refine G.ist3 (by decide) rfl dX7_unknownsIn_3 ?_
  have hlt := pN_lt hn
  have hgt := pt_gt hn
  have hg := nd_lt hn
  have e := w_X7_unknownsIn (l := l) (D := D) (cA := cA) (ad := ad) (Q := g_ri (fun r τ => r = nI (tuk B g) ∧ τ = σ)) hN hlt.2.2 (by omega) (hN g hn).2.2.2 g hn (Nat.le_refl _) 0
  rw [Nat.zero_or] at e
  refine e ?_
  refine G.iload_n (k := 3) rfl dX7_unknownsIn_4 ?_
  refine G.aload_n (k := 0) rfl dX7_unknownsIn_5 ?_
  refine G.getr (j := 11) rfl gci_X7 (by decide) rfl fl_X7_40 dX7_unknownsIn_6 ?_
  refine G.iload_n (k := 1) rfl dX7_unknownsIn_9 ?_
  refine G.ialdN (k := pN B g) rfl (rfl) (hlt.2.2) (by decide) dX7_unknownsIn_10 ?_
  rw [(hN g hn).2.2.2]
  refine G.icmp_ge (tgt := 45) (by decide) dX7_unknownsIn_11 (fun c_11 => ?_) (fun c_11 => absurd (Int32.le_refl _) c_11)
  refine G.iload_n (k := 2) rfl dX7_unknownsIn_45 ?_
  exact G.iret rfl (⟨rfl, rfl⟩) dX7_unknownsIn_46
def dI (σ0 σ : gS) (B : Nat → Nat) (t n p : Nat) : Prop := (∀ k, k ≠ 18 → σ k = σ0 k) ∧ ∀ q, p ≤ q → q < n → stb B (30 * t) q = true → σ 18 (30 * t + cst B (30 * t) q) = nI (tdp B (30 * t + q))
theorem dI_s {σ0 σ : gS} {B : Nat → Nat} {t n p : Nat} (h : dI σ0 σ B t n (p + 1)) (hs : stb B (30 * t) p = true) : dI σ0 (up2 σ 18 (30 * t + cst B (30 * t) p) (nI (tdp B (30 * t + p)))) B t n p := by
  refine ⟨fun k hk => by rw [up2_ne _ _ _ hk]; exact h.1 k hk, fun q h1 h2 h3 => ?_⟩
  by_cases e : q = p
  · subst e; rw [up2_at]
  · have := cst_ne h3 hs e
    rw [up2_r, if_neg (by omega)]
    exact h.2 q (by omega) h2 h3
theorem dI_w {σ0 σ : gS} {B : Nat → Nat} {t n p : Nat} (h : dI σ0 σ B t n (p + 1)) (hs : stb B (30 * t) p = false) : dI σ0 σ B t n p := by
  refine ⟨h.1, fun q h1 h2 h3 => ?_⟩
  have : q ≠ p := fun e => by rw [e, hs] at h3; cases h3
  exact h.2 q (by omega) h2 h3
theorem dI_F {σ0 σ : gS} {B : Nat → Nat} {t n p : Nat} (h : dI σ0 σ B t n p) : aF σ0 σ := ⟨fun k _ _ _ h1 _ => h.1 k h1, fun i _ _ => by rw [h.1 0 (by decide)]⟩
theorem nu_gr {a b : Nat} (ha : a < 1000) (hb : b < 1000) : (if nI b < nI a then nI a else nI b) = nI (max a b) := by
  by_cases h : b < a
  · rw [if_pos ((nI_ltI (by omega) (by omega)).mpr h), Nat.max_eq_left (by omega)]
  · rw [if_neg (fun z => h ((nI_ltI (by omega) (by omega)).mp z)), Nat.max_eq_right (by omega)]
set_option maxHeartbeats 4000000 in
set_option maxRecDepth 100000 in
theorem l_X7_longest {ln B : Nat → Nat} {t : Nat} {y3 : Option Value} (hN : ∀ g, nd B ln g → PrM σ0 B g) (ht : t < 8) (hn : ln t ≤ 30) (h7 : σ0 7 t = nI (if wlA ln B t = true then cst B (30 * t) (ln t) else 0)) (hw : wlA ln B t = true) : ∀ p (σ : gS) (y3 : Option Value), dI σ0 σ B t (ln t) p → p ≤ ln t → G (XM l D cA ad) mX7_longest (g_ri (fun r τ => r = (if wlA ln B t = true then nI (tdp B (30 * t)) else 0) ∧ aF σ0 τ)) 14 [some (.ref 0), some (.int (nI t)), some (.int (nI (30 * t + cst B (30 * t) p) + (-1))), y3] [] σ := by
  have hwl := wlA_iff.mp hw
  have c1 := cst_1 hw
  have hle0 := cst_le (B := B) (s := 30 * t) (ln t)
  rw [if_pos hw] at h7
  intro p
  induction p with
  | zero =>
    intro σ y3 hI hp
    have e0 : nI (30 * t + cst B (30 * t) 0) + (-1) < nI (30 * t) := by
      rw [show nI (30 * t + cst B (30 * t) 0) + (-1) = nI (30 * t) - 1 from (Int32.sub_eq_add_neg ..).symm]
      exact nu_plt (by omega)
    have hd0 : σ 18 (30 * t) = nI (tdp B (30 * t)) := hI.2 0 (Nat.le_refl _) hwl.1 (stb_1 (op := 0) rfl)
    refine G.iload_n (k := 2) rfl dX7_longest_14 ?_
    refine G.bipush (v := 30) (by decide) dX7_longest_15 ?_
    refine G.iload_n (k := 1) rfl dX7_longest_17 ?_
    refine G.imul dX7_longest_18 ?_
    rw [nu_30']
    refine G.icmp_lt (tgt := 112) (by decide) dX7_longest_19 (fun c_19 => ?_) (fun c_19 => absurd e0 c_19)
    refine G.aload_n (k := 0) rfl dX7_longest_112 ?_
    refine G.getr (j := 7) rfl gci_X7 (by decide) rfl fl_X7_28 dX7_longest_113 ?_
    refine G.iload_n (k := 1) rfl dX7_longest_116 ?_
    refine G.ialdN (k := t) rfl (rfl) (by omega) (by decide) dX7_longest_117 ?_
    rw [hI.1 7 (by decide), h7]
    refine G.if_ne (tgt := 125) (by decide) dX7_longest_118 (fun c_118 => ?_) (fun c_118 => absurd c_118 (fun e => by have := (nI_eq (show cst B (30 * t) (ln t) < 2 ^ 31 by omega) (show 0 < 2 ^ 31 by decide)).mp e; omega))
    refine G.aload_n (k := 0) rfl dX7_longest_125 ?_
    refine G.getr (j := 21) rfl gci_X7 (by decide) rfl fl_X7_61 dX7_longest_126 ?_
    refine G.bipush (v := 30) (by decide) dX7_longest_129 ?_
    refine G.iload_n (k := 1) rfl dX7_longest_131 ?_
    refine G.imul dX7_longest_132 ?_
    rw [nu_30']
    refine G.ialdN (k := 30 * t) rfl (rfl) (by omega) (by decide) dX7_longest_133 ?_
    rw [hd0]
    exact G.iret rfl (⟨by rw [if_pos hw], dI_F hI⟩) dX7_longest_134
  | succ p ih =>
    intro σ y3 hI hp
    cases hs : stb B (30 * t) p with
    | false =>
      rw [cst_n hs]
      exact ih σ y3 (dI_w hI hs) (by omega)
    | true =>
      obtain ⟨op, hop⟩ := stb_of hs
      have hnd : nd B ln (30 * t + p) := nd_mk ht hwl hn (by omega) hop
      have hle := cst_le (B := B) (s := 30 * t) p
      rw [cst_s hs, show nI (30 * t + (cst B (30 * t) p + 1)) + (-1) = nI (30 * t + cst B (30 * t) p) by rw [nu_dec (by omega)]; exact congrArg nI (by omega)]
      have hPp := pN_p (B := B) (t := t) (p := p) (by omega)
      have hK : σ 8 (30 * t + cst B (30 * t) p) = nI (kd (B (30 * t + p)) - 1) := by rw [hI.1 8 (by decide), ← hPp]; exact (hN _ hnd).1
      have nx : ∀ h, nd B ln h → 30 * t + p < h → h / 30 = t → σ 18 (pN B h) = nI (tdp B h) := by
        intro h hh hlt h30
        obtain ⟨t2, p2, op2, z1, z2, z3, z4, z5, z6, z7⟩ := nd_p hh
        have : t2 = t := by omega
        subst this
        rw [z4, pN_p z2]
        exact hI.2 p2 (by omega) z3 (stb_1 z7)
      have hT2 : (30 * t + p) / 30 = t := by omega
      have hkd := nd_kd hnd
      have cc : kd (B (30 * t + p)) = 1 ∨ kd (B (30 * t + p)) = 2 ∨ kd (B (30 * t + p)) = 3 ∨ kd (B (30 * t + p)) = 4 ∨ kd (B (30 * t + p)) = 5 ∨ kd (B (30 * t + p)) = 6 ∨ kd (B (30 * t + p)) = 7 := by omega
      rcases cc with hc | hc | hc | hc | hc | hc | hc
      · have hd : tdp B (30 * t + p) = 1 := tf_lf (by omega)
        refine G.iload_n (k := 2) rfl dX7_longest_14 ?_
        refine G.bipush (v := 30) (by decide) dX7_longest_15 ?_
        refine G.iload_n (k := 1) rfl dX7_longest_17 ?_
        refine G.imul dX7_longest_18 ?_
        rw [nu_30']
        refine G.icmp_lt (tgt := 112) (by decide) dX7_longest_19 (fun c_19 => absurd c_19 (nI_nlt (by omega) (by omega))) (fun c_19 => ?_)
        refine G.aload_n (k := 0) rfl dX7_longest_22 ?_
        refine G.getr (j := 8) rfl gci_X7 (by decide) rfl fl_X7_31 dX7_longest_23 ?_
        refine G.iload_n (k := 2) rfl dX7_longest_26 ?_
        refine G.ialdN (k := 30 * t + cst B (30 * t) p) rfl (rfl) (by omega) (by decide) dX7_longest_27 ?_
        rw [show σ 8 (30 * t + cst B (30 * t) p) = 0 by rw [hK, hc]; rfl]
        refine G.iconst (v := 3) (by decide) dX7_longest_28 ?_
        refine G.icmp_ge (tgt := 36) (by decide) dX7_longest_29 (fun c_29 => absurd c_29 (by decide)) (fun c_29 => ?_)
        refine G.iconst (v := 0) (by decide) dX7_longest_32 ?_
        refine G.goto (tgt := 81) (by decide) dX7_longest_33 ?_
        refine G.ist3 (by decide) rfl dX7_longest_81 ?_
        refine G.aload_n (k := 0) rfl dX7_longest_82 ?_
        refine G.getr (j := 21) rfl gci_X7 (by decide) rfl fl_X7_61 dX7_longest_83 ?_
        refine G.iload_n (k := 2) rfl dX7_longest_86 ?_
        refine G.iload_n (k := 3) rfl dX7_longest_87 ?_
        refine G.aload_n (k := 0) rfl dX7_longest_88 ?_
        refine G.getr (j := 8) rfl gci_X7 (by decide) rfl fl_X7_31 dX7_longest_89 ?_
        refine G.iload_n (k := 2) rfl dX7_longest_92 ?_
        refine G.ialdN (k := 30 * t + cst B (30 * t) p) rfl (rfl) (by omega) (by decide) dX7_longest_93 ?_
        rw [show σ 8 (30 * t + cst B (30 * t) p) = 0 by rw [hK, hc]; rfl]
        refine G.bipush (v := 6) (by decide) dX7_longest_94 ?_
        refine G.icmp_ne (tgt := 103) (by decide) dX7_longest_96 (fun c_96 => ?_) (fun c_96 => absurd c_96 (by decide))
        refine G.iconst (v := 1) (by decide) dX7_longest_103 ?_
        refine G.iadd dX7_longest_104 ?_
        rw [show (0 : Int32) + 1 = nI (tdp B (30 * t + p)) by rw [hd]; rfl]
        refine G.iastN (k := 30 * t + cst B (30 * t) p) rfl (rfl) (by omega) (by decide) dX7_longest_105 ?_
        refine G.inc2 (d := -1) (by decide) (by decide) rfl dX7_longest_106 ?_
        refine G.goto (tgt := 14) (by decide) dX7_longest_109 ?_
        exact ih _ _ (dI_s hI hs) (by omega)
      · have hd : tdp B (30 * t + p) = 1 := tf_lf (by omega)
        refine G.iload_n (k := 2) rfl dX7_longest_14 ?_
        refine G.bipush (v := 30) (by decide) dX7_longest_15 ?_
        refine G.iload_n (k := 1) rfl dX7_longest_17 ?_
        refine G.imul dX7_longest_18 ?_
        rw [nu_30']
        refine G.icmp_lt (tgt := 112) (by decide) dX7_longest_19 (fun c_19 => absurd c_19 (nI_nlt (by omega) (by omega))) (fun c_19 => ?_)
        refine G.aload_n (k := 0) rfl dX7_longest_22 ?_
        refine G.getr (j := 8) rfl gci_X7 (by decide) rfl fl_X7_31 dX7_longest_23 ?_
        refine G.iload_n (k := 2) rfl dX7_longest_26 ?_
        refine G.ialdN (k := 30 * t + cst B (30 * t) p) rfl (rfl) (by omega) (by decide) dX7_longest_27 ?_
        rw [show σ 8 (30 * t + cst B (30 * t) p) = 1 by rw [hK, hc]; rfl]
        refine G.iconst (v := 3) (by decide) dX7_longest_28 ?_
        refine G.icmp_ge (tgt := 36) (by decide) dX7_longest_29 (fun c_29 => absurd c_29 (by decide)) (fun c_29 => ?_)
        refine G.iconst (v := 0) (by decide) dX7_longest_32 ?_
        refine G.goto (tgt := 81) (by decide) dX7_longest_33 ?_
        refine G.ist3 (by decide) rfl dX7_longest_81 ?_
        refine G.aload_n (k := 0) rfl dX7_longest_82 ?_
        refine G.getr (j := 21) rfl gci_X7 (by decide) rfl fl_X7_61 dX7_longest_83 ?_
        refine G.iload_n (k := 2) rfl dX7_longest_86 ?_
        refine G.iload_n (k := 3) rfl dX7_longest_87 ?_
        refine G.aload_n (k := 0) rfl dX7_longest_88 ?_
        refine G.getr (j := 8) rfl gci_X7 (by decide) rfl fl_X7_31 dX7_longest_89 ?_
        refine G.iload_n (k := 2) rfl dX7_longest_92 ?_
        refine G.ialdN (k := 30 * t + cst B (30 * t) p) rfl (rfl) (by omega) (by decide) dX7_longest_93 ?_
        rw [show σ 8 (30 * t + cst B (30 * t) p) = 1 by rw [hK, hc]; rfl]
        refine G.bipush (v := 6) (by decide) dX7_longest_94 ?_
        refine G.icmp_ne (tgt := 103) (by decide) dX7_longest_96 (fun c_96 => ?_) (fun c_96 => absurd c_96 (by decide))
        refine G.iconst (v := 1) (by decide) dX7_longest_103 ?_
        refine G.iadd dX7_longest_104 ?_
        rw [show (0 : Int32) + 1 = nI (tdp B (30 * t + p)) by rw [hd]; rfl]
        refine G.iastN (k := 30 * t + cst B (30 * t) p) rfl (rfl) (by omega) (by decide) dX7_longest_105 ?_
        refine G.inc2 (d := -1) (by decide) (by decide) rfl dX7_longest_106 ?_
        refine G.goto (tgt := 14) (by decide) dX7_longest_109 ?_
        exact ih _ _ (dI_s hI hs) (by omega)
      · have hd : tdp B (30 * t + p) = 1 := tf_lf (by omega)
        refine G.iload_n (k := 2) rfl dX7_longest_14 ?_
        refine G.bipush (v := 30) (by decide) dX7_longest_15 ?_
        refine G.iload_n (k := 1) rfl dX7_longest_17 ?_
        refine G.imul dX7_longest_18 ?_
        rw [nu_30']
        refine G.icmp_lt (tgt := 112) (by decide) dX7_longest_19 (fun c_19 => absurd c_19 (nI_nlt (by omega) (by omega))) (fun c_19 => ?_)
        refine G.aload_n (k := 0) rfl dX7_longest_22 ?_
        refine G.getr (j := 8) rfl gci_X7 (by decide) rfl fl_X7_31 dX7_longest_23 ?_
        refine G.iload_n (k := 2) rfl dX7_longest_26 ?_
        refine G.ialdN (k := 30 * t + cst B (30 * t) p) rfl (rfl) (by omega) (by decide) dX7_longest_27 ?_
        rw [show σ 8 (30 * t + cst B (30 * t) p) = 2 by rw [hK, hc]; rfl]
        refine G.iconst (v := 3) (by decide) dX7_longest_28 ?_
        refine G.icmp_ge (tgt := 36) (by decide) dX7_longest_29 (fun c_29 => absurd c_29 (by decide)) (fun c_29 => ?_)
        refine G.iconst (v := 0) (by decide) dX7_longest_32 ?_
        refine G.goto (tgt := 81) (by decide) dX7_longest_33 ?_
        refine G.ist3 (by decide) rfl dX7_longest_81 ?_
        refine G.aload_n (k := 0) rfl dX7_longest_82 ?_
        refine G.getr (j := 21) rfl gci_X7 (by decide) rfl fl_X7_61 dX7_longest_83 ?_
        refine G.iload_n (k := 2) rfl dX7_longest_86 ?_
        refine G.iload_n (k := 3) rfl dX7_longest_87 ?_
        refine G.aload_n (k := 0) rfl dX7_longest_88 ?_
        refine G.getr (j := 8) rfl gci_X7 (by decide) rfl fl_X7_31 dX7_longest_89 ?_
        refine G.iload_n (k := 2) rfl dX7_longest_92 ?_
        refine G.ialdN (k := 30 * t + cst B (30 * t) p) rfl (rfl) (by omega) (by decide) dX7_longest_93 ?_
        rw [show σ 8 (30 * t + cst B (30 * t) p) = 2 by rw [hK, hc]; rfl]
        refine G.bipush (v := 6) (by decide) dX7_longest_94 ?_
        refine G.icmp_ne (tgt := 103) (by decide) dX7_longest_96 (fun c_96 => ?_) (fun c_96 => absurd c_96 (by decide))
        refine G.iconst (v := 1) (by decide) dX7_longest_103 ?_
        refine G.iadd dX7_longest_104 ?_
        rw [show (0 : Int32) + 1 = nI (tdp B (30 * t + p)) by rw [hd]; rfl]
        refine G.iastN (k := 30 * t + cst B (30 * t) p) rfl (rfl) (by omega) (by decide) dX7_longest_105 ?_
        refine G.inc2 (d := -1) (by decide) (by decide) rfl dX7_longest_106 ?_
        refine G.goto (tgt := 14) (by decide) dX7_longest_109 ?_
        exact ih _ _ (dI_s hI hs) (by omega)
      · obtain ⟨n1, n2, n3⟩ := nd_4 hnd hc
        have hp1 := pN_45 hnd n1 n3
        rw [hPp] at hp1
        have hD1 : σ 18 (30 * t + cst B (30 * t) p + 1) = nI (tdp B (30 * t + p + 1)) := by rw [← hp1]; exact nx _ n1 (by omega) (by omega)
        have hd := tdp_4 hnd hc
        have q1 := pN_lt n1
        refine G.iload_n (k := 2) rfl dX7_longest_14 ?_
        refine G.bipush (v := 30) (by decide) dX7_longest_15 ?_
        refine G.iload_n (k := 1) rfl dX7_longest_17 ?_
        refine G.imul dX7_longest_18 ?_
        rw [nu_30']
        refine G.icmp_lt (tgt := 112) (by decide) dX7_longest_19 (fun c_19 => absurd c_19 (nI_nlt (by omega) (by omega))) (fun c_19 => ?_)
        refine G.aload_n (k := 0) rfl dX7_longest_22 ?_
        refine G.getr (j := 8) rfl gci_X7 (by decide) rfl fl_X7_31 dX7_longest_23 ?_
        refine G.iload_n (k := 2) rfl dX7_longest_26 ?_
        refine G.ialdN (k := 30 * t + cst B (30 * t) p) rfl (rfl) (by omega) (by decide) dX7_longest_27 ?_
        rw [show σ 8 (30 * t + cst B (30 * t) p) = 3 by rw [hK, hc]; rfl]
        refine G.iconst (v := 3) (by decide) dX7_longest_28 ?_
        refine G.icmp_ge (tgt := 36) (by decide) dX7_longest_29 (fun c_29 => ?_) (fun c_29 => absurd (by decide) c_29)
        refine G.aload_n (k := 0) rfl dX7_longest_36 ?_
        refine G.getr (j := 8) rfl gci_X7 (by decide) rfl fl_X7_31 dX7_longest_37 ?_
        refine G.iload_n (k := 2) rfl dX7_longest_40 ?_
        refine G.ialdN (k := 30 * t + cst B (30 * t) p) rfl (rfl) (by omega) (by decide) dX7_longest_41 ?_
        rw [show σ 8 (30 * t + cst B (30 * t) p) = 3 by rw [hK, hc]; rfl]
        refine G.iconst (v := 4) (by decide) dX7_longest_42 ?_
        refine G.icmp_ne (tgt := 73) (by decide) dX7_longest_43 (fun c_43 => ?_) (fun c_43 => absurd c_43 (by decide))
        refine G.aload_n (k := 0) rfl dX7_longest_73 ?_
        refine G.getr (j := 21) rfl gci_X7 (by decide) rfl fl_X7_61 dX7_longest_74 ?_
        refine G.iload_n (k := 2) rfl dX7_longest_77 ?_
        refine G.iconst (v := 1) (by decide) dX7_longest_78 ?_
        refine G.iadd dX7_longest_79 ?_
        rw [nI_1]
        refine G.ialdN (k := 30 * t + cst B (30 * t) p + 1) rfl (rfl) (by omega) (by decide) dX7_longest_80 ?_
        rw [hD1]
        refine G.ist3 (by decide) rfl dX7_longest_81 ?_
        refine G.aload_n (k := 0) rfl dX7_longest_82 ?_
        refine G.getr (j := 21) rfl gci_X7 (by decide) rfl fl_X7_61 dX7_longest_83 ?_
        refine G.iload_n (k := 2) rfl dX7_longest_86 ?_
        refine G.iload_n (k := 3) rfl dX7_longest_87 ?_
        refine G.aload_n (k := 0) rfl dX7_longest_88 ?_
        refine G.getr (j := 8) rfl gci_X7 (by decide) rfl fl_X7_31 dX7_longest_89 ?_
        refine G.iload_n (k := 2) rfl dX7_longest_92 ?_
        refine G.ialdN (k := 30 * t + cst B (30 * t) p) rfl (rfl) (by omega) (by decide) dX7_longest_93 ?_
        rw [show σ 8 (30 * t + cst B (30 * t) p) = 3 by rw [hK, hc]; rfl]
        refine G.bipush (v := 6) (by decide) dX7_longest_94 ?_
        refine G.icmp_ne (tgt := 103) (by decide) dX7_longest_96 (fun c_96 => ?_) (fun c_96 => absurd c_96 (by decide))
        refine G.iconst (v := 1) (by decide) dX7_longest_103 ?_
        refine G.iadd dX7_longest_104 ?_
        rw [nI_1, ← hd]
        refine G.iastN (k := 30 * t + cst B (30 * t) p) rfl (rfl) (by omega) (by decide) dX7_longest_105 ?_
        refine G.inc2 (d := -1) (by decide) (by decide) rfl dX7_longest_106 ?_
        refine G.goto (tgt := 14) (by decide) dX7_longest_109 ?_
        exact ih _ _ (dI_s hI hs) (by omega)
      · obtain ⟨n1, n2, n3, n4, n5⟩ := nd_5 hnd hc
        have hp1 := pN_45 hnd n1 n4
        rw [hPp] at hp1
        have hD1 : σ 18 (30 * t + cst B (30 * t) p + 1) = nI (tdp B (30 * t + p + 1)) := by rw [← hp1]; exact nx _ n1 (by omega) (by omega)
        have q1 := pN_lt n1
        have q2 := pN_lt n2
        have q3 := nd_E n1
        have hD2 : σ 18 (pN B (tE B (30 * t + p + 1))) = nI (tdp B (tE B (30 * t + p + 1))) := nx _ n2 (by omega) (by omega)
        have hE1 : σ 11 (30 * t + cst B (30 * t) p + 1) = nI (pN B (tE B (30 * t + p + 1))) := by
          rw [hI.1 11 (by decide), ← hp1, (hN _ n1).2.2.2]
          refine congrArg nI ?_
          rw [n4]; exact pt_in n5
        have b1 := (me_b _ n1).2.2.1
        have b2 := (me_b _ n2).2.2.1
        have b3 := nd_E n2
        have hd : tdp B (30 * t + p) = max (tdp B (30 * t + p + 1)) (tdp B (tE B (30 * t + p + 1))) + 1 := by rw [tdp_5 hnd hc]; omega
        refine G.iload_n (k := 2) rfl dX7_longest_14 ?_
        refine G.bipush (v := 30) (by decide) dX7_longest_15 ?_
        refine G.iload_n (k := 1) rfl dX7_longest_17 ?_
        refine G.imul dX7_longest_18 ?_
        rw [nu_30']
        refine G.icmp_lt (tgt := 112) (by decide) dX7_longest_19 (fun c_19 => absurd c_19 (nI_nlt (by omega) (by omega))) (fun c_19 => ?_)
        refine G.aload_n (k := 0) rfl dX7_longest_22 ?_
        refine G.getr (j := 8) rfl gci_X7 (by decide) rfl fl_X7_31 dX7_longest_23 ?_
        refine G.iload_n (k := 2) rfl dX7_longest_26 ?_
        refine G.ialdN (k := 30 * t + cst B (30 * t) p) rfl (rfl) (by omega) (by decide) dX7_longest_27 ?_
        rw [show σ 8 (30 * t + cst B (30 * t) p) = 4 by rw [hK, hc]; rfl]
        refine G.iconst (v := 3) (by decide) dX7_longest_28 ?_
        refine G.icmp_ge (tgt := 36) (by decide) dX7_longest_29 (fun c_29 => ?_) (fun c_29 => absurd (by decide) c_29)
        refine G.aload_n (k := 0) rfl dX7_longest_36 ?_
        refine G.getr (j := 8) rfl gci_X7 (by decide) rfl fl_X7_31 dX7_longest_37 ?_
        refine G.iload_n (k := 2) rfl dX7_longest_40 ?_
        refine G.ialdN (k := 30 * t + cst B (30 * t) p) rfl (rfl) (by omega) (by decide) dX7_longest_41 ?_
        rw [show σ 8 (30 * t + cst B (30 * t) p) = 4 by rw [hK, hc]; rfl]
        refine G.iconst (v := 4) (by decide) dX7_longest_42 ?_
        refine G.icmp_ne (tgt := 73) (by decide) dX7_longest_43 (fun c_43 => absurd rfl c_43) (fun c_43 => ?_)
        refine G.aload_n (k := 0) rfl dX7_longest_46 ?_
        refine G.getr (j := 21) rfl gci_X7 (by decide) rfl fl_X7_61 dX7_longest_47 ?_
        refine G.iload_n (k := 2) rfl dX7_longest_50 ?_
        refine G.iconst (v := 1) (by decide) dX7_longest_51 ?_
        refine G.iadd dX7_longest_52 ?_
        rw [nI_1]
        refine G.ialdN (k := 30 * t + cst B (30 * t) p + 1) rfl (rfl) (by omega) (by decide) dX7_longest_53 ?_
        rw [hD1]
        refine G.aload_n (k := 0) rfl dX7_longest_54 ?_
        refine G.getr (j := 21) rfl gci_X7 (by decide) rfl fl_X7_61 dX7_longest_55 ?_
        refine G.aload_n (k := 0) rfl dX7_longest_58 ?_
        refine G.getr (j := 11) rfl gci_X7 (by decide) rfl fl_X7_40 dX7_longest_59 ?_
        refine G.iload_n (k := 2) rfl dX7_longest_62 ?_
        refine G.iconst (v := 1) (by decide) dX7_longest_63 ?_
        refine G.iadd dX7_longest_64 ?_
        rw [nI_1]
        refine G.ialdN (k := 30 * t + cst B (30 * t) p + 1) rfl (rfl) (by omega) (by decide) dX7_longest_65 ?_
        rw [hE1]
        refine G.ialdN (k := pN B (tE B (30 * t + p + 1))) rfl (rfl) (q2.2.2) (by decide) dX7_longest_66 ?_
        rw [hD2]
        refine G.callSif (c_X7_greater) ml_X7_246 ws_yX7_greater gcl_X7_greater (by decide) rfl rfl (Nat.le_of_ble_eq_true rfl) dX7_longest_67 ?_
        rw [nu_gr (by omega) (by omega)]
        refine G.goto (tgt := 81) (by decide) dX7_longest_70 ?_
        refine G.ist3 (by decide) rfl dX7_longest_81 ?_
        refine G.aload_n (k := 0) rfl dX7_longest_82 ?_
        refine G.getr (j := 21) rfl gci_X7 (by decide) rfl fl_X7_61 dX7_longest_83 ?_
        refine G.iload_n (k := 2) rfl dX7_longest_86 ?_
        refine G.iload_n (k := 3) rfl dX7_longest_87 ?_
        refine G.aload_n (k := 0) rfl dX7_longest_88 ?_
        refine G.getr (j := 8) rfl gci_X7 (by decide) rfl fl_X7_31 dX7_longest_89 ?_
        refine G.iload_n (k := 2) rfl dX7_longest_92 ?_
        refine G.ialdN (k := 30 * t + cst B (30 * t) p) rfl (rfl) (by omega) (by decide) dX7_longest_93 ?_
        rw [show σ 8 (30 * t + cst B (30 * t) p) = 4 by rw [hK, hc]; rfl]
        refine G.bipush (v := 6) (by decide) dX7_longest_94 ?_
        refine G.icmp_ne (tgt := 103) (by decide) dX7_longest_96 (fun c_96 => ?_) (fun c_96 => absurd c_96 (by decide))
        refine G.iconst (v := 1) (by decide) dX7_longest_103 ?_
        refine G.iadd dX7_longest_104 ?_
        rw [nI_1, ← hd]
        refine G.iastN (k := 30 * t + cst B (30 * t) p) rfl (rfl) (by omega) (by decide) dX7_longest_105 ?_
        refine G.inc2 (d := -1) (by decide) (by decide) rfl dX7_longest_106 ?_
        refine G.goto (tgt := 14) (by decide) dX7_longest_109 ?_
        exact ih _ _ (dI_s hI hs) (by omega)
      · obtain ⟨m1, n1, n2, n3⟩ := nd_6 hnd hc
        have hp1 := pN_6 hnd hc
        rw [hPp] at hp1
        have hD1 : σ 18 (30 * t + cst B (30 * t) p + 1) = nI (tdp B (30 * t + p + 2)) := by rw [← hp1]; exact nx _ n1 (by omega) (by omega)
        have hd := tdp_6 hnd hc
        have q1 := pN_lt n1
        refine G.iload_n (k := 2) rfl dX7_longest_14 ?_
        refine G.bipush (v := 30) (by decide) dX7_longest_15 ?_
        refine G.iload_n (k := 1) rfl dX7_longest_17 ?_
        refine G.imul dX7_longest_18 ?_
        rw [nu_30']
        refine G.icmp_lt (tgt := 112) (by decide) dX7_longest_19 (fun c_19 => absurd c_19 (nI_nlt (by omega) (by omega))) (fun c_19 => ?_)
        refine G.aload_n (k := 0) rfl dX7_longest_22 ?_
        refine G.getr (j := 8) rfl gci_X7 (by decide) rfl fl_X7_31 dX7_longest_23 ?_
        refine G.iload_n (k := 2) rfl dX7_longest_26 ?_
        refine G.ialdN (k := 30 * t + cst B (30 * t) p) rfl (rfl) (by omega) (by decide) dX7_longest_27 ?_
        rw [show σ 8 (30 * t + cst B (30 * t) p) = 5 by rw [hK, hc]; rfl]
        refine G.iconst (v := 3) (by decide) dX7_longest_28 ?_
        refine G.icmp_ge (tgt := 36) (by decide) dX7_longest_29 (fun c_29 => ?_) (fun c_29 => absurd (by decide) c_29)
        refine G.aload_n (k := 0) rfl dX7_longest_36 ?_
        refine G.getr (j := 8) rfl gci_X7 (by decide) rfl fl_X7_31 dX7_longest_37 ?_
        refine G.iload_n (k := 2) rfl dX7_longest_40 ?_
        refine G.ialdN (k := 30 * t + cst B (30 * t) p) rfl (rfl) (by omega) (by decide) dX7_longest_41 ?_
        rw [show σ 8 (30 * t + cst B (30 * t) p) = 5 by rw [hK, hc]; rfl]
        refine G.iconst (v := 4) (by decide) dX7_longest_42 ?_
        refine G.icmp_ne (tgt := 73) (by decide) dX7_longest_43 (fun c_43 => ?_) (fun c_43 => absurd c_43 (by decide))
        refine G.aload_n (k := 0) rfl dX7_longest_73 ?_
        refine G.getr (j := 21) rfl gci_X7 (by decide) rfl fl_X7_61 dX7_longest_74 ?_
        refine G.iload_n (k := 2) rfl dX7_longest_77 ?_
        refine G.iconst (v := 1) (by decide) dX7_longest_78 ?_
        refine G.iadd dX7_longest_79 ?_
        rw [nI_1]
        refine G.ialdN (k := 30 * t + cst B (30 * t) p + 1) rfl (rfl) (by omega) (by decide) dX7_longest_80 ?_
        rw [hD1]
        refine G.ist3 (by decide) rfl dX7_longest_81 ?_
        refine G.aload_n (k := 0) rfl dX7_longest_82 ?_
        refine G.getr (j := 21) rfl gci_X7 (by decide) rfl fl_X7_61 dX7_longest_83 ?_
        refine G.iload_n (k := 2) rfl dX7_longest_86 ?_
        refine G.iload_n (k := 3) rfl dX7_longest_87 ?_
        refine G.aload_n (k := 0) rfl dX7_longest_88 ?_
        refine G.getr (j := 8) rfl gci_X7 (by decide) rfl fl_X7_31 dX7_longest_89 ?_
        refine G.iload_n (k := 2) rfl dX7_longest_92 ?_
        refine G.ialdN (k := 30 * t + cst B (30 * t) p) rfl (rfl) (by omega) (by decide) dX7_longest_93 ?_
        rw [show σ 8 (30 * t + cst B (30 * t) p) = 5 by rw [hK, hc]; rfl]
        refine G.bipush (v := 6) (by decide) dX7_longest_94 ?_
        refine G.icmp_ne (tgt := 103) (by decide) dX7_longest_96 (fun c_96 => ?_) (fun c_96 => absurd c_96 (by decide))
        refine G.iconst (v := 1) (by decide) dX7_longest_103 ?_
        refine G.iadd dX7_longest_104 ?_
        rw [nI_1, ← hd]
        refine G.iastN (k := 30 * t + cst B (30 * t) p) rfl (rfl) (by omega) (by decide) dX7_longest_105 ?_
        refine G.inc2 (d := -1) (by decide) (by decide) rfl dX7_longest_106 ?_
        refine G.goto (tgt := 14) (by decide) dX7_longest_109 ?_
        exact ih _ _ (dI_s hI hs) (by omega)
      · obtain ⟨m1, m2, n1, n2, n3⟩ := nd_7 hnd hc
        have hp1 := pN_7 hnd hc
        rw [hPp] at hp1
        have hD1 : σ 18 (30 * t + cst B (30 * t) p + 1) = nI (tdp B (30 * t + p + 3)) := by rw [← hp1]; exact nx _ n1 (by omega) (by omega)
        have hd := tdp_7 hnd hc
        have q1 := pN_lt n1
        refine G.iload_n (k := 2) rfl dX7_longest_14 ?_
        refine G.bipush (v := 30) (by decide) dX7_longest_15 ?_
        refine G.iload_n (k := 1) rfl dX7_longest_17 ?_
        refine G.imul dX7_longest_18 ?_
        rw [nu_30']
        refine G.icmp_lt (tgt := 112) (by decide) dX7_longest_19 (fun c_19 => absurd c_19 (nI_nlt (by omega) (by omega))) (fun c_19 => ?_)
        refine G.aload_n (k := 0) rfl dX7_longest_22 ?_
        refine G.getr (j := 8) rfl gci_X7 (by decide) rfl fl_X7_31 dX7_longest_23 ?_
        refine G.iload_n (k := 2) rfl dX7_longest_26 ?_
        refine G.ialdN (k := 30 * t + cst B (30 * t) p) rfl (rfl) (by omega) (by decide) dX7_longest_27 ?_
        rw [show σ 8 (30 * t + cst B (30 * t) p) = 6 by rw [hK, hc]; rfl]
        refine G.iconst (v := 3) (by decide) dX7_longest_28 ?_
        refine G.icmp_ge (tgt := 36) (by decide) dX7_longest_29 (fun c_29 => ?_) (fun c_29 => absurd (by decide) c_29)
        refine G.aload_n (k := 0) rfl dX7_longest_36 ?_
        refine G.getr (j := 8) rfl gci_X7 (by decide) rfl fl_X7_31 dX7_longest_37 ?_
        refine G.iload_n (k := 2) rfl dX7_longest_40 ?_
        refine G.ialdN (k := 30 * t + cst B (30 * t) p) rfl (rfl) (by omega) (by decide) dX7_longest_41 ?_
        rw [show σ 8 (30 * t + cst B (30 * t) p) = 6 by rw [hK, hc]; rfl]
        refine G.iconst (v := 4) (by decide) dX7_longest_42 ?_
        refine G.icmp_ne (tgt := 73) (by decide) dX7_longest_43 (fun c_43 => ?_) (fun c_43 => absurd c_43 (by decide))
        refine G.aload_n (k := 0) rfl dX7_longest_73 ?_
        refine G.getr (j := 21) rfl gci_X7 (by decide) rfl fl_X7_61 dX7_longest_74 ?_
        refine G.iload_n (k := 2) rfl dX7_longest_77 ?_
        refine G.iconst (v := 1) (by decide) dX7_longest_78 ?_
        refine G.iadd dX7_longest_79 ?_
        rw [nI_1]
        refine G.ialdN (k := 30 * t + cst B (30 * t) p + 1) rfl (rfl) (by omega) (by decide) dX7_longest_80 ?_
        rw [hD1]
        refine G.ist3 (by decide) rfl dX7_longest_81 ?_
        refine G.aload_n (k := 0) rfl dX7_longest_82 ?_
        refine G.getr (j := 21) rfl gci_X7 (by decide) rfl fl_X7_61 dX7_longest_83 ?_
        refine G.iload_n (k := 2) rfl dX7_longest_86 ?_
        refine G.iload_n (k := 3) rfl dX7_longest_87 ?_
        refine G.aload_n (k := 0) rfl dX7_longest_88 ?_
        refine G.getr (j := 8) rfl gci_X7 (by decide) rfl fl_X7_31 dX7_longest_89 ?_
        refine G.iload_n (k := 2) rfl dX7_longest_92 ?_
        refine G.ialdN (k := 30 * t + cst B (30 * t) p) rfl (rfl) (by omega) (by decide) dX7_longest_93 ?_
        rw [show σ 8 (30 * t + cst B (30 * t) p) = 6 by rw [hK, hc]; rfl]
        refine G.bipush (v := 6) (by decide) dX7_longest_94 ?_
        refine G.icmp_ne (tgt := 103) (by decide) dX7_longest_96 (fun c_96 => absurd rfl c_96) (fun c_96 => ?_)
        refine G.iconst (v := 0) (by decide) dX7_longest_99 ?_
        refine G.goto (tgt := 104) (by decide) dX7_longest_100 ?_
        refine G.iadd dX7_longest_104 ?_
        rw [Int32.add_zero, ← hd]
        refine G.iastN (k := 30 * t + cst B (30 * t) p) rfl (rfl) (by omega) (by decide) dX7_longest_105 ?_
        refine G.inc2 (d := -1) (by decide) (by decide) rfl dX7_longest_106 ?_
        refine G.goto (tgt := 14) (by decide) dX7_longest_109 ?_
        exact ih _ _ (dI_s hI hs) (by omega)
set_option maxHeartbeats 4000000 in
set_option maxRecDepth 100000 in
theorem c_X7_longest {ln B : Nat → Nat} {t : Nat} (hT : TM σ ln B) (hM : MR σ ln B) (ht : t < 8) : GM (XM l D cA ad) mX7_longest [.ref 0, .int (nI t)] σ (g_ri (fun r τ => r = (if wlA ln B t = true then nI (tdp B (30 * t)) else 0) ∧ aF σ τ)) := by
  refine GM.of (ls := [some (.ref 0), some (.int (nI t)), none, none]) (by decide) (Nat.le_of_ble_eq_true rfl) rfl ?_
  have h30 : ln t ≤ 30 := Nat.le_trans (hT t (by omega)).2.1 (tcap_le t)
  have hle := cst_le (B := B) (s := 30 * t) (ln t)
  refine G.bipush (v := 30) (by decide) dX7_longest_0 ?_
  refine G.iload_n (k := 1) rfl dX7_longest_2 ?_
  refine G.imul dX7_longest_3 ?_
  rw [nu_30']
  refine G.aload_n (k := 0) rfl dX7_longest_4 ?_
  refine G.getr (j := 7) rfl gci_X7 (by decide) rfl fl_X7_28 dX7_longest_5 ?_
  refine G.iload_n (k := 1) rfl dX7_longest_8 ?_
  refine G.ialdN (k := t) rfl (rfl) (by omega) (by decide) dX7_longest_9 ?_
  have hp7 := (MR_P hM ht).1
  have hp70 := hp7
  rw [hp7]
  generalize hMM : (if wlA ln B t = true then cst B (30 * t) (ln t) else 0) = M at hp7 ⊢
  refine G.iadd dX7_longest_10 ?_
  rw [nI_add]
  refine G.iconst (v := 1) (by decide) dX7_longest_11 ?_
  refine G.isub dX7_longest_12 ?_
  rw [Int32.sub_eq_add_neg]
  refine G.ist2 (by decide) rfl dX7_longest_13 ?_
  by_cases hw : wlA ln B t = true
  · rw [if_pos hw] at hMM
    subst hMM
    exact l_X7_longest (y3 := none) (fun g hg => MR_nd hM hg) ht h30 hp70 hw (ln t) σ none ⟨fun _ _ => rfl, fun q h1 h2 => by omega⟩ (Nat.le_refl _)
  · rw [if_neg hw] at hMM
    subst hMM
    have e0 : nI (30 * t + 0) + (-1) < nI (30 * t) := by
      rw [show nI (30 * t + 0) + (-1) = nI (30 * t) - 1 from (Int32.sub_eq_add_neg ..).symm]
      exact nu_plt (by omega)
    refine G.iload_n (k := 2) rfl dX7_longest_14 ?_
    refine G.bipush (v := 30) (by decide) dX7_longest_15 ?_
    refine G.iload_n (k := 1) rfl dX7_longest_17 ?_
    refine G.imul dX7_longest_18 ?_
    rw [nu_30']
    refine G.icmp_lt (tgt := 112) (by decide) dX7_longest_19 (fun c_19 => ?_) (fun c_19 => absurd e0 c_19)
    refine G.aload_n (k := 0) rfl dX7_longest_112 ?_
    refine G.getr (j := 7) rfl gci_X7 (by decide) rfl fl_X7_28 dX7_longest_113 ?_
    refine G.iload_n (k := 1) rfl dX7_longest_116 ?_
    refine G.ialdN (k := t) rfl (rfl) (by omega) (by decide) dX7_longest_117 ?_
    rw [hp7]
    refine G.if_ne (tgt := 125) (by decide) dX7_longest_118 (fun c_118 => absurd rfl c_118) (fun c_118 => ?_)
    refine G.iconst (v := 0) (by decide) dX7_longest_121 ?_
    refine G.goto (tgt := 134) (by decide) dX7_longest_122 ?_
    exact G.iret rfl (⟨by rw [if_neg hw], aF_rf σ⟩) dX7_longest_134
end T92

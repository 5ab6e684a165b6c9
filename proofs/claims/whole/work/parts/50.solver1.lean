/-! ===== solvers: b the object, b + 1 values, b + 2 lefts, b + 3 rights, b + 4 must by node, b + 5 must by unknown; fields 2 values, 5 height, 8 why, 9 where, 10 steps, 11 rigid ===== -/
def svA (b : Nat) : Prop := LX[b]? = some (.inr (2, [some 1, some (b + 1), none, some (b + 2), some (b + 3), none, some (b + 4), some (b + 5), none, none, none, none])) ∧ LX[b + 1]? = some (.inl 6) ∧ LX[b + 2]? = some (.inl 602) ∧ LX[b + 3]? = some (.inl 602) ∧ LX[b + 4]? = some (.inl 240) ∧ LX[b + 5]? = some (.inl 6) ∧ 16 ≤ b ∧ b ≤ 22
theorem svA_16 : svA 16 := ⟨rfl, rfl, rfl, rfl, rfl, rfl, by decide, by decide⟩
theorem svA_22 : svA 22 := ⟨rfl, rfl, rfl, rfl, rfl, rfl, by decide, by decide⟩
/-- only the solver's own cells may change -/
def svF (σ τ : gS) (b : Nat) : Prop := ∀ k, k < b ∨ b + 5 < k → τ k = σ k
theorem svF_rf (σ : gS) (b : Nat) : svF σ σ b := fun _ _ => rfl
theorem svF_tr {σ τ υ : gS} {b : Nat} (h1 : svF σ τ b) (h2 : svF τ υ b) : svF σ υ b := fun k h => (h2 k h).trans (h1 k h)
theorem svF_up {σ τ : gS} {b k : Nat} (h : svF σ τ b) (hk : b ≤ k ∧ k ≤ b + 5) (i : Nat) (x : Int32) : svF σ (up2 τ k i x) b := fun j hj => by rw [up2_ne _ _ _ (by omega)]; exact h j hj
theorem svF_tx {σ τ : gS} {b : Nat} (hb : 16 ≤ b) (h : svF σ τ b) : txF σ τ := fun k h1 h2 => h k (by omega)
/-- unknowns with all values put in -/
def clsd (B : Nat → Nat) (V : uV) (S : Nat) : Prop := ∀ u q, u < 6 → S.testBit u = true → V u = some q → ∀ w, w < 6 → (tuk B q.1).testBit w = true → S.testBit w = true
def sbs (a b : Nat) : Prop := ∀ w, w < 6 → a.testBit w = true → b.testBit w = true
def rch (B : Nat → Nat) (V : uV) (m x : Nat) : Prop := ∀ S, S < 64 → sbs m S → clsd B V S → S.testBit x = true
def isClo (B : Nat → Nat) (V : uV) (m R : Nat) : Prop := R < 64 ∧ sbs m R ∧ clsd B V R ∧ ∀ w, w < 6 → R.testBit w = true → rch B V m w
theorem isClo_iff {B : Nat → Nat} {V : uV} {m R x : Nat} (h : isClo B V m R) (hx : x < 6) : R.testBit x = true ↔ rch B V m x := ⟨h.2.2.2 x hx, fun hr => hr R h.1 h.2.1 h.2.2.1⟩
theorem isClo_uniq {B : Nat → Nat} {V : uV} {m R R' : Nat} (h : isClo B V m R) (h' : isClo B V m R') : R = R' := by
  refine ms_ext h.1 h'.1 (fun n hn => ?_)
  have e1 := isClo_iff h hn
  have e2 := isClo_iff h' hn
  by_cases q : R.testBit n = true
  · rw [q, e2.mpr (e1.mp q)]
  · have q2 : ¬ R'.testBit n = true := fun z => q (e1.mpr (e2.mp z))
    simp at q q2
    rw [q, q2]
theorem bc_lt : ∀ a, a < 64 → ∀ b, b < 64 → a &&& b = a → a ≠ b → bc6 a < bc6 b := by decide +kernel
theorem bc_63 : ∀ a, a < 64 → 6 ≤ bc6 a → a = 63 := by decide +kernel
theorem an_j : ∀ a, a < 64 → ∀ b, b < 64 → nI a &&& (nI b ^^^ (-1)) = nI (a &&& (63 ^^^ b)) := by decide +kernel
theorem an_bit : ∀ a, a < 64 → ∀ b, b < 64 → ∀ n, n < 6 → (a &&& (63 ^^^ b)).testBit n = (a.testBit n && !(b.testBit n)) := by
  intro a ha b hb n hn
  rw [Nat.testBit_and, Nat.testBit_xor]
  have : (63 : Nat).testBit n = true := by revert hn; revert n; decide
  rw [this]
  simp
theorem an_lt {a b : Nat} (ha : a < 64) : a &&& (63 ^^^ b) < 64 := Nat.lt_of_le_of_lt Nat.and_le_left ha
theorem sbs_and {a b : Nat} (ha : a < 64) (h : sbs a b) : a &&& b = a := by
  refine ms_ext (Nat.lt_of_le_of_lt Nat.and_le_left ha) ha (fun n hn => ?_)
  rw [Nat.testBit_and]
  by_cases q : a.testBit n = true
  · rw [q, h n hn q]; rfl
  · simp at q; rw [q]; rfl
theorem or_lt64 {a b : Nat} (ha : a < 64) (hb : b < 64) : a ||| b < 64 := Nat.or_lt_two_pow (n := 6) ha hb
theorem sbs_or_l (a b : Nat) : sbs a (a ||| b) := fun w _ h => by rw [Nat.testBit_or, h]; rfl
theorem sbs_or_r (a b : Nat) : sbs b (a ||| b) := fun w _ h => by rw [Nat.testBit_or, h]; simp
theorem sbs_tr {a b c : Nat} (h1 : sbs a b) (h2 : sbs b c) : sbs a c := fun w hw h => h2 w hw (h1 w hw h)
theorem sbs_rf (a : Nat) : sbs a a := fun _ _ h => h
theorem tb_bit {m n : Nat} (hm : m < 2 ^ 31) (hn : n < 31) : (nI m >>> (nI n &&& 31) &&& 1 = 0) ↔ ¬ m.testBit n = true := by
  rw [nu_shr hm (by omega), nu_a1, nu_tb]
  by_cases h : m.testBit n = true
  · rw [if_pos h]; exact ⟨fun e => absurd e (by decide), fun e => absurd h e⟩
  · rw [if_neg h]; exact ⟨fun _ => h, fun _ => rfl⟩
section T50
variable {l : Launch} {D : va_G} {cA : ClassId} {ad : Nat → Nat}
variable {σ : gS}
set_option maxHeartbeats 4000000 in
set_option maxRecDepth 100000 in
theorem c_X2_pile {b : Nat} (hb : svA b) {n : Nat} {x y : Int32} (hn : σ b 5 = nI n) (h6 : n < 602) : GM (XC l D cA ad) mX2_pile [.ref b, .int x, .int y] σ (g_rv (fun τ => τ = up2 (up2 (up2 σ (b + 2) n x) (b + 3) n y) b 5 (nI (n + 1)))) := by
  refine GM.of (ls := [some (.ref b), some (.int x), some (.int y)]) (by decide) (Nat.le_of_ble_eq_true rfl) rfl ?_
  refine G.aload_n (k := 0) rfl dX2_pile_0 ?_
  refine G.geti (j := 5) hb.1 gci_X2 (by decide) rfl fl_X2_25 dX2_pile_1 ?_
  rw [hn]
  refine G.aload_n (k := 0) rfl dX2_pile_4 ?_
  refine G.getr (j := 3) hb.1 gci_X2 (by decide) rfl fl_X2_19 dX2_pile_5 ?_
  refine G.alen (v := 602) hb.2.2.1 (by decide) dX2_pile_8 ?_
  refine G.icmp_ge (tgt := 42) (by decide) dX2_pile_9 (fun c_9 => absurd c_9 (nI_ge (b := 602) h6 (by decide))) (fun c_9 => ?_)
  refine G.aload_n (k := 0) rfl dX2_pile_12 ?_
  refine G.getr (j := 3) hb.1 gci_X2 (by decide) rfl fl_X2_19 dX2_pile_13 ?_
  refine G.aload_n (k := 0) rfl dX2_pile_16 ?_
  refine G.geti (j := 5) hb.1 gci_X2 (by decide) rfl fl_X2_25 dX2_pile_17 ?_
  rw [hn]
  refine G.iload_n (k := 1) rfl dX2_pile_20 ?_
  refine G.iastN (k := n) hb.2.2.1 rfl (by omega) (by decide) dX2_pile_21 ?_
  refine G.aload_n (k := 0) rfl dX2_pile_22 ?_
  refine G.getr (j := 4) hb.1 gci_X2 (by decide) rfl fl_X2_22 dX2_pile_23 ?_
  refine G.aload_n (k := 0) rfl dX2_pile_26 ?_
  refine G.geti (j := 5) hb.1 gci_X2 (by decide) rfl fl_X2_25 dX2_pile_27 ?_
  rw [up2_ne _ _ _ (show b ≠ b + 2 by omega), hn]
  refine G.iload_n (k := 2) rfl dX2_pile_30 ?_
  refine G.iastN (k := n) hb.2.2.2.1 rfl (by omega) (by decide) dX2_pile_31 ?_
  refine G.aload_n (k := 0) rfl dX2_pile_32 ?_
  refine G.dupr dX2_pile_33 ?_
  refine G.geti (j := 5) hb.1 gci_X2 (by decide) rfl fl_X2_25 dX2_pile_34 ?_
  rw [up2_ne _ _ _ (show b ≠ b + 3 by omega), up2_ne _ _ _ (show b ≠ b + 2 by omega), hn]
  refine G.iconst (v := 1) (by decide) dX2_pile_37 ?_
  refine G.iadd dX2_pile_38 ?_
  rw [nI_1]
  refine G.put (j := 5) hb.1 gci_X2 gcp_X2 (by decide) rfl rfl rfl rfl fl_X2_25 dX2_pile_39 ?_
  exact G.vret rfl (rfl) dX2_pile_42
set_option maxHeartbeats 4000000 in
set_option maxRecDepth 100000 in
theorem c_X2_must {b : Nat} (hb : svA b) {g : Nat} {x : Int32} (hg : g < 240) : GM (XC l D cA ad) mX2_must [.ref b, .int (nI g), .int x] σ (g_rv (fun τ => τ = up2 σ (b + 4) g (σ (b + 4) g ||| x))) := by
  refine GM.of (ls := [some (.ref b), some (.int (nI g)), some (.int x)]) (by decide) (Nat.le_of_ble_eq_true rfl) rfl ?_
  refine G.iload_n (k := 1) rfl dX2_must_0 ?_
  refine G.sipush (v := 240) (by decide) dX2_must_1 ?_
  refine G.callSNif (c_X6_isOutside) (fun _ h => h.2.2.2.2.2.1) ws_yX6_isOutside gcl_X6_isOutside (by decide) rfl rfl (Nat.le_of_ble_eq_true rfl) dX2_must_4 ?_
  refine G.if_ne (tgt := 20) (by decide) dX2_must_7 (fun c_7 => absurd (bo_n.mp c_7) (fun q => q.elim (fun y => nI_pos (by omega) y) (fun y => nI_ge (b := 240) hg (by decide) y))) (fun c_7 => ?_)
  refine G.aload_n (k := 0) rfl dX2_must_10 ?_
  refine G.getr (j := 6) hb.1 gci_X2 (by decide) rfl fl_X2_28 dX2_must_11 ?_
  refine G.iload_n (k := 1) rfl dX2_must_14 ?_
  refine G.dup2 dX2_must_15 ?_
  refine G.ialdN (k := g) hb.2.2.2.2.1 rfl (by omega) (by decide) dX2_must_16 ?_
  refine G.iload_n (k := 2) rfl dX2_must_17 ?_
  refine G.ior dX2_must_18 ?_
  refine G.iastN (k := g) hb.2.2.2.2.1 rfl (by omega) (by decide) dX2_must_19 ?_
  exact G.vret rfl (rfl) dX2_must_20
set_option maxHeartbeats 4000000 in
set_option maxRecDepth 100000 in
theorem c_X2_mustIn {b : Nat} (hb : svA b) {u m x : Nat} (hu : u < 6) (hm : m < 64) (hx : x < 64) (h : σ (b + 5) u = nI m) : GM (XC l D cA ad) mX2_mustIn [.ref b, .int (nI u), .int (nI x)] σ (g_ri (fun r τ => (r, τ) = (if x &&& (63 ^^^ m) = 0 then (0, σ) else (1, up2 σ (b + 5) u (nI (m ||| x)))))) := by
  refine GM.of (ls := [some (.ref b), some (.int (nI u)), some (.int (nI x))]) (by decide) (Nat.le_of_ble_eq_true rfl) rfl ?_
  refine G.iload_n (k := 1) rfl dX2_mustIn_0 ?_
  refine G.iconst (v := (-1)) (by decide) dX2_mustIn_1 ?_
  refine G.icmp_eq (tgt := 18) (by decide) dX2_mustIn_2 (fun c_2 => absurd c_2 (ne_m1 (by omega))) (fun c_2 => ?_)
  refine G.iload_n (k := 2) rfl dX2_mustIn_5 ?_
  refine G.aload_n (k := 0) rfl dX2_mustIn_6 ?_
  refine G.getr (j := 7) hb.1 gci_X2 (by decide) rfl fl_X2_31 dX2_mustIn_7 ?_
  refine G.iload_n (k := 1) rfl dX2_mustIn_10 ?_
  refine G.ialdN (k := u) hb.2.2.2.2.2.1 rfl (by omega) (by decide) dX2_mustIn_11 ?_
  rw [h]
  refine G.iconst (v := (-1)) (by decide) dX2_mustIn_12 ?_
  refine G.ixor dX2_mustIn_13 ?_
  refine G.iand dX2_mustIn_14 ?_
  rw [an_j x hx m hm]
  refine G.if_ne (tgt := 20) (by decide) dX2_mustIn_15 (fun c_15 => ?_) (fun c_15 => ?_)
  · have hne : ¬ x &&& (63 ^^^ m) = 0 := fun e => c_15 (by rw [e]; rfl)
    refine G.aload_n (k := 0) rfl dX2_mustIn_20 ?_
    refine G.getr (j := 7) hb.1 gci_X2 (by decide) rfl fl_X2_31 dX2_mustIn_21 ?_
    refine G.iload_n (k := 1) rfl dX2_mustIn_24 ?_
    refine G.dup2 dX2_mustIn_25 ?_
    refine G.ialdN (k := u) hb.2.2.2.2.2.1 rfl (by omega) (by decide) dX2_mustIn_26 ?_
    rw [h]
    refine G.iload_n (k := 2) rfl dX2_mustIn_27 ?_
    refine G.ior dX2_mustIn_28 ?_
    rw [nu_or]
    refine G.iastN (k := u) hb.2.2.2.2.2.1 rfl (by omega) (by decide) dX2_mustIn_29 ?_
    refine G.iconst (v := 1) (by decide) dX2_mustIn_30 ?_
    exact G.zret rfl (by decide) (by rw [if_neg hne]) dX2_mustIn_31
  · have heq : x &&& (63 ^^^ m) = 0 := (nI_eq (by have := an_lt (b := m) hx; omega) (by decide)).mp (show nI (x &&& (63 ^^^ m)) = nI 0 from c_15)
    refine G.iconst (v := 0) (by decide) dX2_mustIn_18 ?_
    exact G.zret rfl (by decide) (by rw [if_pos heq]) dX2_mustIn_19
set_option maxHeartbeats 4000000 in
set_option maxRecDepth 100000 in
theorem l1_X2_withValuesIn {b m lk i nx a0 : Nat} {x : Int32} {ln B : Nat → Nat} {V : uV} {Q : Option Value → gS → Prop} (hb : svA b) (h3 : tx3 σ ln B) (hV : VG B ln V) (hr : ∀ u, u < 6 → σ (b + 1) u = vrow V u) (hnx : nx < 64) (hnr : ∀ u, u < 6 → nx.testBit u = true → rch B V m u)
    (done : ∀ a z, a < 64 → sbs a0 a → (∀ w, w < 6 → a.testBit w = true → rch B V m w) → (∀ u q, u < 6 → nx.testBit u = true → V u = some q → sbs (tuk B q.1) a) → G (XC l D cA ad) mX2_withValuesIn Q 85 [some (.ref b), some (.int x), some (.int (nI a)), some (.int (nI lk)), some (.int (nI i)), some (.int (nI nx)), z] [] σ) :
    ∀ j u a, u + j = 6 → a < 64 → sbs a0 a → (∀ w, w < 6 → a.testBit w = true → rch B V m w) → (∀ v q, v < u → nx.testBit v = true → V v = some q → sbs (tuk B q.1) a) → G (XC l D cA ad) mX2_withValuesIn Q 31 [some (.ref b), some (.int x), some (.int (nI a)), some (.int (nI lk)), some (.int (nI i)), some (.int (nI nx)), some (.int (nI u))] [] σ := by
  intro j
  induction j with
  | zero =>
    intro u a hu h1 h2 h3 h4
    have hu : u = 6 := by omega
    subst hu
    refine G.iload (i := 6) rfl dX2_withValuesIn_31 ?_
    refine G.bipush (v := 6) (by decide) dX2_withValuesIn_33 ?_
    refine G.icmp_ge (tgt := 85) (by decide) dX2_withValuesIn_35 (fun c_35 => ?_) (fun c_35 => absurd (by decide) c_35)
    exact done a _ h1 h2 h3 h4
  | succ j ih =>
    intro u a hu h1 h2 h3' h4
    have hu6 : u < 6 := by omega
    refine G.iload (i := 6) rfl dX2_withValuesIn_31 ?_
    refine G.bipush (v := 6) (by decide) dX2_withValuesIn_33 ?_
    refine G.icmp_ge (tgt := 85) (by decide) dX2_withValuesIn_35 (fun c_35 => absurd c_35 (nI_ge (b := 6) (by omega) (by decide))) (fun c_35 => ?_)
    refine G.iload (i := 5) rfl dX2_withValuesIn_38 ?_
    refine G.iload (i := 6) rfl dX2_withValuesIn_40 ?_
    refine G.ishr dX2_withValuesIn_42 ?_
    refine G.iconst (v := 1) (by decide) dX2_withValuesIn_43 ?_
    refine G.iand dX2_withValuesIn_44 ?_
    refine G.if_eq (tgt := 79) (by decide) dX2_withValuesIn_45 (fun c_45 => ?_) (fun c_45 => ?_)
    · have hn : ¬ nx.testBit u = true := (tb_bit (by omega) (by omega)).mp c_45
      have hgo : ∀ v q, v < u + 1 → nx.testBit v = true → V v = some q → sbs (tuk B q.1) a := fun v q hv hb2 e => by
        rcases Nat.lt_or_ge v u with z | z
        · exact h4 v q z hb2 e
        · rw [show v = u by omega] at hb2; exact absurd hb2 hn
      have hga : a < 64 ∧ sbs a0 a ∧ ∀ w, w < 6 → a.testBit w = true → rch B V m w := ⟨h1, h2, h3'⟩
      refine G.inc6 (d := 1) (by decide) (by decide) rfl dX2_withValuesIn_79 ?_
      refine G.goto (tgt := 31) (by decide) dX2_withValuesIn_82 ?_
      rw [nI_1]
      exact ih (u + 1) _ (by omega) hga.1 hga.2.1 hga.2.2 hgo
    · have hn : nx.testBit u = true := by
        by_cases z : nx.testBit u = true
        · exact z
        · exact absurd ((tb_bit (by omega) (by omega)).mpr z) c_45
      refine G.aload_n (k := 0) rfl dX2_withValuesIn_48 ?_
      refine G.getr (j := 1) hb.1 gci_X2 (by decide) rfl fl_X2_9 dX2_withValuesIn_49 ?_
      refine G.iload (i := 6) rfl dX2_withValuesIn_52 ?_
      refine G.ialdN (k := u) hb.2.1 rfl (by omega) (by decide) dX2_withValuesIn_54 ?_
      rw [hr u hu6]
      refine G.iconst (v := (-1)) (by decide) dX2_withValuesIn_55 ?_
      refine G.icmp_eq (tgt := 79) (by decide) dX2_withValuesIn_56 (fun c_56 => ?_) (fun c_56 => ?_)
      · have hno : V u = none := by
          cases e : V u with
          | none => rfl
          | some w =>
            rw [vrow, e] at c_56
            have := hV _ _ e
            exact absurd c_56 (ne_m1 (spot_lt this.2.1 this.2.2))
        have hgo : ∀ v q, v < u + 1 → nx.testBit v = true → V v = some q → sbs (tuk B q.1) a := fun v q hv hb2 e => by
          rcases Nat.lt_or_ge v u with z | z
          · exact h4 v q z hb2 e
          · rw [show v = u by omega, hno] at e; cases e
        have hga : a < 64 ∧ sbs a0 a ∧ ∀ w, w < 6 → a.testBit w = true → rch B V m w := ⟨h1, h2, h3'⟩
        refine G.inc6 (d := 1) (by decide) (by decide) rfl dX2_withValuesIn_79 ?_
        refine G.goto (tgt := 31) (by decide) dX2_withValuesIn_82 ?_
        rw [nI_1]
        exact ih (u + 1) _ (by omega) hga.1 hga.2.1 hga.2.2 hgo
      · obtain ⟨w, ew⟩ : ∃ w, V u = some w := by
          cases e : V u with
          | none => rw [vrow, e] at c_56; exact absurd rfl c_56
          | some w => exact ⟨w, rfl⟩
        have hw := hV _ _ ew
        have lw := nd_lt hw.2.1
        have bw := me_b _ hw.2.1
        have evr : vrow V u = nI (w.1 * 262144 + w.2) := by rw [vrow, ew]
        refine G.iload_n (k := 2) rfl dX2_withValuesIn_59 ?_
        refine G.aload_n (k := 0) rfl dX2_withValuesIn_60 ?_
        refine G.getr (j := 0) hb.1 gci_X2 (by decide) rfl fl_X2_47 dX2_withValuesIn_61 ?_
        refine G.aload_n (k := 0) rfl dX2_withValuesIn_64 ?_
        refine G.getr (j := 1) hb.1 gci_X2 (by decide) rfl fl_X2_9 dX2_withValuesIn_65 ?_
        refine G.iload (i := 6) rfl dX2_withValuesIn_68 ?_
        refine G.ialdN (k := u) hb.2.1 rfl (by omega) (by decide) dX2_withValuesIn_70 ?_
        rw [hr u hu6, evr]
        refine G.callSif (c_X3_node (by omega) hw.2.2.1) ml_X2_97 ws_yX3_node gcl_X3_node (by decide) rfl rfl (Nat.le_of_ble_eq_true rfl) dX2_withValuesIn_71 ?_
        refine G.callVif (c_X4_unknownsFrom lw) rfl (gci_X4).1 ml_X2_119 im_yX4_unknownsFrom se_yX4_unknownsFrom gcl_X4_unknownsFrom (by decide) rfl rfl (Nat.le_of_ble_eq_true rfl) dX2_withValuesIn_74 ?_
        rw [(h3 _ hw.2.1).2.1.2.2.2.2]
        refine G.ior dX2_withValuesIn_77 ?_
        rw [nu_or]
        refine G.ist2 (by decide) rfl dX2_withValuesIn_78 ?_
        have hgo : ∀ v q, v < u + 1 → nx.testBit v = true → V v = some q → sbs (tuk B q.1) (a ||| tuk B w.1) := fun v q hv hb2 e => by
          rcases Nat.lt_or_ge v u with z | z
          · exact sbs_tr (h4 v q z hb2 e) (sbs_or_l _ _)
          · rw [show v = u by omega, ew] at e
            injection e with e
            rw [← e]
            exact sbs_or_r _ _
        have hga : (a ||| tuk B w.1) < 64 ∧ sbs a0 (a ||| tuk B w.1) ∧ ∀ y, y < 6 → (a ||| tuk B w.1).testBit y = true → rch B V m y := ⟨or_lt64 h1 bw.2.1, sbs_tr h2 (sbs_or_l _ _), fun y hy hb2 => by
          rw [Nat.testBit_or, Bool.or_eq_true] at hb2
          rcases hb2 with z | z
          · exact h3' y hy z
          · exact fun S s1 s2 s3 => s3 u w hu6 (hnr u hu6 hn S s1 s2 s3) ew y hy z⟩
        refine G.inc6 (d := 1) (by decide) (by decide) rfl dX2_withValuesIn_79 ?_
        refine G.goto (tgt := 31) (by decide) dX2_withValuesIn_82 ?_
        rw [nI_1]
        exact ih (u + 1) _ (by omega) hga.1 hga.2.1 hga.2.2 hgo
set_option maxHeartbeats 4000000 in
set_option maxRecDepth 100000 in
theorem l_X2_withValuesIn {b m : Nat} {x : Int32} {ln B : Nat → Nat} {V : uV} (hb : svA b) (h3 : tx3 σ ln B) (hV : VG B ln V) (hr : ∀ u, u < 6 → σ (b + 1) u = vrow V u) : ∀ j i a lk z5 z6, i + j = 6 → a < 64 → lk < 64 → sbs m a → sbs lk a → (∀ w, w < 6 → a.testBit w = true → rch B V m w) → (∀ v q, v < 6 → lk.testBit v = true → V v = some q → sbs (tuk B q.1) a) → i ≤ bc6 lk → G (XC l D cA ad) mX2_withValuesIn (g_ri (fun r τ => τ = σ ∧ ∃ R, r = nI R ∧ isClo B V m R)) 7 [some (.ref b), some (.int x), some (.int (nI a)), some (.int (nI lk)), some (.int (nI i)), z5, z6] [] σ := by
  intro j
  induction j with
  | zero =>
    intro i a lk z5 z6 hi h1 hl h2 h4 h5 h6 h7
    have hi : i = 6 := by omega
    subst hi
    have e1 := bc_63 lk hl h7
    have heq : lk = a := by
      refine ms_ext hl h1 (fun n hn => ?_)
      have : lk.testBit n = true := by rw [e1]; revert hn; revert n; decide
      rw [this, h4 n hn this]
    have hcl : isClo B V m a := by
      refine ⟨h1, h2, fun v q hv hb2 e => ?_, h5⟩
      exact h6 v q hv (by rw [heq]; exact hb2) e
    refine G.iload (i := 4) rfl dX2_withValuesIn_7 ?_
    refine G.bipush (v := 6) (by decide) dX2_withValuesIn_9 ?_
    refine G.icmp_ge (tgt := 91) (by decide) dX2_withValuesIn_11 (fun c_11 => ?_) (fun c_11 => absurd (by decide) c_11)
    refine G.iload_n (k := 2) rfl dX2_withValuesIn_91 ?_
    exact G.iret rfl (⟨rfl, a, rfl, hcl⟩) dX2_withValuesIn_92
  | succ j ih =>
    intro i a lk z5 z6 hi h1 hl h2 h4 h5 h6 h7
    refine G.iload (i := 4) rfl dX2_withValuesIn_7 ?_
    refine G.bipush (v := 6) (by decide) dX2_withValuesIn_9 ?_
    refine G.icmp_ge (tgt := 91) (by decide) dX2_withValuesIn_11 (fun c_11 => absurd c_11 (nI_ge (b := 6) (by omega) (by decide))) (fun c_11 => ?_)
    refine G.iload_n (k := 3) rfl dX2_withValuesIn_14 ?_
    refine G.iload_n (k := 2) rfl dX2_withValuesIn_15 ?_
    refine G.icmp_eq (tgt := 91) (by decide) dX2_withValuesIn_16 (fun c_16 => ?_) (fun c_16 => ?_)
    · have heq : lk = a := (nI_eq (by omega) (by omega)).mp c_16
      have hcl : isClo B V m a := by
        refine ⟨h1, h2, fun v q hv hb2 e => ?_, h5⟩
        exact h6 v q hv (by rw [heq]; exact hb2) e
      refine G.iload_n (k := 2) rfl dX2_withValuesIn_91 ?_
      exact G.iret rfl (⟨rfl, a, rfl, hcl⟩) dX2_withValuesIn_92
    · have hne : lk ≠ a := fun e => c_16 (by rw [e])
      have hbc := bc_lt lk hl a h1 (sbs_and hl h4) hne
      refine G.iload_n (k := 2) rfl dX2_withValuesIn_19 ?_
      refine G.iload_n (k := 3) rfl dX2_withValuesIn_20 ?_
      refine G.iconst (v := (-1)) (by decide) dX2_withValuesIn_21 ?_
      refine G.ixor dX2_withValuesIn_22 ?_
      refine G.iand dX2_withValuesIn_23 ?_
      rw [an_j a h1 lk hl]
      refine G.ist5 (by decide) rfl dX2_withValuesIn_24 ?_
      refine G.iload_n (k := 2) rfl dX2_withValuesIn_26 ?_
      refine G.ist3 (by decide) rfl dX2_withValuesIn_27 ?_
      refine G.iconst (v := 0) (by decide) dX2_withValuesIn_28 ?_
      refine G.ist6 (by decide) rfl dX2_withValuesIn_29 ?_
      refine l1_X2_withValuesIn (m := m) (a0 := a) hb h3 hV hr (an_lt h1) (fun u hu hb2 => h5 u hu (by rw [an_bit a h1 lk hl u hu, Bool.and_eq_true] at hb2; exact hb2.1)) (fun a' z q1 q2 q3 q4 => ?_) 6 0 a rfl h1 (sbs_rf a) h5 (fun v q hv => by omega)
      refine G.inc4 (d := 1) (by decide) (by decide) rfl dX2_withValuesIn_85 ?_
      refine G.goto (tgt := 7) (by decide) dX2_withValuesIn_88 ?_
      rw [nI_1]
      refine ih (i + 1) a' a _ _ (by omega) q1 h1 (sbs_tr h2 q2) q2 q3 (fun v q hv hb2 e => ?_) (by omega)
      by_cases z : lk.testBit v = true
      · exact sbs_tr (h6 v q hv z e) q2
      · exact q4 v q hv (by rw [an_bit a h1 lk hl v hv, hb2]; simp at z; rw [z]; rfl) e
set_option maxHeartbeats 4000000 in
set_option maxRecDepth 100000 in
theorem c_X2_withValuesIn {b : Nat} (hb : svA b) {m : Nat} {ln B : Nat → Nat} {V : uV} (h3 : tx3 σ ln B) (hV : VG B ln V) (hr : ∀ u, u < 6 → σ (b + 1) u = vrow V u) (hm : m < 64) : GM (XC l D cA ad) mX2_withValuesIn [.ref b, .int (nI m)] σ (g_ri (fun r τ => τ = σ ∧ ∃ R, r = nI R ∧ isClo B V m R)) := by
  refine GM.of (ls := [some (.ref b), some (.int (nI m)), none, none, none, none, none]) (by decide) (Nat.le_of_ble_eq_true rfl) rfl ?_
  refine G.iload_n (k := 1) rfl dX2_withValuesIn_0 ?_
  refine G.ist2 (by decide) rfl dX2_withValuesIn_1 ?_
  refine G.iconst (v := 0) (by decide) dX2_withValuesIn_2 ?_
  refine G.ist3 (by decide) rfl dX2_withValuesIn_3 ?_
  refine G.iconst (v := 0) (by decide) dX2_withValuesIn_4 ?_
  refine G.ist4 (by decide) rfl dX2_withValuesIn_5 ?_
  exact l_X2_withValuesIn hb h3 hV hr 6 0 m 0 _ _ rfl hm (by decide) (sbs_rf m) (fun w _ h => by simp at h) (fun w hw h S s1 s2 _ => s2 w hw h) (fun v q hv h => by simp at h) (Nat.zero_le _)
set_option maxHeartbeats 4000000 in
set_option maxRecDepth 100000 in
theorem c_X2_finding {b : Nat} (hb : svA b) {w : Int32} (hw : w = 0 ∨ w = 1 ∨ w = 2 ∨ w = 3) : GM (XC l D cA ad) mX2_finding [.ref b, .int w] σ (g_ri (fun r τ => r = (if w = 0 then σ b 8 else if w = 1 then σ b 9 else if w = 2 then σ b 10 else σ b 2) ∧ τ = σ)) := by
  refine GM.of (ls := [some (.ref b), some (.int w)]) (by decide) (Nat.le_of_ble_eq_true rfl) rfl ?_
  refine G.iload_n (k := 1) rfl dX2_finding_0 ?_
  rcases hw with e | e | e | e
  · subst e
    refine G.tableIn (tgt := 28) dX2_finding_1 (by decide) (by decide) rfl (by decide) ?_
    refine G.aload_n (k := 0) rfl dX2_finding_28 ?_
    refine G.geti (j := 8) hb.1 gci_X2 (by decide) rfl fl_X2_34 dX2_finding_29 ?_
    exact G.iret rfl (⟨rfl, rfl⟩) dX2_finding_32
  · subst e
    refine G.tableIn (tgt := 33) dX2_finding_1 (by decide) (by decide) rfl (by decide) ?_
    refine G.aload_n (k := 0) rfl dX2_finding_33 ?_
    refine G.geti (j := 9) hb.1 gci_X2 (by decide) rfl fl_X2_37 dX2_finding_34 ?_
    exact G.iret rfl (⟨rfl, rfl⟩) dX2_finding_37
  · subst e
    refine G.tableIn (tgt := 38) dX2_finding_1 (by decide) (by decide) rfl (by decide) ?_
    refine G.aload_n (k := 0) rfl dX2_finding_38 ?_
    refine G.geti (j := 10) hb.1 gci_X2 (by decide) rfl fl_X2_40 dX2_finding_39 ?_
    exact G.iret rfl (⟨rfl, rfl⟩) dX2_finding_42
  · subst e
    refine G.tableOut (tgt := 43) dX2_finding_1 (by decide) (by decide) ?_
    refine G.aload_n (k := 0) rfl dX2_finding_43 ?_
    refine G.geti (j := 2) hb.1 gci_X2 (by decide) rfl fl_X2_15 dX2_finding_44 ?_
    exact G.iret rfl (⟨rfl, rfl⟩) dX2_finding_47
set_option maxHeartbeats 4000000 in
set_option maxRecDepth 100000 in
theorem c_X2_freshNames {b : Nat} (hb : svA b) {u : Nat} (hu : u < 6) : GM (XC l D cA ad) mX2_freshNames [.ref b, .int (nI u)] σ (g_ri (fun r τ => r = (if σ b 8 = 0 ∧ σ (b + 1) u = -1 then σ (b + 5) u else 0) ∧ τ = σ)) := by
  refine GM.of (ls := [some (.ref b), some (.int (nI u))]) (by decide) (Nat.le_of_ble_eq_true rfl) rfl ?_
  refine G.aload_n (k := 0) rfl dX2_freshNames_0 ?_
  refine G.geti (j := 8) hb.1 gci_X2 (by decide) rfl fl_X2_34 dX2_freshNames_1 ?_
  refine G.if_ne (tgt := 26) (by decide) dX2_freshNames_4 (fun c_4 => ?_) (fun c_4 => ?_)
  · have hr : (0 : Int32) = (if σ b 8 = 0 ∧ σ (b + 1) u = -1 then σ (b + 5) u else 0) := (if_neg (fun h => c_4 h.1)).symm
    refine G.iconst (v := 0) (by decide) dX2_freshNames_26 ?_
    exact G.iret rfl ⟨hr, rfl⟩ dX2_freshNames_27
  · have h1 := c_4
    refine G.aload_n (k := 0) rfl dX2_freshNames_7 ?_
    refine G.getr (j := 1) hb.1 gci_X2 (by decide) rfl fl_X2_9 dX2_freshNames_8 ?_
    refine G.iload_n (k := 1) rfl dX2_freshNames_11 ?_
    refine G.ialdN (k := u) hb.2.1 rfl (by omega) (by decide) dX2_freshNames_12 ?_
    refine G.iconst (v := (-1)) (by decide) dX2_freshNames_13 ?_
    refine G.icmp_ne (tgt := 26) (by decide) dX2_freshNames_14 (fun c_14 => ?_) (fun c_14 => ?_)
    · have hr : (0 : Int32) = (if σ b 8 = 0 ∧ σ (b + 1) u = -1 then σ (b + 5) u else 0) := (if_neg (fun h => c_14 h.2)).symm
      refine G.iconst (v := 0) (by decide) dX2_freshNames_26 ?_
      exact G.iret rfl ⟨hr, rfl⟩ dX2_freshNames_27
    · have hr : σ (b + 5) u = (if σ b 8 = 0 ∧ σ (b + 1) u = -1 then σ (b + 5) u else 0) := (if_pos ⟨h1, c_14⟩).symm
      refine G.aload_n (k := 0) rfl dX2_freshNames_17 ?_
      refine G.getr (j := 7) hb.1 gci_X2 (by decide) rfl fl_X2_31 dX2_freshNames_18 ?_
      refine G.iload_n (k := 1) rfl dX2_freshNames_21 ?_
      refine G.ialdN (k := u) hb.2.2.2.2.2.1 rfl (by omega) (by decide) dX2_freshNames_22 ?_
      refine G.goto (tgt := 27) (by decide) dX2_freshNames_23 ?_
      exact G.iret rfl ⟨hr, rfl⟩ dX2_freshNames_27
end T50

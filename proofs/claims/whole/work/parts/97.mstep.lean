/-! ===== the model: one step of solving ===== -/
def WnM (σ : gS) (B : Nat → Nat) : List (Nat × Nat) → Prop
  | [] => True
  | x :: W => (∃ n p, n < 6 ∧ tn_P p ∧ σ 24 W.length = nI n ∧ σ 25 W.length = nI (pN B x.1) ∧ σ 26 W.length = nI p ∧ x.2 = tn_src p n) ∧ WnM σ B W
theorem WnM_congr {σ τ : gS} {B : Nat → Nat} : ∀ W : List (Nat × Nat), (∀ k i, 24 ≤ k → k ≤ 26 → i < W.length → τ k i = σ k i) → WnM σ B W → WnM τ B W := by
  intro W
  induction W with
  | nil => intro _ _; trivial
  | cons x W ih =>
    intro h h1
    have l : W.length < (x :: W).length := by simp
    obtain ⟨⟨n, p, a1, a2, a3, a4, a5, a6⟩, h2⟩ := h1
    exact ⟨⟨n, p, a1, a2, by rw [h 24 _ (by decide) (by decide) l]; exact a3, by rw [h 25 _ (by decide) (by decide) l]; exact a4, by rw [h 26 _ (by decide) (by decide) l]; exact a5, a6⟩, ih (fun k i a b c => h k i a b (by simp; omega)) h2⟩
def WkM (σ : gS) (B : Nat → Nat) (W : List (Nat × Nat)) : Prop := WnM σ B W ∧ σ 0 35 = nI W.length
def UM (σ : gS) (B td : Nat → Nat) (S : uS) : Prop := VM σ B S.1 ∧ PkM σ B S.2.1 ∧ (∀ u, u < 6 → ∃ n, σ 27 u = nI n ∧ n < 64 ∧ S.2.2.1 u = td u ||| n) ∧ WkM σ B S.2.2.2.1
theorem WkM_F {σ τ : gS} {B : Nat → Nat} {W : List (Nat × Nat)} (h : ∀ k, 24 ≤ k → k ≤ 26 → τ k = σ k) (h35 : τ 0 35 = σ 0 35) (hW : WkM σ B W) : WkM τ B W := ⟨WnM_congr W (fun k i a b _ => by rw [h k a b]) hW.1, by rw [h35]; exact hW.2⟩
theorem UM_F {σ τ : gS} {B td : Nat → Nat} {S : uS} (h : ∀ k, 16 ≤ k → k ≤ 27 → k ≠ 18 → k ≠ 19 → τ k = σ k) (h28 : τ 0 28 = σ 0 28) (h35 : τ 0 35 = σ 0 35) (hU : UM σ B td S) : UM τ B td S := ⟨VM_F (h 16 (by decide) (by decide) (by decide) (by decide)) (h 17 (by decide) (by decide) (by decide) (by decide)) hU.1, PkM_F (fun k a b => h k (by omega) (by omega) (by omega) (by omega)) h28 hU.2.1, fun u hu => by rw [h 27 (by decide) (by decide) (by decide) (by decide)]; exact hU.2.2.1 u hu, WkM_F (fun k a b => h k (by omega) (by omega) (by omega) (by omega)) h35 hU.2.2.2⟩
def uF (σ τ : gS) : Prop := (∀ k, k ≠ 0 → (k < 16 ∨ k = 18 ∨ k = 19 ∨ 27 < k) → τ k = σ k) ∧ ∀ i, i ≠ 28 → i ≠ 31 → i ≠ 35 → τ 0 i = σ 0 i
theorem uF_rf (σ : gS) : uF σ σ := ⟨fun _ _ _ => rfl, fun _ _ _ _ => rfl⟩
theorem uF_tr {σ τ υ : gS} (h1 : uF σ τ) (h2 : uF τ υ) : uF σ υ := ⟨fun k a b => (h2.1 k a b).trans (h1.1 k a b), fun i a b c => (h2.2 i a b c).trans (h1.2 i a b c)⟩
theorem pF_u {σ τ : gS} (h : pF σ τ) : uF σ τ := ⟨fun k a b => h.1 k a (by omega), fun i a b c => h.2 i a b⟩
theorem UM_give {σ : gS} {B td : Nat → Nat} {V : uV} {P : uP} {w : Nat → Nat} {W : List (Nat × Nat)} {y y' u g c : Nat} (h : UM σ B td (V, P, w, W, y)) : UM (up2 (up2 σ 16 u (nI (pN B g))) 17 u (nI c)) B td ((fun v => if v = u then some (g, c) else V v), P, w, W, y') ∧ uF σ (up2 (up2 σ 16 u (nI (pN B g))) 17 u (nI c)) := by
  have r : ∀ k, k ≠ 16 → k ≠ 17 → up2 (up2 σ 16 u (nI (pN B g))) 17 u (nI c) k = σ k := fun k h1 h2 => by rw [up2_ne _ _ _ h2, up2_ne _ _ _ h1]
  refine ⟨⟨VM_give h.1, PkM_F (fun k a b => r k (by omega) (by omega)) (by rw [r 0 (by decide) (by decide)]) h.2.1, fun u hu => by rw [r 27 (by decide) (by decide)]; exact h.2.2.1 u hu, WkM_F (fun k a b => r k (by omega) (by omega)) (by rw [r 0 (by decide) (by decide)]) h.2.2.2⟩, fun k a b => r k (by omega) (by omega), fun i _ _ _ => by rw [r 0 (by decide) (by decide)]⟩
theorem UM_un {σ : gS} {B td : Nat → Nat} {V : uV} {P : uP} {w : Nat → Nat} {W : List (Nat × Nat)} {y u n x : Nat} (h : UM σ B td (V, P, w, W, y)) (hu : u < 6) (hn : σ 27 u = nI n) (hx : x < 64) : UM (up2 σ 27 u (nI (n ||| x))) B td (V, P, (fun v => if v = u then w v ||| x else w v), W, y) ∧ uF σ (up2 σ 27 u (nI (n ||| x))) := by
  have r : ∀ k, k ≠ 27 → up2 σ 27 u (nI (n ||| x)) k = σ k := fun k h1 => up2_ne _ _ _ h1
  refine ⟨⟨VM_F (r 16 (by decide)) (r 17 (by decide)) h.1, PkM_F (fun k a b => r k (by omega)) (by rw [r 0 (by decide)]) h.2.1, fun v hv => ?_, WkM_F (fun k a b => r k (by omega)) (by rw [r 0 (by decide)]) h.2.2.2⟩, fun k a b => r k (by omega), fun i _ _ _ => by rw [r 0 (by decide)]⟩
  obtain ⟨m, h1, h2, h3⟩ := h.2.2.1 v hv
  by_cases e : v = u
  · subst e
    have hmn : nI m = nI n := h1.symm.trans hn
    refine ⟨m ||| x, by rw [up2_at, ← nu_or, ← hmn, nu_or], or_lt64 h2 hx, ?_⟩
    show (if v = v then w v ||| x else w v) = _
    rw [if_pos rfl, show w v = td v ||| m from h3, Nat.or_assoc]
  · refine ⟨m, by rw [up2_r, if_neg (fun z => e z.2)]; exact h1, h2, ?_⟩
    show (if v = u then w v ||| x else w v) = _
    rw [if_neg e]; exact h3
abbrev w4S (σ : gS) (n : Nat) (x y z : Int32) : gS := up2 (up2 (up2 (up2 σ 24 n x) 25 n y) 26 n z) 0 35 (nI (n + 1))
theorem UM_want {σ : gS} {B td : Nat → Nat} {V : uV} {P : uP} {w : Nat → Nat} {W : List (Nat × Nat)} {y n p g : Nat} (h : UM σ B td (V, P, w, W, y)) (hn : n < 6) (hp : tn_P p) : UM (w4S σ W.length (nI n) (nI (pN B g)) (nI p)) B td (V, P, w, (g, tn_src p n) :: W, y) ∧ uF σ (w4S σ W.length (nI n) (nI (pN B g)) (nI p)) := by
  have r : ∀ k, k ≠ 0 → k ≠ 24 → k ≠ 25 → k ≠ 26 → w4S σ W.length (nI n) (nI (pN B g)) (nI p) k = σ k := fun k h0 h1 h2 h3 => by unfold w4S; rw [up2_ne _ _ _ h0, up2_ne _ _ _ h3, up2_ne _ _ _ h2, up2_ne _ _ _ h1]
  have r0 : ∀ i, i ≠ 35 → w4S σ W.length (nI n) (nI (pN B g)) (nI p) 0 i = σ 0 i := fun i hi => by unfold w4S; rw [up2_r, if_neg (fun z => hi z.2), up2_ne _ _ _ (by decide), up2_ne _ _ _ (by decide), up2_ne _ _ _ (by decide)]
  refine ⟨⟨VM_F (r 16 (by decide) (by decide) (by decide) (by decide)) (r 17 (by decide) (by decide) (by decide) (by decide)) h.1, PkM_F (fun k a b => r k (by omega) (by omega) (by omega) (by omega)) (r0 28 (by decide)) h.2.1, fun u hu => by rw [r 27 (by decide) (by decide) (by decide) (by decide)]; exact h.2.2.1 u hu, ⟨⟨n, p, hn, hp, ?_, ?_, ?_, rfl⟩, WnM_congr W (fun k i a b c => ?_) h.2.2.2.1⟩, up2_at _ _ _ _⟩, fun k a b => r k a (by omega) (by omega) (by omega), fun i _ _ c => r0 i c⟩
  · unfold w4S; rw [up2_ne _ _ _ (by decide), up2_ne _ _ _ (by decide), up2_ne _ _ _ (by decide), up2_at]
  · unfold w4S; rw [up2_ne _ _ _ (by decide), up2_ne _ _ _ (by decide), up2_at]
  · unfold w4S; rw [up2_ne _ _ _ (by decide), up2_at]
  · unfold w4S; rw [up2_ne _ _ _ (by omega), up2_r, if_neg (fun z => by omega), up2_r, if_neg (fun z => by omega), up2_r, if_neg (fun z => by omega)]
theorem no_rch {B : Nat → Nat} {V : uV} {g u : Nat} (hc : kd (B g) = 2) (hV : V (B g - 80) = none) (hu : u ≠ B g - 80) : ¬ rch B V (tuk B g) u := fun h => by
  have hk : tuk B g = 2 ^ (B g - 80) := by rw [tuk_1 (Or.inr (Or.inl hc)), if_pos hc]
  have h1 := h (2 ^ (B g - 80)) (sh1_u _ (l80 hc)).2 (by rw [hk]; exact sbs_rf _) (fun v q hv hb hq => by
    rw [Nat.testBit_two_pow] at hb
    have := of_decide_eq_true hb
    rw [← this, hV] at hq
    cases hq)
  rw [Nat.testBit_two_pow] at h1
  exact hu (of_decide_eq_true h1).symm
section T97
variable {l : Launch} {D : va_G} {cA : ClassId} {ad : Nat → Nat}
variable {σ σ0 : gS}
theorem nI_nle2 {a b : Nat} (h : b < a) (ha : a < 2 ^ 31) : ¬ nI a ≤ nI b := nI_ge h ha
theorem nmkd {B : Nat → Nat} {g : Nat} (h1 : 1 ≤ kd (B g) ∧ kd (B g) ≤ 7) (h : ¬ kd (B g) = 2) : ¬ nI (kd (B g) - 1) = 1 := fun z => by
  have := (nI_eq (show kd (B g) - 1 < 2 ^ 31 by omega) (show 1 < 2 ^ 31 by decide)).mp z
  omega
set_option maxHeartbeats 4000000 in
set_option maxRecDepth 100000 in
theorem c_X7_step {ln B td : Nat → Nat} {S : uS} {P' : uP} {a b : Nat × Nat} (hN : ∀ g, nd B ln g → PrM σ B g) (hV : VG B ln S.1) (hU : UM σ B td (S.1, P', S.2.2.1, S.2.2.2.1, S.2.2.2.2)) (h0 : S.2.2.2.2 = 0) (ha : nd B ln a.1 ∧ tn_P a.2) (hb : nd B ln b.1 ∧ tn_P b.2) (hea : ended B S.1 a.1) (heb : ended B S.1 b.1) (hl : P'.length < 690) (hw : S.2.2.2.1.length < 600) : GM (XM l D cA ad) mX7_step [.ref 0, .int (nI (pN B a.1)), .int (nI a.2), .int (nI (pN B b.1)), .int (nI b.2)] σ (g_ri (fun r τ => r = nI (uat false B S P' a b).2.2.2.2 ∧ UM τ B td (uat false B S P' a b) ∧ uF σ τ)) := by
  refine GM.of (ls := [some (.ref 0), some (.int (nI (pN B a.1))), some (.int (nI a.2)), some (.int (nI (pN B b.1))), some (.int (nI b.2)), none, none, none, none]) (by decide) (Nat.le_of_ble_eq_true rfl) rfl ?_
  have la := pN_lt ha.1
  have lb := pN_lt hb.1
  have pa := hN _ ha.1
  have pb := hN _ hb.1
  have hka := nd_kd ha.1
  have hkb := nd_kd hb.1
  have hvm : VM σ B S.1 := hU.1
  by_cases hca : kd (B a.1) = 2
  · have ga := kd2_ge hca
    by_cases hcb : kd (B b.1) = 2
    · have gb := kd2_ge hcb
      by_cases heq : B a.1 = B b.1
      · have hus : uat false B S P' a b = (S.1, P', (fun v => if v = B a.1 - 80 then S.2.2.1 v ||| tn_un a.2 b.2 else S.2.2.1 v), S.2.2.2.1, S.2.2.2.2) := by unfold uat; rw [if_pos ⟨hca, hcb, heq⟩]
        obtain ⟨n1, hn1, hn2, hn3⟩ := hU.2.2.1 (B a.1 - 80) (l80 hca)
        have hU2 := UM_un (x := tn_un a.2 b.2) hU (l80 hca) hn1 (ms_lt _)
        refine G.aload_n (k := 0) rfl dX7_step_0 ?_
        refine G.getr (j := 8) rfl gci_X7 (by decide) rfl fl_X7_31 dX7_step_1 ?_
        refine G.iload_n (k := 1) rfl dX7_step_4 ?_
        refine G.ialdN (k := pN B a.1) rfl (rfl) (la.2.2) (by decide) dX7_step_5 ?_
        rw [show σ 8 (pN B a.1) = 1 by rw [pa.1, hca]; rfl]
        refine G.iconst (v := 1) (by decide) dX7_step_6 ?_
        refine G.icmp_ne (tgt := 14) (by decide) dX7_step_7 (fun c_7 => absurd rfl c_7) (fun c_7 => ?_)
        refine G.iconst (v := 1) (by decide) dX7_step_10 ?_
        refine G.goto (tgt := 15) (by decide) dX7_step_11 ?_
        refine G.ist5 (by decide) rfl dX7_step_15 ?_
        refine G.aload_n (k := 0) rfl dX7_step_17 ?_
        refine G.getr (j := 8) rfl gci_X7 (by decide) rfl fl_X7_31 dX7_step_18 ?_
        refine G.iload_n (k := 3) rfl dX7_step_21 ?_
        refine G.ialdN (k := pN B b.1) rfl (rfl) (lb.2.2) (by decide) dX7_step_22 ?_
        rw [show σ 8 (pN B b.1) = 1 by rw [pb.1, hcb]; rfl]
        refine G.iconst (v := 1) (by decide) dX7_step_23 ?_
        refine G.icmp_ne (tgt := 31) (by decide) dX7_step_24 (fun c_24 => absurd rfl c_24) (fun c_24 => ?_)
        refine G.iconst (v := 1) (by decide) dX7_step_27 ?_
        refine G.goto (tgt := 32) (by decide) dX7_step_28 ?_
        refine G.ist6 (by decide) rfl dX7_step_32 ?_
        refine G.iload (i := 5) rfl dX7_step_34 ?_
        refine G.if_eq (tgt := 130) (by decide) dX7_step_36 (fun c_36 => absurd c_36 (by decide)) (fun c_36 => ?_)
        refine G.iload (i := 6) rfl dX7_step_39 ?_
        refine G.if_eq (tgt := 130) (by decide) dX7_step_41 (fun c_41 => absurd c_41 (by decide)) (fun c_41 => ?_)
        refine G.aload_n (k := 0) rfl dX7_step_44 ?_
        refine G.getr (j := 9) rfl gci_X7 (by decide) rfl fl_X7_34 dX7_step_45 ?_
        refine G.iload_n (k := 1) rfl dX7_step_48 ?_
        refine G.ialdN (k := pN B a.1) rfl (rfl) (la.2.2) (by decide) dX7_step_49 ?_
        rw [pa.2.1, show nmr B a.1 = B a.1 - 80 by rw [nmr, if_neg (by omega), if_pos hca]]
        refine G.aload_n (k := 0) rfl dX7_step_50 ?_
        refine G.getr (j := 9) rfl gci_X7 (by decide) rfl fl_X7_34 dX7_step_51 ?_
        refine G.iload_n (k := 3) rfl dX7_step_54 ?_
        refine G.ialdN (k := pN B b.1) rfl (rfl) (lb.2.2) (by decide) dX7_step_55 ?_
        rw [pb.2.1, show nmr B b.1 = B b.1 - 80 by rw [nmr, if_neg (by omega), if_pos hcb]]
        refine G.icmp_ne (tgt := 82) (by decide) dX7_step_56 (fun c_56 => absurd (by rw [heq]) c_56) (fun c_56 => ?_)
        refine G.aload_n (k := 0) rfl dX7_step_59 ?_
        refine G.getr (j := 39) rfl gci_X7 (by decide) rfl fl_X7_88 dX7_step_60 ?_
        refine G.aload_n (k := 0) rfl dX7_step_63 ?_
        refine G.getr (j := 9) rfl gci_X7 (by decide) rfl fl_X7_34 dX7_step_64 ?_
        refine G.iload_n (k := 1) rfl dX7_step_67 ?_
        refine G.ialdN (k := pN B a.1) rfl (rfl) (la.2.2) (by decide) dX7_step_68 ?_
        rw [pa.2.1, show nmr B a.1 = B a.1 - 80 by rw [nmr, if_neg (by omega), if_pos hca]]
        refine G.dup2 dX7_step_69 ?_
        refine G.ialdN (k := B a.1 - 80) rfl (rfl) (l80 hca) (by decide) dX7_step_70 ?_
        rw [hn1]
        refine G.iload_n (k := 2) rfl dX7_step_71 ?_
        refine G.iload (i := 4) rfl dX7_step_72 ?_
        refine G.callSif (c_X7_unlike ha.2.1 hb.2.1) ml_X7_306 ws_yX7_unlike gcl_X7_unlike (by decide) rfl rfl (Nat.le_of_ble_eq_true rfl) dX7_step_74 ?_
        refine G.ior dX7_step_77 ?_
        rw [nu_or]
        refine G.iastN (k := B a.1 - 80) rfl (rfl) (l80 hca) (by decide) dX7_step_78 ?_
        refine G.goto (tgt := 128) (by decide) dX7_step_79 ?_
        refine G.iconst (v := 0) (by decide) dX7_step_128 ?_
        exact G.iret rfl (by rw [hus]; exact ⟨congrArg nI h0.symm, hU2.1, hU2.2⟩) dX7_step_129
      · by_cases hlt : B b.1 < B a.1
        · have hus : uat false B S P' a b = ((fun v => if v = B a.1 - 80 then some (b.1, tn_cmp (tn_bk a.2) b.2) else S.1 v), P', S.2.2.1, S.2.2.2.1, S.2.2.2.2) := by
            unfold uat ugive
            rw [if_neg (fun z => heq z.2.2), if_pos ⟨hca, fun _ => hlt⟩, if_neg (by decide), if_neg (no_rch hcb (heb.2 hcb) (by omega))]
          have hU2 := UM_give (y' := S.2.2.2.2) (u := B a.1 - 80) (g := b.1) (c := tn_cmp (tn_bk a.2) b.2) hU
          refine G.aload_n (k := 0) rfl dX7_step_0 ?_
          refine G.getr (j := 8) rfl gci_X7 (by decide) rfl fl_X7_31 dX7_step_1 ?_
          refine G.iload_n (k := 1) rfl dX7_step_4 ?_
          refine G.ialdN (k := pN B a.1) rfl (rfl) (la.2.2) (by decide) dX7_step_5 ?_
          rw [show σ 8 (pN B a.1) = 1 by rw [pa.1, hca]; rfl]
          refine G.iconst (v := 1) (by decide) dX7_step_6 ?_
          refine G.icmp_ne (tgt := 14) (by decide) dX7_step_7 (fun c_7 => absurd rfl c_7) (fun c_7 => ?_)
          refine G.iconst (v := 1) (by decide) dX7_step_10 ?_
          refine G.goto (tgt := 15) (by decide) dX7_step_11 ?_
          refine G.ist5 (by decide) rfl dX7_step_15 ?_
          refine G.aload_n (k := 0) rfl dX7_step_17 ?_
          refine G.getr (j := 8) rfl gci_X7 (by decide) rfl fl_X7_31 dX7_step_18 ?_
          refine G.iload_n (k := 3) rfl dX7_step_21 ?_
          refine G.ialdN (k := pN B b.1) rfl (rfl) (lb.2.2) (by decide) dX7_step_22 ?_
          rw [show σ 8 (pN B b.1) = 1 by rw [pb.1, hcb]; rfl]
          refine G.iconst (v := 1) (by decide) dX7_step_23 ?_
          refine G.icmp_ne (tgt := 31) (by decide) dX7_step_24 (fun c_24 => absurd rfl c_24) (fun c_24 => ?_)
          refine G.iconst (v := 1) (by decide) dX7_step_27 ?_
          refine G.goto (tgt := 32) (by decide) dX7_step_28 ?_
          refine G.ist6 (by decide) rfl dX7_step_32 ?_
          refine G.iload (i := 5) rfl dX7_step_34 ?_
          refine G.if_eq (tgt := 130) (by decide) dX7_step_36 (fun c_36 => absurd c_36 (by decide)) (fun c_36 => ?_)
          refine G.iload (i := 6) rfl dX7_step_39 ?_
          refine G.if_eq (tgt := 130) (by decide) dX7_step_41 (fun c_41 => absurd c_41 (by decide)) (fun c_41 => ?_)
          refine G.aload_n (k := 0) rfl dX7_step_44 ?_
          refine G.getr (j := 9) rfl gci_X7 (by decide) rfl fl_X7_34 dX7_step_45 ?_
          refine G.iload_n (k := 1) rfl dX7_step_48 ?_
          refine G.ialdN (k := pN B a.1) rfl (rfl) (la.2.2) (by decide) dX7_step_49 ?_
          rw [pa.2.1, show nmr B a.1 = B a.1 - 80 by rw [nmr, if_neg (by omega), if_pos hca]]
          refine G.aload_n (k := 0) rfl dX7_step_50 ?_
          refine G.getr (j := 9) rfl gci_X7 (by decide) rfl fl_X7_34 dX7_step_51 ?_
          refine G.iload_n (k := 3) rfl dX7_step_54 ?_
          refine G.ialdN (k := pN B b.1) rfl (rfl) (lb.2.2) (by decide) dX7_step_55 ?_
          rw [pb.2.1, show nmr B b.1 = B b.1 - 80 by rw [nmr, if_neg (by omega), if_pos hcb]]
          refine G.icmp_ne (tgt := 82) (by decide) dX7_step_56 (fun c_56 => ?_) (fun c_56 => absurd ((nI_eq (show B a.1 - 80 < 2 ^ 31 by omega) (show B b.1 - 80 < 2 ^ 31 by omega)).mp c_56) (by omega))
          refine G.aload_n (k := 0) rfl dX7_step_82 ?_
          refine G.getr (j := 9) rfl gci_X7 (by decide) rfl fl_X7_34 dX7_step_83 ?_
          refine G.iload_n (k := 1) rfl dX7_step_86 ?_
          refine G.ialdN (k := pN B a.1) rfl (rfl) (la.2.2) (by decide) dX7_step_87 ?_
          rw [pa.2.1, show nmr B a.1 = B a.1 - 80 by rw [nmr, if_neg (by omega), if_pos hca]]
          refine G.aload_n (k := 0) rfl dX7_step_88 ?_
          refine G.getr (j := 9) rfl gci_X7 (by decide) rfl fl_X7_34 dX7_step_89 ?_
          refine G.iload_n (k := 3) rfl dX7_step_92 ?_
          refine G.ialdN (k := pN B b.1) rfl (rfl) (lb.2.2) (by decide) dX7_step_93 ?_
          rw [pb.2.1, show nmr B b.1 = B b.1 - 80 by rw [nmr, if_neg (by omega), if_pos hcb]]
          refine G.icmp_le (tgt := 114) (by decide) dX7_step_94 (fun c_94 => absurd c_94 (nI_nle2 (by omega) (by omega))) (fun c_94 => ?_)
          refine G.aload_n (k := 0) rfl dX7_step_97 ?_
          refine G.aload_n (k := 0) rfl dX7_step_98 ?_
          refine G.getr (j := 9) rfl gci_X7 (by decide) rfl fl_X7_34 dX7_step_99 ?_
          refine G.iload_n (k := 1) rfl dX7_step_102 ?_
          refine G.ialdN (k := pN B a.1) rfl (rfl) (la.2.2) (by decide) dX7_step_103 ?_
          rw [pa.2.1, show nmr B a.1 = B a.1 - 80 by rw [nmr, if_neg (by omega), if_pos hca]]
          refine G.iload_n (k := 2) rfl dX7_step_104 ?_
          refine G.iload_n (k := 3) rfl dX7_step_105 ?_
          refine G.iload (i := 4) rfl dX7_step_106 ?_
          refine G.callVvf (c_X7_gives (l80 hca) ha.2 hb.2) rfl (gci_X7).1 ml_X7_326 im_yX7_gives se_yX7_gives gcl_X7_gives (by decide) rfl rfl (Nat.le_of_ble_eq_true rfl) dX7_step_108 ?_
          refine G.goto (tgt := 128) (by decide) dX7_step_111 ?_
          refine G.iconst (v := 0) (by decide) dX7_step_128 ?_
          exact G.iret rfl (by rw [hus]; exact ⟨congrArg nI h0.symm, hU2.1, hU2.2⟩) dX7_step_129
        · have hus : uat false B S P' a b = ((fun v => if v = B b.1 - 80 then some (a.1, tn_cmp (tn_bk b.2) a.2) else S.1 v), P', S.2.2.1, S.2.2.2.1, S.2.2.2.2) := by
            unfold uat ugive
            rw [if_neg (fun z => heq z.2.2), if_neg (fun z => hlt (z.2 hcb)), if_pos hcb, if_neg (by decide), if_neg (no_rch hca (hea.2 hca) (by omega))]
          have hU2 := UM_give (y' := S.2.2.2.2) (u := B b.1 - 80) (g := a.1) (c := tn_cmp (tn_bk b.2) a.2) hU
          refine G.aload_n (k := 0) rfl dX7_step_0 ?_
          refine G.getr (j := 8) rfl gci_X7 (by decide) rfl fl_X7_31 dX7_step_1 ?_
          refine G.iload_n (k := 1) rfl dX7_step_4 ?_
          refine G.ialdN (k := pN B a.1) rfl (rfl) (la.2.2) (by decide) dX7_step_5 ?_
          rw [show σ 8 (pN B a.1) = 1 by rw [pa.1, hca]; rfl]
          refine G.iconst (v := 1) (by decide) dX7_step_6 ?_
          refine G.icmp_ne (tgt := 14) (by decide) dX7_step_7 (fun c_7 => absurd rfl c_7) (fun c_7 => ?_)
          refine G.iconst (v := 1) (by decide) dX7_step_10 ?_
          refine G.goto (tgt := 15) (by decide) dX7_step_11 ?_
          refine G.ist5 (by decide) rfl dX7_step_15 ?_
          refine G.aload_n (k := 0) rfl dX7_step_17 ?_
          refine G.getr (j := 8) rfl gci_X7 (by decide) rfl fl_X7_31 dX7_step_18 ?_
          refine G.iload_n (k := 3) rfl dX7_step_21 ?_
          refine G.ialdN (k := pN B b.1) rfl (rfl) (lb.2.2) (by decide) dX7_step_22 ?_
          rw [show σ 8 (pN B b.1) = 1 by rw [pb.1, hcb]; rfl]
          refine G.iconst (v := 1) (by decide) dX7_step_23 ?_
          refine G.icmp_ne (tgt := 31) (by decide) dX7_step_24 (fun c_24 => absurd rfl c_24) (fun c_24 => ?_)
          refine G.iconst (v := 1) (by decide) dX7_step_27 ?_
          refine G.goto (tgt := 32) (by decide) dX7_step_28 ?_
          refine G.ist6 (by decide) rfl dX7_step_32 ?_
          refine G.iload (i := 5) rfl dX7_step_34 ?_
          refine G.if_eq (tgt := 130) (by decide) dX7_step_36 (fun c_36 => absurd c_36 (by decide)) (fun c_36 => ?_)
          refine G.iload (i := 6) rfl dX7_step_39 ?_
          refine G.if_eq (tgt := 130) (by decide) dX7_step_41 (fun c_41 => absurd c_41 (by decide)) (fun c_41 => ?_)
          refine G.aload_n (k := 0) rfl dX7_step_44 ?_
          refine G.getr (j := 9) rfl gci_X7 (by decide) rfl fl_X7_34 dX7_step_45 ?_
          refine G.iload_n (k := 1) rfl dX7_step_48 ?_
          refine G.ialdN (k := pN B a.1) rfl (rfl) (la.2.2) (by decide) dX7_step_49 ?_
          rw [pa.2.1, show nmr B a.1 = B a.1 - 80 by rw [nmr, if_neg (by omega), if_pos hca]]
          refine G.aload_n (k := 0) rfl dX7_step_50 ?_
          refine G.getr (j := 9) rfl gci_X7 (by decide) rfl fl_X7_34 dX7_step_51 ?_
          refine G.iload_n (k := 3) rfl dX7_step_54 ?_
          refine G.ialdN (k := pN B b.1) rfl (rfl) (lb.2.2) (by decide) dX7_step_55 ?_
          rw [pb.2.1, show nmr B b.1 = B b.1 - 80 by rw [nmr, if_neg (by omega), if_pos hcb]]
          refine G.icmp_ne (tgt := 82) (by decide) dX7_step_56 (fun c_56 => ?_) (fun c_56 => absurd ((nI_eq (show B a.1 - 80 < 2 ^ 31 by omega) (show B b.1 - 80 < 2 ^ 31 by omega)).mp c_56) (by omega))
          refine G.aload_n (k := 0) rfl dX7_step_82 ?_
          refine G.getr (j := 9) rfl gci_X7 (by decide) rfl fl_X7_34 dX7_step_83 ?_
          refine G.iload_n (k := 1) rfl dX7_step_86 ?_
          refine G.ialdN (k := pN B a.1) rfl (rfl) (la.2.2) (by decide) dX7_step_87 ?_
          rw [pa.2.1, show nmr B a.1 = B a.1 - 80 by rw [nmr, if_neg (by omega), if_pos hca]]
          refine G.aload_n (k := 0) rfl dX7_step_88 ?_
          refine G.getr (j := 9) rfl gci_X7 (by decide) rfl fl_X7_34 dX7_step_89 ?_
          refine G.iload_n (k := 3) rfl dX7_step_92 ?_
          refine G.ialdN (k := pN B b.1) rfl (rfl) (lb.2.2) (by decide) dX7_step_93 ?_
          rw [pb.2.1, show nmr B b.1 = B b.1 - 80 by rw [nmr, if_neg (by omega), if_pos hcb]]
          refine G.icmp_le (tgt := 114) (by decide) dX7_step_94 (fun c_94 => ?_) (fun c_94 => absurd (nI_le (by omega) (by omega)) c_94)
          refine G.aload_n (k := 0) rfl dX7_step_114 ?_
          refine G.aload_n (k := 0) rfl dX7_step_115 ?_
          refine G.getr (j := 9) rfl gci_X7 (by decide) rfl fl_X7_34 dX7_step_116 ?_
          refine G.iload_n (k := 3) rfl dX7_step_119 ?_
          refine G.ialdN (k := pN B b.1) rfl (rfl) (lb.2.2) (by decide) dX7_step_120 ?_
          rw [pb.2.1, show nmr B b.1 = B b.1 - 80 by rw [nmr, if_neg (by omega), if_pos hcb]]
          refine G.iload (i := 4) rfl dX7_step_121 ?_
          refine G.iload_n (k := 1) rfl dX7_step_123 ?_
          refine G.iload_n (k := 2) rfl dX7_step_124 ?_
          refine G.callVvf (c_X7_gives (l80 hcb) hb.2 ha.2) rfl (gci_X7).1 ml_X7_326 im_yX7_gives se_yX7_gives gcl_X7_gives (by decide) rfl rfl (Nat.le_of_ble_eq_true rfl) dX7_step_125 ?_
          refine G.iconst (v := 0) (by decide) dX7_step_128 ?_
          exact G.iret rfl (by rw [hus]; exact ⟨congrArg nI h0.symm, hU2.1, hU2.2⟩) dX7_step_129
    · have hnb := nmkd hkb hcb
      have hus : uat false B S P' a b = ugive false B S P' (B a.1 - 80) a b := by
        unfold uat
        rw [if_neg (fun z => hcb z.2.1), if_pos ⟨hca, fun z => absurd z hcb⟩]
      have hclo := rks_clo hV (me_b _ hb.1).2.1
      refine G.aload_n (k := 0) rfl dX7_step_0 ?_
      refine G.getr (j := 8) rfl gci_X7 (by decide) rfl fl_X7_31 dX7_step_1 ?_
      refine G.iload_n (k := 1) rfl dX7_step_4 ?_
      refine G.ialdN (k := pN B a.1) rfl (rfl) (la.2.2) (by decide) dX7_step_5 ?_
      rw [show σ 8 (pN B a.1) = 1 by rw [pa.1, hca]; rfl]
      refine G.iconst (v := 1) (by decide) dX7_step_6 ?_
      refine G.icmp_ne (tgt := 14) (by decide) dX7_step_7 (fun c_7 => absurd rfl c_7) (fun c_7 => ?_)
      refine G.iconst (v := 1) (by decide) dX7_step_10 ?_
      refine G.goto (tgt := 15) (by decide) dX7_step_11 ?_
      refine G.ist5 (by decide) rfl dX7_step_15 ?_
      refine G.aload_n (k := 0) rfl dX7_step_17 ?_
      refine G.getr (j := 8) rfl gci_X7 (by decide) rfl fl_X7_31 dX7_step_18 ?_
      refine G.iload_n (k := 3) rfl dX7_step_21 ?_
      refine G.ialdN (k := pN B b.1) rfl (rfl) (lb.2.2) (by decide) dX7_step_22 ?_
      rw [pb.1]
      refine G.iconst (v := 1) (by decide) dX7_step_23 ?_
      refine G.icmp_ne (tgt := 31) (by decide) dX7_step_24 (fun c_24 => ?_) (fun c_24 => absurd c_24 hnb)
      refine G.iconst (v := 0) (by decide) dX7_step_31 ?_
      refine G.ist6 (by decide) rfl dX7_step_32 ?_
      refine G.iload (i := 5) rfl dX7_step_34 ?_
      refine G.if_eq (tgt := 130) (by decide) dX7_step_36 (fun c_36 => absurd c_36 (by decide)) (fun c_36 => ?_)
      refine G.iload (i := 6) rfl dX7_step_39 ?_
      refine G.if_eq (tgt := 130) (by decide) dX7_step_41 (fun c_41 => ?_) (fun c_41 => absurd rfl c_41)
      refine G.iload (i := 5) rfl dX7_step_130 ?_
      refine G.if_ne (tgt := 140) (by decide) dX7_step_132 (fun c_132 => ?_) (fun c_132 => absurd c_132 (by decide))
      refine G.iload (i := 5) rfl dX7_step_140 ?_
      refine G.if_eq (tgt := 154) (by decide) dX7_step_142 (fun c_142 => absurd c_142 (by decide)) (fun c_142 => ?_)
      refine G.aload_n (k := 0) rfl dX7_step_145 ?_
      refine G.getr (j := 9) rfl gci_X7 (by decide) rfl fl_X7_34 dX7_step_146 ?_
      refine G.iload_n (k := 1) rfl dX7_step_149 ?_
      refine G.ialdN (k := pN B a.1) rfl (rfl) (la.2.2) (by decide) dX7_step_150 ?_
      rw [pa.2.1, show nmr B a.1 = B a.1 - 80 by rw [nmr, if_neg (by omega), if_pos hca]]
      refine G.goto (tgt := 160) (by decide) dX7_step_151 ?_
      refine G.ist7 (by decide) rfl dX7_step_160 ?_
      refine G.iload (i := 5) rfl dX7_step_162 ?_
      refine G.if_eq (tgt := 171) (by decide) dX7_step_164 (fun c_164 => absurd c_164 (by decide)) (fun c_164 => ?_)
      refine G.iload_n (k := 3) rfl dX7_step_167 ?_
      refine G.goto (tgt := 172) (by decide) dX7_step_168 ?_
      refine G.ist8 (by decide) rfl dX7_step_172 ?_
      refine G.aload_n (k := 0) rfl dX7_step_174 ?_
      refine G.iload (i := 8) rfl dX7_step_175 ?_
      refine G.callVif (c_X7_all hN hV hvm hb.1) rfl (gci_X7).1 ml_X7_329 im_yX7_all se_yX7_all gcl_X7_all (by decide) rfl rfl (Nat.le_of_ble_eq_true rfl) dX7_step_177 ?_
      refine G.iload (i := 7) rfl dX7_step_180 ?_
      refine G.callSif (c_X7_isIn (b := rks B S.1 (tuk B b.1) 6) (n := B a.1 - 80) (by have := hclo.1; omega) (by have := l80 hca; omega)) ml_X7_200 ws_yX7_isIn gcl_X7_isIn (by decide) rfl rfl (Nat.le_of_ble_eq_true rfl) dX7_step_182 ?_
      refine G.if_eq (tgt := 190) (by decide) dX7_step_185 (fun c_185 => ?_) (fun c_185 => ?_)
      · have hnr : ¬ rch B S.1 (tuk B b.1) (B a.1 - 80) := fun z => bo_0.mp c_185 ((isClo_iff hclo (l80 hca)).mpr z)
        have hus2 : uat false B S P' a b = ((fun v => if v = B a.1 - 80 then some (b.1, tn_cmp (tn_bk a.2) b.2) else S.1 v), P', S.2.2.1, S.2.2.2.1, S.2.2.2.2) := by rw [hus]; unfold ugive; rw [if_neg (by decide), if_neg hnr]
        have hU2 := UM_give (y' := S.2.2.2.2) (u := B a.1 - 80) (g := b.1) (c := tn_cmp (tn_bk a.2) b.2) hU
        refine G.aload_n (k := 0) rfl dX7_step_190 ?_
        refine G.iload (i := 7) rfl dX7_step_191 ?_
        refine G.iload (i := 5) rfl dX7_step_193 ?_
        refine G.if_eq (tgt := 202) (by decide) dX7_step_195 (fun c_195 => absurd c_195 (by decide)) (fun c_195 => ?_)
        refine G.iload_n (k := 2) rfl dX7_step_198 ?_
        refine G.goto (tgt := 204) (by decide) dX7_step_199 ?_
        refine G.iload (i := 8) rfl dX7_step_204 ?_
        refine G.iload (i := 5) rfl dX7_step_206 ?_
        refine G.if_eq (tgt := 216) (by decide) dX7_step_208 (fun c_208 => absurd c_208 (by decide)) (fun c_208 => ?_)
        refine G.iload (i := 4) rfl dX7_step_211 ?_
        refine G.goto (tgt := 217) (by decide) dX7_step_213 ?_
        refine G.callVvf (c_X7_gives (l80 hca) ha.2 hb.2) rfl (gci_X7).1 ml_X7_326 im_yX7_gives se_yX7_gives gcl_X7_gives (by decide) rfl rfl (Nat.le_of_ble_eq_true rfl) dX7_step_217 ?_
        refine G.iconst (v := 0) (by decide) dX7_step_220 ?_
        exact G.iret rfl (by rw [hus2]; exact ⟨congrArg nI h0.symm, hU2.1, hU2.2⟩) dX7_step_221
      · have hr : rch B S.1 (tuk B b.1) (B a.1 - 80) := (isClo_iff hclo (l80 hca)).mp (bo_n.mp c_185)
        have hus2 : uat false B S P' a b = (S.1, P', S.2.2.1, S.2.2.2.1, 2) := by rw [hus]; unfold ugive; rw [if_neg (by decide), if_pos hr]
        refine G.iconst (v := 2) (by decide) dX7_step_188 ?_
        exact G.iret rfl (by rw [hus2]; exact ⟨rfl, hU, uF_rf σ⟩) dX7_step_189
  · have hna := nmkd hka hca
    by_cases hcb : kd (B b.1) = 2
    · have hus : uat false B S P' a b = ugive false B S P' (B b.1 - 80) b a := by
        unfold uat
        rw [if_neg (fun z => hca z.1), if_neg (fun z => hca z.1), if_pos hcb]
      have hclo := rks_clo hV (me_b _ ha.1).2.1
      refine G.aload_n (k := 0) rfl dX7_step_0 ?_
      refine G.getr (j := 8) rfl gci_X7 (by decide) rfl fl_X7_31 dX7_step_1 ?_
      refine G.iload_n (k := 1) rfl dX7_step_4 ?_
      refine G.ialdN (k := pN B a.1) rfl (rfl) (la.2.2) (by decide) dX7_step_5 ?_
      rw [pa.1]
      refine G.iconst (v := 1) (by decide) dX7_step_6 ?_
      refine G.icmp_ne (tgt := 14) (by decide) dX7_step_7 (fun c_7 => ?_) (fun c_7 => absurd c_7 hna)
      refine G.iconst (v := 0) (by decide) dX7_step_14 ?_
      refine G.ist5 (by decide) rfl dX7_step_15 ?_
      refine G.aload_n (k := 0) rfl dX7_step_17 ?_
      refine G.getr (j := 8) rfl gci_X7 (by decide) rfl fl_X7_31 dX7_step_18 ?_
      refine G.iload_n (k := 3) rfl dX7_step_21 ?_
      refine G.ialdN (k := pN B b.1) rfl (rfl) (lb.2.2) (by decide) dX7_step_22 ?_
      rw [show σ 8 (pN B b.1) = 1 by rw [pb.1, hcb]; rfl]
      refine G.iconst (v := 1) (by decide) dX7_step_23 ?_
      refine G.icmp_ne (tgt := 31) (by decide) dX7_step_24 (fun c_24 => absurd rfl c_24) (fun c_24 => ?_)
      refine G.iconst (v := 1) (by decide) dX7_step_27 ?_
      refine G.goto (tgt := 32) (by decide) dX7_step_28 ?_
      refine G.ist6 (by decide) rfl dX7_step_32 ?_
      refine G.iload (i := 5) rfl dX7_step_34 ?_
      refine G.if_eq (tgt := 130) (by decide) dX7_step_36 (fun c_36 => ?_) (fun c_36 => absurd rfl c_36)
      refine G.iload (i := 5) rfl dX7_step_130 ?_
      refine G.if_ne (tgt := 140) (by decide) dX7_step_132 (fun c_132 => absurd rfl c_132) (fun c_132 => ?_)
      refine G.iload (i := 6) rfl dX7_step_135 ?_
      refine G.if_eq (tgt := 222) (by decide) dX7_step_137 (fun c_137 => absurd c_137 (by decide)) (fun c_137 => ?_)
      refine G.iload (i := 5) rfl dX7_step_140 ?_
      refine G.if_eq (tgt := 154) (by decide) dX7_step_142 (fun c_142 => ?_) (fun c_142 => absurd rfl c_142)
      refine G.aload_n (k := 0) rfl dX7_step_154 ?_
      refine G.getr (j := 9) rfl gci_X7 (by decide) rfl fl_X7_34 dX7_step_155 ?_
      refine G.iload_n (k := 3) rfl dX7_step_158 ?_
      refine G.ialdN (k := pN B b.1) rfl (rfl) (lb.2.2) (by decide) dX7_step_159 ?_
      rw [pb.2.1, show nmr B b.1 = B b.1 - 80 by rw [nmr, if_neg (by omega), if_pos hcb]]
      refine G.ist7 (by decide) rfl dX7_step_160 ?_
      refine G.iload (i := 5) rfl dX7_step_162 ?_
      refine G.if_eq (tgt := 171) (by decide) dX7_step_164 (fun c_164 => ?_) (fun c_164 => absurd rfl c_164)
      refine G.iload_n (k := 1) rfl dX7_step_171 ?_
      refine G.ist8 (by decide) rfl dX7_step_172 ?_
      refine G.aload_n (k := 0) rfl dX7_step_174 ?_
      refine G.iload (i := 8) rfl dX7_step_175 ?_
      refine G.callVif (c_X7_all hN hV hvm ha.1) rfl (gci_X7).1 ml_X7_329 im_yX7_all se_yX7_all gcl_X7_all (by decide) rfl rfl (Nat.le_of_ble_eq_true rfl) dX7_step_177 ?_
      refine G.iload (i := 7) rfl dX7_step_180 ?_
      refine G.callSif (c_X7_isIn (b := rks B S.1 (tuk B a.1) 6) (n := B b.1 - 80) (by have := hclo.1; omega) (by have := l80 hcb; omega)) ml_X7_200 ws_yX7_isIn gcl_X7_isIn (by decide) rfl rfl (Nat.le_of_ble_eq_true rfl) dX7_step_182 ?_
      refine G.if_eq (tgt := 190) (by decide) dX7_step_185 (fun c_185 => ?_) (fun c_185 => ?_)
      · have hnr : ¬ rch B S.1 (tuk B a.1) (B b.1 - 80) := fun z => bo_0.mp c_185 ((isClo_iff hclo (l80 hcb)).mpr z)
        have hus2 : uat false B S P' a b = ((fun v => if v = B b.1 - 80 then some (a.1, tn_cmp (tn_bk b.2) a.2) else S.1 v), P', S.2.2.1, S.2.2.2.1, S.2.2.2.2) := by rw [hus]; unfold ugive; rw [if_neg (by decide), if_neg hnr]
        have hU2 := UM_give (y' := S.2.2.2.2) (u := B b.1 - 80) (g := a.1) (c := tn_cmp (tn_bk b.2) a.2) hU
        refine G.aload_n (k := 0) rfl dX7_step_190 ?_
        refine G.iload (i := 7) rfl dX7_step_191 ?_
        refine G.iload (i := 5) rfl dX7_step_193 ?_
        refine G.if_eq (tgt := 202) (by decide) dX7_step_195 (fun c_195 => ?_) (fun c_195 => absurd rfl c_195)
        refine G.iload (i := 4) rfl dX7_step_202 ?_
        refine G.iload (i := 8) rfl dX7_step_204 ?_
        refine G.iload (i := 5) rfl dX7_step_206 ?_
        refine G.if_eq (tgt := 216) (by decide) dX7_step_208 (fun c_208 => ?_) (fun c_208 => absurd rfl c_208)
        refine G.iload_n (k := 2) rfl dX7_step_216 ?_
        refine G.callVvf (c_X7_gives (l80 hcb) hb.2 ha.2) rfl (gci_X7).1 ml_X7_326 im_yX7_gives se_yX7_gives gcl_X7_gives (by decide) rfl rfl (Nat.le_of_ble_eq_true rfl) dX7_step_217 ?_
        refine G.iconst (v := 0) (by decide) dX7_step_220 ?_
        exact G.iret rfl (by rw [hus2]; exact ⟨congrArg nI h0.symm, hU2.1, hU2.2⟩) dX7_step_221
      · have hr : rch B S.1 (tuk B a.1) (B b.1 - 80) := (isClo_iff hclo (l80 hcb)).mp (bo_n.mp c_185)
        have hus2 : uat false B S P' a b = (S.1, P', S.2.2.1, S.2.2.2.1, 2) := by rw [hus]; unfold ugive; rw [if_neg (by decide), if_pos hr]
        refine G.iconst (v := 2) (by decide) dX7_step_188 ?_
        exact G.iret rfl (by rw [hus2]; exact ⟨rfl, hU, uF_rf σ⟩) dX7_step_189
    · have hnb := nmkd hkb hcb
      by_cases hk : kd (B a.1) = kd (B b.1)
      · have h7 : kd (B a.1) ≠ 7 := hea.1
        have hus : uat false B S P' a b = (S.1, gK B a b ++ P', S.2.2.1, gD B a b ++ S.2.2.2.1, if gO B a b = true then S.2.2.2.2 else 1) := by
          unfold uat
          rw [if_neg (fun z => hca z.1), if_neg (fun z => hca z.1), if_neg hcb, if_pos hk, usplit_eq]
        refine G.aload_n (k := 0) rfl dX7_step_0 ?_
        refine G.getr (j := 8) rfl gci_X7 (by decide) rfl fl_X7_31 dX7_step_1 ?_
        refine G.iload_n (k := 1) rfl dX7_step_4 ?_
        refine G.ialdN (k := pN B a.1) rfl (rfl) (la.2.2) (by decide) dX7_step_5 ?_
        rw [pa.1]
        refine G.iconst (v := 1) (by decide) dX7_step_6 ?_
        refine G.icmp_ne (tgt := 14) (by decide) dX7_step_7 (fun c_7 => ?_) (fun c_7 => absurd c_7 hna)
        refine G.iconst (v := 0) (by decide) dX7_step_14 ?_
        refine G.ist5 (by decide) rfl dX7_step_15 ?_
        refine G.aload_n (k := 0) rfl dX7_step_17 ?_
        refine G.getr (j := 8) rfl gci_X7 (by decide) rfl fl_X7_31 dX7_step_18 ?_
        refine G.iload_n (k := 3) rfl dX7_step_21 ?_
        refine G.ialdN (k := pN B b.1) rfl (rfl) (lb.2.2) (by decide) dX7_step_22 ?_
        rw [pb.1]
        refine G.iconst (v := 1) (by decide) dX7_step_23 ?_
        refine G.icmp_ne (tgt := 31) (by decide) dX7_step_24 (fun c_24 => ?_) (fun c_24 => absurd c_24 hnb)
        refine G.iconst (v := 0) (by decide) dX7_step_31 ?_
        refine G.ist6 (by decide) rfl dX7_step_32 ?_
        refine G.iload (i := 5) rfl dX7_step_34 ?_
        refine G.if_eq (tgt := 130) (by decide) dX7_step_36 (fun c_36 => ?_) (fun c_36 => absurd rfl c_36)
        refine G.iload (i := 5) rfl dX7_step_130 ?_
        refine G.if_ne (tgt := 140) (by decide) dX7_step_132 (fun c_132 => absurd rfl c_132) (fun c_132 => ?_)
        refine G.iload (i := 6) rfl dX7_step_135 ?_
        refine G.if_eq (tgt := 222) (by decide) dX7_step_137 (fun c_137 => ?_) (fun c_137 => absurd rfl c_137)
        refine G.aload_n (k := 0) rfl dX7_step_222 ?_
        refine G.getr (j := 8) rfl gci_X7 (by decide) rfl fl_X7_31 dX7_step_223 ?_
        refine G.iload_n (k := 1) rfl dX7_step_226 ?_
        refine G.ialdN (k := pN B a.1) rfl (rfl) (la.2.2) (by decide) dX7_step_227 ?_
        rw [pa.1]
        refine G.aload_n (k := 0) rfl dX7_step_228 ?_
        refine G.getr (j := 8) rfl gci_X7 (by decide) rfl fl_X7_31 dX7_step_229 ?_
        refine G.iload_n (k := 3) rfl dX7_step_232 ?_
        refine G.ialdN (k := pN B b.1) rfl (rfl) (lb.2.2) (by decide) dX7_step_233 ?_
        rw [pb.1]
        refine G.icmp_ne (tgt := 249) (by decide) dX7_step_234 (fun c_234 => absurd (by rw [hk]) c_234) (fun c_234 => ?_)
        refine G.aload_n (k := 0) rfl dX7_step_237 ?_
        refine G.iload_n (k := 1) rfl dX7_step_238 ?_
        refine G.iload_n (k := 2) rfl dX7_step_239 ?_
        refine G.iload_n (k := 3) rfl dX7_step_240 ?_
        refine G.iload (i := 4) rfl dX7_step_241 ?_
        refine G.callVi (c_X7_goesOn hN ha.1 ha.2 hb.1 hb.2 hk h7 hca hU.2.1 hl) rfl (gci_X7).1 ml_X7_309 im_yX7_goesOn se_yX7_goesOn gcl_X7_goesOn (by decide) rfl rfl (Nat.le_of_ble_eq_true rfl) dX7_step_243 (fun r τ hq => ?_)
        rw [hq.1]
        have hU1 : UM τ B td (S.1, gK B a b ++ P', S.2.2.1, S.2.2.2.1, S.2.2.2.2) := ⟨VM_F (hq.2.2.1.1 16 (by decide) (by decide)) (hq.2.2.1.1 17 (by decide) (by decide)) hU.1, hq.2.1, fun u hu => by rw [hq.2.2.1.1 27 (by decide) (by decide)]; exact hU.2.2.1 u hu, WkM_F (fun k a b => hq.2.2.1.1 k (by omega) (by omega)) (hq.2.2.1.2 35 (by decide) (by decide)) hU.2.2.2⟩
        cases hgo : gO B a b with
        | false =>
          rw [hgo] at hus
          refine G.if_ne (tgt := 251) (by decide) dX7_step_246 (fun c_246 => absurd rfl c_246) (fun c_246 => ?_)
          refine G.iconst (v := 1) (by decide) dX7_step_249 ?_
          exact G.iret rfl (by rw [hus]; exact ⟨rfl, ⟨hU1.1, hU1.2.1, hU1.2.2.1, by rw [show gD B a b = [] by unfold gD; rw [if_neg (fun z => by unfold gO at hgo; rw [if_neg (by omega), if_neg (by omega)] at hgo; cases hgo)]]; exact hU1.2.2.2⟩, pF_u hq.2.2.1⟩) dX7_step_250
        | true =>
          rw [hgo] at hus
          by_cases hd6 : kd (B a.1) = 6 ∧ tn_im a.2 (B (a.1 + 1) - 97) ≠ tn_im b.2 (B (b.1 + 1) - 97)
          · have hA : gA B a b = nI (tn_im a.2 (B (a.1 + 1) - 97)) := by unfold gA; rw [if_pos hd6.1, if_neg hd6.2]
            have hD : gD B a b = [(b.1 + 2, tn_src b.2 (tn_im a.2 (B (a.1 + 1) - 97)))] := if_pos hd6
            obtain ⟨k1, n1, n2, n3⟩ := nd_6 ha.1 hd6.1
            have p2 := pN_6 hb.1 (hk.symm.trans hd6.1)
            have i1 := ha.2.2.1 _ (l97 k1)
            have h35 : τ 0 35 = nI S.2.2.2.1.length := hU1.2.2.2.2
            have hU2 := UM_want (g := b.1 + 2) hU1 i1 hb.2
            refine G.if_ne (tgt := 251) (by decide) dX7_step_246 (fun c_246 => ?_) (fun c_246 => absurd c_246 (by decide))
            refine G.aload_n (k := 0) rfl dX7_step_251 ?_
            refine G.geti (j := 31) rfl gci_X7 (by decide) rfl fl_X7_296 dX7_step_252 ?_
            rw [hq.2.2.2, hA]
            refine G.iconst (v := (-1)) (by decide) dX7_step_255 ?_
            refine G.icmp_eq (tgt := 305) (by decide) dX7_step_256 (fun c_256 => absurd c_256 (ne_m1 (show tn_im a.2 (B (a.1 + 1) - 97) < 2 ^ 31 by omega))) (fun c_256 => ?_)
            refine G.aload_n (k := 0) rfl dX7_step_259 ?_
            refine G.getr (j := 36) rfl gci_X7 (by decide) rfl fl_X7_79 dX7_step_260 ?_
            refine G.aload_n (k := 0) rfl dX7_step_263 ?_
            refine G.geti (j := 35) rfl gci_X7 (by decide) rfl fl_X7_332 dX7_step_264 ?_
            rw [h35]
            refine G.aload_n (k := 0) rfl dX7_step_267 ?_
            refine G.geti (j := 31) rfl gci_X7 (by decide) rfl fl_X7_296 dX7_step_268 ?_
            rw [hq.2.2.2, hA]
            refine G.iastN (k := S.2.2.2.1.length) rfl (rfl) (hw) (by decide) dX7_step_271 ?_
            refine G.aload_n (k := 0) rfl dX7_step_272 ?_
            refine G.getr (j := 37) rfl gci_X7 (by decide) rfl fl_X7_82 dX7_step_273 ?_
            refine G.aload_n (k := 0) rfl dX7_step_276 ?_
            refine G.geti (j := 35) rfl gci_X7 (by decide) rfl fl_X7_332 dX7_step_277 ?_
            rw [up2_ne _ _ _ (show (0 : Nat) ≠ 24 by decide), h35]
            refine G.iload_n (k := 3) rfl dX7_step_280 ?_
            refine G.iconst (v := 1) (by decide) dX7_step_281 ?_
            refine G.iadd dX7_step_282 ?_
            rw [nI_1, ← p2]
            refine G.iastN (k := S.2.2.2.1.length) rfl (rfl) (hw) (by decide) dX7_step_283 ?_
            refine G.aload_n (k := 0) rfl dX7_step_284 ?_
            refine G.getr (j := 38) rfl gci_X7 (by decide) rfl fl_X7_85 dX7_step_285 ?_
            refine G.aload_n (k := 0) rfl dX7_step_288 ?_
            refine G.geti (j := 35) rfl gci_X7 (by decide) rfl fl_X7_332 dX7_step_289 ?_
            rw [up2_ne _ _ _ (show (0 : Nat) ≠ 25 by decide), up2_ne _ _ _ (show (0 : Nat) ≠ 24 by decide), h35]
            refine G.iload (i := 4) rfl dX7_step_292 ?_
            refine G.iastN (k := S.2.2.2.1.length) rfl (rfl) (hw) (by decide) dX7_step_294 ?_
            refine G.aload_n (k := 0) rfl dX7_step_295 ?_
            refine G.dupr dX7_step_296 ?_
            refine G.geti (j := 35) rfl gci_X7 (by decide) rfl fl_X7_332 dX7_step_297 ?_
            rw [up2_ne _ _ _ (show (0 : Nat) ≠ 26 by decide), up2_ne _ _ _ (show (0 : Nat) ≠ 25 by decide), up2_ne _ _ _ (show (0 : Nat) ≠ 24 by decide), h35]
            refine G.iconst (v := 1) (by decide) dX7_step_300 ?_
            refine G.iadd dX7_step_301 ?_
            rw [nI_1]
            refine G.put (j := 35) rfl gci_X7 gcp_X7 (by decide) rfl rfl rfl rfl fl_X7_332 dX7_step_302 ?_
            refine G.iconst (v := 0) (by decide) dX7_step_305 ?_
            exact G.iret rfl (by rw [hus, hD]; exact ⟨congrArg nI h0.symm, hU2.1, uF_tr (pF_u hq.2.2.1) hU2.2⟩) dX7_step_306
          · have hA : gA B a b = -1 := by
              unfold gA
              by_cases z : kd (B a.1) = 6
              · rw [if_pos z, if_pos (Decidable.byContradiction (fun y => hd6 ⟨z, y⟩))]
              · rw [if_neg z]
            have hD : gD B a b = [] := if_neg hd6
            refine G.if_ne (tgt := 251) (by decide) dX7_step_246 (fun c_246 => ?_) (fun c_246 => absurd c_246 (by decide))
            refine G.aload_n (k := 0) rfl dX7_step_251 ?_
            refine G.geti (j := 31) rfl gci_X7 (by decide) rfl fl_X7_296 dX7_step_252 ?_
            rw [hq.2.2.2, hA]
            refine G.iconst (v := (-1)) (by decide) dX7_step_255 ?_
            refine G.icmp_eq (tgt := 305) (by decide) dX7_step_256 (fun c_256 => ?_) (fun c_256 => absurd rfl c_256)
            refine G.iconst (v := 0) (by decide) dX7_step_305 ?_
            exact G.iret rfl (by rw [hus, hD]; exact ⟨congrArg nI h0.symm, hU1, pF_u hq.2.2.1⟩) dX7_step_306
      · have hus : uat false B S P' a b = (S.1, P', S.2.2.1, S.2.2.2.1, 1) := by
          unfold uat
          rw [if_neg (fun z => hca z.1), if_neg (fun z => hca z.1), if_neg hcb, if_neg hk]
        refine G.aload_n (k := 0) rfl dX7_step_0 ?_
        refine G.getr (j := 8) rfl gci_X7 (by decide) rfl fl_X7_31 dX7_step_1 ?_
        refine G.iload_n (k := 1) rfl dX7_step_4 ?_
        refine G.ialdN (k := pN B a.1) rfl (rfl) (la.2.2) (by decide) dX7_step_5 ?_
        rw [pa.1]
        refine G.iconst (v := 1) (by decide) dX7_step_6 ?_
        refine G.icmp_ne (tgt := 14) (by decide) dX7_step_7 (fun c_7 => ?_) (fun c_7 => absurd c_7 hna)
        refine G.iconst (v := 0) (by decide) dX7_step_14 ?_
        refine G.ist5 (by decide) rfl dX7_step_15 ?_
        refine G.aload_n (k := 0) rfl dX7_step_17 ?_
        refine G.getr (j := 8) rfl gci_X7 (by decide) rfl fl_X7_31 dX7_step_18 ?_
        refine G.iload_n (k := 3) rfl dX7_step_21 ?_
        refine G.ialdN (k := pN B b.1) rfl (rfl) (lb.2.2) (by decide) dX7_step_22 ?_
        rw [pb.1]
        refine G.iconst (v := 1) (by decide) dX7_step_23 ?_
        refine G.icmp_ne (tgt := 31) (by decide) dX7_step_24 (fun c_24 => ?_) (fun c_24 => absurd c_24 hnb)
        refine G.iconst (v := 0) (by decide) dX7_step_31 ?_
        refine G.ist6 (by decide) rfl dX7_step_32 ?_
        refine G.iload (i := 5) rfl dX7_step_34 ?_
        refine G.if_eq (tgt := 130) (by decide) dX7_step_36 (fun c_36 => ?_) (fun c_36 => absurd rfl c_36)
        refine G.iload (i := 5) rfl dX7_step_130 ?_
        refine G.if_ne (tgt := 140) (by decide) dX7_step_132 (fun c_132 => absurd rfl c_132) (fun c_132 => ?_)
        refine G.iload (i := 6) rfl dX7_step_135 ?_
        refine G.if_eq (tgt := 222) (by decide) dX7_step_137 (fun c_137 => ?_) (fun c_137 => absurd rfl c_137)
        refine G.aload_n (k := 0) rfl dX7_step_222 ?_
        refine G.getr (j := 8) rfl gci_X7 (by decide) rfl fl_X7_31 dX7_step_223 ?_
        refine G.iload_n (k := 1) rfl dX7_step_226 ?_
        refine G.ialdN (k := pN B a.1) rfl (rfl) (la.2.2) (by decide) dX7_step_227 ?_
        rw [pa.1]
        refine G.aload_n (k := 0) rfl dX7_step_228 ?_
        refine G.getr (j := 8) rfl gci_X7 (by decide) rfl fl_X7_31 dX7_step_229 ?_
        refine G.iload_n (k := 3) rfl dX7_step_232 ?_
        refine G.ialdN (k := pN B b.1) rfl (rfl) (lb.2.2) (by decide) dX7_step_233 ?_
        rw [pb.1]
        refine G.icmp_ne (tgt := 249) (by decide) dX7_step_234 (fun c_234 => ?_) (fun c_234 => absurd ((nI_eq (show kd (B a.1) - 1 < 2 ^ 31 by omega) (show kd (B b.1) - 1 < 2 ^ 31 by omega)).mp c_234) (by omega))
        refine G.iconst (v := 1) (by decide) dX7_step_249 ?_
        exact G.iret rfl (by rw [hus]; exact ⟨rfl, hU, uF_rf σ⟩) dX7_step_250
end T97

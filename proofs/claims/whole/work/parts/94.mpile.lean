/-! ===== the model's pile; what is gone into; two parts of one kind ===== -/
def PlM (σ : gS) (B : Nat → Nat) : uP → Prop
  | [] => True
  | x :: P => σ 20 P.length = nI (pN B x.1.1) ∧ σ 21 P.length = nI x.1.2 ∧ σ 22 P.length = nI (pN B x.2.1) ∧ σ 23 P.length = nI x.2.2 ∧ PlM σ B P
theorem PlM_congr {σ τ : gS} {B : Nat → Nat} : ∀ P : uP, (∀ k i, 20 ≤ k → k ≤ 23 → i < P.length → τ k i = σ k i) → PlM σ B P → PlM τ B P := by
  intro P
  induction P with
  | nil => intro _ _; trivial
  | cons x P ih =>
    intro h h1
    have l : P.length < (x :: P).length := by simp
    exact ⟨by rw [h 20 _ (by decide) (by decide) l]; exact h1.1, by rw [h 21 _ (by decide) (by decide) l]; exact h1.2.1, by rw [h 22 _ (by decide) (by decide) l]; exact h1.2.2.1, by rw [h 23 _ (by decide) (by decide) l]; exact h1.2.2.2.1, ih (fun k i a b c => h k i a b (by simp; omega)) h1.2.2.2.2⟩
def PkM (σ : gS) (B : Nat → Nat) (P : uP) : Prop := PlM σ B P ∧ σ 0 28 = nI P.length
abbrev pi5 (σ : gS) (n : Nat) (a p b q : Int32) : gS := up2 (up2 (up2 (up2 (up2 σ 20 n a) 21 n p) 22 n b) 23 n q) 0 28 (nI (n + 1))
/-- what piling may change -/
def pF (σ τ : gS) : Prop := (∀ k, k ≠ 0 → (k < 20 ∨ 23 < k) → τ k = σ k) ∧ ∀ i, i ≠ 28 → i ≠ 31 → τ 0 i = σ 0 i
theorem pF_rf (σ : gS) : pF σ σ := ⟨fun _ _ _ => rfl, fun _ _ _ => rfl⟩
theorem pF_tr {σ τ υ : gS} (h1 : pF σ τ) (h2 : pF τ υ) : pF σ υ := ⟨fun k a b => (h2.1 k a b).trans (h1.1 k a b), fun i a b => (h2.2 i a b).trans (h1.2 i a b)⟩
theorem pi_F (σ : gS) (n : Nat) (a p b q : Int32) : pF σ (pi5 σ n a p b q) := ⟨fun k h1 h2 => by unfold pi5; rw [up2_ne _ _ _ h1, up2_ne _ _ _ (by omega), up2_ne _ _ _ (by omega), up2_ne _ _ _ (by omega), up2_ne _ _ _ (by omega)], fun i h1 h2 => by unfold pi5; rw [up2_r, if_neg (fun z => h1 z.2), up2_ne _ _ _ (by decide), up2_ne _ _ _ (by decide), up2_ne _ _ _ (by decide), up2_ne _ _ _ (by decide)]⟩
theorem pi_P {σ : gS} {B : Nat → Nat} {P : uP} (x : (Nat × Nat) × (Nat × Nat)) (h : PlM σ B P) : PkM (pi5 σ P.length (nI (pN B x.1.1)) (nI x.1.2) (nI (pN B x.2.1)) (nI x.2.2)) B (x :: P) := by
  refine ⟨⟨?_, ?_, ?_, ?_, PlM_congr P (fun k i h1 h2 h3 => ?_) h⟩, up2_at _ _ _ _⟩
  · unfold pi5; rw [up2_ne _ _ _ (by decide), up2_ne _ _ _ (by decide), up2_ne _ _ _ (by decide), up2_ne _ _ _ (by decide), up2_at]
  · unfold pi5; rw [up2_ne _ _ _ (by decide), up2_ne _ _ _ (by decide), up2_ne _ _ _ (by decide), up2_at]
  · unfold pi5; rw [up2_ne _ _ _ (by decide), up2_ne _ _ _ (by decide), up2_at]
  · unfold pi5; rw [up2_ne _ _ _ (by decide), up2_at]
  · unfold pi5; rw [up2_ne _ _ _ (by omega), up2_r, if_neg (fun z => by omega), up2_r, if_neg (fun z => by omega), up2_r, if_neg (fun z => by omega), up2_r, if_neg (fun z => by omega)]
theorem pi_31 (σ : gS) (n : Nat) (a p b q : Int32) : pi5 σ n a p b q 0 31 = σ 0 31 := by unfold pi5; rw [up2_r, if_neg (by decide), up2_ne _ _ _ (by decide), up2_ne _ _ _ (by decide), up2_ne _ _ _ (by decide), up2_ne _ _ _ (by decide)]
theorem PkM_F {σ τ : gS} {B : Nat → Nat} {P : uP} (h : ∀ k, 20 ≤ k → k ≤ 23 → τ k = σ k) (h28 : τ 0 28 = σ 0 28) (hP : PkM σ B P) : PkM τ B P := ⟨PlM_congr P (fun k i a b _ => by rw [h k a b]) hP.1, by rw [h28]; exact hP.2⟩
def eF (σ τ : gS) : Prop := (∀ k, k ≠ 0 → τ k = σ k) ∧ ∀ i, i ≠ 29 → i ≠ 30 → τ 0 i = σ 0 i
theorem eF_rf (σ : gS) : eF σ σ := ⟨fun _ _ => rfl, fun _ _ _ => rfl⟩
theorem eF_tr {σ τ υ : gS} (h1 : eF σ τ) (h2 : eF τ υ) : eF σ υ := ⟨fun k a => (h2.1 k a).trans (h1.1 k a), fun i a b => (h2.2 i a b).trans (h1.2 i a b)⟩
abbrev e2S (σ : gS) (x y : Int32) : gS := up2 (up2 σ 0 30 y) 0 29 x
theorem e2_F (σ : gS) (x y : Int32) : eF σ (e2S σ x y) := ⟨fun k a => by unfold e2S; rw [up2_ne _ _ _ a, up2_ne _ _ _ a], fun i a b => by unfold e2S; rw [up2_r, if_neg (fun z => a z.2), up2_r, if_neg (fun z => b z.2)]⟩
theorem e2_29 (σ : gS) (x y : Int32) : e2S σ x y 0 29 = x := up2_at _ _ _ _
theorem e2_30 (σ : gS) (x y : Int32) : e2S σ x y 0 30 = y := by unfold e2S; rw [up2_r, if_neg (by decide), up2_at]
/-- two parts of one kind: whether they go on, what is piled, what is asked -/
def gO (B : Nat → Nat) (a b : Nat × Nat) : Bool := if kd (B a.1) = 1 then decide (tn_im a.2 (B a.1 - 97) = tn_im b.2 (B b.1 - 97)) else if kd (B a.1) = 4 then decide (B a.1 = B b.1) else true
def gK (B : Nat → Nat) (a b : Nat × Nat) : uP := if kd (B a.1) = 4 then (if B a.1 = B b.1 then [((a.1 + 1, a.2), (b.1 + 1, b.2))] else []) else if kd (B a.1) = 5 then [((a.1 + 1, a.2), (b.1 + 1, b.2)), ((tE B (a.1 + 1), a.2), (tE B (b.1 + 1), b.2))] else if kd (B a.1) = 6 then [((a.1 + 2, a.2), (b.1 + 2, tn_cmp (tn_sw (tn_im a.2 (B (a.1 + 1) - 97)) (tn_im b.2 (B (b.1 + 1) - 97))) b.2))] else []
def gA (B : Nat → Nat) (a b : Nat × Nat) : Int32 := if kd (B a.1) = 6 then (if tn_im a.2 (B (a.1 + 1) - 97) = tn_im b.2 (B (b.1 + 1) - 97) then -1 else nI (tn_im a.2 (B (a.1 + 1) - 97))) else -1
theorem sw_self : ∀ n, n < 6 → tn_sw n n = tn_id := by decide +kernel
section T94
variable {l : Launch} {D : va_G} {cA : ClassId} {ad : Nat → Nat}
variable {σ σ0 : gS}
set_option maxHeartbeats 4000000 in
set_option maxRecDepth 100000 in
theorem c_X7_piles {n : Nat} {a p b q : Int32} (hn : σ 0 28 = nI n) (h : n < 700) : GM (XM l D cA ad) mX7_piles [.ref 0, .int a, .int p, .int b, .int q] σ (g_rv (fun τ => τ = pi5 σ n a p b q)) := by
  refine GM.of (ls := [some (.ref 0), some (.int a), some (.int p), some (.int b), some (.int q)]) (by decide) (Nat.le_of_ble_eq_true rfl) rfl ?_
  refine G.aload_n (k := 0) rfl dX7_piles_0 ?_
  refine G.getr (j := 24) rfl gci_X7 (by decide) rfl fl_X7_67 dX7_piles_1 ?_
  refine G.aload_n (k := 0) rfl dX7_piles_4 ?_
  refine G.geti (j := 28) rfl gci_X7 (by decide) rfl fl_X7_287 dX7_piles_5 ?_
  rw [hn]
  refine G.iload_n (k := 1) rfl dX7_piles_8 ?_
  refine G.iastN (k := n) rfl (rfl) (h) (by decide) dX7_piles_9 ?_
  refine G.aload_n (k := 0) rfl dX7_piles_10 ?_
  refine G.getr (j := 25) rfl gci_X7 (by decide) rfl fl_X7_70 dX7_piles_11 ?_
  refine G.aload_n (k := 0) rfl dX7_piles_14 ?_
  refine G.geti (j := 28) rfl gci_X7 (by decide) rfl fl_X7_287 dX7_piles_15 ?_
  rw [up2_ne _ _ _ (show (0 : Nat) ≠ 20 by decide), hn]
  refine G.iload_n (k := 2) rfl dX7_piles_18 ?_
  refine G.iastN (k := n) rfl (rfl) (h) (by decide) dX7_piles_19 ?_
  refine G.aload_n (k := 0) rfl dX7_piles_20 ?_
  refine G.getr (j := 26) rfl gci_X7 (by decide) rfl fl_X7_73 dX7_piles_21 ?_
  refine G.aload_n (k := 0) rfl dX7_piles_24 ?_
  refine G.geti (j := 28) rfl gci_X7 (by decide) rfl fl_X7_287 dX7_piles_25 ?_
  rw [up2_ne _ _ _ (show (0 : Nat) ≠ 21 by decide), up2_ne _ _ _ (show (0 : Nat) ≠ 20 by decide), hn]
  refine G.iload_n (k := 3) rfl dX7_piles_28 ?_
  refine G.iastN (k := n) rfl (rfl) (h) (by decide) dX7_piles_29 ?_
  refine G.aload_n (k := 0) rfl dX7_piles_30 ?_
  refine G.getr (j := 27) rfl gci_X7 (by decide) rfl fl_X7_76 dX7_piles_31 ?_
  refine G.aload_n (k := 0) rfl dX7_piles_34 ?_
  refine G.geti (j := 28) rfl gci_X7 (by decide) rfl fl_X7_287 dX7_piles_35 ?_
  rw [up2_ne _ _ _ (show (0 : Nat) ≠ 22 by decide), up2_ne _ _ _ (show (0 : Nat) ≠ 21 by decide), up2_ne _ _ _ (show (0 : Nat) ≠ 20 by decide), hn]
  refine G.iload (i := 4) rfl dX7_piles_38 ?_
  refine G.iastN (k := n) rfl (rfl) (h) (by decide) dX7_piles_40 ?_
  refine G.aload_n (k := 0) rfl dX7_piles_41 ?_
  refine G.dupr dX7_piles_42 ?_
  refine G.geti (j := 28) rfl gci_X7 (by decide) rfl fl_X7_287 dX7_piles_43 ?_
  rw [up2_ne _ _ _ (show (0 : Nat) ≠ 23 by decide), up2_ne _ _ _ (show (0 : Nat) ≠ 22 by decide), up2_ne _ _ _ (show (0 : Nat) ≠ 21 by decide), up2_ne _ _ _ (show (0 : Nat) ≠ 20 by decide), hn]
  refine G.iconst (v := 1) (by decide) dX7_piles_46 ?_
  refine G.iadd dX7_piles_47 ?_
  rw [nI_1]
  refine G.put (j := 28) rfl gci_X7 gcp_X7 (by decide) rfl rfl rfl rfl fl_X7_287 dX7_piles_48 ?_
  exact G.vret rfl (rfl) dX7_piles_51
theorem wl_le {ln B : Nat → Nat} {t : Nat} (h30 : ln t ≤ 30) : (nI (if wlA ln B t = true then cst B (30 * t) (ln t) else 0) ≤ 0) ↔ wlA ln B t = false := by
  have hle := cst_le (B := B) (s := 30 * t) (ln t)
  cases hw : wlA ln B t with
  | true =>
    have := cst_1 hw
    rw [if_pos rfl]
    exact ⟨fun z => absurd z (nI_nle (by omega) (by omega)), fun z => by cases z⟩
  | false => rw [if_neg (by decide)]; exact ⟨fun _ => rfl, fun _ => by decide⟩
set_option maxHeartbeats 4000000 in
set_option maxRecDepth 100000 in
theorem c_X7_isThere {ln B : Nat → Nat} {e : Nat} (hT : TM σ ln B) (hM : MR σ ln B) (he : e < 4) : GM (XM l D cA ad) mX7_isThere [.ref 0, .int (nI e)] σ (g_ri (fun r τ => r = (if thA ln B e = true then 1 else 0) ∧ τ = σ)) := by
  refine GM.of (ls := [some (.ref 0), some (.int (nI e))]) (by decide) (Nat.le_of_ble_eq_true rfl) rfl ?_
  have h30 : ∀ t, t < 8 → ln t ≤ 30 := fun t ht => Nat.le_trans (hT t (by omega)).2.1 (tcap_le t)
  refine G.aload_n (k := 0) rfl dX7_isThere_0 ?_
  refine G.getr (j := 7) rfl gci_X7 (by decide) rfl fl_X7_28 dX7_isThere_1 ?_
  refine G.iconst (v := 2) (by decide) dX7_isThere_4 ?_
  refine G.iload_n (k := 1) rfl dX7_isThere_5 ?_
  refine G.imul dX7_isThere_6 ?_
  rw [show (2 : Int32) * nI e = nI (2 * e) from nu_mul 2 e]
  refine G.ialdN (k := 2 * e) rfl (rfl) (by omega) (by decide) dX7_isThere_7 ?_
  rw [(MR_P hM (show 2 * e < 8 by omega)).1]
  refine G.if_le (tgt := 28) (by decide) dX7_isThere_8 (fun c_8 => ?_) (fun c_8 => ?_)
  · have h1 := (wl_le (h30 _ (by omega))).mp c_8
    have hr : thA ln B e = false := by unfold thA; rw [h1]; rfl
    refine G.iconst (v := 0) (by decide) dX7_isThere_28 ?_
    exact G.zret rfl (by decide) (⟨by rw [hr]; rfl, rfl⟩) dX7_isThere_29
  · have h1 : wlA ln B (2 * e) = true := by
      cases z : wlA ln B (2 * e) with
      | true => rfl
      | false => exact absurd ((wl_le (h30 _ (by omega))).mpr z) c_8
    refine G.aload_n (k := 0) rfl dX7_isThere_11 ?_
    refine G.getr (j := 7) rfl gci_X7 (by decide) rfl fl_X7_28 dX7_isThere_12 ?_
    refine G.iconst (v := 2) (by decide) dX7_isThere_15 ?_
    refine G.iload_n (k := 1) rfl dX7_isThere_16 ?_
    refine G.imul dX7_isThere_17 ?_
    rw [show (2 : Int32) * nI e = nI (2 * e) from nu_mul 2 e]
    refine G.iconst (v := 1) (by decide) dX7_isThere_18 ?_
    refine G.iadd dX7_isThere_19 ?_
    rw [nI_1]
    refine G.ialdN (k := 2 * e + 1) rfl (rfl) (by omega) (by decide) dX7_isThere_20 ?_
    rw [(MR_P hM (show 2 * e + 1 < 8 by omega)).1]
    refine G.if_le (tgt := 28) (by decide) dX7_isThere_21 (fun c_21 => ?_) (fun c_21 => ?_)
    · have h2 := (wl_le (h30 _ (by omega))).mp c_21
      have hr : thA ln B e = false := by unfold thA; rw [h2, Bool.and_false]
      refine G.iconst (v := 0) (by decide) dX7_isThere_28 ?_
      exact G.zret rfl (by decide) (⟨by rw [hr]; rfl, rfl⟩) dX7_isThere_29
    · have h2 : wlA ln B (2 * e + 1) = true := by
        cases z : wlA ln B (2 * e + 1) with
        | true => rfl
        | false => exact absurd ((wl_le (h30 _ (by omega))).mpr z) c_21
      have hr : thA ln B e = true := by unfold thA; rw [h1, h2]; rfl
      refine G.iconst (v := 1) (by decide) dX7_isThere_24 ?_
      refine G.goto (tgt := 29) (by decide) dX7_isThere_25 ?_
      exact G.zret rfl (by decide) (⟨by rw [hr]; rfl, rfl⟩) dX7_isThere_29
set_option maxHeartbeats 4000000 in
set_option maxRecDepth 100000 in
theorem l_X7_enters {x1 x2 fl : Int32} {ln B : Nat → Nat} {V : uV} {rk : Nat → Nat} (hN : ∀ g, nd B ln g → PrM σ0 B g) (hV : VG B ln V) (hrk : rkd B V) (hrk2 : ∀ u q, V u = some q → ∀ w, w < 6 → (tuk B q.1).testBit w = true → rk w < rk u) (hv : vM σ0 B fl V) : ∀ f q (τ : gS) (y5 : Option Value), phi B rk q.1 ≤ f → nd B ln q.1 → tn_P q.2 → τ 0 29 = nI (pN B q.1) → τ 0 30 = nI q.2 → eF σ0 τ → G (XM l D cA ad) mX7_enters (g_rv (fun τ => τ 0 29 = nI (pN B (en B V 241 q).1) ∧ τ 0 30 = nI (en B V 241 q).2 ∧ eF σ0 τ)) 13 [some (.ref 0), some (.int x1), some (.int x2), some (.int fl), some (.int 1), y5] [] τ := by
  intro f
  induction f with
  | zero => intro q τ y5 h; have := phi_pos (B := B) (rk := rk) q.1; omega
  | succ f ih =>
    intro q τ y5 hf hq1 hq2 h29 h30 hF
    have hpl := pN_lt hq1
    have hkd := nd_kd hq1
    have hPr : PrM τ B q.1 := PrM_F (fun k a b => hF.1 k (by omega)) (hN q.1 hq1)
    by_cases hc : kd (B q.1) = 7
    · obtain ⟨k1, k2, n1, n2, n3⟩ := nd_7 hq1 hc
      have p1 := pN_7 hq1 hc
      refine G.iload (i := 4) rfl dX7_enters_13 ?_
      refine G.if_eq (tgt := 154) (by decide) dX7_enters_15 (fun c_15 => absurd c_15 (by decide)) (fun c_15 => ?_)
      refine G.aload_n (k := 0) rfl dX7_enters_18 ?_
      refine G.geti (j := 29) rfl gci_X7 (by decide) rfl fl_X7_290 dX7_enters_19 ?_
      rw [h29]
      refine G.ist5 (by decide) rfl dX7_enters_22 ?_
      refine G.aload_n (k := 0) rfl dX7_enters_24 ?_
      refine G.getr (j := 8) rfl gci_X7 (by decide) rfl fl_X7_31 dX7_enters_25 ?_
      refine G.iload (i := 5) rfl dX7_enters_28 ?_
      refine G.ialdN (k := pN B q.1) rfl (rfl) (hpl.2.2) (by decide) dX7_enters_30 ?_
      rw [show τ 8 (pN B q.1) = 6 by rw [hPr.1, hc]; rfl]
      refine G.bipush (v := 6) (by decide) dX7_enters_31 ?_
      refine G.icmp_ne (tgt := 75) (by decide) dX7_enters_33 (fun c_33 => absurd rfl c_33) (fun c_33 => ?_)
      refine G.aload_n (k := 0) rfl dX7_enters_36 ?_
      refine G.aload_n (k := 0) rfl dX7_enters_37 ?_
      refine G.geti (j := 30) rfl gci_X7 (by decide) rfl fl_X7_293 dX7_enters_38 ?_
      rw [h30]
      refine G.aload_n (k := 0) rfl dX7_enters_41 ?_
      refine G.getr (j := 9) rfl gci_X7 (by decide) rfl fl_X7_34 dX7_enters_42 ?_
      refine G.iload (i := 5) rfl dX7_enters_45 ?_
      refine G.ialdN (k := pN B q.1) rfl (rfl) (hpl.2.2) (by decide) dX7_enters_47 ?_
      rw [hPr.2.1, nmr_67 (Or.inr hc)]
      refine G.aload_n (k := 0) rfl dX7_enters_48 ?_
      refine G.getr (j := 10) rfl gci_X7 (by decide) rfl fl_X7_37 dX7_enters_49 ?_
      refine G.iload (i := 5) rfl dX7_enters_52 ?_
      refine G.ialdN (k := pN B q.1) rfl (rfl) (hpl.2.2) (by decide) dX7_enters_54 ?_
      rw [hPr.2.2.1 hc]
      refine G.callSif (c_X7_swap (l97 k1) (l97 k2)) ml_X7_158 ws_yX7_swap gcl_X7_swap (by decide) rfl rfl (Nat.le_of_ble_eq_true rfl) dX7_enters_55 ?_
      refine G.callSif (c_X7_behind hq2 (tn_P_sw (l97 k1) (l97 k2))) ml_X7_161 ws_yX7_behind gcl_X7_behind (by decide) rfl rfl (Nat.le_of_ble_eq_true rfl) dX7_enters_58 ?_
      refine G.put (j := 30) rfl gci_X7 gcp_X7 (by decide) rfl rfl rfl rfl fl_X7_293 dX7_enters_61 ?_
      refine G.aload_n (k := 0) rfl dX7_enters_64 ?_
      refine G.iload (i := 5) rfl dX7_enters_65 ?_
      refine G.iconst (v := 1) (by decide) dX7_enters_67 ?_
      refine G.iadd dX7_enters_68 ?_
      rw [nI_1, ← p1]
      refine G.put (j := 29) rfl gci_X7 gcp_X7 (by decide) rfl rfl rfl rfl fl_X7_290 dX7_enters_69 ?_
      refine G.goto (tgt := 151) (by decide) dX7_enters_72 ?_
      refine G.goto (tgt := 13) (by decide) dX7_enters_151 ?_
      rw [en_7 hV hrk hq1 hc]
      exact ih (q.1 + 3, tn_cmp q.2 (tn_sw (B (q.1 + 1) - 97) (B (q.1 + 2) - 97))) _ _ (by have := phi_7 (rk := rk) hq1 hc; show phi B rk (q.1 + 3) ≤ f; omega) n1 (tn_P_cmp hq2 (tn_P_sw (l97 k1) (l97 k2))) (e2_29 _ _ _) (e2_30 _ _ _) (eF_tr hF (e2_F _ _ _))
    · have h7 := hc
      by_cases hc : kd (B q.1) = 2
      · cases hw : V (B q.1 - 80) with
        | none =>
          have hno : kd (B q.1) = 2 → V (B q.1 - 80) = none := fun _ => hw
          rcases id hv with ⟨hfl, _⟩ | ⟨hfl, hv1⟩
          · have hfl := hfl
            refine G.iload (i := 4) rfl dX7_enters_13 ?_
            refine G.if_eq (tgt := 154) (by decide) dX7_enters_15 (fun c_15 => absurd c_15 (by decide)) (fun c_15 => ?_)
            refine G.aload_n (k := 0) rfl dX7_enters_18 ?_
            refine G.geti (j := 29) rfl gci_X7 (by decide) rfl fl_X7_290 dX7_enters_19 ?_
            rw [h29]
            refine G.ist5 (by decide) rfl dX7_enters_22 ?_
            refine G.aload_n (k := 0) rfl dX7_enters_24 ?_
            refine G.getr (j := 8) rfl gci_X7 (by decide) rfl fl_X7_31 dX7_enters_25 ?_
            refine G.iload (i := 5) rfl dX7_enters_28 ?_
            refine G.ialdN (k := pN B q.1) rfl (rfl) (hpl.2.2) (by decide) dX7_enters_30 ?_
            rw [show τ 8 (pN B q.1) = 1 by rw [hPr.1, hc]; rfl]
            refine G.bipush (v := 6) (by decide) dX7_enters_31 ?_
            refine G.icmp_ne (tgt := 75) (by decide) dX7_enters_33 (fun c_33 => ?_) (fun c_33 => absurd c_33 (by decide))
            refine G.aload_n (k := 0) rfl dX7_enters_75 ?_
            refine G.getr (j := 8) rfl gci_X7 (by decide) rfl fl_X7_31 dX7_enters_76 ?_
            refine G.iload (i := 5) rfl dX7_enters_79 ?_
            refine G.ialdN (k := pN B q.1) rfl (rfl) (hpl.2.2) (by decide) dX7_enters_81 ?_
            rw [show τ 8 (pN B q.1) = 1 by rw [hPr.1, hc]; rfl]
            refine G.iconst (v := 1) (by decide) dX7_enters_82 ?_
            refine G.icmp_ne (tgt := 148) (by decide) dX7_enters_83 (fun c_83 => absurd rfl c_83) (fun c_83 => ?_)
            refine G.iload_n (k := 3) rfl dX7_enters_86 ?_
            refine G.if_eq (tgt := 148) (by decide) dX7_enters_87 (fun c_87 => ?_) (fun c_87 => absurd hfl c_87)
            refine G.iconst (v := 0) (by decide) dX7_enters_148 ?_
            refine G.ist4 (by decide) rfl dX7_enters_149 ?_
            refine G.goto (tgt := 13) (by decide) dX7_enters_151 ?_
            have hen : en B V 241 q = q := en_stop 241 q ⟨h7, hno⟩
            refine G.iload (i := 4) rfl dX7_enters_13 ?_
            refine G.if_eq (tgt := 154) (by decide) dX7_enters_15 (fun c_15 => ?_) (fun c_15 => absurd rfl c_15)
            exact G.vret rfl (by rw [hen]; exact ⟨h29, h30, hF⟩) dX7_enters_154
          · have hv2 := VM_F (hF.1 16 (by decide)) (hF.1 17 (by decide)) hv1
            refine G.iload (i := 4) rfl dX7_enters_13 ?_
            refine G.if_eq (tgt := 154) (by decide) dX7_enters_15 (fun c_15 => absurd c_15 (by decide)) (fun c_15 => ?_)
            refine G.aload_n (k := 0) rfl dX7_enters_18 ?_
            refine G.geti (j := 29) rfl gci_X7 (by decide) rfl fl_X7_290 dX7_enters_19 ?_
            rw [h29]
            refine G.ist5 (by decide) rfl dX7_enters_22 ?_
            refine G.aload_n (k := 0) rfl dX7_enters_24 ?_
            refine G.getr (j := 8) rfl gci_X7 (by decide) rfl fl_X7_31 dX7_enters_25 ?_
            refine G.iload (i := 5) rfl dX7_enters_28 ?_
            refine G.ialdN (k := pN B q.1) rfl (rfl) (hpl.2.2) (by decide) dX7_enters_30 ?_
            rw [show τ 8 (pN B q.1) = 1 by rw [hPr.1, hc]; rfl]
            refine G.bipush (v := 6) (by decide) dX7_enters_31 ?_
            refine G.icmp_ne (tgt := 75) (by decide) dX7_enters_33 (fun c_33 => ?_) (fun c_33 => absurd c_33 (by decide))
            refine G.aload_n (k := 0) rfl dX7_enters_75 ?_
            refine G.getr (j := 8) rfl gci_X7 (by decide) rfl fl_X7_31 dX7_enters_76 ?_
            refine G.iload (i := 5) rfl dX7_enters_79 ?_
            refine G.ialdN (k := pN B q.1) rfl (rfl) (hpl.2.2) (by decide) dX7_enters_81 ?_
            rw [show τ 8 (pN B q.1) = 1 by rw [hPr.1, hc]; rfl]
            refine G.iconst (v := 1) (by decide) dX7_enters_82 ?_
            refine G.icmp_ne (tgt := 148) (by decide) dX7_enters_83 (fun c_83 => absurd rfl c_83) (fun c_83 => ?_)
            refine G.iload_n (k := 3) rfl dX7_enters_86 ?_
            refine G.if_eq (tgt := 148) (by decide) dX7_enters_87 (fun c_87 => absurd c_87 (by rw [hfl]; decide)) (fun c_87 => ?_)
            refine G.aload_n (k := 0) rfl dX7_enters_90 ?_
            refine G.getr (j := 19) rfl gci_X7 (by decide) rfl fl_X7_55 dX7_enters_91 ?_
            refine G.aload_n (k := 0) rfl dX7_enters_94 ?_
            refine G.getr (j := 9) rfl gci_X7 (by decide) rfl fl_X7_34 dX7_enters_95 ?_
            refine G.iload (i := 5) rfl dX7_enters_98 ?_
            refine G.ialdN (k := pN B q.1) rfl (rfl) (hpl.2.2) (by decide) dX7_enters_100 ?_
            rw [hPr.2.1, show nmr B q.1 = B q.1 - 80 by rw [nmr, if_neg (by omega), if_pos hc]]
            refine G.ialdN (k := B q.1 - 80) rfl (rfl) (l80 hc) (by decide) dX7_enters_101 ?_
            rw [(hv2 _ (l80 hc)).1, show vp B V (B q.1 - 80) = -1 by rw [vp, hw]]
            refine G.iconst (v := (-1)) (by decide) dX7_enters_102 ?_
            refine G.icmp_eq (tgt := 148) (by decide) dX7_enters_103 (fun c_103 => ?_) (fun c_103 => absurd rfl c_103)
            refine G.iconst (v := 0) (by decide) dX7_enters_148 ?_
            refine G.ist4 (by decide) rfl dX7_enters_149 ?_
            refine G.goto (tgt := 13) (by decide) dX7_enters_151 ?_
            have hen : en B V 241 q = q := en_stop 241 q ⟨h7, hno⟩
            refine G.iload (i := 4) rfl dX7_enters_13 ?_
            refine G.if_eq (tgt := 154) (by decide) dX7_enters_15 (fun c_15 => ?_) (fun c_15 => absurd rfl c_15)
            exact G.vret rfl (by rw [hen]; exact ⟨h29, h30, hF⟩) dX7_enters_154
        | some w =>
          have hwn := hV _ _ hw
          rcases id hv with ⟨hfl, hv0⟩ | ⟨hfl, hv1⟩
          · rw [hv0] at hw; cases hw
          · have hv2 := VM_F (hF.1 16 (by decide)) (hF.1 17 (by decide)) hv1
            refine G.iload (i := 4) rfl dX7_enters_13 ?_
            refine G.if_eq (tgt := 154) (by decide) dX7_enters_15 (fun c_15 => absurd c_15 (by decide)) (fun c_15 => ?_)
            refine G.aload_n (k := 0) rfl dX7_enters_18 ?_
            refine G.geti (j := 29) rfl gci_X7 (by decide) rfl fl_X7_290 dX7_enters_19 ?_
            rw [h29]
            refine G.ist5 (by decide) rfl dX7_enters_22 ?_
            refine G.aload_n (k := 0) rfl dX7_enters_24 ?_
            refine G.getr (j := 8) rfl gci_X7 (by decide) rfl fl_X7_31 dX7_enters_25 ?_
            refine G.iload (i := 5) rfl dX7_enters_28 ?_
            refine G.ialdN (k := pN B q.1) rfl (rfl) (hpl.2.2) (by decide) dX7_enters_30 ?_
            rw [show τ 8 (pN B q.1) = 1 by rw [hPr.1, hc]; rfl]
            refine G.bipush (v := 6) (by decide) dX7_enters_31 ?_
            refine G.icmp_ne (tgt := 75) (by decide) dX7_enters_33 (fun c_33 => ?_) (fun c_33 => absurd c_33 (by decide))
            refine G.aload_n (k := 0) rfl dX7_enters_75 ?_
            refine G.getr (j := 8) rfl gci_X7 (by decide) rfl fl_X7_31 dX7_enters_76 ?_
            refine G.iload (i := 5) rfl dX7_enters_79 ?_
            refine G.ialdN (k := pN B q.1) rfl (rfl) (hpl.2.2) (by decide) dX7_enters_81 ?_
            rw [show τ 8 (pN B q.1) = 1 by rw [hPr.1, hc]; rfl]
            refine G.iconst (v := 1) (by decide) dX7_enters_82 ?_
            refine G.icmp_ne (tgt := 148) (by decide) dX7_enters_83 (fun c_83 => absurd rfl c_83) (fun c_83 => ?_)
            refine G.iload_n (k := 3) rfl dX7_enters_86 ?_
            refine G.if_eq (tgt := 148) (by decide) dX7_enters_87 (fun c_87 => absurd c_87 (by rw [hfl]; decide)) (fun c_87 => ?_)
            refine G.aload_n (k := 0) rfl dX7_enters_90 ?_
            refine G.getr (j := 19) rfl gci_X7 (by decide) rfl fl_X7_55 dX7_enters_91 ?_
            refine G.aload_n (k := 0) rfl dX7_enters_94 ?_
            refine G.getr (j := 9) rfl gci_X7 (by decide) rfl fl_X7_34 dX7_enters_95 ?_
            refine G.iload (i := 5) rfl dX7_enters_98 ?_
            refine G.ialdN (k := pN B q.1) rfl (rfl) (hpl.2.2) (by decide) dX7_enters_100 ?_
            rw [hPr.2.1, show nmr B q.1 = B q.1 - 80 by rw [nmr, if_neg (by omega), if_pos hc]]
            refine G.ialdN (k := B q.1 - 80) rfl (rfl) (l80 hc) (by decide) dX7_enters_101 ?_
            rw [(hv2 _ (l80 hc)).1, show vp B V (B q.1 - 80) = nI (pN B w.1) by rw [vp, hw]]
            refine G.iconst (v := (-1)) (by decide) dX7_enters_102 ?_
            refine G.icmp_eq (tgt := 148) (by decide) dX7_enters_103 (fun c_103 => absurd c_103 (pN_ne1 hwn.2.1)) (fun c_103 => ?_)
            refine G.aload_n (k := 0) rfl dX7_enters_106 ?_
            refine G.aload_n (k := 0) rfl dX7_enters_107 ?_
            refine G.geti (j := 30) rfl gci_X7 (by decide) rfl fl_X7_293 dX7_enters_108 ?_
            rw [h30]
            refine G.aload_n (k := 0) rfl dX7_enters_111 ?_
            refine G.getr (j := 20) rfl gci_X7 (by decide) rfl fl_X7_58 dX7_enters_112 ?_
            refine G.aload_n (k := 0) rfl dX7_enters_115 ?_
            refine G.getr (j := 9) rfl gci_X7 (by decide) rfl fl_X7_34 dX7_enters_116 ?_
            refine G.iload (i := 5) rfl dX7_enters_119 ?_
            refine G.ialdN (k := pN B q.1) rfl (rfl) (hpl.2.2) (by decide) dX7_enters_121 ?_
            rw [hPr.2.1, show nmr B q.1 = B q.1 - 80 by rw [nmr, if_neg (by omega), if_pos hc]]
            refine G.ialdN (k := B q.1 - 80) rfl (rfl) (l80 hc) (by decide) dX7_enters_122 ?_
            rw [(hv2 _ (l80 hc)).2 w hw]
            refine G.callSif (c_X7_behind hq2 hwn.2.2) ml_X7_161 ws_yX7_behind gcl_X7_behind (by decide) rfl rfl (Nat.le_of_ble_eq_true rfl) dX7_enters_123 ?_
            refine G.put (j := 30) rfl gci_X7 gcp_X7 (by decide) rfl rfl rfl rfl fl_X7_293 dX7_enters_126 ?_
            refine G.aload_n (k := 0) rfl dX7_enters_129 ?_
            refine G.aload_n (k := 0) rfl dX7_enters_130 ?_
            refine G.getr (j := 19) rfl gci_X7 (by decide) rfl fl_X7_55 dX7_enters_131 ?_
            refine G.aload_n (k := 0) rfl dX7_enters_134 ?_
            refine G.getr (j := 9) rfl gci_X7 (by decide) rfl fl_X7_34 dX7_enters_135 ?_
            refine G.iload (i := 5) rfl dX7_enters_138 ?_
            refine G.ialdN (k := pN B q.1) rfl (rfl) (hpl.2.2) (by decide) dX7_enters_140 ?_
            rw [up2_ne _ _ _ (show (9 : Nat) ≠ 0 by decide), hPr.2.1, show nmr B q.1 = B q.1 - 80 by rw [nmr, if_neg (by omega), if_pos hc]]
            refine G.ialdN (k := B q.1 - 80) rfl (rfl) (l80 hc) (by decide) dX7_enters_141 ?_
            rw [up2_ne _ _ _ (show (16 : Nat) ≠ 0 by decide), (hv2 _ (l80 hc)).1, show vp B V (B q.1 - 80) = nI (pN B w.1) by rw [vp, hw]]
            refine G.put (j := 29) rfl gci_X7 gcp_X7 (by decide) rfl rfl rfl rfl fl_X7_290 dX7_enters_142 ?_
            refine G.goto (tgt := 151) (by decide) dX7_enters_145 ?_
            refine G.goto (tgt := 13) (by decide) dX7_enters_151 ?_
            rw [en_2 hV hrk hc hw]
            exact ih (w.1, tn_cmp q.2 w.2) _ _ (by have := phi_2 hc hw hrk2; show phi B rk w.1 ≤ f; omega) hwn.2.1 (tn_P_cmp hq2 hwn.2.2) (e2_29 _ _ _) (e2_30 _ _ _) (eF_tr hF (e2_F _ _ _))
      · have hno : kd (B q.1) = 2 → V (B q.1 - 80) = none := fun z => absurd z hc
        have hne1 : ¬ nI (kd (B q.1) - 1) = 1 := fun z => by
          have := (nI_eq (show kd (B q.1) - 1 < 2 ^ 31 by omega) (show 1 < 2 ^ 31 by decide)).mp z
          omega
        have hne6 : ¬ nI (kd (B q.1) - 1) = 6 := fun z => by
          have := (nI_eq (show kd (B q.1) - 1 < 2 ^ 31 by omega) (show 6 < 2 ^ 31 by decide)).mp z
          omega
        refine G.iload (i := 4) rfl dX7_enters_13 ?_
        refine G.if_eq (tgt := 154) (by decide) dX7_enters_15 (fun c_15 => absurd c_15 (by decide)) (fun c_15 => ?_)
        refine G.aload_n (k := 0) rfl dX7_enters_18 ?_
        refine G.geti (j := 29) rfl gci_X7 (by decide) rfl fl_X7_290 dX7_enters_19 ?_
        rw [h29]
        refine G.ist5 (by decide) rfl dX7_enters_22 ?_
        refine G.aload_n (k := 0) rfl dX7_enters_24 ?_
        refine G.getr (j := 8) rfl gci_X7 (by decide) rfl fl_X7_31 dX7_enters_25 ?_
        refine G.iload (i := 5) rfl dX7_enters_28 ?_
        refine G.ialdN (k := pN B q.1) rfl (rfl) (hpl.2.2) (by decide) dX7_enters_30 ?_
        rw [hPr.1]
        refine G.bipush (v := 6) (by decide) dX7_enters_31 ?_
        refine G.icmp_ne (tgt := 75) (by decide) dX7_enters_33 (fun c_33 => ?_) (fun c_33 => absurd c_33 hne6)
        refine G.aload_n (k := 0) rfl dX7_enters_75 ?_
        refine G.getr (j := 8) rfl gci_X7 (by decide) rfl fl_X7_31 dX7_enters_76 ?_
        refine G.iload (i := 5) rfl dX7_enters_79 ?_
        refine G.ialdN (k := pN B q.1) rfl (rfl) (hpl.2.2) (by decide) dX7_enters_81 ?_
        rw [hPr.1]
        refine G.iconst (v := 1) (by decide) dX7_enters_82 ?_
        refine G.icmp_ne (tgt := 148) (by decide) dX7_enters_83 (fun c_83 => ?_) (fun c_83 => absurd c_83 hne1)
        refine G.iconst (v := 0) (by decide) dX7_enters_148 ?_
        refine G.ist4 (by decide) rfl dX7_enters_149 ?_
        refine G.goto (tgt := 13) (by decide) dX7_enters_151 ?_
        have hen : en B V 241 q = q := en_stop 241 q ⟨h7, hno⟩
        refine G.iload (i := 4) rfl dX7_enters_13 ?_
        refine G.if_eq (tgt := 154) (by decide) dX7_enters_15 (fun c_15 => ?_) (fun c_15 => absurd rfl c_15)
        exact G.vret rfl (by rw [hen]; exact ⟨h29, h30, hF⟩) dX7_enters_154
set_option maxHeartbeats 4000000 in
set_option maxRecDepth 100000 in
theorem c_X7_enters {fl : Int32} {ln B : Nat → Nat} {V : uV} {q : Nat × Nat} (hN : ∀ g, nd B ln g → PrM σ B g) (hV : VG B ln V) (hrk : rkd B V) (hv : vM σ B fl V) (hq1 : nd B ln q.1) (hq2 : tn_P q.2) : GM (XM l D cA ad) mX7_enters [.ref 0, .int (nI (pN B q.1)), .int (nI q.2), .int fl] σ (g_rv (fun τ => τ 0 29 = nI (pN B (en B V 241 q).1) ∧ τ 0 30 = nI (en B V 241 q).2 ∧ eF σ τ)) := by
  refine GM.of (ls := [some (.ref 0), some (.int (nI (pN B q.1))), some (.int (nI q.2)), some (.int fl), none, none]) (by decide) (Nat.le_of_ble_eq_true rfl) rfl ?_
  refine G.aload_n (k := 0) rfl dX7_enters_0 ?_
  refine G.iload_n (k := 1) rfl dX7_enters_1 ?_
  refine G.put (j := 29) rfl gci_X7 gcp_X7 (by decide) rfl rfl rfl rfl fl_X7_290 dX7_enters_2 ?_
  refine G.aload_n (k := 0) rfl dX7_enters_5 ?_
  refine G.iload_n (k := 2) rfl dX7_enters_6 ?_
  refine G.put (j := 30) rfl gci_X7 gcp_X7 (by decide) rfl rfl rfl rfl fl_X7_293 dX7_enters_7 ?_
  refine G.iconst (v := 1) (by decide) dX7_enters_10 ?_
  refine G.ist4 (by decide) rfl dX7_enters_11 ?_
  obtain ⟨rk, hrk1, hrk2⟩ := id hrk
  exact l_X7_enters hN hV hrk hrk2 hv _ q _ none (Nat.le_refl _) hq1 hq2 (by rw [up2_r, if_neg (by decide), up2_at]) (up2_at _ _ _ _) ⟨fun k a => by rw [up2_ne _ _ _ a, up2_ne _ _ _ a], fun i a b => by rw [up2_r, if_neg (fun z => b z.2), up2_r, if_neg (fun z => a z.2)]⟩
set_option maxHeartbeats 4000000 in
set_option maxRecDepth 100000 in
theorem c_X7_goesOn {ln B : Nat → Nat} {a b : Nat × Nat} {P : uP} (hN : ∀ g, nd B ln g → PrM σ B g) (ha1 : nd B ln a.1) (ha2 : tn_P a.2) (hb1 : nd B ln b.1) (hb2 : tn_P b.2) (hk : kd (B a.1) = kd (B b.1)) (h7 : kd (B a.1) ≠ 7) (h2 : kd (B a.1) ≠ 2) (hS : PkM σ B P) (hl : P.length < 690) : GM (XM l D cA ad) mX7_goesOn [.ref 0, .int (nI (pN B a.1)), .int (nI a.2), .int (nI (pN B b.1)), .int (nI b.2)] σ (g_ri (fun r τ => r = (if gO B a b = true then 1 else 0) ∧ PkM τ B (gK B a b ++ P) ∧ pF σ τ ∧ τ 0 31 = gA B a b)) := by
  refine GM.of (ls := [some (.ref 0), some (.int (nI (pN B a.1))), some (.int (nI a.2)), some (.int (nI (pN B b.1))), some (.int (nI b.2)), none, none]) (by decide) (Nat.le_of_ble_eq_true rfl) rfl ?_
  have la := pN_lt ha1
  have lb := pN_lt hb1
  have pa := hN _ ha1
  have pb := hN _ hb1
  have hkd := nd_kd ha1
  have hF0 : pF σ (up2 σ 0 31 (-1)) := ⟨fun k a _ => up2_ne _ _ _ a, fun i _ b => by rw [up2_r, if_neg (fun z => b z.2)]⟩
  have S0 : PkM (up2 σ 0 31 (-1)) B P := PkM_F (fun k _ _ => up2_ne _ _ _ (by omega)) (by rw [up2_r, if_neg (by decide)]) hS
  have cc : kd (B a.1) = 1 ∨ kd (B a.1) = 3 ∨ kd (B a.1) = 4 ∨ kd (B a.1) = 5 ∨ kd (B a.1) = 6 := by omega
  rcases cc with hc | hc | hc | hc | hc
  · have hcb := hk.symm.trans hc
    refine G.aload_n (k := 0) rfl dX7_goesOn_0 ?_
    refine G.iconst (v := (-1)) (by decide) dX7_goesOn_1 ?_
    refine G.put (j := 31) rfl gci_X7 gcp_X7 (by decide) rfl rfl rfl rfl fl_X7_296 dX7_goesOn_2 ?_
    refine G.aload_n (k := 0) rfl dX7_goesOn_5 ?_
    refine G.getr (j := 8) rfl gci_X7 (by decide) rfl fl_X7_31 dX7_goesOn_6 ?_
    refine G.iload_n (k := 1) rfl dX7_goesOn_9 ?_
    refine G.ialdN (k := pN B a.1) rfl (rfl) (la.2.2) (by decide) dX7_goesOn_10 ?_
    rw [up2_ne _ _ _ (show (8 : Nat) ≠ 0 by decide), show σ 8 (pN B a.1) = 0 by rw [pa.1, hc]; rfl]
    refine G.tableIn (tgt := 44) dX7_goesOn_11 (by decide) (by decide) rfl (by decide) ?_
    refine G.iload_n (k := 2) rfl dX7_goesOn_44 ?_
    refine G.aload_n (k := 0) rfl dX7_goesOn_45 ?_
    refine G.getr (j := 9) rfl gci_X7 (by decide) rfl fl_X7_34 dX7_goesOn_46 ?_
    refine G.iload_n (k := 1) rfl dX7_goesOn_49 ?_
    refine G.ialdN (k := pN B a.1) rfl (rfl) (la.2.2) (by decide) dX7_goesOn_50 ?_
    rw [up2_ne _ _ _ (show (9 : Nat) ≠ 0 by decide), pa.2.1, show nmr B a.1 = B a.1 - 97 from if_pos hc]
    refine G.callSif (c_X7_image ha2.1 (l97 hc)) ml_X7_123 ws_yX7_image gcl_X7_image (by decide) rfl rfl (Nat.le_of_ble_eq_true rfl) dX7_goesOn_51 ?_
    refine G.iload (i := 4) rfl dX7_goesOn_54 ?_
    refine G.aload_n (k := 0) rfl dX7_goesOn_56 ?_
    refine G.getr (j := 9) rfl gci_X7 (by decide) rfl fl_X7_34 dX7_goesOn_57 ?_
    refine G.iload_n (k := 3) rfl dX7_goesOn_60 ?_
    refine G.ialdN (k := pN B b.1) rfl (rfl) (lb.2.2) (by decide) dX7_goesOn_61 ?_
    rw [up2_ne _ _ _ (show (9 : Nat) ≠ 0 by decide), pb.2.1, show nmr B b.1 = B b.1 - 97 from if_pos hcb]
    refine G.callSif (c_X7_image hb2.1 (l97 hcb)) ml_X7_123 ws_yX7_image gcl_X7_image (by decide) rfl rfl (Nat.le_of_ble_eq_true rfl) dX7_goesOn_62 ?_
    refine G.icmp_ne (tgt := 72) (by decide) dX7_goesOn_65 (fun c_65 => ?_) (fun c_65 => ?_)
    · have hr : gO B a b = false := by unfold gO; rw [if_pos hc]; exact decide_eq_false (fun e => c_65 (congrArg nI e))
      refine G.iconst (v := 0) (by decide) dX7_goesOn_72 ?_
      exact G.zret rfl (by decide) (⟨by rw [hr]; rfl, by rw [show gK B a b = [] by unfold gK; rw [if_neg (by omega), if_neg (by omega), if_neg (by omega)]]; exact (PkM_F (fun k _ _ => up2_ne _ _ _ (by omega)) (by rw [up2_r, if_neg (by decide)]) hS), hF0, by rw [show gA B a b = -1 from if_neg (by omega), up2_at]⟩) dX7_goesOn_73
    · have hr : gO B a b = true := by unfold gO; rw [if_pos hc]; exact decide_eq_true ((nI_eq (show tn_im a.2 (B a.1 - 97) < 2 ^ 31 by have := ha2.2.1 _ (l97 hc); omega) (show tn_im b.2 (B b.1 - 97) < 2 ^ 31 by have := hb2.2.1 _ (l97 hcb); omega)).mp c_65)
      refine G.iconst (v := 1) (by decide) dX7_goesOn_68 ?_
      refine G.goto (tgt := 73) (by decide) dX7_goesOn_69 ?_
      exact G.zret rfl (by decide) (⟨by rw [hr]; rfl, by rw [show gK B a b = [] by unfold gK; rw [if_neg (by omega), if_neg (by omega), if_neg (by omega)]]; exact (PkM_F (fun k _ _ => up2_ne _ _ _ (by omega)) (by rw [up2_r, if_neg (by decide)]) hS), hF0, by rw [show gA B a b = -1 from if_neg (by omega), up2_at]⟩) dX7_goesOn_73
  · have hcb := hk.symm.trans hc
    refine G.aload_n (k := 0) rfl dX7_goesOn_0 ?_
    refine G.iconst (v := (-1)) (by decide) dX7_goesOn_1 ?_
    refine G.put (j := 31) rfl gci_X7 gcp_X7 (by decide) rfl rfl rfl rfl fl_X7_296 dX7_goesOn_2 ?_
    refine G.aload_n (k := 0) rfl dX7_goesOn_5 ?_
    refine G.getr (j := 8) rfl gci_X7 (by decide) rfl fl_X7_31 dX7_goesOn_6 ?_
    refine G.iload_n (k := 1) rfl dX7_goesOn_9 ?_
    refine G.ialdN (k := pN B a.1) rfl (rfl) (la.2.2) (by decide) dX7_goesOn_10 ?_
    rw [up2_ne _ _ _ (show (8 : Nat) ≠ 0 by decide), show σ 8 (pN B a.1) = 2 by rw [pa.1, hc]; rfl]
    refine G.tableIn (tgt := 74) dX7_goesOn_11 (by decide) (by decide) rfl (by decide) ?_
    refine G.iconst (v := 1) (by decide) dX7_goesOn_74 ?_
    exact G.zret rfl (by decide) (⟨by rw [show gO B a b = true by unfold gO; rw [if_neg (by omega), if_neg (by omega)]]; rfl, by rw [show gK B a b = [] by unfold gK; rw [if_neg (by omega), if_neg (by omega), if_neg (by omega)]]; exact (PkM_F (fun k _ _ => up2_ne _ _ _ (by omega)) (by rw [up2_r, if_neg (by decide)]) hS), hF0, by rw [show gA B a b = -1 from if_neg (by omega), up2_at]⟩) dX7_goesOn_75
  · have hcb := hk.symm.trans hc
    obtain ⟨n1, n2, n3⟩ := nd_4 ha1 hc
    have p1 := pN_45 ha1 n1 n3
    obtain ⟨m1, m2, m3⟩ := nd_4 hb1 hcb
    have p2 := pN_45 hb1 m1 m3
    have ga := h48 hc
    have gb := h48 hcb
    refine G.aload_n (k := 0) rfl dX7_goesOn_0 ?_
    refine G.iconst (v := (-1)) (by decide) dX7_goesOn_1 ?_
    refine G.put (j := 31) rfl gci_X7 gcp_X7 (by decide) rfl rfl rfl rfl fl_X7_296 dX7_goesOn_2 ?_
    refine G.aload_n (k := 0) rfl dX7_goesOn_5 ?_
    refine G.getr (j := 8) rfl gci_X7 (by decide) rfl fl_X7_31 dX7_goesOn_6 ?_
    refine G.iload_n (k := 1) rfl dX7_goesOn_9 ?_
    refine G.ialdN (k := pN B a.1) rfl (rfl) (la.2.2) (by decide) dX7_goesOn_10 ?_
    rw [up2_ne _ _ _ (show (8 : Nat) ≠ 0 by decide), show σ 8 (pN B a.1) = 3 by rw [pa.1, hc]; rfl]
    refine G.tableIn (tgt := 76) dX7_goesOn_11 (by decide) (by decide) rfl (by decide) ?_
    refine G.aload_n (k := 0) rfl dX7_goesOn_76 ?_
    refine G.getr (j := 9) rfl gci_X7 (by decide) rfl fl_X7_34 dX7_goesOn_77 ?_
    refine G.iload_n (k := 1) rfl dX7_goesOn_80 ?_
    refine G.ialdN (k := pN B a.1) rfl (rfl) (la.2.2) (by decide) dX7_goesOn_81 ?_
    rw [up2_ne _ _ _ (show (9 : Nat) ≠ 0 by decide), pa.2.1, show nmr B a.1 = B a.1 - 48 by rw [nmr, if_neg (by omega), if_neg (by omega), if_pos hc]]
    refine G.aload_n (k := 0) rfl dX7_goesOn_82 ?_
    refine G.getr (j := 9) rfl gci_X7 (by decide) rfl fl_X7_34 dX7_goesOn_83 ?_
    refine G.iload_n (k := 3) rfl dX7_goesOn_86 ?_
    refine G.ialdN (k := pN B b.1) rfl (rfl) (lb.2.2) (by decide) dX7_goesOn_87 ?_
    rw [up2_ne _ _ _ (show (9 : Nat) ≠ 0 by decide), pb.2.1, show nmr B b.1 = B b.1 - 48 by rw [nmr, if_neg (by omega), if_neg (by omega), if_pos hcb]]
    refine G.icmp_eq (tgt := 93) (by decide) dX7_goesOn_88 (fun c_88 => ?_) (fun c_88 => ?_)
    · have he : B a.1 = B b.1 := by
        have := (nI_eq (show B a.1 - 48 < 2 ^ 31 by omega) (show B b.1 - 48 < 2 ^ 31 by omega)).mp c_88
        omega
      have hr : gO B a b = true := by unfold gO; rw [if_neg (by omega), if_pos hc]; exact decide_eq_true he
      refine G.aload_n (k := 0) rfl dX7_goesOn_93 ?_
      refine G.iload_n (k := 1) rfl dX7_goesOn_94 ?_
      refine G.iconst (v := 1) (by decide) dX7_goesOn_95 ?_
      refine G.iadd dX7_goesOn_96 ?_
      rw [nI_1, ← p1]
      refine G.iload_n (k := 2) rfl dX7_goesOn_97 ?_
      refine G.iload_n (k := 3) rfl dX7_goesOn_98 ?_
      refine G.iconst (v := 1) (by decide) dX7_goesOn_99 ?_
      refine G.iadd dX7_goesOn_100 ?_
      rw [nI_1, ← p2]
      refine G.iload (i := 4) rfl dX7_goesOn_101 ?_
      refine G.callVvf (c_X7_piles (n := P.length) S0.2 (by omega)) rfl (gci_X7).1 ml_X7_299 im_yX7_piles se_yX7_piles gcl_X7_piles (by decide) rfl rfl (Nat.le_of_ble_eq_true rfl) dX7_goesOn_103 ?_
      have S2 := pi_P ((a.1 + 1, a.2), (b.1 + 1, b.2)) S0.1
      refine G.iconst (v := 1) (by decide) dX7_goesOn_106 ?_
      exact G.zret rfl (by decide) (⟨by rw [hr]; rfl, by rw [show gK B a b = [((a.1 + 1, a.2), (b.1 + 1, b.2))] by unfold gK; rw [if_pos hc, if_pos he]]; exact S2, pF_tr hF0 (pi_F _ _ _ _ _ _), by rw [show gA B a b = -1 from if_neg (by omega), pi_31, up2_at]⟩) dX7_goesOn_107
    · have he : ¬ B a.1 = B b.1 := fun e => c_88 (by rw [e])
      have hr : gO B a b = false := by unfold gO; rw [if_neg (by omega), if_pos hc]; exact decide_eq_false he
      refine G.iconst (v := 0) (by decide) dX7_goesOn_91 ?_
      exact G.zret rfl (by decide) (⟨by rw [hr]; rfl, by rw [show gK B a b = [] by unfold gK; rw [if_pos hc, if_neg he]]; exact (PkM_F (fun k _ _ => up2_ne _ _ _ (by omega)) (by rw [up2_r, if_neg (by decide)]) hS), hF0, by rw [show gA B a b = -1 from if_neg (by omega), up2_at]⟩) dX7_goesOn_92
  · have hcb := hk.symm.trans hc
    obtain ⟨n1, n2, n3, n4, n5⟩ := nd_5 ha1 hc
    have p1 := pN_45 ha1 n1 n4
    obtain ⟨m1, m2, m3, m4, m5⟩ := nd_5 hb1 hcb
    have p2 := pN_45 hb1 m1 m4
    have l1 := pN_lt n1
    have l2 := pN_lt m1
    have hEa : σ 11 (pN B (a.1 + 1)) = nI (pN B (tE B (a.1 + 1))) := by
      rw [(hN _ n1).2.2.2]
      refine congrArg nI ?_
      rw [n4]; exact pt_in n5
    have hEb : σ 11 (pN B (b.1 + 1)) = nI (pN B (tE B (b.1 + 1))) := by
      rw [(hN _ m1).2.2.2]
      refine congrArg nI ?_
      rw [m4]; exact pt_in m5
    refine G.aload_n (k := 0) rfl dX7_goesOn_0 ?_
    refine G.iconst (v := (-1)) (by decide) dX7_goesOn_1 ?_
    refine G.put (j := 31) rfl gci_X7 gcp_X7 (by decide) rfl rfl rfl rfl fl_X7_296 dX7_goesOn_2 ?_
    refine G.aload_n (k := 0) rfl dX7_goesOn_5 ?_
    refine G.getr (j := 8) rfl gci_X7 (by decide) rfl fl_X7_31 dX7_goesOn_6 ?_
    refine G.iload_n (k := 1) rfl dX7_goesOn_9 ?_
    refine G.ialdN (k := pN B a.1) rfl (rfl) (la.2.2) (by decide) dX7_goesOn_10 ?_
    rw [up2_ne _ _ _ (show (8 : Nat) ≠ 0 by decide), show σ 8 (pN B a.1) = 4 by rw [pa.1, hc]; rfl]
    refine G.tableIn (tgt := 108) dX7_goesOn_11 (by decide) (by decide) rfl (by decide) ?_
    refine G.aload_n (k := 0) rfl dX7_goesOn_108 ?_
    refine G.aload_n (k := 0) rfl dX7_goesOn_109 ?_
    refine G.getr (j := 11) rfl gci_X7 (by decide) rfl fl_X7_40 dX7_goesOn_110 ?_
    refine G.iload_n (k := 1) rfl dX7_goesOn_113 ?_
    refine G.iconst (v := 1) (by decide) dX7_goesOn_114 ?_
    refine G.iadd dX7_goesOn_115 ?_
    rw [nI_1, ← p1]
    refine G.ialdN (k := pN B (a.1 + 1)) rfl (rfl) (l1.2.2) (by decide) dX7_goesOn_116 ?_
    rw [up2_ne _ _ _ (show (11 : Nat) ≠ 0 by decide), hEa]
    refine G.iload_n (k := 2) rfl dX7_goesOn_117 ?_
    refine G.aload_n (k := 0) rfl dX7_goesOn_118 ?_
    refine G.getr (j := 11) rfl gci_X7 (by decide) rfl fl_X7_40 dX7_goesOn_119 ?_
    refine G.iload_n (k := 3) rfl dX7_goesOn_122 ?_
    refine G.iconst (v := 1) (by decide) dX7_goesOn_123 ?_
    refine G.iadd dX7_goesOn_124 ?_
    rw [nI_1, ← p2]
    refine G.ialdN (k := pN B (b.1 + 1)) rfl (rfl) (l2.2.2) (by decide) dX7_goesOn_125 ?_
    rw [up2_ne _ _ _ (show (11 : Nat) ≠ 0 by decide), hEb]
    refine G.iload (i := 4) rfl dX7_goesOn_126 ?_
    refine G.callVvf (c_X7_piles (n := P.length) S0.2 (by omega)) rfl (gci_X7).1 ml_X7_299 im_yX7_piles se_yX7_piles gcl_X7_piles (by decide) rfl rfl (Nat.le_of_ble_eq_true rfl) dX7_goesOn_128 ?_
    have S2 := pi_P ((tE B (a.1 + 1), a.2), (tE B (b.1 + 1), b.2)) S0.1
    refine G.aload_n (k := 0) rfl dX7_goesOn_131 ?_
    refine G.iload_n (k := 1) rfl dX7_goesOn_132 ?_
    refine G.iconst (v := 1) (by decide) dX7_goesOn_133 ?_
    refine G.iadd dX7_goesOn_134 ?_
    rw [nI_1, ← p1]
    refine G.iload_n (k := 2) rfl dX7_goesOn_135 ?_
    refine G.iload_n (k := 3) rfl dX7_goesOn_136 ?_
    refine G.iconst (v := 1) (by decide) dX7_goesOn_137 ?_
    refine G.iadd dX7_goesOn_138 ?_
    rw [nI_1, ← p2]
    refine G.iload (i := 4) rfl dX7_goesOn_139 ?_
    refine G.callVvf (c_X7_piles (n := P.length + 1) S2.2 (by omega)) rfl (gci_X7).1 ml_X7_299 im_yX7_piles se_yX7_piles gcl_X7_piles (by decide) rfl rfl (Nat.le_of_ble_eq_true rfl) dX7_goesOn_141 ?_
    have S3 := pi_P ((a.1 + 1, a.2), (b.1 + 1, b.2)) S2.1
    refine G.iconst (v := 1) (by decide) dX7_goesOn_144 ?_
    exact G.zret rfl (by decide) (⟨by rw [show gO B a b = true by unfold gO; rw [if_neg (by omega), if_neg (by omega)]]; rfl, by rw [show gK B a b = [((a.1 + 1, a.2), (b.1 + 1, b.2)), ((tE B (a.1 + 1), a.2), (tE B (b.1 + 1), b.2))] by unfold gK; rw [if_neg (by omega), if_pos hc]]; exact S3, pF_tr hF0 (pF_tr (pi_F _ _ _ _ _ _) (pi_F _ _ _ _ _ _)), by rw [show gA B a b = -1 from if_neg (by omega), pi_31, pi_31, up2_at]⟩) dX7_goesOn_145
  · have hcb := hk.symm.trans hc
    obtain ⟨k1, n1, n2, n3⟩ := nd_6 ha1 hc
    have p1 := pN_6 ha1 hc
    obtain ⟨k2, m1, m2, m3⟩ := nd_6 hb1 hcb
    have p2 := pN_6 hb1 hcb
    have i1 := ha2.2.1 _ (l97 k1)
    have i2 := hb2.2.1 _ (l97 k2)
    have e1 : tn_im a.2 (B (a.1 + 1) - 97) < 2 ^ 31 := by omega
    have e2 : tn_im b.2 (B (b.1 + 1) - 97) < 2 ^ 31 := by omega
    have hO : gO B a b = true := by unfold gO; rw [if_neg (by omega), if_neg (by omega)]
    have hK : gK B a b = [((a.1 + 2, a.2), (b.1 + 2, tn_cmp (tn_sw (tn_im a.2 (B (a.1 + 1) - 97)) (tn_im b.2 (B (b.1 + 1) - 97))) b.2))] := by unfold gK; rw [if_neg (by omega), if_neg (by omega), if_pos hc]
    by_cases hnm : tn_im a.2 (B (a.1 + 1) - 97) = tn_im b.2 (B (b.1 + 1) - 97)
    · have hA : gA B a b = -1 := by unfold gA; rw [if_pos hc, if_pos hnm]
      have hcm : tn_cmp (tn_sw (tn_im a.2 (B (a.1 + 1) - 97)) (tn_im b.2 (B (b.1 + 1) - 97))) b.2 = b.2 := by rw [hnm, sw_self _ i2]; exact tn_id_cmp hb2
      rw [hcm] at hK
      refine G.aload_n (k := 0) rfl dX7_goesOn_0 ?_
      refine G.iconst (v := (-1)) (by decide) dX7_goesOn_1 ?_
      refine G.put (j := 31) rfl gci_X7 gcp_X7 (by decide) rfl rfl rfl rfl fl_X7_296 dX7_goesOn_2 ?_
      refine G.aload_n (k := 0) rfl dX7_goesOn_5 ?_
      refine G.getr (j := 8) rfl gci_X7 (by decide) rfl fl_X7_31 dX7_goesOn_6 ?_
      refine G.iload_n (k := 1) rfl dX7_goesOn_9 ?_
      refine G.ialdN (k := pN B a.1) rfl (rfl) (la.2.2) (by decide) dX7_goesOn_10 ?_
      rw [up2_ne _ _ _ (show (8 : Nat) ≠ 0 by decide), show σ 8 (pN B a.1) = 5 by rw [pa.1, hc]; rfl]
      refine G.tableOut (tgt := 146) dX7_goesOn_11 (Or.inr (by decide)) (by decide) ?_
      refine G.iload_n (k := 2) rfl dX7_goesOn_146 ?_
      refine G.aload_n (k := 0) rfl dX7_goesOn_147 ?_
      refine G.getr (j := 9) rfl gci_X7 (by decide) rfl fl_X7_34 dX7_goesOn_148 ?_
      refine G.iload_n (k := 1) rfl dX7_goesOn_151 ?_
      refine G.ialdN (k := pN B a.1) rfl (rfl) (la.2.2) (by decide) dX7_goesOn_152 ?_
      rw [up2_ne _ _ _ (show (9 : Nat) ≠ 0 by decide), pa.2.1, nmr_67 (Or.inl hc)]
      refine G.callSif (c_X7_image ha2.1 (l97 k1)) ml_X7_123 ws_yX7_image gcl_X7_image (by decide) rfl rfl (Nat.le_of_ble_eq_true rfl) dX7_goesOn_153 ?_
      refine G.ist5 (by decide) rfl dX7_goesOn_156 ?_
      refine G.iload (i := 4) rfl dX7_goesOn_158 ?_
      refine G.aload_n (k := 0) rfl dX7_goesOn_160 ?_
      refine G.getr (j := 9) rfl gci_X7 (by decide) rfl fl_X7_34 dX7_goesOn_161 ?_
      refine G.iload_n (k := 3) rfl dX7_goesOn_164 ?_
      refine G.ialdN (k := pN B b.1) rfl (rfl) (lb.2.2) (by decide) dX7_goesOn_165 ?_
      rw [up2_ne _ _ _ (show (9 : Nat) ≠ 0 by decide), pb.2.1, nmr_67 (Or.inl hcb)]
      refine G.callSif (c_X7_image hb2.1 (l97 k2)) ml_X7_123 ws_yX7_image gcl_X7_image (by decide) rfl rfl (Nat.le_of_ble_eq_true rfl) dX7_goesOn_166 ?_
      refine G.ist6 (by decide) rfl dX7_goesOn_169 ?_
      refine G.aload_n (k := 0) rfl dX7_goesOn_171 ?_
      refine G.iload (i := 5) rfl dX7_goesOn_172 ?_
      refine G.iload (i := 6) rfl dX7_goesOn_174 ?_
      refine G.icmp_ne (tgt := 183) (by decide) dX7_goesOn_176 (fun c_176 => absurd (congrArg nI hnm) c_176) (fun c_176 => ?_)
      refine G.iconst (v := (-1)) (by decide) dX7_goesOn_179 ?_
      refine G.goto (tgt := 185) (by decide) dX7_goesOn_180 ?_
      refine G.put (j := 31) rfl gci_X7 gcp_X7 (by decide) rfl rfl rfl rfl fl_X7_296 dX7_goesOn_185 ?_
      refine G.aload_n (k := 0) rfl dX7_goesOn_188 ?_
      refine G.iload_n (k := 1) rfl dX7_goesOn_189 ?_
      refine G.iconst (v := 1) (by decide) dX7_goesOn_190 ?_
      refine G.iadd dX7_goesOn_191 ?_
      rw [nI_1, ← p1]
      refine G.iload_n (k := 2) rfl dX7_goesOn_192 ?_
      refine G.iload_n (k := 3) rfl dX7_goesOn_193 ?_
      refine G.iconst (v := 1) (by decide) dX7_goesOn_194 ?_
      refine G.iadd dX7_goesOn_195 ?_
      rw [nI_1, ← p2]
      refine G.iload (i := 5) rfl dX7_goesOn_196 ?_
      refine G.iload (i := 6) rfl dX7_goesOn_198 ?_
      refine G.icmp_ne (tgt := 208) (by decide) dX7_goesOn_200 (fun c_200 => absurd (congrArg nI hnm) c_200) (fun c_200 => ?_)
      refine G.iload (i := 4) rfl dX7_goesOn_203 ?_
      refine G.goto (tgt := 220) (by decide) dX7_goesOn_205 ?_
      have S1 : PkM (up2 (up2 σ 0 31 (-1)) 0 31 (-1)) B P := PkM_F (fun k _ _ => up2_ne _ _ _ (by omega)) (by rw [up2_r, if_neg (by decide)]) S0
      refine G.callVvf (c_X7_piles (n := P.length) S1.2 (by omega)) rfl (gci_X7).1 ml_X7_299 im_yX7_piles se_yX7_piles gcl_X7_piles (by decide) rfl rfl (Nat.le_of_ble_eq_true rfl) dX7_goesOn_220 ?_
      have S2 := pi_P ((a.1 + 2, a.2), (b.1 + 2, b.2)) S1.1
      refine G.iconst (v := 1) (by decide) dX7_goesOn_223 ?_
      exact G.zret rfl (by decide) (⟨by rw [hO]; rfl, by rw [hK]; exact S2, pF_tr hF0 (pF_tr ⟨fun k a _ => up2_ne _ _ _ a, fun i _ b => by rw [up2_r, if_neg (fun z => b z.2)]⟩ (pi_F _ _ _ _ _ _)), by rw [hA, pi_31, up2_at]⟩) dX7_goesOn_224
    · have hA : gA B a b = nI (tn_im a.2 (B (a.1 + 1) - 97)) := by unfold gA; rw [if_pos hc, if_neg hnm]
      refine G.aload_n (k := 0) rfl dX7_goesOn_0 ?_
      refine G.iconst (v := (-1)) (by decide) dX7_goesOn_1 ?_
      refine G.put (j := 31) rfl gci_X7 gcp_X7 (by decide) rfl rfl rfl rfl fl_X7_296 dX7_goesOn_2 ?_
      refine G.aload_n (k := 0) rfl dX7_goesOn_5 ?_
      refine G.getr (j := 8) rfl gci_X7 (by decide) rfl fl_X7_31 dX7_goesOn_6 ?_
      refine G.iload_n (k := 1) rfl dX7_goesOn_9 ?_
      refine G.ialdN (k := pN B a.1) rfl (rfl) (la.2.2) (by decide) dX7_goesOn_10 ?_
      rw [up2_ne _ _ _ (show (8 : Nat) ≠ 0 by decide), show σ 8 (pN B a.1) = 5 by rw [pa.1, hc]; rfl]
      refine G.tableOut (tgt := 146) dX7_goesOn_11 (Or.inr (by decide)) (by decide) ?_
      refine G.iload_n (k := 2) rfl dX7_goesOn_146 ?_
      refine G.aload_n (k := 0) rfl dX7_goesOn_147 ?_
      refine G.getr (j := 9) rfl gci_X7 (by decide) rfl fl_X7_34 dX7_goesOn_148 ?_
      refine G.iload_n (k := 1) rfl dX7_goesOn_151 ?_
      refine G.ialdN (k := pN B a.1) rfl (rfl) (la.2.2) (by decide) dX7_goesOn_152 ?_
      rw [up2_ne _ _ _ (show (9 : Nat) ≠ 0 by decide), pa.2.1, nmr_67 (Or.inl hc)]
      refine G.callSif (c_X7_image ha2.1 (l97 k1)) ml_X7_123 ws_yX7_image gcl_X7_image (by decide) rfl rfl (Nat.le_of_ble_eq_true rfl) dX7_goesOn_153 ?_
      refine G.ist5 (by decide) rfl dX7_goesOn_156 ?_
      refine G.iload (i := 4) rfl dX7_goesOn_158 ?_
      refine G.aload_n (k := 0) rfl dX7_goesOn_160 ?_
      refine G.getr (j := 9) rfl gci_X7 (by decide) rfl fl_X7_34 dX7_goesOn_161 ?_
      refine G.iload_n (k := 3) rfl dX7_goesOn_164 ?_
      refine G.ialdN (k := pN B b.1) rfl (rfl) (lb.2.2) (by decide) dX7_goesOn_165 ?_
      rw [up2_ne _ _ _ (show (9 : Nat) ≠ 0 by decide), pb.2.1, nmr_67 (Or.inl hcb)]
      refine G.callSif (c_X7_image hb2.1 (l97 k2)) ml_X7_123 ws_yX7_image gcl_X7_image (by decide) rfl rfl (Nat.le_of_ble_eq_true rfl) dX7_goesOn_166 ?_
      refine G.ist6 (by decide) rfl dX7_goesOn_169 ?_
      refine G.aload_n (k := 0) rfl dX7_goesOn_171 ?_
      refine G.iload (i := 5) rfl dX7_goesOn_172 ?_
      refine G.iload (i := 6) rfl dX7_goesOn_174 ?_
      refine G.icmp_ne (tgt := 183) (by decide) dX7_goesOn_176 (fun c_176 => ?_) (fun c_176 => absurd ((nI_eq e1 e2).mp c_176) hnm)
      refine G.iload (i := 5) rfl dX7_goesOn_183 ?_
      refine G.put (j := 31) rfl gci_X7 gcp_X7 (by decide) rfl rfl rfl rfl fl_X7_296 dX7_goesOn_185 ?_
      refine G.aload_n (k := 0) rfl dX7_goesOn_188 ?_
      refine G.iload_n (k := 1) rfl dX7_goesOn_189 ?_
      refine G.iconst (v := 1) (by decide) dX7_goesOn_190 ?_
      refine G.iadd dX7_goesOn_191 ?_
      rw [nI_1, ← p1]
      refine G.iload_n (k := 2) rfl dX7_goesOn_192 ?_
      refine G.iload_n (k := 3) rfl dX7_goesOn_193 ?_
      refine G.iconst (v := 1) (by decide) dX7_goesOn_194 ?_
      refine G.iadd dX7_goesOn_195 ?_
      rw [nI_1, ← p2]
      refine G.iload (i := 5) rfl dX7_goesOn_196 ?_
      refine G.iload (i := 6) rfl dX7_goesOn_198 ?_
      refine G.icmp_ne (tgt := 208) (by decide) dX7_goesOn_200 (fun c_200 => ?_) (fun c_200 => absurd ((nI_eq e1 e2).mp c_200) hnm)
      refine G.iload (i := 5) rfl dX7_goesOn_208 ?_
      refine G.iload (i := 6) rfl dX7_goesOn_210 ?_
      refine G.callSif (c_X7_swap i1 i2) ml_X7_158 ws_yX7_swap gcl_X7_swap (by decide) rfl rfl (Nat.le_of_ble_eq_true rfl) dX7_goesOn_212 ?_
      refine G.iload (i := 4) rfl dX7_goesOn_215 ?_
      refine G.callSif (c_X7_behind (tn_P_sw i1 i2) hb2) ml_X7_161 ws_yX7_behind gcl_X7_behind (by decide) rfl rfl (Nat.le_of_ble_eq_true rfl) dX7_goesOn_217 ?_
      have S1 : PkM (up2 (up2 σ 0 31 (-1)) 0 31 (nI (tn_im a.2 (B (a.1 + 1) - 97)))) B P := PkM_F (fun k _ _ => up2_ne _ _ _ (by omega)) (by rw [up2_r, if_neg (by decide)]) S0
      refine G.callVvf (c_X7_piles (n := P.length) S1.2 (by omega)) rfl (gci_X7).1 ml_X7_299 im_yX7_piles se_yX7_piles gcl_X7_piles (by decide) rfl rfl (Nat.le_of_ble_eq_true rfl) dX7_goesOn_220 ?_
      have S2 := pi_P ((a.1 + 2, a.2), (b.1 + 2, tn_cmp (tn_sw (tn_im a.2 (B (a.1 + 1) - 97)) (tn_im b.2 (B (b.1 + 1) - 97))) b.2)) S1.1
      refine G.iconst (v := 1) (by decide) dX7_goesOn_223 ?_
      exact G.zret rfl (by decide) (⟨by rw [hO]; rfl, by rw [hK]; exact S2, pF_tr hF0 (pF_tr ⟨fun k a _ => up2_ne _ _ _ a, fun i _ b => by rw [up2_r, if_neg (fun z => b z.2)]⟩ (pi_F _ _ _ _ _ _)), by rw [hA, pi_31, up2_at]⟩) dX7_goesOn_224
end T94

/-! ===== values have no ring: a rank ===== -/
def rkd (B : Nat → Nat) (V : uV) : Prop := ∃ rk : Nat → Nat, (∀ u, rk u < 6) ∧ ∀ u q, V u = some q → ∀ w, w < 6 → (tuk B q.1).testBit w = true → rk w < rk u
theorem rkd_no (B : Nat → Nat) : rkd B (fun _ => none) := ⟨fun _ => 0, fun _ => Nat.zero_lt_succ _, fun u q h => by cases h⟩
theorem VG_no (B ln : Nat → Nat) : VG B ln (fun _ => none) := fun u q h => by cases h
def mxN (rk : Nat → Nat) (m : Nat) : Nat → Nat
  | 0 => 0
  | n + 1 => max (mxN rk m n) (if m.testBit n then rk n + 1 else 0)
theorem mxN_le {rk : Nat → Nat} {m K : Nat} : ∀ n, (∀ w, w < n → m.testBit w = true → rk w < K) → mxN rk m n ≤ K := by
  intro n
  induction n with
  | zero => intro _; exact Nat.zero_le _
  | succ n ih =>
    intro h
    have h1 := ih (fun w hw => h w (by omega))
    show max (mxN rk m n) (if m.testBit n then rk n + 1 else 0) ≤ K
    split
    · have := h n (by omega) (by assumption); omega
    · omega
theorem mxN_ge {rk : Nat → Nat} {m w : Nat} (hb : m.testBit w = true) : ∀ n, w < n → rk w + 1 ≤ mxN rk m n := by
  intro n
  induction n with
  | zero => intro h; omega
  | succ n ih =>
    intro h
    show _ ≤ max (mxN rk m n) (if m.testBit n then rk n + 1 else 0)
    by_cases e : w = n
    · subst e; rw [if_pos hb]; omega
    · have := ih (by omega); omega
def phi (B : Nat → Nat) (rk : Nat → Nat) (g : Nat) : Nat := 31 * mxN rk (tuk B g) 6 + (30 - g % 30)
def ended (B : Nat → Nat) (V : uV) (g : Nat) : Prop := ¬ kd (B g) = 7 ∧ (kd (B g) = 2 → V (B g - 80) = none)
section RK
variable {B ln : Nat → Nat} {V : uV} {rk : Nat → Nat}
theorem phi_pos (g : Nat) : 1 ≤ phi B rk g := by unfold phi; omega
theorem phi_le (h6 : ∀ u, rk u < 6) (g : Nat) : phi B rk g ≤ 216 := by
  have := mxN_le (rk := rk) (m := tuk B g) (K := 6) 6 (fun w _ _ => h6 w)
  unfold phi
  omega
theorem phi_7 {g : Nat} (h : nd B ln g) (c : kd (B g) = 7) : phi B rk (g + 3) < phi B rk g := by
  obtain ⟨k1, k2, n1, e, dd⟩ := nd_7 h c
  unfold phi
  rw [tuk_7 h c]
  omega
theorem phi_2 {g : Nat} {q : Nat × Nat} (c : kd (B g) = 2) (hv : V (B g - 80) = some q) (hr : ∀ u q, V u = some q → ∀ w, w < 6 → (tuk B q.1).testBit w = true → rk w < rk u) : phi B rk q.1 < phi B rk g := by
  have h1 := mxN_le (rk := rk) (m := tuk B q.1) (K := rk (B g - 80)) 6 (fun w hw hb => hr _ _ hv w hw hb)
  have hge := kd2_ge c
  have e : tuk B g = 2 ^ (B g - 80) := by rw [tuk_1 (Or.inr (Or.inl c)), if_pos c]
  have h2 := mxN_ge (rk := rk) (m := tuk B g) (w := B g - 80) (by rw [e]; exact Nat.testBit_two_pow_self) 6 (by omega)
  unfold phi
  omega
theorem en_end (hV : VG B ln V) (hr : ∀ u q, V u = some q → ∀ w, w < 6 → (tuk B q.1).testBit w = true → rk w < rk u) : ∀ f q, nd B ln q.1 → phi B rk q.1 ≤ f → ended B V (en B V f q).1 := by
  intro f
  induction f with
  | zero => intro q _ h; have := phi_pos (B := B) (rk := rk) q.1; omega
  | succ f ih =>
    intro q hn h
    rw [en]
    by_cases c : kd (B q.1) = 7
    · rw [if_pos c]
      exact ih _ (nd_7 hn c).2.2.1 (by have := phi_7 (rk := rk) hn c; show phi B rk (q.1 + 3) ≤ f; omega)
    · rw [if_neg c]
      by_cases c2 : kd (B q.1) = 2
      · rw [if_pos c2]
        cases e : V (B q.1 - 80) with
        | none => exact ⟨c, fun _ => e⟩
        | some w => exact ih _ (hV _ _ e).2.1 (by have := phi_2 c2 e hr; show phi B rk w.1 ≤ f; omega)
      · rw [if_neg c2]
        exact ⟨c, fun e => absurd e c2⟩
/-- where a chain has ended, more steps change nothing -/
theorem en_stop : ∀ f q, ended B V q.1 → en B V f q = q := by
  intro f q h
  cases f with
  | zero => rfl
  | succ f =>
    rw [en, if_neg h.1]
    by_cases c2 : kd (B q.1) = 2
    · rw [if_pos c2, h.2 c2]
    · rw [if_neg c2]
theorem en_add : ∀ f d q, ended B V (en B V f q).1 → en B V (f + d) q = en B V f q := by
  intro f
  induction f with
  | zero => intro d q h; rw [Nat.zero_add]; exact en_stop d q h
  | succ f ih =>
    intro d q h
    rw [show f + 1 + d = f + d + 1 by omega]
    rw [en] at h ⊢
    by_cases c : kd (B q.1) = 7
    · rw [if_pos c] at h ⊢
      rw [ih d _ h]
      rw [en, if_pos c]
    · rw [if_neg c] at h ⊢
      by_cases c2 : kd (B q.1) = 2
      · rw [if_pos c2] at h ⊢
        rw [en, if_neg c, if_pos c2]
        cases e : V (B q.1 - 80) with
        | none => rfl
        | some w => rw [e] at h; exact ih d _ h
      · rw [if_neg c2, en, if_neg c, if_neg c2]
end RK
theorem rkd_end {B ln : Nat → Nat} {V : uV} (hV : VG B ln V) (hr : rkd B V) {q : Nat × Nat} (hn : nd B ln q.1) {f : Nat} (hf : 216 ≤ f) : ended B V (en B V f q).1 := by
  obtain ⟨rk, h6, h⟩ := hr
  exact en_end hV h f q hn (Nat.le_trans (phi_le h6 q.1) hf)
theorem shK_len (B : Nat → Nat) (q : Nat × Nat) : (shK B q).length ≤ 2 := by
  unfold shK
  repeat' split
  all_goals simp
theorem shK_nd {B ln : Nat → Nat} {q : Nat × Nat} (hn : nd B ln q.1) (hP : tn_P q.2) : ∀ w ∈ shK B q, nd B ln w.1 ∧ tn_P w.2 := by
  intro w hw
  unfold shK at hw
  by_cases c4 : kd (B q.1) = 4
  · rw [if_pos c4] at hw
    rw [List.mem_singleton.mp hw]
    exact ⟨(nd_4 hn c4).1, hP⟩
  · rw [if_neg c4] at hw
    by_cases c5 : kd (B q.1) = 5
    · rw [if_pos c5] at hw
      rcases List.mem_cons.mp hw with e | e
      · rw [e]; exact ⟨(nd_5 hn c5).1, hP⟩
      · rw [List.mem_singleton.mp e]; exact ⟨(nd_5 hn c5).2.1, hP⟩
    · rw [if_neg c5] at hw
      by_cases c6 : kd (B q.1) = 6
      · rw [if_pos c6] at hw
        rw [List.mem_singleton.mp hw]
        exact ⟨(nd_6 hn c6).2.1, hP⟩
      · rw [if_neg c6] at hw; cases hw
section T42
variable {l : Launch} {D : va_G} {cA : ClassId} {ad : Nat → Nat}
variable {σ : gS}
set_option maxHeartbeats 4000000 in
set_option maxRecDepth 100000 in
theorem l_X0_putTerm {b v : Nat} {x : Int32} {ln B : Nat → Nat} {V : uV} {F : List Nat} (hb : lnA b) (h3 : tx3 σ ln B) (hV : VG B ln V) (hrk : rkd B V) (hv : LX[v]? = some (.inl 6)) (hv30 : v < 30) (hr : ∀ u, u < 6 → σ v u = vrow V u) : ∀ j r s C (τ : gS), r + j = 60 → s.length + j ≤ 61 → (∀ w ∈ s, nd B ln w.1 ∧ tn_P w.2) → LnH τ b C → (St τ b s ∧ τ b 4 = nI s.length) → lnF σ τ b → (C ++ ush B V j s).take 60 = F → G (XC l D cA ad) mX0_putTerm (g_rv (fun τ => LnH τ b F ∧ lnF σ τ b)) 13 [some (.ref b), some (.ref 1), some (.ref v), some (.int x), some (.int (nI r))] [] τ := by
  have hb30 := hb.2.2.2
  intro j
  induction j with
  | zero =>
    intro r s C τ hr0 hl hs hC hS hF he
    have hr0 : r = 60 := by omega
    subst hr0
    have hfin : LnH τ b F ∧ lnF σ τ b := by
      rw [ush, List.append_nil, List.take_of_length_le hC.2.1] at he
      rw [← he]
      exact ⟨hC, hF⟩
    refine G.iload (i := 4) rfl dX0_putTerm_13 ?_
    refine G.bipush (v := 60) (by decide) dX0_putTerm_15 ?_
    refine G.icmp_ge (tgt := 62) (by decide) dX0_putTerm_17 (fun c_17 => ?_) (fun c_17 => absurd (by decide) c_17)
    exact G.vret rfl (hfin) dX0_putTerm_62
  | succ j ih =>
    intro r s C τ hr0 hl hs hC hS hF he
    refine G.iload (i := 4) rfl dX0_putTerm_13 ?_
    refine G.bipush (v := 60) (by decide) dX0_putTerm_15 ?_
    refine G.icmp_ge (tgt := 62) (by decide) dX0_putTerm_17 (fun c_17 => absurd c_17 (nI_ge (b := 60) (by omega) (by decide))) (fun c_17 => ?_)
    cases s with
    | nil =>
      have hfin : LnH τ b F ∧ lnF σ τ b := by
        rw [ush, List.append_nil, List.take_of_length_le hC.2.1] at he
        rw [← he]
        exact ⟨hC, hF⟩
      refine G.aload_n (k := 0) rfl dX0_putTerm_20 ?_
      refine G.geti (j := 4) hb.1 gci_X0 (by decide) rfl fl_X0_25 dX0_putTerm_21 ?_
      rw [hS.2]
      refine G.if_le (tgt := 62) (by decide) dX0_putTerm_24 (fun c_24 => ?_) (fun c_24 => absurd (by decide) c_24)
      exact G.vret rfl (hfin) dX0_putTerm_62
    | cons q s =>
      have hq := hs q List.mem_cons_self
      have hlen : (q :: s).length = s.length + 1 := rfl
      have hS4 : τ b 4 = nI (s.length + 1) := hS.2
      have he1 := en_nd hV 241 q hq.1 hq.2
      have he2 := rkd_end hV hrk hq.1 (f := 241) (by decide)
      refine G.aload_n (k := 0) rfl dX0_putTerm_20 ?_
      refine G.geti (j := 4) hb.1 gci_X0 (by decide) rfl fl_X0_25 dX0_putTerm_21 ?_
      rw [hS4]
      refine G.if_le (tgt := 62) (by decide) dX0_putTerm_24 (fun c_24 => absurd c_24 (nI_nle (by omega) (by omega))) (fun c_24 => ?_)
      refine G.aload_n (k := 0) rfl dX0_putTerm_27 ?_
      refine G.dupr dX0_putTerm_28 ?_
      refine G.geti (j := 4) hb.1 gci_X0 (by decide) rfl fl_X0_25 dX0_putTerm_29 ?_
      rw [hS4]
      refine G.iconst (v := 1) (by decide) dX0_putTerm_32 ?_
      refine G.isub dX0_putTerm_33 ?_
      rw [nI_pred]
      refine G.put (j := 4) hb.1 gci_X0 gcp_X0 (by decide) rfl rfl rfl rfl fl_X0_25 dX0_putTerm_34 ?_
      generalize hτ1 : up2 τ b 4 (nI s.length) = τ1
      have r1 : ∀ k, k ≠ b → τ1 k = τ k := fun k hk => by rw [← hτ1]; exact up2_ne _ _ _ hk
      have r2 : ∀ i, i ≠ 4 → τ1 b i = τ b i := fun i hi => by rw [← hτ1, up2_same]; exact if_neg hi
      have r4 : τ1 b 4 = nI s.length := by rw [← hτ1]; exact up2_at _ _ _ _
      have hF1 : lnF σ τ1 b := lnF_tr hF ⟨fun k a _ _ => r1 k a, fun i _ h => r2 i h⟩
      have hS1 : St τ1 b s ∧ τ1 b 4 = nI s.length := ⟨St_congr s (fun i _ => by rw [r1 (b + 2) (by omega)]) hS.1.2, r4⟩
      have hC1 : LnH τ1 b C := ⟨by rw [r2 1 (by decide)]; exact hC.1, hC.2.1, fun i y hi => by rw [r1 (b + 1) (by omega)]; exact hC.2.2 i y hi⟩
      have h31 : tx3 τ1 ln B := tx3_F (lnF_tx hb30 hF1) h3
      have hv1 : ∀ u, u < 6 → τ1 v u = vrow V u := fun u hu => by rw [hF1.1 v (by omega) (by omega) (by omega)]; exact hr u hu
      refine G.aload_n (k := 0) rfl dX0_putTerm_37 ?_
      refine G.aload_n (k := 1) rfl dX0_putTerm_38 ?_
      refine G.aload_n (k := 1) rfl dX0_putTerm_39 ?_
      refine G.aload_n (k := 0) rfl dX0_putTerm_40 ?_
      refine G.getr (j := 3) hb.1 gci_X0 (by decide) rfl fl_X0_22 dX0_putTerm_41 ?_
      refine G.aload_n (k := 0) rfl dX0_putTerm_44 ?_
      refine G.geti (j := 4) hb.1 gci_X0 (by decide) rfl fl_X0_25 dX0_putTerm_45 ?_
      rw [r4]
      refine G.ialdN (k := s.length) hb.2.2.1 rfl (by omega) (by decide) dX0_putTerm_48 ?_
      rw [r1 (b + 2) (by omega), hS.1.1]
      refine G.aload_n (k := 2) rfl dX0_putTerm_49 ?_
      refine G.callVif (c_X4_enter h31 hV hv hv1 hq.1 hq.2) rfl (gci_X4).1 ml_X0_54 im_yX4_enter se_yX4_enter gcl_X4_enter (by decide) rfl rfl (Nat.le_of_ble_eq_true rfl) dX0_putTerm_50 ?_
      refine G.callVv (c_X0_putTop hb (ln := ln) h31 he1.1 he1.2 he2.1 hC1 hS1 (by omega)) hb.1 (gci_X0).1 ml_X0_60 im_yX0_putTop se_yX0_putTop gcl_X0_putTop (by decide) rfl rfl (Nat.le_of_ble_eq_true rfl) dX0_putTerm_53 (fun τ2 hq2 => ?_)
      refine G.inc4 (d := 1) (by decide) (by decide) rfl dX0_putTerm_56 ?_
      refine G.goto (tgt := 13) (by decide) dX0_putTerm_59 ?_
      rw [nI_1]
      refine ih (r + 1) _ _ _ (by omega) ?_ ?_ hq2.1 hq2.2.1 (lnF_tr hF1 hq2.2.2) ?_
      · have := shK_len B (en B V 241 q)
        rw [List.length_append]
        omega
      · intro w hw
        rcases List.mem_append.mp hw with h | h
        · exact shK_nd he1.1 he1.2 w h
        · exact hs w (List.mem_cons_of_mem _ h)
      · rw [← he, ush, take_app, List.append_assoc]
set_option maxHeartbeats 4000000 in
set_option maxRecDepth 100000 in
theorem c_X0_putTerm {b v : Nat} (hb : lnA b) {ln B : Nat → Nat} {V : uV} {q : Nat × Nat} (h3 : tx3 σ ln B) (hV : VG B ln V) (hrk : rkd B V) (hv : LX[v]? = some (.inl 6)) (hv30 : v < 30) (hr : ∀ u, u < 6 → σ v u = vrow V u) (hn : nd B ln q.1) (hP : tn_P q.2) (hL : LnH σ b []) : GM (XC l D cA ad) mX0_putTerm [.ref b, .ref 1, .ref v, .int (nI (spot q))] σ (g_rv (fun τ => LnH τ b ((ush B V 60 [q]).take 60) ∧ lnF σ τ b)) := by
  refine GM.of (ls := [some (.ref b), some (.ref 1), some (.ref v), some (.int (nI (spot q))), none]) (by decide) (Nat.le_of_ble_eq_true rfl) rfl ?_
  have hb30 := hb.2.2.2
  refine G.aload_n (k := 0) rfl dX0_putTerm_0 ?_
  refine G.iconst (v := 0) (by decide) dX0_putTerm_1 ?_
  refine G.put (j := 4) hb.1 gci_X0 gcp_X0 (by decide) rfl rfl rfl rfl fl_X0_25 dX0_putTerm_2 ?_
  generalize hτ1 : up2 σ b 4 0 = τ1
  have r1 : ∀ k, k ≠ b → τ1 k = σ k := fun k hk => by rw [← hτ1]; exact up2_ne _ _ _ hk
  have r2 : ∀ i, i ≠ 4 → τ1 b i = σ b i := fun i hi => by rw [← hτ1, up2_same]; exact if_neg hi
  have r4 : τ1 b 4 = nI 0 := by rw [← hτ1]; exact up2_at _ _ _ _
  have hF1 : lnF σ τ1 b := ⟨fun k a _ _ => r1 k a, fun i _ h => r2 i h⟩
  have hC1 : LnH τ1 b [] := ⟨by rw [r2 1 (by decide)]; exact hL.1, by simp, fun i y hi => by simp at hi⟩
  refine G.aload_n (k := 0) rfl dX0_putTerm_5 ?_
  refine G.iload_n (k := 3) rfl dX0_putTerm_6 ?_
  refine G.callVvf (c_X0_await hb (n := 0) r4 (by decide)) hb.1 (gci_X0).1 ml_X0_51 im_yX0_await se_yX0_await gcl_X0_await (by decide) rfl rfl (Nat.le_of_ble_eq_true rfl) dX0_putTerm_7 ?_
  have S2 := aw_S (σ := τ1) (b := b) (q := q) (s := []) trivial
  refine G.iconst (v := 0) (by decide) dX0_putTerm_10 ?_
  refine G.ist4 (by decide) rfl dX0_putTerm_11 ?_
  exact l_X0_putTerm hb h3 hV hrk hv hv30 hr 60 0 [q] [] _ rfl (by simp) (fun w hw => by rw [List.mem_singleton.mp hw]; exact ⟨hn, hP⟩) (aw_L hC1) S2 (lnF_tr hF1 (aw_F _ _ _)) rfl
end T42

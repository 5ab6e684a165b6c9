/-! ===== the model asks a name fresh in a term ===== -/
theorem src_id : ∀ n, n < 6 → tn_src tn_id n = n := by decide +kernel
theorem ms_tb {x : Nat} (hx : x < 64) : ms_of (fun k => x.testBit k) = x := ms_ext (ms_lt _) hx (fun n hn => ms_bit _ n hn)
def tmW (ln B : Nat → Nat) (t : Nat) (w : Int32) : Int32 := if wlA ln B t = true then (if w = 0 then nI (tsz B (30 * t)) else if w = 1 then nI (tdp B (30 * t)) else if w = 2 then nI (tlo B (30 * t)) else nI (tuk B (30 * t))) else 0
theorem aH_u {σ : gS} {z : aZ} {h x : Nat} (hz : aH σ z) : aH (up2 σ 19 h (nI (z.1 h ||| x))) (addM z.1 h x, z.2) := by
  refine ⟨fun u hu => ?_, by rw [up2_ne _ _ _ (by decide)]; exact hz.2⟩
  rw [up2_r]
  show _ = nI (if u = h then z.1 u ||| x else z.1 u)
  by_cases e : u = h
  · rw [if_pos ⟨rfl, e⟩, if_pos e, e]
  · rw [if_neg (fun y => e y.2), if_neg e]; exact hz.1 u hu
theorem aH_b {σ : gS} {z : aZ} {b : Bool} {x : Int32} (hz : aH σ z) (hx : x = (if b = true then 1 else 0)) : aH (up2 σ 0 23 x) (z.1, b) := ⟨fun u hu => by rw [up2_ne _ _ _ (by decide)]; exact hz.1 u hu, by rw [up2_at]; exact hx⟩
theorem aF_b (σ : gS) (x : Int32) : aF σ (up2 σ 0 23 x) := ⟨fun k a _ _ _ _ => up2_ne _ _ _ a, fun i _ b => by rw [up2_r, if_neg (fun z => b z.2)]⟩
theorem aF_u (σ : gS) (h : Nat) (x : Int32) : aF σ (up2 σ 19 h x) := ⟨fun k _ _ _ _ e => up2_ne _ _ _ e, fun i _ _ => by rw [up2_ne _ _ _ (by decide)]⟩
theorem SkM_F {σ τ : gS} {B : Nat → Nat} {s : List (Nat × Nat)} (h14 : τ 14 = σ 14) (h15 : τ 15 = σ 15) (h18 : τ 0 18 = σ 0 18) (h : SkM σ B s) : SkM τ B s := ⟨StM_congr s (fun i _ => by rw [h14, h15]; exact ⟨rfl, rfl⟩) h.1, by rw [h18]; exact h.2⟩
theorem AskP_1 {B : Nat → Nat} {g m : Nat} {z : aZ} {b : Bool} (c : kd (B g) = 1) (hb : b = true ↔ (z.2 = true ∨ m = B g - 97)) : AskP B g m z (z.1, b) := ⟨by rw [Rb_1 c]; exact hb, fun u k => ⟨Or.inl, fun h => h.resolve_right (Ru_13 (Or.inl c))⟩⟩
theorem AskP_2 {B : Nat → Nat} {g m : Nat} {z : aZ} (c : kd (B g) = 2) : AskP B g m z (addM z.1 (B g - 80) (2 ^ m), z.2) := by
  refine ⟨⟨Or.inl, fun h => h.resolve_right (Rb_23 (Or.inl c))⟩, fun u k => ?_⟩
  rw [Ru_2 c]
  show ((if u = B g - 80 then z.1 u ||| 2 ^ m else z.1 u).testBit k = true) ↔ _
  by_cases e : u = B g - 80
  · rw [if_pos e, Nat.testBit_or, Bool.or_eq_true, Nat.testBit_two_pow, decide_eq_true_iff]
    exact ⟨fun h => h.elim Or.inl (fun h => Or.inr ⟨h.symm, e.symm⟩), fun h => h.elim Or.inl (fun h => Or.inr h.1.symm)⟩
  · rw [if_neg e]
    exact ⟨Or.inl, fun h => h.resolve_right (fun h => e h.2.symm)⟩
theorem AskP_3 {B : Nat → Nat} {g m : Nat} {z : aZ} (c : kd (B g) = 3) : AskP B g m z z := ⟨⟨Or.inl, fun h => h.resolve_right (Rb_23 (Or.inr c))⟩, fun u k => ⟨Or.inl, fun h => h.resolve_right (Ru_13 (Or.inr c))⟩⟩
theorem AskP_4 {B : Nat → Nat} {g m : Nat} {z z' : aZ} (c : kd (B g) = 4) (h : AskP B (g + 1) m z z') : AskP B g m z z' := ⟨by rw [Rb_4 c]; exact h.1, fun u k => by rw [Ru_4 c]; exact h.2 u k⟩
theorem AskP_6 {B : Nat → Nat} {g m : Nat} {z z' : aZ} (c : kd (B g) = 6) (hm : m ≠ B (g + 1) - 97) (h : AskP B (g + 2) m z z') : AskP B g m z z' := ⟨by rw [Rb_6 c, h.1]; exact ⟨fun q => q.elim Or.inl (fun q => Or.inr ⟨hm, q⟩), fun q => q.elim Or.inl (fun q => Or.inr q.2)⟩, fun u k => by rw [Ru_6 c, h.2]; exact ⟨fun q => q.elim Or.inl (fun q => Or.inr ⟨hm, q⟩), fun q => q.elim Or.inl (fun q => Or.inr q.2)⟩⟩
theorem AskP_6n {B : Nat → Nat} {g m : Nat} {z : aZ} (c : kd (B g) = 6) (hm : m = B (g + 1) - 97) : AskP B g m z z := ⟨by rw [Rb_6 c]; exact ⟨Or.inl, fun q => q.resolve_right (fun q => q.1 hm)⟩, fun u k => by rw [Ru_6 c]; exact ⟨Or.inl, fun q => q.resolve_right (fun q => q.1 hm)⟩⟩
theorem AskP_7 {B : Nat → Nat} {g m : Nat} {z z' : aZ} (c : kd (B g) = 7) (h : AskP B (g + 3) (tn_im (tn_sw (B (g + 1) - 97) (B (g + 2) - 97)) m) z z') : AskP B g m z z' := ⟨by rw [Rb_7 c]; exact h.1, fun u k => by rw [Ru_7 c]; exact h.2 u k⟩
section T93
variable {l : Launch} {D : va_G} {cA : ClassId} {ad : Nat → Nat}
variable {σ σ0 : gS}
set_option maxHeartbeats 4000000 in
set_option maxRecDepth 100000 in
theorem w_X7_asks {Q : Option Value → gS → Prop} {ln B : Nat → Nat} {n : Nat} {x2 x3 : Int32} (hN : ∀ g, nd B ln g → PrM σ0 B g) (hn6 : n < 6) : ∀ g, nd B ln g → ∀ p s z (τ : gS) (y4 y5 : Option Value), tn_P p → s.length + (30 - g % 30) ≤ 100 → SkM τ B ((g, p) :: s) → aH τ z → aF σ0 τ → (∀ τ2 z2 (y4 y5 : Option Value), AskP B g (tn_src p n) z z2 → SkM τ2 B s → aH τ2 z2 → aF σ0 τ2 → G (XM l D cA ad) mX7_asks Q 11 [some (.ref 0), some (.int (nI n)), some (.int x2), some (.int x3), y4, y5] [] τ2) → G (XM l D cA ad) mX7_asks Q 11 [some (.ref 0), some (.int (nI n)), some (.int x2), some (.int x3), y4, y5] [] τ := by
  refine nd_ind ?_
  intro g hn ih
  replace ih : ∀ h, nd B ln h → g < h → h / 30 = g / 30 → ∀ p s z (τ : gS) (y4 y5 : Option Value), tn_P p → s.length + (30 - h % 30) ≤ 100 → SkM τ B ((h, p) :: s) → aH τ z → aF σ0 τ → (∀ τ2 z2 (y4 y5 : Option Value), AskP B h (tn_src p n) z z2 → SkM τ2 B s → aH τ2 z2 → aF σ0 τ2 → G (XM l D cA ad) mX7_asks Q 11 [some (.ref 0), some (.int (nI n)), some (.int x2), some (.int x3), y4, y5] [] τ2) → G (XM l D cA ad) mX7_asks Q 11 [some (.ref 0), some (.int (nI n)), some (.int x2), some (.int x3), y4, y5] [] τ := ih
  intro p s z τ y4 y5 hP hl hS hz hF K
  have hpl := pN_lt hn
  have hS4 : τ 0 18 = nI (s.length + 1) := hS.2
  have hkd := nd_kd hn
  have cc : kd (B g) = 1 ∨ kd (B g) = 2 ∨ kd (B g) = 3 ∨ kd (B g) = 4 ∨ kd (B g) = 5 ∨ kd (B g) = 6 ∨ kd (B g) = 7 := by omega
  rcases cc with hc | hc | hc | hc | hc | hc | hc
  · cases hb : z.2 with
    | true =>
      have hz2 : τ 0 23 = 1 := by rw [hz.2, hb]; rfl
      refine G.aload_n (k := 0) rfl dX7_asks_11 ?_
      refine G.geti (j := 18) rfl gci_X7 (by decide) rfl fl_X7_236 dX7_asks_12 ?_
      rw [hS4]
      refine G.if_le (tgt := 270) (by decide) dX7_asks_15 (fun c_15 => absurd c_15 (nI_nle (by omega) (by omega))) (fun c_15 => ?_)
      refine G.aload_n (k := 0) rfl dX7_asks_18 ?_
      refine G.dupr dX7_asks_19 ?_
      refine G.geti (j := 18) rfl gci_X7 (by decide) rfl fl_X7_236 dX7_asks_20 ?_
      rw [hS4]
      refine G.iconst (v := 1) (by decide) dX7_asks_23 ?_
      refine G.isub dX7_asks_24 ?_
      rw [nI_pred]
      refine G.put (j := 18) rfl gci_X7 gcp_X7 (by decide) rfl rfl rfl rfl fl_X7_236 dX7_asks_25 ?_
      generalize hτ1 : up2 τ 0 18 (nI s.length) = τ1
      have r1 : ∀ k, k ≠ 0 → τ1 k = τ k := fun k hk => by rw [← hτ1]; exact up2_ne _ _ _ hk
      have r2 : ∀ i, i ≠ 18 → τ1 0 i = τ 0 i := fun i hi => by rw [← hτ1, up2_r]; exact if_neg (fun z => hi z.2)
      have r4 : τ1 0 18 = nI s.length := by rw [← hτ1]; exact up2_at _ _ _ _
      have hF1 : aF σ0 τ1 := aF_tr hF ⟨fun k a _ _ _ _ => r1 k a, fun i h _ => r2 i h⟩
      have hS1 : SkM τ1 B s := ⟨StM_congr s (fun i _ => by rw [r1 14 (by decide), r1 15 (by decide)]; exact ⟨rfl, rfl⟩) hS.1.2.2, r4⟩
      have hz1 : aH τ1 z := ⟨fun u hu => by rw [r1 19 (by decide)]; exact hz.1 u hu, by rw [r2 23 (by decide)]; exact hz.2⟩
      have hN1 : ∀ g, nd B ln g → PrM τ1 B g := fun g hg => aF_P hF1 (hN g hg)
      have hPr := hN1 g hn
      refine G.aload_n (k := 0) rfl dX7_asks_28 ?_
      refine G.getr (j := 16) rfl gci_X7 (by decide) rfl fl_X7_49 dX7_asks_29 ?_
      refine G.aload_n (k := 0) rfl dX7_asks_32 ?_
      refine G.geti (j := 18) rfl gci_X7 (by decide) rfl fl_X7_236 dX7_asks_33 ?_
      rw [r4]
      refine G.ialdN (k := s.length) rfl (rfl) (by omega) (by decide) dX7_asks_36 ?_
      rw [r1 14 (by decide), hS.1.1]
      refine G.ist4 (by decide) rfl dX7_asks_37 ?_
      refine G.aload_n (k := 0) rfl dX7_asks_39 ?_
      refine G.getr (j := 17) rfl gci_X7 (by decide) rfl fl_X7_52 dX7_asks_40 ?_
      refine G.aload_n (k := 0) rfl dX7_asks_43 ?_
      refine G.geti (j := 18) rfl gci_X7 (by decide) rfl fl_X7_236 dX7_asks_44 ?_
      rw [r4]
      refine G.ialdN (k := s.length) rfl (rfl) (by omega) (by decide) dX7_asks_47 ?_
      rw [r1 15 (by decide), hS.1.2.1]
      refine G.ist5 (by decide) rfl dX7_asks_48 ?_
      refine G.aload_n (k := 0) rfl dX7_asks_50 ?_
      refine G.getr (j := 8) rfl gci_X7 (by decide) rfl fl_X7_31 dX7_asks_51 ?_
      refine G.iload (i := 4) rfl dX7_asks_54 ?_
      refine G.ialdN (k := pN B g) rfl (rfl) (hpl.2.2) (by decide) dX7_asks_56 ?_
      rw [show τ1 8 (pN B g) = 0 by rw [hPr.1, hc]; rfl]
      refine G.tableIn (tgt := 100) dX7_asks_57 (by decide) (by decide) rfl (by decide) ?_
      refine G.aload_n (k := 0) rfl dX7_asks_100 ?_
      refine G.aload_n (k := 0) rfl dX7_asks_101 ?_
      refine G.geti (j := 23) rfl gci_X7 (by decide) rfl fl_X7_249 dX7_asks_102 ?_
      rw [r2 23 (by decide), hz2]
      refine G.if_ne (tgt := 124) (by decide) dX7_asks_105 (fun c_105 => ?_) (fun c_105 => absurd c_105 (by decide))
      refine G.iconst (v := 1) (by decide) dX7_asks_124 ?_
      refine G.goto (tgt := 129) (by decide) dX7_asks_125 ?_
      refine G.put (j := 23) rfl gci_X7 gcp_X7 (by decide) rfl rfl (by decide) (by decide) fl_X7_249 dX7_asks_129 ?_
      refine G.goto (tgt := 267) (by decide) dX7_asks_132 ?_
      refine G.goto (tgt := 11) (by decide) dX7_asks_267 ?_
      exact K _ (z.1, true) _ _ (AskP_1 hc (by simp [hb])) (SkM_F (up2_ne _ _ _ (by decide)) (up2_ne _ _ _ (by decide)) (by rw [up2_r, if_neg (by decide)]) hS1) (aH_b hz1 rfl) (aF_tr hF1 (aF_b _ _))
    | false =>
      have hz2 : τ 0 23 = 0 := by rw [hz.2, hb]; rfl
      refine G.aload_n (k := 0) rfl dX7_asks_11 ?_
      refine G.geti (j := 18) rfl gci_X7 (by decide) rfl fl_X7_236 dX7_asks_12 ?_
      rw [hS4]
      refine G.if_le (tgt := 270) (by decide) dX7_asks_15 (fun c_15 => absurd c_15 (nI_nle (by omega) (by omega))) (fun c_15 => ?_)
      refine G.aload_n (k := 0) rfl dX7_asks_18 ?_
      refine G.dupr dX7_asks_19 ?_
      refine G.geti (j := 18) rfl gci_X7 (by decide) rfl fl_X7_236 dX7_asks_20 ?_
      rw [hS4]
      refine G.iconst (v := 1) (by decide) dX7_asks_23 ?_
      refine G.isub dX7_asks_24 ?_
      rw [nI_pred]
      refine G.put (j := 18) rfl gci_X7 gcp_X7 (by decide) rfl rfl rfl rfl fl_X7_236 dX7_asks_25 ?_
      generalize hτ1 : up2 τ 0 18 (nI s.length) = τ1
      have r1 : ∀ k, k ≠ 0 → τ1 k = τ k := fun k hk => by rw [← hτ1]; exact up2_ne _ _ _ hk
      have r2 : ∀ i, i ≠ 18 → τ1 0 i = τ 0 i := fun i hi => by rw [← hτ1, up2_r]; exact if_neg (fun z => hi z.2)
      have r4 : τ1 0 18 = nI s.length := by rw [← hτ1]; exact up2_at _ _ _ _
      have hF1 : aF σ0 τ1 := aF_tr hF ⟨fun k a _ _ _ _ => r1 k a, fun i h _ => r2 i h⟩
      have hS1 : SkM τ1 B s := ⟨StM_congr s (fun i _ => by rw [r1 14 (by decide), r1 15 (by decide)]; exact ⟨rfl, rfl⟩) hS.1.2.2, r4⟩
      have hz1 : aH τ1 z := ⟨fun u hu => by rw [r1 19 (by decide)]; exact hz.1 u hu, by rw [r2 23 (by decide)]; exact hz.2⟩
      have hN1 : ∀ g, nd B ln g → PrM τ1 B g := fun g hg => aF_P hF1 (hN g hg)
      have hPr := hN1 g hn
      refine G.aload_n (k := 0) rfl dX7_asks_28 ?_
      refine G.getr (j := 16) rfl gci_X7 (by decide) rfl fl_X7_49 dX7_asks_29 ?_
      refine G.aload_n (k := 0) rfl dX7_asks_32 ?_
      refine G.geti (j := 18) rfl gci_X7 (by decide) rfl fl_X7_236 dX7_asks_33 ?_
      rw [r4]
      refine G.ialdN (k := s.length) rfl (rfl) (by omega) (by decide) dX7_asks_36 ?_
      rw [r1 14 (by decide), hS.1.1]
      refine G.ist4 (by decide) rfl dX7_asks_37 ?_
      refine G.aload_n (k := 0) rfl dX7_asks_39 ?_
      refine G.getr (j := 17) rfl gci_X7 (by decide) rfl fl_X7_52 dX7_asks_40 ?_
      refine G.aload_n (k := 0) rfl dX7_asks_43 ?_
      refine G.geti (j := 18) rfl gci_X7 (by decide) rfl fl_X7_236 dX7_asks_44 ?_
      rw [r4]
      refine G.ialdN (k := s.length) rfl (rfl) (by omega) (by decide) dX7_asks_47 ?_
      rw [r1 15 (by decide), hS.1.2.1]
      refine G.ist5 (by decide) rfl dX7_asks_48 ?_
      refine G.aload_n (k := 0) rfl dX7_asks_50 ?_
      refine G.getr (j := 8) rfl gci_X7 (by decide) rfl fl_X7_31 dX7_asks_51 ?_
      refine G.iload (i := 4) rfl dX7_asks_54 ?_
      refine G.ialdN (k := pN B g) rfl (rfl) (hpl.2.2) (by decide) dX7_asks_56 ?_
      rw [show τ1 8 (pN B g) = 0 by rw [hPr.1, hc]; rfl]
      refine G.tableIn (tgt := 100) dX7_asks_57 (by decide) (by decide) rfl (by decide) ?_
      refine G.aload_n (k := 0) rfl dX7_asks_100 ?_
      refine G.aload_n (k := 0) rfl dX7_asks_101 ?_
      refine G.geti (j := 23) rfl gci_X7 (by decide) rfl fl_X7_249 dX7_asks_102 ?_
      rw [r2 23 (by decide), hz2]
      refine G.if_ne (tgt := 124) (by decide) dX7_asks_105 (fun c_105 => absurd rfl c_105) (fun c_105 => ?_)
      refine G.iload (i := 5) rfl dX7_asks_108 ?_
      refine G.aload_n (k := 0) rfl dX7_asks_110 ?_
      refine G.getr (j := 9) rfl gci_X7 (by decide) rfl fl_X7_34 dX7_asks_111 ?_
      refine G.iload (i := 4) rfl dX7_asks_114 ?_
      refine G.ialdN (k := pN B g) rfl (rfl) (hpl.2.2) (by decide) dX7_asks_116 ?_
      rw [hPr.2.1, show nmr B g = B g - 97 from if_pos hc]
      refine G.callSif (c_X7_image hP.1 (l97 hc)) ml_X7_123 ws_yX7_image gcl_X7_image (by decide) rfl rfl (Nat.le_of_ble_eq_true rfl) dX7_asks_117 ?_
      refine G.iload_n (k := 1) rfl dX7_asks_120 ?_
      refine G.icmp_ne (tgt := 128) (by decide) dX7_asks_121 (fun c_121 => ?_) (fun c_121 => ?_)
      · have hne : ¬ tn_src p n = B g - 97 := fun e => c_121 (congrArg nI ((im_src hP hn6 (l97 hc)).mpr e.symm))
        have hfin : AskP B g (tn_src p n) z (z.1, false) := AskP_1 hc (by rw [hb]; simp [hne])
        have hb2 : (0 : Int32) = if false = true then 1 else 0 := rfl
        refine G.iconst (v := 0) (by decide) dX7_asks_128 ?_
        refine G.put (j := 23) rfl gci_X7 gcp_X7 (by decide) rfl rfl (by decide) (by decide) fl_X7_249 dX7_asks_129 ?_
        refine G.goto (tgt := 267) (by decide) dX7_asks_132 ?_
        refine G.goto (tgt := 11) (by decide) dX7_asks_267 ?_
        exact K _ _ _ _ hfin (SkM_F (up2_ne _ _ _ (by decide)) (up2_ne _ _ _ (by decide)) (by rw [up2_r, if_neg (by decide)]) hS1) (aH_b hz1 hb2) (aF_tr hF1 (aF_b _ _))
      · have heq : tn_src p n = B g - 97 := ((im_src hP hn6 (l97 hc)).mp ((nI_eq (show tn_im p (B g - 97) < 2 ^ 31 by have := hP.2.1 _ (l97 hc); omega) (show n < 2 ^ 31 by omega)).mp c_121)).symm
        have hfin : AskP B g (tn_src p n) z (z.1, true) := AskP_1 hc (by simp [heq])
        have hb2 : (1 : Int32) = if true = true then 1 else 0 := rfl
        refine G.iconst (v := 1) (by decide) dX7_asks_124 ?_
        refine G.goto (tgt := 129) (by decide) dX7_asks_125 ?_
        refine G.put (j := 23) rfl gci_X7 gcp_X7 (by decide) rfl rfl (by decide) (by decide) fl_X7_249 dX7_asks_129 ?_
        refine G.goto (tgt := 267) (by decide) dX7_asks_132 ?_
        refine G.goto (tgt := 11) (by decide) dX7_asks_267 ?_
        exact K _ _ _ _ hfin (SkM_F (up2_ne _ _ _ (by decide)) (up2_ne _ _ _ (by decide)) (by rw [up2_r, if_neg (by decide)]) hS1) (aH_b hz1 hb2) (aF_tr hF1 (aF_b _ _))
  · refine G.aload_n (k := 0) rfl dX7_asks_11 ?_
    refine G.geti (j := 18) rfl gci_X7 (by decide) rfl fl_X7_236 dX7_asks_12 ?_
    rw [hS4]
    refine G.if_le (tgt := 270) (by decide) dX7_asks_15 (fun c_15 => absurd c_15 (nI_nle (by omega) (by omega))) (fun c_15 => ?_)
    refine G.aload_n (k := 0) rfl dX7_asks_18 ?_
    refine G.dupr dX7_asks_19 ?_
    refine G.geti (j := 18) rfl gci_X7 (by decide) rfl fl_X7_236 dX7_asks_20 ?_
    rw [hS4]
    refine G.iconst (v := 1) (by decide) dX7_asks_23 ?_
    refine G.isub dX7_asks_24 ?_
    rw [nI_pred]
    refine G.put (j := 18) rfl gci_X7 gcp_X7 (by decide) rfl rfl rfl rfl fl_X7_236 dX7_asks_25 ?_
    generalize hτ1 : up2 τ 0 18 (nI s.length) = τ1
    have r1 : ∀ k, k ≠ 0 → τ1 k = τ k := fun k hk => by rw [← hτ1]; exact up2_ne _ _ _ hk
    have r2 : ∀ i, i ≠ 18 → τ1 0 i = τ 0 i := fun i hi => by rw [← hτ1, up2_r]; exact if_neg (fun z => hi z.2)
    have r4 : τ1 0 18 = nI s.length := by rw [← hτ1]; exact up2_at _ _ _ _
    have hF1 : aF σ0 τ1 := aF_tr hF ⟨fun k a _ _ _ _ => r1 k a, fun i h _ => r2 i h⟩
    have hS1 : SkM τ1 B s := ⟨StM_congr s (fun i _ => by rw [r1 14 (by decide), r1 15 (by decide)]; exact ⟨rfl, rfl⟩) hS.1.2.2, r4⟩
    have hz1 : aH τ1 z := ⟨fun u hu => by rw [r1 19 (by decide)]; exact hz.1 u hu, by rw [r2 23 (by decide)]; exact hz.2⟩
    have hN1 : ∀ g, nd B ln g → PrM τ1 B g := fun g hg => aF_P hF1 (hN g hg)
    have hPr := hN1 g hn
    refine G.aload_n (k := 0) rfl dX7_asks_28 ?_
    refine G.getr (j := 16) rfl gci_X7 (by decide) rfl fl_X7_49 dX7_asks_29 ?_
    refine G.aload_n (k := 0) rfl dX7_asks_32 ?_
    refine G.geti (j := 18) rfl gci_X7 (by decide) rfl fl_X7_236 dX7_asks_33 ?_
    rw [r4]
    refine G.ialdN (k := s.length) rfl (rfl) (by omega) (by decide) dX7_asks_36 ?_
    rw [r1 14 (by decide), hS.1.1]
    refine G.ist4 (by decide) rfl dX7_asks_37 ?_
    refine G.aload_n (k := 0) rfl dX7_asks_39 ?_
    refine G.getr (j := 17) rfl gci_X7 (by decide) rfl fl_X7_52 dX7_asks_40 ?_
    refine G.aload_n (k := 0) rfl dX7_asks_43 ?_
    refine G.geti (j := 18) rfl gci_X7 (by decide) rfl fl_X7_236 dX7_asks_44 ?_
    rw [r4]
    refine G.ialdN (k := s.length) rfl (rfl) (by omega) (by decide) dX7_asks_47 ?_
    rw [r1 15 (by decide), hS.1.2.1]
    refine G.ist5 (by decide) rfl dX7_asks_48 ?_
    refine G.aload_n (k := 0) rfl dX7_asks_50 ?_
    refine G.getr (j := 8) rfl gci_X7 (by decide) rfl fl_X7_31 dX7_asks_51 ?_
    refine G.iload (i := 4) rfl dX7_asks_54 ?_
    refine G.ialdN (k := pN B g) rfl (rfl) (hpl.2.2) (by decide) dX7_asks_56 ?_
    rw [show τ1 8 (pN B g) = 1 by rw [hPr.1, hc]; rfl]
    refine G.tableIn (tgt := 135) dX7_asks_57 (by decide) (by decide) rfl (by decide) ?_
    refine G.aload_n (k := 0) rfl dX7_asks_135 ?_
    refine G.getr (j := 22) rfl gci_X7 (by decide) rfl fl_X7_64 dX7_asks_136 ?_
    refine G.aload_n (k := 0) rfl dX7_asks_139 ?_
    refine G.getr (j := 9) rfl gci_X7 (by decide) rfl fl_X7_34 dX7_asks_140 ?_
    refine G.iload (i := 4) rfl dX7_asks_143 ?_
    refine G.ialdN (k := pN B g) rfl (rfl) (hpl.2.2) (by decide) dX7_asks_145 ?_
    rw [hPr.2.1, show nmr B g = B g - 80 by rw [nmr, if_neg (by omega), if_pos hc]]
    refine G.dup2 dX7_asks_146 ?_
    refine G.ialdN (k := B g - 80) rfl (rfl) (l80 hc) (by decide) dX7_asks_147 ?_
    rw [hz1.1 _ (l80 hc)]
    refine G.iconst (v := 1) (by decide) dX7_asks_148 ?_
    refine G.iload (i := 5) rfl dX7_asks_149 ?_
    refine G.callSif (c_X7_turnedBack hP) ml_X7_182 ws_yX7_turnedBack gcl_X7_turnedBack (by decide) rfl rfl (Nat.le_of_ble_eq_true rfl) dX7_asks_151 ?_
    refine G.iload_n (k := 1) rfl dX7_asks_154 ?_
    refine G.callSif (c_X7_image (tn_enc_lt (fun _ _ => Nat.lt_of_lt_of_le (tn_src_lt (by assumption)) (by omega))) hn6) ml_X7_123 ws_yX7_image gcl_X7_image (by decide) rfl rfl (Nat.le_of_ble_eq_true rfl) dX7_asks_155 ?_
    rw [show tn_im (tn_enc fun x => tn_src p x) n = tn_src p n from tn_im_bk hn6]
    refine G.ishl dX7_asks_158 ?_
    rw [(sh1_u _ (tn_src_lt hn6)).1]
    refine G.ior dX7_asks_159 ?_
    rw [nu_or]
    refine G.iastN (k := B g - 80) rfl (rfl) (l80 hc) (by decide) dX7_asks_160 ?_
    refine G.goto (tgt := 267) (by decide) dX7_asks_161 ?_
    refine G.goto (tgt := 11) (by decide) dX7_asks_267 ?_
    exact K _ _ _ _ (AskP_2 hc) (SkM_F (up2_ne _ _ _ (by decide)) (up2_ne _ _ _ (by decide)) (by rw [up2_ne _ _ _ (by decide)]) hS1) (aH_u hz1) (aF_tr hF1 (aF_u _ _ _))
  · refine G.aload_n (k := 0) rfl dX7_asks_11 ?_
    refine G.geti (j := 18) rfl gci_X7 (by decide) rfl fl_X7_236 dX7_asks_12 ?_
    rw [hS4]
    refine G.if_le (tgt := 270) (by decide) dX7_asks_15 (fun c_15 => absurd c_15 (nI_nle (by omega) (by omega))) (fun c_15 => ?_)
    refine G.aload_n (k := 0) rfl dX7_asks_18 ?_
    refine G.dupr dX7_asks_19 ?_
    refine G.geti (j := 18) rfl gci_X7 (by decide) rfl fl_X7_236 dX7_asks_20 ?_
    rw [hS4]
    refine G.iconst (v := 1) (by decide) dX7_asks_23 ?_
    refine G.isub dX7_asks_24 ?_
    rw [nI_pred]
    refine G.put (j := 18) rfl gci_X7 gcp_X7 (by decide) rfl rfl rfl rfl fl_X7_236 dX7_asks_25 ?_
    generalize hτ1 : up2 τ 0 18 (nI s.length) = τ1
    have r1 : ∀ k, k ≠ 0 → τ1 k = τ k := fun k hk => by rw [← hτ1]; exact up2_ne _ _ _ hk
    have r2 : ∀ i, i ≠ 18 → τ1 0 i = τ 0 i := fun i hi => by rw [← hτ1, up2_r]; exact if_neg (fun z => hi z.2)
    have r4 : τ1 0 18 = nI s.length := by rw [← hτ1]; exact up2_at _ _ _ _
    have hF1 : aF σ0 τ1 := aF_tr hF ⟨fun k a _ _ _ _ => r1 k a, fun i h _ => r2 i h⟩
    have hS1 : SkM τ1 B s := ⟨StM_congr s (fun i _ => by rw [r1 14 (by decide), r1 15 (by decide)]; exact ⟨rfl, rfl⟩) hS.1.2.2, r4⟩
    have hz1 : aH τ1 z := ⟨fun u hu => by rw [r1 19 (by decide)]; exact hz.1 u hu, by rw [r2 23 (by decide)]; exact hz.2⟩
    have hN1 : ∀ g, nd B ln g → PrM τ1 B g := fun g hg => aF_P hF1 (hN g hg)
    have hPr := hN1 g hn
    refine G.aload_n (k := 0) rfl dX7_asks_28 ?_
    refine G.getr (j := 16) rfl gci_X7 (by decide) rfl fl_X7_49 dX7_asks_29 ?_
    refine G.aload_n (k := 0) rfl dX7_asks_32 ?_
    refine G.geti (j := 18) rfl gci_X7 (by decide) rfl fl_X7_236 dX7_asks_33 ?_
    rw [r4]
    refine G.ialdN (k := s.length) rfl (rfl) (by omega) (by decide) dX7_asks_36 ?_
    rw [r1 14 (by decide), hS.1.1]
    refine G.ist4 (by decide) rfl dX7_asks_37 ?_
    refine G.aload_n (k := 0) rfl dX7_asks_39 ?_
    refine G.getr (j := 17) rfl gci_X7 (by decide) rfl fl_X7_52 dX7_asks_40 ?_
    refine G.aload_n (k := 0) rfl dX7_asks_43 ?_
    refine G.geti (j := 18) rfl gci_X7 (by decide) rfl fl_X7_236 dX7_asks_44 ?_
    rw [r4]
    refine G.ialdN (k := s.length) rfl (rfl) (by omega) (by decide) dX7_asks_47 ?_
    rw [r1 15 (by decide), hS.1.2.1]
    refine G.ist5 (by decide) rfl dX7_asks_48 ?_
    refine G.aload_n (k := 0) rfl dX7_asks_50 ?_
    refine G.getr (j := 8) rfl gci_X7 (by decide) rfl fl_X7_31 dX7_asks_51 ?_
    refine G.iload (i := 4) rfl dX7_asks_54 ?_
    refine G.ialdN (k := pN B g) rfl (rfl) (hpl.2.2) (by decide) dX7_asks_56 ?_
    rw [show τ1 8 (pN B g) = 2 by rw [hPr.1, hc]; rfl]
    refine G.tableIn (tgt := 267) dX7_asks_57 (by decide) (by decide) rfl (by decide) ?_
    refine G.goto (tgt := 11) (by decide) dX7_asks_267 ?_
    exact K _ _ _ _ (AskP_3 hc) hS1 hz1 hF1
  · obtain ⟨n1, n2, n3⟩ := nd_4 hn hc
    have p1 := pN_45 hn n1 n3
    refine G.aload_n (k := 0) rfl dX7_asks_11 ?_
    refine G.geti (j := 18) rfl gci_X7 (by decide) rfl fl_X7_236 dX7_asks_12 ?_
    rw [hS4]
    refine G.if_le (tgt := 270) (by decide) dX7_asks_15 (fun c_15 => absurd c_15 (nI_nle (by omega) (by omega))) (fun c_15 => ?_)
    refine G.aload_n (k := 0) rfl dX7_asks_18 ?_
    refine G.dupr dX7_asks_19 ?_
    refine G.geti (j := 18) rfl gci_X7 (by decide) rfl fl_X7_236 dX7_asks_20 ?_
    rw [hS4]
    refine G.iconst (v := 1) (by decide) dX7_asks_23 ?_
    refine G.isub dX7_asks_24 ?_
    rw [nI_pred]
    refine G.put (j := 18) rfl gci_X7 gcp_X7 (by decide) rfl rfl rfl rfl fl_X7_236 dX7_asks_25 ?_
    generalize hτ1 : up2 τ 0 18 (nI s.length) = τ1
    have r1 : ∀ k, k ≠ 0 → τ1 k = τ k := fun k hk => by rw [← hτ1]; exact up2_ne _ _ _ hk
    have r2 : ∀ i, i ≠ 18 → τ1 0 i = τ 0 i := fun i hi => by rw [← hτ1, up2_r]; exact if_neg (fun z => hi z.2)
    have r4 : τ1 0 18 = nI s.length := by rw [← hτ1]; exact up2_at _ _ _ _
    have hF1 : aF σ0 τ1 := aF_tr hF ⟨fun k a _ _ _ _ => r1 k a, fun i h _ => r2 i h⟩
    have hS1 : SkM τ1 B s := ⟨StM_congr s (fun i _ => by rw [r1 14 (by decide), r1 15 (by decide)]; exact ⟨rfl, rfl⟩) hS.1.2.2, r4⟩
    have hz1 : aH τ1 z := ⟨fun u hu => by rw [r1 19 (by decide)]; exact hz.1 u hu, by rw [r2 23 (by decide)]; exact hz.2⟩
    have hN1 : ∀ g, nd B ln g → PrM τ1 B g := fun g hg => aF_P hF1 (hN g hg)
    have hPr := hN1 g hn
    refine G.aload_n (k := 0) rfl dX7_asks_28 ?_
    refine G.getr (j := 16) rfl gci_X7 (by decide) rfl fl_X7_49 dX7_asks_29 ?_
    refine G.aload_n (k := 0) rfl dX7_asks_32 ?_
    refine G.geti (j := 18) rfl gci_X7 (by decide) rfl fl_X7_236 dX7_asks_33 ?_
    rw [r4]
    refine G.ialdN (k := s.length) rfl (rfl) (by omega) (by decide) dX7_asks_36 ?_
    rw [r1 14 (by decide), hS.1.1]
    refine G.ist4 (by decide) rfl dX7_asks_37 ?_
    refine G.aload_n (k := 0) rfl dX7_asks_39 ?_
    refine G.getr (j := 17) rfl gci_X7 (by decide) rfl fl_X7_52 dX7_asks_40 ?_
    refine G.aload_n (k := 0) rfl dX7_asks_43 ?_
    refine G.geti (j := 18) rfl gci_X7 (by decide) rfl fl_X7_236 dX7_asks_44 ?_
    rw [r4]
    refine G.ialdN (k := s.length) rfl (rfl) (by omega) (by decide) dX7_asks_47 ?_
    rw [r1 15 (by decide), hS.1.2.1]
    refine G.ist5 (by decide) rfl dX7_asks_48 ?_
    refine G.aload_n (k := 0) rfl dX7_asks_50 ?_
    refine G.getr (j := 8) rfl gci_X7 (by decide) rfl fl_X7_31 dX7_asks_51 ?_
    refine G.iload (i := 4) rfl dX7_asks_54 ?_
    refine G.ialdN (k := pN B g) rfl (rfl) (hpl.2.2) (by decide) dX7_asks_56 ?_
    rw [show τ1 8 (pN B g) = 3 by rw [hPr.1, hc]; rfl]
    refine G.tableIn (tgt := 164) dX7_asks_57 (by decide) (by decide) rfl (by decide) ?_
    refine G.aload_n (k := 0) rfl dX7_asks_164 ?_
    refine G.iload (i := 4) rfl dX7_asks_165 ?_
    refine G.iconst (v := 1) (by decide) dX7_asks_167 ?_
    refine G.iadd dX7_asks_168 ?_
    rw [nI_1, ← p1]
    refine G.iload (i := 5) rfl dX7_asks_169 ?_
    refine G.callVvf (c_X7_puts (n := s.length) r4 (by omega)) rfl (gci_X7).1 ml_X7_239 im_yX7_puts se_yX7_puts gcl_X7_puts (by decide) rfl rfl (Nat.le_of_ble_eq_true rfl) dX7_asks_171 ?_
    have S2 := pu_S (g + 1, p) hS1.1
    refine G.goto (tgt := 267) (by decide) dX7_asks_174 ?_
    refine G.goto (tgt := 11) (by decide) dX7_asks_267 ?_
    exact ih _ n1 (by omega) n3 p s z _ _ _ hP (by omega) S2 (pu_a hz1) (aF_tr hF1 (pu_aF _ _ _ _)) (fun τ2 z2 a b q1 q2 q3 q4 => K _ _ _ _ (AskP_4 hc q1) q2 q3 q4)
  · obtain ⟨n1, n2, n3, n4, n5⟩ := nd_5 hn hc
    have p1 := pN_45 hn n1 n4
    have q1 := pN_lt n1
    have e1 := nd_E n1
    refine G.aload_n (k := 0) rfl dX7_asks_11 ?_
    refine G.geti (j := 18) rfl gci_X7 (by decide) rfl fl_X7_236 dX7_asks_12 ?_
    rw [hS4]
    refine G.if_le (tgt := 270) (by decide) dX7_asks_15 (fun c_15 => absurd c_15 (nI_nle (by omega) (by omega))) (fun c_15 => ?_)
    refine G.aload_n (k := 0) rfl dX7_asks_18 ?_
    refine G.dupr dX7_asks_19 ?_
    refine G.geti (j := 18) rfl gci_X7 (by decide) rfl fl_X7_236 dX7_asks_20 ?_
    rw [hS4]
    refine G.iconst (v := 1) (by decide) dX7_asks_23 ?_
    refine G.isub dX7_asks_24 ?_
    rw [nI_pred]
    refine G.put (j := 18) rfl gci_X7 gcp_X7 (by decide) rfl rfl rfl rfl fl_X7_236 dX7_asks_25 ?_
    generalize hτ1 : up2 τ 0 18 (nI s.length) = τ1
    have r1 : ∀ k, k ≠ 0 → τ1 k = τ k := fun k hk => by rw [← hτ1]; exact up2_ne _ _ _ hk
    have r2 : ∀ i, i ≠ 18 → τ1 0 i = τ 0 i := fun i hi => by rw [← hτ1, up2_r]; exact if_neg (fun z => hi z.2)
    have r4 : τ1 0 18 = nI s.length := by rw [← hτ1]; exact up2_at _ _ _ _
    have hF1 : aF σ0 τ1 := aF_tr hF ⟨fun k a _ _ _ _ => r1 k a, fun i h _ => r2 i h⟩
    have hS1 : SkM τ1 B s := ⟨StM_congr s (fun i _ => by rw [r1 14 (by decide), r1 15 (by decide)]; exact ⟨rfl, rfl⟩) hS.1.2.2, r4⟩
    have hz1 : aH τ1 z := ⟨fun u hu => by rw [r1 19 (by decide)]; exact hz.1 u hu, by rw [r2 23 (by decide)]; exact hz.2⟩
    have hN1 : ∀ g, nd B ln g → PrM τ1 B g := fun g hg => aF_P hF1 (hN g hg)
    have hPr := hN1 g hn
    refine G.aload_n (k := 0) rfl dX7_asks_28 ?_
    refine G.getr (j := 16) rfl gci_X7 (by decide) rfl fl_X7_49 dX7_asks_29 ?_
    refine G.aload_n (k := 0) rfl dX7_asks_32 ?_
    refine G.geti (j := 18) rfl gci_X7 (by decide) rfl fl_X7_236 dX7_asks_33 ?_
    rw [r4]
    refine G.ialdN (k := s.length) rfl (rfl) (by omega) (by decide) dX7_asks_36 ?_
    rw [r1 14 (by decide), hS.1.1]
    refine G.ist4 (by decide) rfl dX7_asks_37 ?_
    refine G.aload_n (k := 0) rfl dX7_asks_39 ?_
    refine G.getr (j := 17) rfl gci_X7 (by decide) rfl fl_X7_52 dX7_asks_40 ?_
    refine G.aload_n (k := 0) rfl dX7_asks_43 ?_
    refine G.geti (j := 18) rfl gci_X7 (by decide) rfl fl_X7_236 dX7_asks_44 ?_
    rw [r4]
    refine G.ialdN (k := s.length) rfl (rfl) (by omega) (by decide) dX7_asks_47 ?_
    rw [r1 15 (by decide), hS.1.2.1]
    refine G.ist5 (by decide) rfl dX7_asks_48 ?_
    refine G.aload_n (k := 0) rfl dX7_asks_50 ?_
    refine G.getr (j := 8) rfl gci_X7 (by decide) rfl fl_X7_31 dX7_asks_51 ?_
    refine G.iload (i := 4) rfl dX7_asks_54 ?_
    refine G.ialdN (k := pN B g) rfl (rfl) (hpl.2.2) (by decide) dX7_asks_56 ?_
    rw [show τ1 8 (pN B g) = 4 by rw [hPr.1, hc]; rfl]
    refine G.tableIn (tgt := 177) dX7_asks_57 (by decide) (by decide) rfl (by decide) ?_
    refine G.aload_n (k := 0) rfl dX7_asks_177 ?_
    refine G.iload (i := 4) rfl dX7_asks_178 ?_
    refine G.iconst (v := 1) (by decide) dX7_asks_180 ?_
    refine G.iadd dX7_asks_181 ?_
    rw [nI_1, ← p1]
    refine G.iload (i := 5) rfl dX7_asks_182 ?_
    refine G.callVvf (c_X7_puts (n := s.length) r4 (by omega)) rfl (gci_X7).1 ml_X7_239 im_yX7_puts se_yX7_puts gcl_X7_puts (by decide) rfl rfl (Nat.le_of_ble_eq_true rfl) dX7_asks_184 ?_
    have S2 := pu_S (g + 1, p) hS1.1
    have hE : σ0 11 (pN B (g + 1)) = nI (pN B (tE B (g + 1))) := by
      rw [(hN _ n1).2.2.2]
      refine congrArg nI ?_
      rw [n4]; exact pt_in n5
    refine G.aload_n (k := 0) rfl dX7_asks_187 ?_
    refine G.aload_n (k := 0) rfl dX7_asks_188 ?_
    refine G.getr (j := 11) rfl gci_X7 (by decide) rfl fl_X7_40 dX7_asks_189 ?_
    refine G.iload (i := 4) rfl dX7_asks_192 ?_
    refine G.iconst (v := 1) (by decide) dX7_asks_194 ?_
    refine G.iadd dX7_asks_195 ?_
    rw [nI_1, ← p1]
    refine G.ialdN (k := pN B (g + 1)) rfl (rfl) (q1.2.2) (by decide) dX7_asks_196 ?_
    rw [(aF_tr hF1 (pu_aF _ _ _ _)).1 11 (by decide) (by decide) (by decide) (by decide) (by decide), hE]
    refine G.iload (i := 5) rfl dX7_asks_197 ?_
    refine G.callVvf (c_X7_puts (n := s.length + 1) S2.2 (by omega)) rfl (gci_X7).1 ml_X7_239 im_yX7_puts se_yX7_puts gcl_X7_puts (by decide) rfl rfl (Nat.le_of_ble_eq_true rfl) dX7_asks_199 ?_
    have S3 := pu_S (tE B (g + 1), p) S2.1
    refine G.goto (tgt := 267) (by decide) dX7_asks_202 ?_
    refine G.goto (tgt := 11) (by decide) dX7_asks_267 ?_
    refine ih _ n2 (by omega) n5 p ((g + 1, p) :: s) z _ _ _ hP (by simp; omega) S3 (pu_a (pu_a hz1)) (aF_tr hF1 (aF_tr (pu_aF _ _ _ _) (pu_aF _ _ _ _))) (fun τ2 z2 a b q1 q2 q3 q4 => ?_)
    exact ih _ n1 (by omega) n4 p s z2 _ _ _ hP (by omega) q2 q3 q4 (fun τ3 z3 a b w1 w2 w3 w4 => K _ _ _ _ (AskP_tr hc q1 w1) w2 w3 w4)
  · obtain ⟨k1, n1, n2, n3⟩ := nd_6 hn hc
    have p1 := pN_6 hn hc
    refine G.aload_n (k := 0) rfl dX7_asks_11 ?_
    refine G.geti (j := 18) rfl gci_X7 (by decide) rfl fl_X7_236 dX7_asks_12 ?_
    rw [hS4]
    refine G.if_le (tgt := 270) (by decide) dX7_asks_15 (fun c_15 => absurd c_15 (nI_nle (by omega) (by omega))) (fun c_15 => ?_)
    refine G.aload_n (k := 0) rfl dX7_asks_18 ?_
    refine G.dupr dX7_asks_19 ?_
    refine G.geti (j := 18) rfl gci_X7 (by decide) rfl fl_X7_236 dX7_asks_20 ?_
    rw [hS4]
    refine G.iconst (v := 1) (by decide) dX7_asks_23 ?_
    refine G.isub dX7_asks_24 ?_
    rw [nI_pred]
    refine G.put (j := 18) rfl gci_X7 gcp_X7 (by decide) rfl rfl rfl rfl fl_X7_236 dX7_asks_25 ?_
    generalize hτ1 : up2 τ 0 18 (nI s.length) = τ1
    have r1 : ∀ k, k ≠ 0 → τ1 k = τ k := fun k hk => by rw [← hτ1]; exact up2_ne _ _ _ hk
    have r2 : ∀ i, i ≠ 18 → τ1 0 i = τ 0 i := fun i hi => by rw [← hτ1, up2_r]; exact if_neg (fun z => hi z.2)
    have r4 : τ1 0 18 = nI s.length := by rw [← hτ1]; exact up2_at _ _ _ _
    have hF1 : aF σ0 τ1 := aF_tr hF ⟨fun k a _ _ _ _ => r1 k a, fun i h _ => r2 i h⟩
    have hS1 : SkM τ1 B s := ⟨StM_congr s (fun i _ => by rw [r1 14 (by decide), r1 15 (by decide)]; exact ⟨rfl, rfl⟩) hS.1.2.2, r4⟩
    have hz1 : aH τ1 z := ⟨fun u hu => by rw [r1 19 (by decide)]; exact hz.1 u hu, by rw [r2 23 (by decide)]; exact hz.2⟩
    have hN1 : ∀ g, nd B ln g → PrM τ1 B g := fun g hg => aF_P hF1 (hN g hg)
    have hPr := hN1 g hn
    refine G.aload_n (k := 0) rfl dX7_asks_28 ?_
    refine G.getr (j := 16) rfl gci_X7 (by decide) rfl fl_X7_49 dX7_asks_29 ?_
    refine G.aload_n (k := 0) rfl dX7_asks_32 ?_
    refine G.geti (j := 18) rfl gci_X7 (by decide) rfl fl_X7_236 dX7_asks_33 ?_
    rw [r4]
    refine G.ialdN (k := s.length) rfl (rfl) (by omega) (by decide) dX7_asks_36 ?_
    rw [r1 14 (by decide), hS.1.1]
    refine G.ist4 (by decide) rfl dX7_asks_37 ?_
    refine G.aload_n (k := 0) rfl dX7_asks_39 ?_
    refine G.getr (j := 17) rfl gci_X7 (by decide) rfl fl_X7_52 dX7_asks_40 ?_
    refine G.aload_n (k := 0) rfl dX7_asks_43 ?_
    refine G.geti (j := 18) rfl gci_X7 (by decide) rfl fl_X7_236 dX7_asks_44 ?_
    rw [r4]
    refine G.ialdN (k := s.length) rfl (rfl) (by omega) (by decide) dX7_asks_47 ?_
    rw [r1 15 (by decide), hS.1.2.1]
    refine G.ist5 (by decide) rfl dX7_asks_48 ?_
    refine G.aload_n (k := 0) rfl dX7_asks_50 ?_
    refine G.getr (j := 8) rfl gci_X7 (by decide) rfl fl_X7_31 dX7_asks_51 ?_
    refine G.iload (i := 4) rfl dX7_asks_54 ?_
    refine G.ialdN (k := pN B g) rfl (rfl) (hpl.2.2) (by decide) dX7_asks_56 ?_
    rw [show τ1 8 (pN B g) = 5 by rw [hPr.1, hc]; rfl]
    refine G.tableIn (tgt := 205) dX7_asks_57 (by decide) (by decide) rfl (by decide) ?_
    refine G.iload (i := 5) rfl dX7_asks_205 ?_
    refine G.aload_n (k := 0) rfl dX7_asks_207 ?_
    refine G.getr (j := 9) rfl gci_X7 (by decide) rfl fl_X7_34 dX7_asks_208 ?_
    refine G.iload (i := 4) rfl dX7_asks_211 ?_
    refine G.ialdN (k := pN B g) rfl (rfl) (hpl.2.2) (by decide) dX7_asks_213 ?_
    rw [hPr.2.1, nmr_67 (Or.inl hc)]
    refine G.callSif (c_X7_image hP.1 (l97 k1)) ml_X7_123 ws_yX7_image gcl_X7_image (by decide) rfl rfl (Nat.le_of_ble_eq_true rfl) dX7_asks_214 ?_
    refine G.iload_n (k := 1) rfl dX7_asks_217 ?_
    refine G.icmp_eq (tgt := 267) (by decide) dX7_asks_218 (fun c_218 => ?_) (fun c_218 => ?_)
    · have heq : tn_src p n = B (g + 1) - 97 := ((im_src hP hn6 (l97 k1)).mp ((nI_eq (show tn_im p (B (g + 1) - 97) < 2 ^ 31 by have := hP.2.1 _ (l97 k1); omega) (show n < 2 ^ 31 by omega)).mp c_218)).symm
      refine G.goto (tgt := 11) (by decide) dX7_asks_267 ?_
      first
      | exact K _ _ _ _ (AskP_6n hc heq) hS1 hz1 hF1
      | exact ih _ n1 (by omega) n3 p s z _ _ _ hP (by omega) S2 (pu_a hz1) (aF_tr hF1 (pu_aF _ _ _ _)) (fun τ2 z2 a b q1 q2 q3 q4 => K _ _ _ _ (AskP_6 hc hne q1) q2 q3 q4)
    · have hne : ¬ tn_src p n = B (g + 1) - 97 := fun e => c_218 (congrArg nI ((im_src hP hn6 (l97 k1)).mpr e.symm))
      refine G.aload_n (k := 0) rfl dX7_asks_221 ?_
      refine G.iload (i := 4) rfl dX7_asks_222 ?_
      refine G.iconst (v := 1) (by decide) dX7_asks_224 ?_
      refine G.iadd dX7_asks_225 ?_
      rw [nI_1, ← p1]
      refine G.iload (i := 5) rfl dX7_asks_226 ?_
      refine G.callVvf (c_X7_puts (n := s.length) r4 (by omega)) rfl (gci_X7).1 ml_X7_239 im_yX7_puts se_yX7_puts gcl_X7_puts (by decide) rfl rfl (Nat.le_of_ble_eq_true rfl) dX7_asks_228 ?_
      have S2 := pu_S (g + 2, p) hS1.1
      refine G.goto (tgt := 267) (by decide) dX7_asks_231 ?_
      refine G.goto (tgt := 11) (by decide) dX7_asks_267 ?_
      first
      | exact K _ _ _ _ (AskP_6n hc heq) hS1 hz1 hF1
      | exact ih _ n1 (by omega) n3 p s z _ _ _ hP (by omega) S2 (pu_a hz1) (aF_tr hF1 (pu_aF _ _ _ _)) (fun τ2 z2 a b q1 q2 q3 q4 => K _ _ _ _ (AskP_6 hc hne q1) q2 q3 q4)
  · obtain ⟨k1, k2, n1, n2, n3⟩ := nd_7 hn hc
    have p1 := pN_7 hn hc
    refine G.aload_n (k := 0) rfl dX7_asks_11 ?_
    refine G.geti (j := 18) rfl gci_X7 (by decide) rfl fl_X7_236 dX7_asks_12 ?_
    rw [hS4]
    refine G.if_le (tgt := 270) (by decide) dX7_asks_15 (fun c_15 => absurd c_15 (nI_nle (by omega) (by omega))) (fun c_15 => ?_)
    refine G.aload_n (k := 0) rfl dX7_asks_18 ?_
    refine G.dupr dX7_asks_19 ?_
    refine G.geti (j := 18) rfl gci_X7 (by decide) rfl fl_X7_236 dX7_asks_20 ?_
    rw [hS4]
    refine G.iconst (v := 1) (by decide) dX7_asks_23 ?_
    refine G.isub dX7_asks_24 ?_
    rw [nI_pred]
    refine G.put (j := 18) rfl gci_X7 gcp_X7 (by decide) rfl rfl rfl rfl fl_X7_236 dX7_asks_25 ?_
    generalize hτ1 : up2 τ 0 18 (nI s.length) = τ1
    have r1 : ∀ k, k ≠ 0 → τ1 k = τ k := fun k hk => by rw [← hτ1]; exact up2_ne _ _ _ hk
    have r2 : ∀ i, i ≠ 18 → τ1 0 i = τ 0 i := fun i hi => by rw [← hτ1, up2_r]; exact if_neg (fun z => hi z.2)
    have r4 : τ1 0 18 = nI s.length := by rw [← hτ1]; exact up2_at _ _ _ _
    have hF1 : aF σ0 τ1 := aF_tr hF ⟨fun k a _ _ _ _ => r1 k a, fun i h _ => r2 i h⟩
    have hS1 : SkM τ1 B s := ⟨StM_congr s (fun i _ => by rw [r1 14 (by decide), r1 15 (by decide)]; exact ⟨rfl, rfl⟩) hS.1.2.2, r4⟩
    have hz1 : aH τ1 z := ⟨fun u hu => by rw [r1 19 (by decide)]; exact hz.1 u hu, by rw [r2 23 (by decide)]; exact hz.2⟩
    have hN1 : ∀ g, nd B ln g → PrM τ1 B g := fun g hg => aF_P hF1 (hN g hg)
    have hPr := hN1 g hn
    refine G.aload_n (k := 0) rfl dX7_asks_28 ?_
    refine G.getr (j := 16) rfl gci_X7 (by decide) rfl fl_X7_49 dX7_asks_29 ?_
    refine G.aload_n (k := 0) rfl dX7_asks_32 ?_
    refine G.geti (j := 18) rfl gci_X7 (by decide) rfl fl_X7_236 dX7_asks_33 ?_
    rw [r4]
    refine G.ialdN (k := s.length) rfl (rfl) (by omega) (by decide) dX7_asks_36 ?_
    rw [r1 14 (by decide), hS.1.1]
    refine G.ist4 (by decide) rfl dX7_asks_37 ?_
    refine G.aload_n (k := 0) rfl dX7_asks_39 ?_
    refine G.getr (j := 17) rfl gci_X7 (by decide) rfl fl_X7_52 dX7_asks_40 ?_
    refine G.aload_n (k := 0) rfl dX7_asks_43 ?_
    refine G.geti (j := 18) rfl gci_X7 (by decide) rfl fl_X7_236 dX7_asks_44 ?_
    rw [r4]
    refine G.ialdN (k := s.length) rfl (rfl) (by omega) (by decide) dX7_asks_47 ?_
    rw [r1 15 (by decide), hS.1.2.1]
    refine G.ist5 (by decide) rfl dX7_asks_48 ?_
    refine G.aload_n (k := 0) rfl dX7_asks_50 ?_
    refine G.getr (j := 8) rfl gci_X7 (by decide) rfl fl_X7_31 dX7_asks_51 ?_
    refine G.iload (i := 4) rfl dX7_asks_54 ?_
    refine G.ialdN (k := pN B g) rfl (rfl) (hpl.2.2) (by decide) dX7_asks_56 ?_
    rw [show τ1 8 (pN B g) = 6 by rw [hPr.1, hc]; rfl]
    refine G.tableIn (tgt := 234) dX7_asks_57 (by decide) (by decide) rfl (by decide) ?_
    refine G.aload_n (k := 0) rfl dX7_asks_234 ?_
    refine G.iload (i := 4) rfl dX7_asks_235 ?_
    refine G.iconst (v := 1) (by decide) dX7_asks_237 ?_
    refine G.iadd dX7_asks_238 ?_
    rw [nI_1, ← p1]
    refine G.iload (i := 5) rfl dX7_asks_239 ?_
    refine G.aload_n (k := 0) rfl dX7_asks_241 ?_
    refine G.getr (j := 9) rfl gci_X7 (by decide) rfl fl_X7_34 dX7_asks_242 ?_
    refine G.iload (i := 4) rfl dX7_asks_245 ?_
    refine G.ialdN (k := pN B g) rfl (rfl) (hpl.2.2) (by decide) dX7_asks_247 ?_
    rw [hPr.2.1, nmr_67 (Or.inr hc)]
    refine G.aload_n (k := 0) rfl dX7_asks_248 ?_
    refine G.getr (j := 10) rfl gci_X7 (by decide) rfl fl_X7_37 dX7_asks_249 ?_
    refine G.iload (i := 4) rfl dX7_asks_252 ?_
    refine G.ialdN (k := pN B g) rfl (rfl) (hpl.2.2) (by decide) dX7_asks_254 ?_
    rw [hPr.2.2.1 hc]
    refine G.callSif (c_X7_swap (l97 k1) (l97 k2)) ml_X7_158 ws_yX7_swap gcl_X7_swap (by decide) rfl rfl (Nat.le_of_ble_eq_true rfl) dX7_asks_255 ?_
    refine G.callSif (c_X7_behind hP (tn_P_sw (l97 k1) (l97 k2))) ml_X7_161 ws_yX7_behind gcl_X7_behind (by decide) rfl rfl (Nat.le_of_ble_eq_true rfl) dX7_asks_258 ?_
    refine G.callVvf (c_X7_puts (n := s.length) r4 (by omega)) rfl (gci_X7).1 ml_X7_239 im_yX7_puts se_yX7_puts gcl_X7_puts (by decide) rfl rfl (Nat.le_of_ble_eq_true rfl) dX7_asks_261 ?_
    have S2 := pu_S (g + 3, tn_cmp p (tn_sw (B (g + 1) - 97) (B (g + 2) - 97))) hS1.1
    refine G.goto (tgt := 267) (by decide) dX7_asks_264 ?_
    refine G.goto (tgt := 11) (by decide) dX7_asks_267 ?_
    exact ih _ n1 (by omega) n3 _ s z _ _ _ (tn_P_cmp hP (tn_P_sw (l97 k1) (l97 k2))) (by omega) S2 (pu_a hz1) (aF_tr hF1 (pu_aF _ _ _ _)) (fun τ2 z2 a b q1 q2 q3 q4 => K _ _ _ _ (AskP_7 hc (by rw [← src_cmp hP (l97 k1) (l97 k2) hn6]; exact q1)) q2 q3 q4)
set_option maxHeartbeats 4000000 in
set_option maxRecDepth 100000 in
theorem c_X7_asks {ln B : Nat → Nat} {n g p : Nat} {z : aZ} (hN : ∀ g, nd B ln g → PrM σ B g) (hn6 : n < 6) (hn : nd B ln g) (hP : tn_P p) (hz : aH σ z) : GM (XM l D cA ad) mX7_asks [.ref 0, .int (nI n), .int (nI (pN B g)), .int (nI p)] σ (g_rv (fun τ => ∃ z2, AskP B g (tn_src p n) z z2 ∧ aH τ z2 ∧ aF σ τ)) := by
  refine GM.of (ls := [some (.ref 0), some (.int (nI n)), some (.int (nI (pN B g))), some (.int (nI p)), none, none]) (by decide) (Nat.le_of_ble_eq_true rfl) rfl ?_
  refine G.aload_n (k := 0) rfl dX7_asks_0 ?_
  refine G.iconst (v := 0) (by decide) dX7_asks_1 ?_
  refine G.put (j := 18) rfl gci_X7 gcp_X7 (by decide) rfl rfl rfl rfl fl_X7_236 dX7_asks_2 ?_
  generalize hτ1 : up2 σ 0 18 0 = τ1
  have r4 : τ1 0 18 = nI 0 := by rw [← hτ1]; exact up2_at _ _ _ _
  have hF1 : aF σ τ1 := ⟨fun k a _ _ _ _ => by rw [← hτ1, up2_ne _ _ _ a], fun i h1 _ => by rw [← hτ1, up2_r, if_neg (fun z => h1 z.2)]⟩
  have hz1 : aH τ1 z := ⟨fun u hu => by rw [← hτ1, up2_ne _ _ _ (by decide)]; exact hz.1 u hu, by rw [← hτ1, up2_r, if_neg (by decide)]; exact hz.2⟩
  refine G.aload_n (k := 0) rfl dX7_asks_5 ?_
  refine G.iload_n (k := 2) rfl dX7_asks_6 ?_
  refine G.iload_n (k := 3) rfl dX7_asks_7 ?_
  refine G.callVvf (c_X7_puts (n := 0) r4 (by decide)) rfl (gci_X7).1 ml_X7_239 im_yX7_puts se_yX7_puts gcl_X7_puts (by decide) rfl rfl (Nat.le_of_ble_eq_true rfl) dX7_asks_8 ?_
  have S2 := pu_S (σ := τ1) (B := B) (s := []) (g, p) trivial
  refine w_X7_asks hN hn6 g hn p [] z _ none none hP (by simp; omega) S2 (pu_a hz1) (aF_tr hF1 (pu_aF _ _ _ _)) (fun τ2 z2 y4 y5 q1 q2 q3 q4 => ?_)
  have hS0 : τ2 0 18 = 0 := q2.2
  refine G.aload_n (k := 0) rfl dX7_asks_11 ?_
  refine G.geti (j := 18) rfl gci_X7 (by decide) rfl fl_X7_236 dX7_asks_12 ?_
  rw [hS0]
  refine G.if_le (tgt := 270) (by decide) dX7_asks_15 (fun c_15 => ?_) (fun c_15 => absurd (by decide) c_15)
  exact G.vret rfl (⟨z2, q1, q3, q4⟩) dX7_asks_270
set_option maxHeartbeats 4000000 in
set_option maxRecDepth 100000 in
theorem l_X7_freeIn {ln B : Nat → Nat} {t : Nat} (hN : ∀ g, nd B ln g → PrM σ0 B g) (ht : t < 8) (h30 : ln t ≤ 30) (h7 : σ0 7 t = nI (cst B (30 * t) (ln t))) (hw : wlA ln B t = true) : ∀ j n (σ : gS), n + j = 6 → aF σ0 σ → G (XM l D cA ad) mX7_freeIn (g_ri (fun r τ => r = (if wlA ln B t = true then nI (tlo B (30 * t)) else 0) ∧ aF σ0 τ)) 4 [some (.ref 0), some (.int (nI t)), some (.int (nI (ms_N (fun k => (tlo B (30 * t)).testBit k) n))), some (.int (nI n))] [] σ := by
  have c1 := cst_1 hw
  have hle0 := cst_le (B := B) (s := 30 * t) (ln t)
  obtain ⟨w1, w2, w3, w4, w5⟩ := wl_0 hw ht h30
  intro j
  induction j with
  | zero =>
    intro n σ hj hF
    have hn : n = 6 := by omega
    subst hn
    refine G.iload_n (k := 3) rfl dX7_freeIn_4 ?_
    refine G.bipush (v := 6) (by decide) dX7_freeIn_5 ?_
    refine G.icmp_ge (tgt := 58) (by decide) dX7_freeIn_7 (fun c_7 => ?_) (fun c_7 => absurd (by decide) c_7)
    refine G.iload_n (k := 2) rfl dX7_freeIn_58 ?_
    exact G.iret rfl (⟨by rw [if_pos hw]; exact congrArg nI (ms_tb (me_b _ w1).1), hF⟩) dX7_freeIn_59
  | succ j ih =>
    intro n σ hj hF
    have hlt := ms_N_lt (fun k => (tlo B (30 * t)).testBit k) n
    have h71 : σ 7 t = nI (cst B (30 * t) (ln t)) := by rw [hF.1 7 (by decide) (by decide) (by decide) (by decide) (by decide)]; exact h7
    have hN1 : ∀ g, nd B ln g → PrM (up2 σ 0 23 0) B g := fun g hg => aF_P (aF_tr hF (aF_b _ _)) (hN g hg)
    obtain ⟨z, hz, hz2⟩ := aH_z (up2 σ 0 23 0) false (up2_at _ _ _ _)
    refine G.iload_n (k := 3) rfl dX7_freeIn_4 ?_
    refine G.bipush (v := 6) (by decide) dX7_freeIn_5 ?_
    refine G.icmp_ge (tgt := 58) (by decide) dX7_freeIn_7 (fun c_7 => absurd c_7 (nI_ge (b := 6) (by omega) (by decide))) (fun c_7 => ?_)
    refine G.aload_n (k := 0) rfl dX7_freeIn_10 ?_
    refine G.getr (j := 7) rfl gci_X7 (by decide) rfl fl_X7_28 dX7_freeIn_11 ?_
    refine G.iload_n (k := 1) rfl dX7_freeIn_14 ?_
    refine G.ialdN (k := t) rfl (rfl) (by omega) (by decide) dX7_freeIn_15 ?_
    rw [h71]
    refine G.if_le (tgt := 58) (by decide) dX7_freeIn_16 (fun c_16 => absurd c_16 (nI_nle (by omega) (by omega))) (fun c_16 => ?_)
    refine G.aload_n (k := 0) rfl dX7_freeIn_19 ?_
    refine G.iconst (v := 0) (by decide) dX7_freeIn_20 ?_
    refine G.put (j := 23) rfl gci_X7 gcp_X7 (by decide) rfl rfl (by decide) (by decide) fl_X7_249 dX7_freeIn_21 ?_
    refine G.aload_n (k := 0) rfl dX7_freeIn_24 ?_
    refine G.iload_n (k := 3) rfl dX7_freeIn_25 ?_
    refine G.bipush (v := 30) (by decide) dX7_freeIn_26 ?_
    refine G.iload_n (k := 1) rfl dX7_freeIn_28 ?_
    refine G.imul dX7_freeIn_29 ?_
    rw [show (30 : Int32) * nI t = nI (pN B (30 * t)) by rw [w4]; exact nu_30' t]
    refine G.ldc ct_X7_154 dX7_freeIn_30 ?_
    refine G.callVv (c_X7_asks (n := n) (p := tn_id) hN1 (by omega) w1 tn_P_id hz) rfl (gci_X7).1 ml_X7_253 im_yX7_asks se_yX7_asks gcl_X7_asks (by decide) rfl rfl (Nat.le_of_ble_eq_true rfl) dX7_freeIn_32 (fun τ hq => ?_)
    obtain ⟨z2, q1, q2, q3⟩ := hq
    have hb : z2.2 = true ↔ (tlo B (30 * t)).testBit n = true := by rw [q1.1, hz2, src_id n (by omega), tlo_Rb _ w1 n (by omega)]; simp
    refine G.iload_n (k := 2) rfl dX7_freeIn_35 ?_
    refine G.aload_n (k := 0) rfl dX7_freeIn_36 ?_
    refine G.geti (j := 23) rfl gci_X7 (by decide) rfl fl_X7_249 dX7_freeIn_37 ?_
    rw [q2.2]
    refine G.if_eq (tgt := 49) (by decide) dX7_freeIn_40 (fun c_40 => ?_) (fun c_40 => ?_)
    · have hb2 : ¬ z2.2 = true := fun e => by rw [if_pos e] at c_40; exact absurd c_40 (by decide)
      have hs : nI (ms_N (fun k => (tlo B (30 * t)).testBit k) n) ||| 0 = nI (ms_N (fun k => (tlo B (30 * t)).testBit k) (n + 1)) := by
        show nI (ms_N (fun k => (tlo B (30 * t)).testBit k) n) ||| nI 0 = nI (ms_N (fun k => (tlo B (30 * t)).testBit k) n + (if (tlo B (30 * t)).testBit n = true then 2 ^ n else 0))
        rw [nu_or, Nat.or_zero, if_neg (fun e => hb2 (hb.mpr e)), Nat.add_zero]
      refine G.iconst (v := 0) (by decide) dX7_freeIn_49 ?_
      refine G.ior dX7_freeIn_50 ?_
      rw [hs]
      refine G.ist2 (by decide) rfl dX7_freeIn_51 ?_
      refine G.inc3 (d := 1) (by decide) (by decide) rfl dX7_freeIn_52 ?_
      refine G.goto (tgt := 4) (by decide) dX7_freeIn_55 ?_
      rw [nI_1]
      exact ih (n + 1) _ (by omega) (aF_tr hF (aF_tr (aF_b _ _) q3))
    · have hb2 : z2.2 = true := Decidable.byContradiction (fun e => by rw [if_neg e] at c_40; exact c_40 rfl)
      have hs : nI (ms_N (fun k => (tlo B (30 * t)).testBit k) n) ||| (1 : Int32) <<< (nI n &&& 31) = nI (ms_N (fun k => (tlo B (30 * t)).testBit k) (n + 1)) := by
        show nI (ms_N (fun k => (tlo B (30 * t)).testBit k) n) ||| nI 1 <<< (nI n &&& 31) = nI (ms_N (fun k => (tlo B (30 * t)).testBit k) n + (if (tlo B (30 * t)).testBit n = true then 2 ^ n else 0))
        rw [ms_or hlt (by omega), if_pos (hb.mp hb2), Nat.one_mul]
      refine G.iconst (v := 1) (by decide) dX7_freeIn_43 ?_
      refine G.iload_n (k := 3) rfl dX7_freeIn_44 ?_
      refine G.ishl dX7_freeIn_45 ?_
      refine G.goto (tgt := 50) (by decide) dX7_freeIn_46 ?_
      refine G.ior dX7_freeIn_50 ?_
      rw [hs]
      refine G.ist2 (by decide) rfl dX7_freeIn_51 ?_
      refine G.inc3 (d := 1) (by decide) (by decide) rfl dX7_freeIn_52 ?_
      refine G.goto (tgt := 4) (by decide) dX7_freeIn_55 ?_
      rw [nI_1]
      exact ih (n + 1) _ (by omega) (aF_tr hF (aF_tr (aF_b _ _) q3))
set_option maxHeartbeats 4000000 in
set_option maxRecDepth 100000 in
theorem c_X7_freeIn {ln B : Nat → Nat} {t : Nat} (hT : TM σ ln B) (hM : MR σ ln B) (ht : t < 8) : GM (XM l D cA ad) mX7_freeIn [.ref 0, .int (nI t)] σ (g_ri (fun r τ => r = (if wlA ln B t = true then nI (tlo B (30 * t)) else 0) ∧ aF σ τ)) := by
  refine GM.of (ls := [some (.ref 0), some (.int (nI t)), none, none]) (by decide) (Nat.le_of_ble_eq_true rfl) rfl ?_
  have h30 : ln t ≤ 30 := Nat.le_trans (hT t (by omega)).2.1 (tcap_le t)
  have hp7 := (MR_P hM ht).1
  refine G.iconst (v := 0) (by decide) dX7_freeIn_0 ?_
  refine G.ist2 (by decide) rfl dX7_freeIn_1 ?_
  refine G.iconst (v := 0) (by decide) dX7_freeIn_2 ?_
  refine G.ist3 (by decide) rfl dX7_freeIn_3 ?_
  by_cases hw : wlA ln B t = true
  · rw [if_pos hw] at hp7
    exact l_X7_freeIn (fun g hg => MR_nd hM hg) ht h30 hp7 hw 6 0 σ rfl (aF_rf σ)
  · rw [if_neg hw] at hp7
    refine G.iload_n (k := 3) rfl dX7_freeIn_4 ?_
    refine G.bipush (v := 6) (by decide) dX7_freeIn_5 ?_
    refine G.icmp_ge (tgt := 58) (by decide) dX7_freeIn_7 (fun c_7 => absurd c_7 (by decide)) (fun c_7 => ?_)
    refine G.aload_n (k := 0) rfl dX7_freeIn_10 ?_
    refine G.getr (j := 7) rfl gci_X7 (by decide) rfl fl_X7_28 dX7_freeIn_11 ?_
    refine G.iload_n (k := 1) rfl dX7_freeIn_14 ?_
    refine G.ialdN (k := t) rfl (rfl) (by omega) (by decide) dX7_freeIn_15 ?_
    rw [hp7]
    refine G.if_le (tgt := 58) (by decide) dX7_freeIn_16 (fun c_16 => ?_) (fun c_16 => absurd (by decide) c_16)
    refine G.iload_n (k := 2) rfl dX7_freeIn_58 ?_
    exact G.iret rfl (⟨by rw [if_neg hw], aF_rf σ⟩) dX7_freeIn_59
set_option maxHeartbeats 4000000 in
set_option maxRecDepth 100000 in
theorem c_X7_termBy {ln B : Nat → Nat} {t : Nat} (hT : TM σ ln B) (hM : MR σ ln B) (ht : t < 8) {w : Int32} (hw : w = 0 ∨ w = 1 ∨ w = 2 ∨ w = 3) : GM (XM l D cA ad) mX7_termBy [.ref 0, .int (nI t), .int w] σ (g_ri (fun r τ => r = tmW ln B t w ∧ aF σ τ)) := by
  refine GM.of (ls := [some (.ref 0), some (.int (nI t)), some (.int w)]) (by decide) (Nat.le_of_ble_eq_true rfl) rfl ?_
  have h30 : ln t ≤ 30 := Nat.le_trans (hT t (by omega)).2.1 (tcap_le t)
  have hp7 := (MR_P hM ht).1
  have hle0 := cst_le (B := B) (s := 30 * t) (ln t)
  rcases hw with e | e | e | e
  · subst e
    refine G.iload_n (k := 2) rfl dX7_termBy_0 ?_
    refine G.tableIn (tgt := 28) dX7_termBy_1 (by decide) (by decide) rfl (by decide) ?_
    refine G.aload_n (k := 0) rfl dX7_termBy_28 ?_
    refine G.iload_n (k := 1) rfl dX7_termBy_29 ?_
    refine G.callVif (c_X7_manyParts hT hM ht) rfl (gci_X7).1 ml_X7_257 im_yX7_manyParts se_yX7_manyParts gcl_X7_manyParts (by decide) rfl rfl (Nat.le_of_ble_eq_true rfl) dX7_termBy_30 ?_
    exact G.iret rfl (⟨rfl, aF_rf σ⟩) dX7_termBy_33
  · subst e
    refine G.iload_n (k := 2) rfl dX7_termBy_0 ?_
    refine G.tableIn (tgt := 34) dX7_termBy_1 (by decide) (by decide) rfl (by decide) ?_
    refine G.aload_n (k := 0) rfl dX7_termBy_34 ?_
    refine G.iload_n (k := 1) rfl dX7_termBy_35 ?_
    refine G.callVi (c_X7_longest hT hM ht) rfl (gci_X7).1 ml_X7_260 im_yX7_longest se_yX7_longest gcl_X7_longest (by decide) rfl rfl (Nat.le_of_ble_eq_true rfl) dX7_termBy_36 (fun r τ hq => ?_)
    exact G.iret rfl (hq) dX7_termBy_39
  · subst e
    refine G.iload_n (k := 2) rfl dX7_termBy_0 ?_
    refine G.tableIn (tgt := 40) dX7_termBy_1 (by decide) (by decide) rfl (by decide) ?_
    refine G.aload_n (k := 0) rfl dX7_termBy_40 ?_
    refine G.iload_n (k := 1) rfl dX7_termBy_41 ?_
    refine G.callVi (c_X7_freeIn hT hM ht) rfl (gci_X7).1 ml_X7_263 im_yX7_freeIn se_yX7_freeIn gcl_X7_freeIn (by decide) rfl rfl (Nat.le_of_ble_eq_true rfl) dX7_termBy_42 (fun r τ hq => ?_)
    exact G.iret rfl (hq) dX7_termBy_45
  · subst e
    unfold tmW
    by_cases hw : wlA ln B t = true
    · rw [if_pos hw] at hp7
      rw [if_pos hw]
      have c1 := cst_1 hw
      obtain ⟨w1, w2, w3, w4, w5⟩ := wl_0 hw ht h30
      refine G.iload_n (k := 2) rfl dX7_termBy_0 ?_
      refine G.tableOut (tgt := 46) dX7_termBy_1 (Or.inr (by decide)) (by decide) ?_
      refine G.aload_n (k := 0) rfl dX7_termBy_46 ?_
      refine G.getr (j := 7) rfl gci_X7 (by decide) rfl fl_X7_28 dX7_termBy_47 ?_
      refine G.iload_n (k := 1) rfl dX7_termBy_50 ?_
      refine G.ialdN (k := t) rfl (rfl) (by omega) (by decide) dX7_termBy_51 ?_
      rw [hp7]
      refine G.if_ne (tgt := 59) (by decide) dX7_termBy_52 (fun c_52 => ?_) (fun c_52 => absurd c_52 (fun e => by have := (nI_eq (show cst B (30 * t) (ln t) < 2 ^ 31 by omega) (show 0 < 2 ^ 31 by decide)).mp e; omega))
      refine G.aload_n (k := 0) rfl dX7_termBy_59 ?_
      refine G.bipush (v := 30) (by decide) dX7_termBy_60 ?_
      refine G.iload_n (k := 1) rfl dX7_termBy_62 ?_
      refine G.imul dX7_termBy_63 ?_
      rw [show (30 : Int32) * nI t = nI (pN B (30 * t)) by rw [w4]; exact nu_30' t]
      refine G.callVif (c_X7_unknownsIn (fun g hg => MR_nd hM hg) w1) rfl (gci_X7).1 ml_X7_266 im_yX7_unknownsIn se_yX7_unknownsIn gcl_X7_unknownsIn (by decide) rfl rfl (Nat.le_of_ble_eq_true rfl) dX7_termBy_64 ?_
      exact G.iret rfl (⟨rfl, aF_rf σ⟩) dX7_termBy_67
    · rw [if_neg hw] at hp7
      rw [if_neg hw]
      refine G.iload_n (k := 2) rfl dX7_termBy_0 ?_
      refine G.tableOut (tgt := 46) dX7_termBy_1 (Or.inr (by decide)) (by decide) ?_
      refine G.aload_n (k := 0) rfl dX7_termBy_46 ?_
      refine G.getr (j := 7) rfl gci_X7 (by decide) rfl fl_X7_28 dX7_termBy_47 ?_
      refine G.iload_n (k := 1) rfl dX7_termBy_50 ?_
      refine G.ialdN (k := t) rfl (rfl) (by omega) (by decide) dX7_termBy_51 ?_
      rw [hp7]
      refine G.if_ne (tgt := 59) (by decide) dX7_termBy_52 (fun c_52 => absurd rfl c_52) (fun c_52 => ?_)
      refine G.iconst (v := 0) (by decide) dX7_termBy_55 ?_
      refine G.goto (tgt := 67) (by decide) dX7_termBy_56 ?_
      exact G.iret rfl (⟨rfl, aF_rf σ⟩) dX7_termBy_67
theorem w4 {w : Int32} (h : inB w 4 = true) : w = 0 ∨ w = 1 ∨ w = 2 ∨ w = 3 := by
  obtain ⟨q, hq, e⟩ := inB_of (by decide) h
  have c4 : q = 0 ∨ q = 1 ∨ q = 2 ∨ q = 3 := by omega
  rcases c4 with z | z | z | z <;> subst z <;> subst e
  · exact Or.inl rfl
  · exact Or.inr (Or.inl rfl)
  · exact Or.inr (Or.inr (Or.inl rfl))
  · exact Or.inr (Or.inr (Or.inr rfl))
set_option maxHeartbeats 4000000 in
set_option maxRecDepth 100000 in
theorem c_X7_term {ln B : Nat → Nat} {t w : Int32} (hT : TM σ ln B) : GM (XM l D cA ad) mX7_term [.ref 0, .int t, .int w] σ (g_ri (fun r τ => r = sp_term ln B t w ∧ mQ σ τ)) := by
  refine GM.of (ls := [some (.ref 0), some (.int t), some (.int w)]) (by decide) (Nat.le_of_ble_eq_true rfl) rfl ?_
  refine G.aload_n (k := 0) rfl dX7_term_0 ?_
  refine G.callVv (c_X7_readsAll hT) rfl (gci_X7).1 ml_X7_271 im_yX7_readsAll se_yX7_readsAll gcl_X7_readsAll (by decide) rfl rfl (Nat.le_of_ble_eq_true rfl) dX7_term_1 (fun τ hr => ?_)
  have hT1 := TM_rd hr.1 hT
  refine G.iload_n (k := 1) rfl dX7_term_4 ?_
  refine G.callSif (c_X7_isTerm) ml_X7_274 ws_yX7_isTerm gcl_X7_isTerm (by decide) rfl rfl (Nat.le_of_ble_eq_true rfl) dX7_term_5 ?_
  refine G.if_eq (tgt := 32) (by decide) dX7_term_8 (fun c_8 => ?_) (fun c_8 => ?_)
  · have h1 := in_f 7 (by decide) c_8
    refine G.bipush (v := (-2)) (by decide) dX7_term_32 ?_
    exact G.iret rfl (by unfold sp_term; first | (rw [if_pos (show (inB (nI q) 8 && inB w 4) = true by simp [h1, h2]), xq]; exact ⟨hq2.1, mQ_tr (rdF_Q hr.1) (aF_Q hq2.2)⟩) | (rw [if_neg (by first | (simp [h1]; done) | simp [h1, h2])]; exact ⟨rfl, rdF_Q hr.1⟩)) dX7_term_34
  · have h1 := in_t 7 (by decide) c_8
    obtain ⟨q, hq, eq⟩ := inB_of (by decide) h1
    subst eq
    have xq : ix (nI q) = q := ix_nI (by omega)
    refine G.iload_n (k := 2) rfl dX7_term_11 ?_
    refine G.i2l dX7_term_12 ?_
    refine G.lconst (v := 0) (by decide) dX7_term_13 ?_
    refine G.ldc2 ct_X7_102 dX7_term_14 ?_
    refine G.callSif (c_X7_in (x := w) (a := 0) (b := 3) (by decide) (by decide)) ml_X7_94 ws_yX7_in gcl_X7_in (by decide) rfl rfl (Nat.le_of_ble_eq_true rfl) dX7_term_17 ?_
    refine G.if_eq (tgt := 32) (by decide) dX7_term_20 (fun c_20 => ?_) (fun c_20 => ?_)
    · have h2 := in_f 3 (by decide) c_20
      refine G.bipush (v := (-2)) (by decide) dX7_term_32 ?_
      exact G.iret rfl (by unfold sp_term; first | (rw [if_pos (show (inB (nI q) 8 && inB w 4) = true by simp [h1, h2]), xq]; exact ⟨hq2.1, mQ_tr (rdF_Q hr.1) (aF_Q hq2.2)⟩) | (rw [if_neg (by first | (simp [h1]; done) | simp [h1, h2])]; exact ⟨rfl, rdF_Q hr.1⟩)) dX7_term_34
    · have h2 := in_t 3 (by decide) c_20
      refine G.aload_n (k := 0) rfl dX7_term_23 ?_
      refine G.iload_n (k := 1) rfl dX7_term_24 ?_
      refine G.iload_n (k := 2) rfl dX7_term_25 ?_
      refine G.callVi (c_X7_termBy hT1 hr.2 hq (w4 h2)) rfl (gci_X7).1 ml_X7_277 im_yX7_termBy se_yX7_termBy gcl_X7_termBy (by decide) rfl rfl (Nat.le_of_ble_eq_true rfl) dX7_term_26 (fun r τ2 hq2 => ?_)
      refine G.goto (tgt := 34) (by decide) dX7_term_29 ?_
      exact G.iret rfl (by unfold sp_term; first | (rw [if_pos (show (inB (nI q) 8 && inB w 4) = true by simp [h1, h2]), xq]; exact ⟨hq2.1, mQ_tr (rdF_Q hr.1) (aF_Q hq2.2)⟩) | (rw [if_neg (by first | (simp [h1]; done) | simp [h1, h2])]; exact ⟨rfl, rdF_Q hr.1⟩)) dX7_term_34
end T93

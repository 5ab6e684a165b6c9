/-! ===== the rounds of spreading ===== -/
def frI (B ln : Nat → Nat) (V : uV) (W : List (Nat × Nat)) (w : Nat → Nat) (z : fM) : Prop := fM64 z ∧ (∀ g m, (z.1 g).testBit m = true → nd B ln g ∧ m < 6 ∧ LN B V W w g m) ∧ (∀ u m, u < 6 → (z.2.1 u).testBit m = true → m < 6 ∧ LU B V W w u m) ∧ (z.2.2 = true → BD B V W w) ∧ (∀ x ∈ W, (z.1 x.1).testBit x.2 = true) ∧ ∀ u m, u < 6 → m < 6 → (w u).testBit m = true → (z.2.1 u).testBit m = true
def dnz (B : Nat → Nat) (z : fM) (h : Nat) : Prop := ∀ m, (z.1 h).testBit m = true → (kd (B h) = 1 → m = B h - 97 → z.2.2 = true) ∧ (kd (B h) = 2 → (z.2.1 (B h - 80)).testBit m = true) ∧ dwn B (fun g m => (z.1 g).testBit m = true) h m
def tot (f : Nat → Nat) : Nat := bc6 (f 0) + bc6 (f 1) + bc6 (f 2) + bc6 (f 3) + bc6 (f 4) + bc6 (f 5)
def vru (V : uV) (f : Nat → Nat) (z : fM) (u : Nat) : Prop := ∀ q m, V u = some q → m < 6 → (f u).testBit m = true → (z.1 q.1).testBit (tn_src q.2 m) = true
theorem bc_le6 : ∀ a, a < 64 → bc6 a ≤ 6 := by decide +kernel
theorem bit_lt6 {a m : Nat} (ha : a < 64) (h : a.testBit m = true) : m < 6 := by
  rcases Nat.lt_or_ge m 6 with q | q
  · exact q
  · rw [Nat.testBit_lt_two_pow (Nat.lt_of_lt_of_le ha (Nat.pow_le_pow_right (show 0 < 2 by decide) q))] at h
    cases h
theorem tot_lt {f : Nat → Nat} {u x : Nat} (hu : u < 6) (hf : ∀ v, f v < 64) (hx : x < 64) (hn : x &&& (63 ^^^ f u) ≠ 0) : tot f < tot (addM f u x) := by
  have h1 : bc6 (f u) < bc6 (f u ||| x) := by
    refine bc_lt _ (hf u) _ (or_lt64 (hf u) hx) (sbs_and (hf u) (sbs_or_l _ _)) (fun e => hn ?_)
    refine ms_ext (an_lt hx) (by decide) (fun n hn => ?_)
    rw [an_bit x hx (f u) (hf u) n hn]
    have e2 : (f u).testBit n = ((f u).testBit n || x.testBit n) := by rw [← Nat.testBit_or, ← e]
    revert e2
    cases x.testBit n <;> cases (f u).testBit n <;> simp
  unfold tot addM
  match u, hu with
  | 0, _ => simp; omega
  | 1, _ => simp; omega
  | 2, _ => simp; omega
  | 3, _ => simp; omega
  | 4, _ => simp; omega
  | 5, _ => simp; omega
theorem tot_le {f : Nat → Nat} (hf : ∀ v, f v < 64) : tot f ≤ 36 := by
  have h0 := bc_le6 _ (hf 0)
  have h1 := bc_le6 _ (hf 1)
  have h2 := bc_le6 _ (hf 2)
  have h3 := bc_le6 _ (hf 3)
  have h4 := bc_le6 _ (hf 4)
  have h5 := bc_le6 _ (hf 5)
  unfold tot
  omega
theorem addM_bit {f : Nat → Nat} {h x k m : Nat} : (addM f h x k).testBit m = ((f k).testBit m || (decide (k = h) && x.testBit m)) := by
  unfold addM
  by_cases e : k = h
  · rw [if_pos e, Nat.testBit_or]; simp [e]
  · rw [if_neg e]; simp [e]
theorem addM_le (f : Nat → Nat) (h x k m : Nat) (hb : (f k).testBit m = true) : (addM f h x k).testBit m = true := by rw [addM_bit, hb]; rfl
theorem addM_at (f : Nat → Nat) (h x m : Nat) (hb : x.testBit m = true) : (addM f h x h).testBit m = true := by rw [addM_bit, hb]; simp
theorem addM_ne (f : Nat → Nat) {h k : Nat} (x : Nat) (hk : k ≠ h) : addM f h x k = f k := if_neg hk
theorem addM_of {f : Nat → Nat} {h x k m : Nat} (hb : (addM f h x k).testBit m = true) : (f k).testBit m = true ∨ (k = h ∧ x.testBit m = true) := by
  rw [addM_bit] at hb
  simp at hb
  exact hb
section PD
variable {B ln : Nat → Nat} {V : uV} {W : List (Nat × Nat)} {w : Nat → Nat} {z : fM} {g : Nat}
/-- marks that come to a node -/
theorem frI_add {h x : Nat} (hI : frI B ln V W w z) (hn : nd B ln h) (hx : x < 64) (hs : ∀ m, x.testBit m = true → LN B V W w h m) : frI B ln V W w (addM z.1 h x, z.2.1, z.2.2) := by
  obtain ⟨h64, h1, h2, h3, h4, h5⟩ := hI
  refine ⟨⟨addM_lt h64.1 hx, h64.2⟩, fun k m hb => ?_, h2, h3, fun y hy => addM_le _ _ _ _ _ (h4 y hy), h5⟩
  rcases addM_of hb with q | ⟨q, q2⟩
  · exact h1 k m q
  · rw [q]; exact ⟨hn, bit_lt6 hx q2, hs m q2⟩
theorem dnz_add {h x k : Nat} (hk : k ≠ h) (hd : dnz B z k) : dnz B (addM z.1 h x, z.2.1, z.2.2) k := by
  intro m hb
  have hb1 : (z.1 k).testBit m = true := by
    have e : addM z.1 h x k = z.1 k := addM_ne _ _ hk
    rw [← e]; exact hb
  obtain ⟨d1, d2, d4, d5, d6, d7⟩ := hd m hb1
  exact ⟨d1, d2, fun c => addM_le _ _ _ _ _ (d4 c), fun c => ⟨addM_le _ _ _ _ _ (d5 c).1, addM_le _ _ _ _ _ (d5 c).2⟩, fun c e => addM_le _ _ _ _ _ (d6 c e), fun c => addM_le _ _ _ _ _ (d7 c)⟩
/-- one node is passed down -/
theorem pdS_ok (hI : frI B ln V W w z) (hn : nd B ln g) : frI B ln V W w (pdS B z g).1 ∧ dnz B (pdS B z g).1 g ∧ (∀ h, h < g → dnz B z h → dnz B (pdS B z g).1 h) ∧ (∀ k m, (z.1 k).testBit m = true → ((pdS B z g).1.1 k).testBit m = true) ∧ ((pdS B z g).2 = false → (pdS B z g).1.2.1 = z.2.1) ∧ ((pdS B z g).2 = true → tot z.2.1 < tot (pdS B z g).1.2.1) ∧ tot z.2.1 ≤ tot (pdS B z g).1.2.1 := by
  have hk := nd_kd hn
  have cl := LN_cl B V W w
  have hI0 := hI
  obtain ⟨h64, h1, h2, h3, h4, h5⟩ := hI
  have hLN : ∀ m, (z.1 g).testBit m = true → LN B V W w g m := fun m hb => (h1 g m hb).2.2
  by_cases c1 : kd (B g) = 1
  · have hd : pdS B z g = ((z.1, z.2.1, z.2.2 || (z.1 g).testBit (B g - 97)), false) := by unfold pdS; rw [if_pos c1]
    rw [hd]
    refine ⟨⟨h64, h1, h2, fun hb => ?_, h4, h5⟩, fun m hb => ?_, fun h _ hdn m hb => ?_, fun _ _ q => q, fun _ => rfl, fun q => (by cases q), Nat.le_refl _⟩
    · rcases Bool.or_eq_true _ _ |>.mp hb with q | q
      · exact h3 q
      · exact ⟨g, c1, hLN _ q⟩
    · refine ⟨fun _ e => ?_, fun c => by omega, fun c => by omega, fun c => by omega, fun c => by omega, fun c => by omega⟩
      subst e
      show (z.2.2 || (z.1 g).testBit (B g - 97)) = true
      have hb2 : (z.1 g).testBit (B g - 97) = true := hb
      rw [hb2]; simp
    · obtain ⟨d1, d2, d3⟩ := hdn m hb
      exact ⟨fun c e => by show (z.2.2 || _) = true; rw [d1 c e]; rfl, d2, d3⟩
  by_cases c2 : kd (B g) = 2
  · have gu := kd2_ge c2
    by_cases q : z.1 g &&& (63 ^^^ z.2.1 (B g - 80)) = 0
    · have hd : pdS B z g = (z, false) := by unfold pdS; rw [if_neg c1, if_pos c2, if_pos q]
      rw [hd]
      refine ⟨hI0, fun m hb => ?_, fun h _ hdn => hdn, fun _ _ q => q, fun _ => rfl, fun q => (by cases q), Nat.le_refl _⟩
      refine ⟨fun c => by omega, fun _ => ?_, fun c => by omega, fun c => by omega, fun c => by omega, fun c => by omega⟩
      have hm := bit_lt6 (h64.1 g) hb
      have e := an_bit (z.1 g) (h64.1 g) (z.2.1 (B g - 80)) (h64.2 _) m hm
      rw [q, hb] at e
      simp at e
      exact e
    · have hd : pdS B z g = ((z.1, addM z.2.1 (B g - 80) (z.1 g), z.2.2), true) := by unfold pdS; rw [if_neg c1, if_pos c2, if_neg q]
      rw [hd]
      refine ⟨⟨⟨h64.1, addM_lt h64.2 (h64.1 g)⟩, h1, fun u m hu hb => ?_, h3, h4, fun u m hu hm hb => addM_le _ _ _ _ _ (h5 u m hu hm hb)⟩, fun m hb => ?_, fun h _ hdn m hb => ?_, fun _ _ q => q, fun q => (by (have q : true = false := q); cases q), fun _ => tot_lt (by omega) h64.2 (h64.1 g) q, Nat.le_of_lt (tot_lt (by omega) h64.2 (h64.1 g) q)⟩
      · rcases addM_of hb with r | ⟨r, r2⟩
        · exact h2 u m hu r
        · rw [r]; exact ⟨bit_lt6 (h64.1 g) r2, cl.2.2.2.1 g m (hLN m r2) c2⟩
      · refine ⟨fun c => by omega, fun _ => addM_at _ _ _ _ hb, fun c => by omega, fun c => by omega, fun c => by omega, fun c => by omega⟩
      · obtain ⟨d1, d2, d3⟩ := hdn m hb
        exact ⟨d1, fun c => addM_le _ _ _ _ _ (d2 c), d3⟩
  by_cases c5 : kd (B g) = 5
  · obtain ⟨n1, n2, eE, e1, e2⟩ := nd_5 hn c5
    have hE := nd_E n1
    have hd : pdS B z g = ((addM (addM z.1 (tE B (g + 1)) (z.1 g)) (g + 1) (z.1 g), z.2.1, z.2.2), false) := by unfold pdS; rw [if_neg c1, if_neg c2, if_pos c5]
    rw [hd]
    have i1 := frI_add hI0 n2 (h64.1 g) (fun m hb => ((cl.2.2.2.2 g m (hLN m hb)).2.1 c5).2)
    have i2 := frI_add i1 n1 (h64.1 g) (fun m hb => ((cl.2.2.2.2 g m (hLN m hb)).2.1 c5).1)
    refine ⟨i2, fun m hb => ?_, fun h hlt hdn => dnz_add (by omega) (dnz_add (by omega) hdn), fun k m hb => addM_le _ _ _ _ _ (addM_le _ _ _ _ _ hb), fun _ => rfl, fun q => (by cases q), Nat.le_refl _⟩
    have hb1 : (z.1 g).testBit m = true := by
      have e : addM (addM z.1 (tE B (g + 1)) (z.1 g)) (g + 1) (z.1 g) g = z.1 g := by rw [addM_ne _ _ (by omega), addM_ne _ _ (by omega)]
      rw [← e]; exact hb
    exact ⟨fun c => by omega, fun c => by omega, fun c => by omega, fun _ => ⟨addM_at _ _ _ _ hb1, addM_le _ _ _ _ _ (addM_at _ _ _ _ hb1)⟩, fun c => by omega, fun c => by omega⟩
  by_cases c4 : kd (B g) = 4
  · obtain ⟨n1, eE, e1⟩ := nd_4 hn c4
    have hd : pdS B z g = ((addM z.1 (g + 1) (z.1 g), z.2.1, z.2.2), false) := by unfold pdS; rw [if_neg c1, if_neg c2, if_neg c5, if_pos c4]
    rw [hd]
    refine ⟨frI_add hI0 n1 (h64.1 g) (fun m hb => (cl.2.2.2.2 g m (hLN m hb)).1 c4), fun m hb => ?_, fun h hlt hdn => dnz_add (by omega) hdn, fun k m hb => addM_le _ _ _ _ _ hb, fun _ => rfl, fun q => (by cases q), Nat.le_refl _⟩
    have hb1 : (z.1 g).testBit m = true := by
      have e : addM z.1 (g + 1) (z.1 g) g = z.1 g := addM_ne _ _ (by omega)
      rw [← e]; exact hb
    exact ⟨fun c => by omega, fun c => by omega, fun _ => addM_at _ _ _ _ hb1, fun c => by omega, fun c => by omega, fun c => by omega⟩
  by_cases c6 : kd (B g) = 6
  · obtain ⟨k1, n1, eE, e1⟩ := nd_6 hn c6
    have g1 := kd1_ge k1
    have hd : pdS B z g = ((addM z.1 (g + 2) (mdel (z.1 g) (B (g + 1) - 97)), z.2.1, z.2.2), false) := by unfold pdS; rw [if_neg c1, if_neg c2, if_neg c5, if_neg c4, if_pos c6]
    rw [hd]
    have hm := mdel_lt _ (h64.1 g) (B (g + 1) - 97) (by omega)
    refine ⟨frI_add hI0 n1 hm (fun m hb => ?_), fun m hb => ?_, fun h hlt hdn => dnz_add (by omega) hdn, fun k m hb => addM_le _ _ _ _ _ hb, fun _ => rfl, fun q => (by cases q), Nat.le_refl _⟩
    · rw [mdel_bit _ (h64.1 g) _ (by omega) m (bit_lt6 hm hb), Bool.and_eq_true] at hb
      exact (cl.2.2.2.2 g m (hLN m hb.1)).2.2.1 c6 (by simpa using hb.2)
    · have hb1 : (z.1 g).testBit m = true := by
        have e : addM z.1 (g + 2) (mdel (z.1 g) (B (g + 1) - 97)) g = z.1 g := addM_ne _ _ (by omega)
        rw [← e]; exact hb
      refine ⟨fun c => by omega, fun c => by omega, fun c => by omega, fun c => by omega, fun _ ne => addM_at _ _ _ _ ?_, fun c => by omega⟩
      rw [mdel_bit _ (h64.1 g) _ (by omega) m (bit_lt6 (h64.1 g) hb1), hb1]
      simpa using ne
  by_cases c7 : kd (B g) = 7
  · obtain ⟨k1, k2, n1, eE, e1⟩ := nd_7 hn c7
    have g1 := kd1_ge k1
    have g2 := kd1_ge k2
    have hP := tn_P_sw (show B (g + 1) - 97 < 6 by omega) (show B (g + 2) - 97 < 6 by omega)
    have hd : pdS B z g = ((addM z.1 (g + 3) (tn_ss (tn_sw (B (g + 1) - 97) (B (g + 2) - 97)) (z.1 g)), z.2.1, z.2.2), false) := by unfold pdS; rw [if_neg c1, if_neg c2, if_neg c5, if_neg c4, if_neg c6, if_pos c7]
    have inv : ∀ m, m < 6 → tn_im (tn_sw (B (g + 1) - 97) (B (g + 2) - 97)) (tn_im (tn_sw (B (g + 1) - 97) (B (g + 2) - 97)) m) = m := by
      intro m hm
      have ga : B (g + 1) - 97 < 6 := by omega
      have gb : B (g + 2) - 97 < 6 := by omega
      rw [tn_im_sw ga gb hm]
      by_cases x1 : m = B (g + 1) - 97
      · rw [if_pos x1, tn_im_sw ga gb gb]
        by_cases x2 : B (g + 2) - 97 = B (g + 1) - 97
        · rw [if_pos x2, x1, x2]
        · rw [if_neg x2, if_pos rfl, x1]
      · rw [if_neg x1]
        by_cases x2 : m = B (g + 2) - 97
        · rw [if_pos x2, tn_im_sw ga gb ga, if_pos rfl, x2]
        · rw [if_neg x2, tn_im_sw ga gb hm, if_neg x1, if_neg x2]
    rw [hd]
    refine ⟨frI_add hI0 n1 (ms_lt _) (fun m hb => ?_), fun m hb => ?_, fun h hlt hdn => dnz_add (by omega) hdn, fun k m hb => addM_le _ _ _ _ _ hb, fun _ => rfl, fun q => (by cases q), Nat.le_refl _⟩
    · have hm6 := bit_lt6 (ms_lt _) hb
      rw [tn_ss, ms_bit _ m hm6] at hb
      have := (cl.2.2.2.2 g _ (hLN _ hb)).2.2.2 c7
      rwa [inv m hm6] at this
    · have hb1 : (z.1 g).testBit m = true := by
        have e : addM z.1 (g + 3) (tn_ss (tn_sw (B (g + 1) - 97) (B (g + 2) - 97)) (z.1 g)) g = z.1 g := addM_ne _ _ (by omega)
        rw [← e]; exact hb
      have hm6 := bit_lt6 (h64.1 g) hb1
      refine ⟨fun c => by omega, fun c => by omega, fun c => by omega, fun c => by omega, fun c => by omega, fun _ => addM_at _ _ _ _ ?_⟩
      rw [tn_ss, ms_bit _ _ (hP.2.1 m hm6), inv m hm6]
      exact hb1
  have c3 : kd (B g) = 3 := by omega
  have hd : pdS B z g = (z, false) := by unfold pdS; rw [if_neg c1, if_neg c2, if_neg c5, if_neg c4, if_neg c6, if_neg c7]
  rw [hd]
  exact ⟨hI0, fun m hb => ⟨fun c => by omega, fun c => by omega, fun c => by omega, fun c => by omega, fun c => by omega, fun c => by omega⟩, fun h _ hdn => hdn, fun _ _ q => q, fun _ => rfl, fun q => (by cases q), Nat.le_refl _⟩
/-- a value's term takes what its unknown must -/
theorem frI_val {u : Nat} {q : Nat × Nat} (hI : frI B ln V W w z) (hu : u < 6) (hV : V u = some q) (hn : nd B ln q.1) (hP : tn_P q.2) : frI B ln V W w (addM z.1 q.1 (tn_ss q.2 (z.2.1 u)), z.2.1, z.2.2) ∧ vru V z.2.1 (addM z.1 q.1 (tn_ss q.2 (z.2.1 u)), z.2.1, z.2.2) u := by
  have cl := LN_cl B V W w
  refine ⟨frI_add hI hn (ms_lt _) (fun m hb => ?_), fun q2 m hq hm hb => ?_⟩
  · have hm6 := bit_lt6 (ms_lt _) hb
    rw [tn_ss, ms_bit _ m hm6] at hb
    have h1 := hI.2.2.1 u _ hu hb
    have := cl.2.2.1 u q _ hV h1.1 h1.2
    rwa [tn_src_im hP hm6] at this
  · rw [hV] at hq
    injection hq with hq
    rw [← hq]
    refine addM_at _ _ _ _ ?_
    rw [tn_ss, ms_bit _ _ (tn_src_lt hm), tn_im_src hP hm]
    exact hb
/-- at the end: just what must be -/
theorem frI_end (hG : ∀ x ∈ W, nd B ln x.1 ∧ x.2 < 6) (hVG : VG B ln V) (hI : frI B ln V W w z) (hv : ∀ u, u < 6 → vru V z.2.1 z u) (hd : ∀ h, h < 240 → dnz B z h) : (∀ u m, u < 6 → ((z.2.1 u).testBit m = true ↔ m < 6 ∧ LU B V W w u m)) ∧ (z.2.2 = true ↔ BD B V W w) := by
  have hc : clF B V W w (fun g m => (z.1 g).testBit m = true) (fun u m => (z.2.1 u).testBit m = true) := by
    refine ⟨fun x hx => hI.2.2.2.2.1 x hx, fun u m hu hm hb => hI.2.2.2.2.2 u m hu hm hb, fun u q m hq hm hb => hv u (hVG u q hq).1 q m hq hm hb, fun g m hb c => ?_, fun g m hb => ?_⟩
    · exact (hd g (nd_lt (hI.2.1 g m hb).1) m hb).2.1 c
    · exact (hd g (nd_lt (hI.2.1 g m hb).1) m hb).2.2
  refine ⟨fun u m hu => ⟨fun hb => hI.2.2.1 u m hu hb, fun h => h.2 _ _ hc⟩, hI.2.2.2.1, fun h => ?_⟩
  obtain ⟨g, c, hl⟩ := h
  have hb := hl _ _ hc
  exact (hd g (nd_lt (hI.2.1 g _ hb).1) _ hb).1 c rfl
end PD
section T54
variable {l : Launch} {D : va_G} {cA : ClassId} {ad : Nat → Nat}
variable {σ0 σ : gS}
set_option maxHeartbeats 4000000 in
set_option maxRecDepth 100000 in
theorem l1_X2_spreadFresh {b : Nat} (hb : svA b) {ln B : Nat → Nat} {V : uV} {W : List (Nat × Nat)} {w : Nat → Nat} (h3 : tx3 σ0 ln B) (hV : VG B ln V) (hr : ∀ u, u < 6 → σ0 (b + 1) u = vrow V u) {Q : Option Value → gS → Prop} {x1 x2 : Int32} {z0 : fM} (done : ∀ z τ, FrH σ0 τ b z → frI B ln V W w z → z.2 = z0.2 → (∀ u, u < 6 → vru V z0.2.1 z u) → G (XC l D cA ad) mX2_spreadFresh Q 69 [some (.ref b), some (.int x1), some (.int x2), some (.int 6)] [] τ) :
    ∀ j u z τ, u + j = 6 → FrH σ0 τ b z → frI B ln V W w z → z.2 = z0.2 → (∀ v, v < u → vru V z0.2.1 z v) → G (XC l D cA ad) mX2_spreadFresh Q 16 [some (.ref b), some (.int x1), some (.int x2), some (.int (nI u))] [] τ := by
  have hb16 := hb.2.2.2.2.2.2.1
  intro j
  induction j with
  | zero =>
    intro u z τ hu H hI e hv
    have hu : u = 6 := by omega
    subst hu
    refine G.iload_n (k := 3) rfl dX2_spreadFresh_16 ?_
    refine G.bipush (v := 6) (by decide) dX2_spreadFresh_17 ?_
    refine G.icmp_ge (tgt := 69) (by decide) dX2_spreadFresh_19 (fun c_19 => ?_) (fun c_19 => absurd (by decide) c_19)
    exact done z τ H hI e hv
  | succ j ih =>
    intro u z τ hu H hI e hv
    have hu6 : u < 6 := by omega
    have e1 : τ (b + 1) = σ0 (b + 1) := H.1 _ (by omega) (by omega) (by omega)
    refine G.iload_n (k := 3) rfl dX2_spreadFresh_16 ?_
    refine G.bipush (v := 6) (by decide) dX2_spreadFresh_17 ?_
    refine G.icmp_ge (tgt := 69) (by decide) dX2_spreadFresh_19 (fun c_19 => absurd c_19 (nI_ge (b := 6) (by omega) (by decide))) (fun c_19 => ?_)
    refine G.aload_n (k := 0) rfl dX2_spreadFresh_22 ?_
    refine G.getr (j := 1) hb.1 gci_X2 (by decide) rfl fl_X2_9 dX2_spreadFresh_23 ?_
    refine G.iload_n (k := 3) rfl dX2_spreadFresh_26 ?_
    refine G.ialdN (k := u) hb.2.1 rfl (by omega) (by decide) dX2_spreadFresh_27 ?_
    rw [e1, hr u hu6]
    refine G.iconst (v := (-1)) (by decide) dX2_spreadFresh_28 ?_
    refine G.icmp_eq (tgt := 63) (by decide) dX2_spreadFresh_29 (fun c_29 => ?_) (fun c_29 => ?_)
    · have hno : V u = none := by
        cases e : V u with
        | none => rfl
        | some w =>
          rw [vrow, e] at c_29
          have := hV _ _ e
          exact absurd c_29 (ne_m1 (spot_lt this.2.1 this.2.2))
      have hgo : FrH σ0 τ b z ∧ frI B ln V W w z ∧ z.2 = z0.2 ∧ ∀ v, v < u + 1 → vru V z0.2.1 z v := ⟨H, hI, e, fun v hv2 => by
        rcases Nat.lt_or_ge v u with y | y
        · exact hv v y
        · intro q m hq; rw [show v = u by omega, hno] at hq; cases hq⟩
      refine G.inc3 (d := 1) (by decide) (by decide) rfl dX2_spreadFresh_63 ?_
      refine G.goto (tgt := 16) (by decide) dX2_spreadFresh_66 ?_
      rw [nI_1]
      exact ih (u + 1) _ _ (by omega) hgo.1 hgo.2.1 hgo.2.2.1 hgo.2.2.2
    · obtain ⟨q, ew⟩ : ∃ q, V u = some q := by
        cases e : V u with
        | none => rw [vrow, e] at c_29; exact absurd rfl c_29
        | some w => exact ⟨w, rfl⟩
      have hw := hV _ _ ew
      have lw := nd_lt hw.2.1
      have evr : vrow V u = nI (q.1 * 262144 + q.2) := by rw [vrow, ew]
      have hz64 := hI.1.2 u
      refine G.aload_n (k := 0) rfl dX2_spreadFresh_32 ?_
      refine G.aload_n (k := 0) rfl dX2_spreadFresh_33 ?_
      refine G.getr (j := 1) hb.1 gci_X2 (by decide) rfl fl_X2_9 dX2_spreadFresh_34 ?_
      refine G.iload_n (k := 3) rfl dX2_spreadFresh_37 ?_
      refine G.ialdN (k := u) hb.2.1 rfl (by omega) (by decide) dX2_spreadFresh_38 ?_
      rw [e1, hr u hu6, evr]
      refine G.callSif (c_X3_node (by omega) hw.2.2.1) ml_X2_97 ws_yX3_node gcl_X3_node (by decide) rfl rfl (Nat.le_of_ble_eq_true rfl) dX2_spreadFresh_39 ?_
      refine G.aload_n (k := 0) rfl dX2_spreadFresh_42 ?_
      refine G.getr (j := 1) hb.1 gci_X2 (by decide) rfl fl_X2_9 dX2_spreadFresh_43 ?_
      refine G.iload_n (k := 3) rfl dX2_spreadFresh_46 ?_
      refine G.ialdN (k := u) hb.2.1 rfl (by omega) (by decide) dX2_spreadFresh_47 ?_
      rw [e1, hr u hu6, evr]
      refine G.callSif (c_X3_by hw.2.2.1) ml_X2_106 ws_yX3_by gcl_X3_by (by decide) rfl rfl (Nat.le_of_ble_eq_true rfl) dX2_spreadFresh_48 ?_
      refine G.aload_n (k := 0) rfl dX2_spreadFresh_51 ?_
      refine G.getr (j := 7) hb.1 gci_X2 (by decide) rfl fl_X2_31 dX2_spreadFresh_52 ?_
      refine G.iload_n (k := 3) rfl dX2_spreadFresh_55 ?_
      refine G.ialdN (k := u) hb.2.2.2.2.2.1 rfl (by omega) (by decide) dX2_spreadFresh_56 ?_
      rw [H.2.2.2.1 u hu6]
      refine G.callSif (c_X5_sources hw.2.2.1 (show z.2.1 u < 2 ^ 31 by omega)) ml_X2_157 ws_yX5_sources gcl_X5_sources (by decide) rfl rfl (Nat.le_of_ble_eq_true rfl) dX2_spreadFresh_57 ?_
      refine G.callVvf (c_X2_must hb lw) hb.1 (gci_X2).1 ml_X2_146 im_yX2_must se_yX2_must gcl_X2_must (by decide) rfl rfl (Nat.le_of_ble_eq_true rfl) dX2_spreadFresh_60 ?_
      have H2 := fr_must (x := tn_ss q.2 (z.2.1 u)) lw H
      obtain ⟨I2, v2⟩ := frI_val hI hu6 ew hw.2.1 hw.2.2
      have hgo : FrH σ0 (up2 τ (b + 4) q.1 (τ (b + 4) q.1 ||| nI (tn_ss q.2 (z.2.1 u)))) b (addM z.1 q.1 (tn_ss q.2 (z.2.1 u)), z.2.1, z.2.2) ∧ frI B ln V W w (addM z.1 q.1 (tn_ss q.2 (z.2.1 u)), z.2.1, z.2.2) ∧ (addM z.1 q.1 (tn_ss q.2 (z.2.1 u)), z.2.1, z.2.2).2 = z0.2 ∧ ∀ v, v < u + 1 → vru V z0.2.1 (addM z.1 q.1 (tn_ss q.2 (z.2.1 u)), z.2.1, z.2.2) v := ⟨H2, I2, e, fun v hv2 => by
        rcases Nat.lt_or_ge v u with y | y
        · intro q2 m hq hm hb2; exact addM_le _ _ _ _ _ (hv v y q2 m hq hm hb2)
        · rw [show v = u by omega, ← e]; exact v2⟩
      refine G.inc3 (d := 1) (by decide) (by decide) rfl dX2_spreadFresh_63 ?_
      refine G.goto (tgt := 16) (by decide) dX2_spreadFresh_66 ?_
      rw [nI_1]
      exact ih (u + 1) _ _ (by omega) hgo.1 hgo.2.1 hgo.2.2.1 hgo.2.2.2
set_option maxHeartbeats 4000000 in
set_option maxRecDepth 100000 in
theorem l2_X2_spreadFresh {b : Nat} (hb : svA b) {ln B : Nat → Nat} {V : uV} {W : List (Nat × Nat)} {w : Nat → Nat} (h3 : tx3 σ0 ln B) (hV : VG B ln V) (hr : ∀ u, u < 6 → σ0 (b + 1) u = vrow V u) {Q : Option Value → gS → Prop} {x2 : Int32} {f0 : Nat → Nat} (done : ∀ z τ (mo : Bool), FrH σ0 τ b z → frI B ln V W w z → (∀ h, h < 240 → dnz B z h) → (∀ u, u < 6 → vru V f0 z u) → (mo = false → z.2.1 = f0) → (mo = true → tot f0 < tot z.2.1) → G (XC l D cA ad) mX2_spreadFresh Q 111 [some (.ref b), some (.int (rgI mo)), some (.int x2), some (.int 240)] [] τ) :
    ∀ j g z τ (mo : Bool), g + j = 240 → FrH σ0 τ b z → frI B ln V W w z → (∀ h, h < g → dnz B z h) → (∀ u, u < 6 → vru V f0 z u) → (mo = false → z.2.1 = f0) → (mo = true → tot f0 < tot z.2.1) → G (XC l D cA ad) mX2_spreadFresh Q 73 [some (.ref b), some (.int (rgI mo)), some (.int x2), some (.int (nI g))] [] τ := by
  have hb16 := hb.2.2.2.2.2.2.1
  intro j
  induction j with
  | zero =>
    intro g z τ mo hg H hI hd hv m1 m2
    have hg : g = 240 := by omega
    subst hg
    refine G.iload_n (k := 3) rfl dX2_spreadFresh_73 ?_
    refine G.sipush (v := 240) (by decide) dX2_spreadFresh_74 ?_
    refine G.icmp_ge (tgt := 111) (by decide) dX2_spreadFresh_77 (fun c_77 => ?_) (fun c_77 => absurd (by decide) c_77)
    exact done z τ mo H hI hd hv m1 m2
  | succ j ih =>
    intro g z τ mo hg H hI hd hv m1 m2
    have hg6 : g < 240 := by omega
    have z64 := hI.1.1 g
    refine G.iload_n (k := 3) rfl dX2_spreadFresh_73 ?_
    refine G.sipush (v := 240) (by decide) dX2_spreadFresh_74 ?_
    refine G.icmp_ge (tgt := 111) (by decide) dX2_spreadFresh_77 (fun c_77 => absurd c_77 (nI_ge (b := 240) (by omega) (by decide))) (fun c_77 => ?_)
    refine G.aload_n (k := 0) rfl dX2_spreadFresh_80 ?_
    refine G.getr (j := 6) hb.1 gci_X2 (by decide) rfl fl_X2_28 dX2_spreadFresh_81 ?_
    refine G.iload_n (k := 3) rfl dX2_spreadFresh_84 ?_
    refine G.ialdN (k := g) hb.2.2.2.2.1 rfl (by omega) (by decide) dX2_spreadFresh_85 ?_
    rw [H.2.2.1 g hg6]
    refine G.if_eq (tgt := 105) (by decide) dX2_spreadFresh_86 (fun c_86 => ?_) (fun c_86 => ?_)
    · have h0 : z.1 g = 0 := (nI_eq (by omega) (by decide)).mp (show nI (z.1 g) = nI 0 from c_86)
      have hgo : FrH σ0 τ b z ∧ frI B ln V W w z ∧ (∀ h, h < g + 1 → dnz B z h) ∧ (∀ u, u < 6 → vru V f0 z u) ∧ (mo = false → z.2.1 = f0) ∧ (mo = true → tot f0 < tot z.2.1) := ⟨H, hI, fun h hh => by
        rcases Nat.lt_or_ge h g with y | y
        · exact hd h y
        · intro m hb2; rw [show h = g by omega, h0] at hb2; simp at hb2, hv, m1, m2⟩
      refine G.inc3 (d := 1) (by decide) (by decide) rfl dX2_spreadFresh_105 ?_
      refine G.goto (tgt := 73) (by decide) dX2_spreadFresh_108 ?_
      rw [nI_1]
      exact ih (g + 1) _ _ _ (by omega) hgo.1 hgo.2.1 hgo.2.2.1 hgo.2.2.2.1 hgo.2.2.2.2.1 hgo.2.2.2.2.2
    · have h0 : ¬ z.1 g = 0 := fun e => c_86 (by rw [e]; rfl)
      have hn : nd B ln g := by
        obtain ⟨m, hm⟩ : ∃ m, (z.1 g).testBit m = true := Nat.exists_testBit_of_ne_zero h0
        exact (hI.2.1 g m hm).1
      refine G.aload_n (k := 0) rfl dX2_spreadFresh_89 ?_
      refine G.iload_n (k := 3) rfl dX2_spreadFresh_90 ?_
      refine G.aload_n (k := 0) rfl dX2_spreadFresh_91 ?_
      refine G.getr (j := 6) hb.1 gci_X2 (by decide) rfl fl_X2_28 dX2_spreadFresh_92 ?_
      refine G.iload_n (k := 3) rfl dX2_spreadFresh_95 ?_
      refine G.ialdN (k := g) hb.2.2.2.2.1 rfl (by omega) (by decide) dX2_spreadFresh_96 ?_
      rw [H.2.2.1 g hg6]
      refine G.callVi (c_X2_passDown hb h3 hn hI.1 H) hb.1 (gci_X2).1 ml_X2_160 im_yX2_passDown se_yX2_passDown gcl_X2_passDown (by decide) rfl rfl (Nat.le_of_ble_eq_true rfl) dX2_spreadFresh_97 (fun r τ2 hq => ?_)
      obtain ⟨p1, p2, p3, p4, p5, p6, p7⟩ := pdS_ok hI hn
      obtain ⟨hr1, H2⟩ := hq
      have hd2 : ∀ h, h < g + 1 → dnz B (pdS B z g).1 h := fun h hh => by
        rcases Nat.lt_or_ge h g with y | y
        · exact p3 h y (hd h y)
        · rw [show h = g by omega]; exact p2
      have hv2 : ∀ u, u < 6 → vru V f0 (pdS B z g).1 u := fun u hu q m hq hm hb2 => p4 _ _ (hv u hu q m hq hm hb2)
      rw [hr1]
      refine G.if_eq (tgt := 105) (by decide) dX2_spreadFresh_100 (fun c_100 => ?_) (fun c_100 => ?_)
      · have hf : (pdS B z g).2 = false := by
          have := bo_0.mp c_100
          simpa using this
        have hgo : FrH σ0 τ2 b (pdS B z g).1 ∧ frI B ln V W w (pdS B z g).1 ∧ (∀ h, h < g + 1 → dnz B (pdS B z g).1 h) ∧ (∀ u, u < 6 → vru V f0 (pdS B z g).1 u) ∧ (mo = false → (pdS B z g).1.2.1 = f0) ∧ (mo = true → tot f0 < tot (pdS B z g).1.2.1) := ⟨H2, p1, hd2, hv2, fun e => (p5 hf).trans (m1 e), fun e => Nat.lt_of_lt_of_le (m2 e) p7⟩
        refine G.inc3 (d := 1) (by decide) (by decide) rfl dX2_spreadFresh_105 ?_
        refine G.goto (tgt := 73) (by decide) dX2_spreadFresh_108 ?_
        rw [nI_1]
        exact ih (g + 1) _ _ _ (by omega) hgo.1 hgo.2.1 hgo.2.2.1 hgo.2.2.2.1 hgo.2.2.2.2.1 hgo.2.2.2.2.2
      · have hf : (pdS B z g).2 = true := bo_n.mp c_100
        have hgo : FrH σ0 τ2 b (pdS B z g).1 ∧ frI B ln V W w (pdS B z g).1 ∧ (∀ h, h < g + 1 → dnz B (pdS B z g).1 h) ∧ (∀ u, u < 6 → vru V f0 (pdS B z g).1 u) ∧ (true = false → (pdS B z g).1.2.1 = f0) ∧ (true = true → tot f0 < tot (pdS B z g).1.2.1) := ⟨H2, p1, hd2, hv2, fun e => (by cases e), fun _ => by
          cases mo with
          | false => rw [← m1 rfl]; exact p6 hf
          | true => exact Nat.lt_of_lt_of_le (m2 rfl) p7⟩
        refine G.iconst (v := 1) (by decide) dX2_spreadFresh_103 ?_
        refine G.ist1 (by decide) rfl dX2_spreadFresh_104 ?_
        refine G.inc3 (d := 1) (by decide) (by decide) rfl dX2_spreadFresh_105 ?_
        refine G.goto (tgt := 73) (by decide) dX2_spreadFresh_108 ?_
        rw [nI_1]
        exact ih (g + 1) _ _ _ (by omega) hgo.1 hgo.2.1 hgo.2.2.1 hgo.2.2.2.1 hgo.2.2.2.2.1 hgo.2.2.2.2.2
set_option maxHeartbeats 4000000 in
set_option maxRecDepth 100000 in
theorem l_X2_spreadFresh {b : Nat} (hb : svA b) {ln B : Nat → Nat} {V : uV} {W : List (Nat × Nat)} {w : Nat → Nat} (h3 : tx3 σ0 ln B) (hV : VG B ln V) (hr : ∀ u, u < 6 → σ0 (b + 1) u = vrow V u) (hW : ∀ x ∈ W, nd B ln x.1 ∧ x.2 < 6) : ∀ j r z3 z τ (mo : Bool), r + j = 37 → FrH σ0 τ b z → frI B ln V W w z → (mo = false → (∀ h, h < 240 → dnz B z h) ∧ ∀ u, u < 6 → vru V z.2.1 z u) → (mo = true → r ≤ tot z.2.1) → G (XC l D cA ad) mX2_spreadFresh (g_rv (fun τ => ∃ z, FrH σ0 τ b z ∧ fM64 z ∧ (∀ u m, u < 6 → ((z.2.1 u).testBit m = true ↔ m < 6 ∧ LU B V W w u m)) ∧ (z.2.2 = true ↔ BD B V W w))) 4 [some (.ref b), some (.int (rgI mo)), some (.int (nI r)), z3] [] τ := by
  have hb16 := hb.2.2.2.2.2.2.1
  intro j
  induction j with
  | zero =>
    intro r z3 z τ mo hr0 H hI hc hm
    have hr0 : r = 37 := by omega
    subst hr0
    have hmo : mo = false := by
      cases mo with
      | false => rfl
      | true => have h1 := hm rfl; have h2 := tot_le hI.1.2; omega
    have hfin := frI_end hW hV hI (hc hmo).2 (hc hmo).1
    refine G.iload_n (k := 2) rfl dX2_spreadFresh_4 ?_
    refine G.bipush (v := 36) (by decide) dX2_spreadFresh_5 ?_
    refine G.icmp_gt (tgt := 117) (by decide) dX2_spreadFresh_7 (fun c_7 => ?_) (fun c_7 => absurd (by decide) c_7)
    exact G.vret rfl (⟨z, H, hI.1, hfin.1, hfin.2⟩) dX2_spreadFresh_117
  | succ j ih =>
    intro r z3 z τ mo hr0 H hI hc hm
    cases mo with
    | false =>
      have hfin := frI_end hW hV hI (hc rfl).2 (hc rfl).1
      refine G.iload_n (k := 2) rfl dX2_spreadFresh_4 ?_
      refine G.bipush (v := 36) (by decide) dX2_spreadFresh_5 ?_
      refine G.icmp_gt (tgt := 117) (by decide) dX2_spreadFresh_7 (fun c_7 => absurd c_7 (nI_nlt (a := 36) (by omega) (by decide))) (fun c_7 => ?_)
      refine G.iload_n (k := 1) rfl dX2_spreadFresh_10 ?_
      refine G.if_eq (tgt := 117) (by decide) dX2_spreadFresh_11 (fun c_11 => ?_) (fun c_11 => absurd rfl c_11)
      exact G.vret rfl (⟨z, H, hI.1, hfin.1, hfin.2⟩) dX2_spreadFresh_117
    | true =>
      refine G.iload_n (k := 2) rfl dX2_spreadFresh_4 ?_
      refine G.bipush (v := 36) (by decide) dX2_spreadFresh_5 ?_
      refine G.icmp_gt (tgt := 117) (by decide) dX2_spreadFresh_7 (fun c_7 => absurd c_7 (nI_nlt (a := 36) (by omega) (by decide))) (fun c_7 => ?_)
      refine G.iload_n (k := 1) rfl dX2_spreadFresh_10 ?_
      refine G.if_eq (tgt := 117) (by decide) dX2_spreadFresh_11 (fun c_11 => absurd c_11 (by decide)) (fun c_11 => ?_)
      refine G.iconst (v := 0) (by decide) dX2_spreadFresh_14 ?_
      refine G.ist3 (by decide) rfl dX2_spreadFresh_15 ?_
      refine l1_X2_spreadFresh hb h3 hV hr (W := W) (w := w) (z0 := z) (fun z1 τ1 H1 I1 e1 v1 => ?_) 6 0 z τ rfl H hI rfl (fun v hv => by omega)
      refine G.iconst (v := 0) (by decide) dX2_spreadFresh_69 ?_
      refine G.ist1 (by decide) rfl dX2_spreadFresh_70 ?_
      refine G.iconst (v := 0) (by decide) dX2_spreadFresh_71 ?_
      refine G.ist3 (by decide) rfl dX2_spreadFresh_72 ?_
      refine l2_X2_spreadFresh hb h3 hV hr (W := W) (w := w) (f0 := z1.2.1) (fun z2 τ2 mo H2 I2 d2 v2 m1 m2 => ?_) 240 0 z1 τ1 false rfl H1 I1 (fun h hh => by omega) (by rw [e1]; exact v1) (fun _ => rfl) (fun q => by cases q)
      refine G.inc2 (d := 1) (by decide) (by decide) rfl dX2_spreadFresh_111 ?_
      refine G.goto (tgt := 4) (by decide) dX2_spreadFresh_114 ?_
      rw [nI_1]
      refine ih (r + 1) _ z2 τ2 mo (by omega) H2 I2 (fun e => ⟨d2, by rw [m1 e]; exact v2⟩) (fun e => ?_)
      have h1 := m2 e
      have h2 := hm rfl
      rw [e1] at h1
      omega
set_option maxHeartbeats 4000000 in
set_option maxRecDepth 100000 in
theorem c_X2_spreadFresh {b : Nat} (hb : svA b) {ln B : Nat → Nat} {V : uV} {W : List (Nat × Nat)} {w : Nat → Nat} (h3 : tx3 σ0 ln B) (hV : VG B ln V) (hr : ∀ u, u < 6 → σ0 (b + 1) u = vrow V u) {z : fM} (hW : ∀ x ∈ W, nd B ln x.1 ∧ x.2 < 6) (H : FrH σ0 σ b z) (hI : frI B ln V W w z) : GM (XC l D cA ad) mX2_spreadFresh [.ref b] σ (g_rv (fun τ => ∃ z, FrH σ0 τ b z ∧ fM64 z ∧ (∀ u m, u < 6 → ((z.2.1 u).testBit m = true ↔ m < 6 ∧ LU B V W w u m)) ∧ (z.2.2 = true ↔ BD B V W w))) := by
  refine GM.of (ls := [some (.ref b), none, none, none]) (by decide) (Nat.le_of_ble_eq_true rfl) rfl ?_
  refine G.iconst (v := 1) (by decide) dX2_spreadFresh_0 ?_
  refine G.ist1 (by decide) rfl dX2_spreadFresh_1 ?_
  refine G.iconst (v := 0) (by decide) dX2_spreadFresh_2 ?_
  refine G.ist2 (by decide) rfl dX2_spreadFresh_3 ?_
  exact l_X2_spreadFresh hb h3 hV hr hW 37 0 _ z σ true rfl H hI (fun e => by cases e) (fun _ => Nat.zero_le _)
end T54

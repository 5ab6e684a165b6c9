/-! ===== what must be fresh: names at nodes, names in unknowns ===== -/
def dwn (B : Nat → Nat) (SN : Nat → Nat → Prop) (g m : Nat) : Prop := (kd (B g) = 4 → SN (g + 1) m) ∧ (kd (B g) = 5 → SN (g + 1) m ∧ SN (tE B (g + 1)) m) ∧ (kd (B g) = 6 → m ≠ B (g + 1) - 97 → SN (g + 2) m) ∧ (kd (B g) = 7 → SN (g + 3) (tn_im (tn_sw (B (g + 1) - 97) (B (g + 2) - 97)) m))
def clF (B : Nat → Nat) (V : uV) (W : List (Nat × Nat)) (w : Nat → Nat) (SN SU : Nat → Nat → Prop) : Prop := (∀ x ∈ W, SN x.1 x.2) ∧ (∀ u m, u < 6 → m < 6 → (w u).testBit m = true → SU u m) ∧ (∀ u q m, V u = some q → m < 6 → SU u m → SN q.1 (tn_src q.2 m)) ∧ (∀ g m, SN g m → kd (B g) = 2 → SU (B g - 80) m) ∧ ∀ g m, SN g m → dwn B SN g m
def LN (B : Nat → Nat) (V : uV) (W : List (Nat × Nat)) (w : Nat → Nat) (g m : Nat) : Prop := ∀ SN SU, clF B V W w SN SU → SN g m
def LU (B : Nat → Nat) (V : uV) (W : List (Nat × Nat)) (w : Nat → Nat) (u m : Nat) : Prop := ∀ SN SU, clF B V W w SN SU → SU u m
def BD (B : Nat → Nat) (V : uV) (W : List (Nat × Nat)) (w : Nat → Nat) : Prop := ∃ g, kd (B g) = 1 ∧ LN B V W w g (B g - 97)
theorem LN_cl (B : Nat → Nat) (V : uV) (W : List (Nat × Nat)) (w : Nat → Nat) : clF B V W w (LN B V W w) (LU B V W w) := by
  refine ⟨fun x hx SN SU h => h.1 x hx, fun u m hu hm hb SN SU h => h.2.1 u m hu hm hb, fun u q m hq hm hs SN SU h => h.2.2.1 u q m hq hm (hs SN SU h), fun g m hs c SN SU h => h.2.2.2.1 g m (hs SN SU h) c, fun g m hs => ⟨fun c SN SU h => (h.2.2.2.2 g m (hs SN SU h)).1 c, fun c => ⟨fun SN SU h => ((h.2.2.2.2 g m (hs SN SU h)).2.1 c).1, fun SN SU h => ((h.2.2.2.2 g m (hs SN SU h)).2.1 c).2⟩, fun c e SN SU h => (h.2.2.2.2 g m (hs SN SU h)).2.2.1 c e, fun c SN SU h => (h.2.2.2.2 g m (hs SN SU h)).2.2.2 c⟩⟩
/-- masks at nodes, masks of unknowns, as the class holds them; whether a name must be fresh in itself -/
abbrev fM : Type := (Nat → Nat) × (Nat → Nat) × Bool
def addM (f : Nat → Nat) (h x : Nat) : Nat → Nat := fun k => if k = h then f k ||| x else f k
def pdS (B : Nat → Nat) (z : fM) (g : Nat) : fM × Bool := if kd (B g) = 1 then ((z.1, z.2.1, z.2.2 || (z.1 g).testBit (B g - 97)), false) else if kd (B g) = 2 then (if z.1 g &&& (63 ^^^ z.2.1 (B g - 80)) = 0 then (z, false) else ((z.1, addM z.2.1 (B g - 80) (z.1 g), z.2.2), true)) else if kd (B g) = 5 then ((addM (addM z.1 (tE B (g + 1)) (z.1 g)) (g + 1) (z.1 g), z.2.1, z.2.2), false) else if kd (B g) = 4 then ((addM z.1 (g + 1) (z.1 g), z.2.1, z.2.2), false) else if kd (B g) = 6 then ((addM z.1 (g + 2) (mdel (z.1 g) (B (g + 1) - 97)), z.2.1, z.2.2), false) else if kd (B g) = 7 then ((addM z.1 (g + 3) (tn_ss (tn_sw (B (g + 1) - 97) (B (g + 2) - 97)) (z.1 g)), z.2.1, z.2.2), false) else (z, false)
def bdI (b : Bool) : Int32 := if b = true then 3 else 0
/-- the solver's cells hold the masks; nothing else of it changes -/
def FrH (σ0 σ : gS) (b : Nat) (z : fM) : Prop := (∀ k, k ≠ b → k ≠ b + 4 → k ≠ b + 5 → σ k = σ0 k) ∧ (∀ i, i ≠ 8 → σ b i = σ0 b i) ∧ (∀ g, g < 240 → σ (b + 4) g = nI (z.1 g)) ∧ (∀ u, u < 6 → σ (b + 5) u = nI (z.2.1 u)) ∧ σ b 8 = bdI z.2.2
def fM64 (z : fM) : Prop := (∀ g, z.1 g < 64) ∧ ∀ u, z.2.1 u < 64
theorem addM_lt {f : Nat → Nat} {h x : Nat} (hf : ∀ g, f g < 64) (hx : x < 64) : ∀ g, addM f h x g < 64 := by
  intro g
  unfold addM
  split
  · exact or_lt64 (hf g) hx
  · exact hf g
theorem pdS_64 {B ln : Nat → Nat} {z : fM} {g : Nat} (h : fM64 z) (hn : nd B ln g) : fM64 (pdS B z g).1 := by
  obtain ⟨h1, h2⟩ := h
  unfold pdS
  split
  · exact ⟨h1, h2⟩
  · split
    · split
      · exact ⟨h1, h2⟩
      · exact ⟨h1, addM_lt h2 (h1 g)⟩
    · split
      · exact ⟨addM_lt (addM_lt h1 (h1 g)) (h1 g), h2⟩
      · split
        · exact ⟨addM_lt h1 (h1 g), h2⟩
        · split
          · rename_i c
            have := kd1_ge (nd_6 hn c).1
            exact ⟨addM_lt h1 (mdel_lt _ (h1 g) _ (by omega)), h2⟩
          · split
            · exact ⟨addM_lt h1 (ms_lt _), h2⟩
            · exact ⟨h1, h2⟩
section FR
variable {σ0 σ : gS} {b : Nat} {z : fM}
theorem fr_must {h x : Nat} (hh : h < 240) (H : FrH σ0 σ b z) : FrH σ0 (up2 σ (b + 4) h (σ (b + 4) h ||| nI x)) b (addM z.1 h x, z.2.1, z.2.2) := by
  obtain ⟨f1, f2, h1, h2, h3⟩ := H
  have r : ∀ k, k ≠ b + 4 → up2 σ (b + 4) h (σ (b + 4) h ||| nI x) k = σ k := fun k hk => up2_ne _ _ _ hk
  refine ⟨fun k a c d => by rw [r k c]; exact f1 k a c d, fun i hi => by rw [r b (by omega)]; exact f2 i hi, fun g hg => ?_, fun u hu => by rw [r (b + 5) (by omega)]; exact h2 u hu, by rw [r b (by omega)]; exact h3⟩
  rw [up2_same]
  unfold upd addM
  by_cases e : g = h
  · subst e
    rw [if_pos rfl, h1 g hg, nu_or]
    show _ = nI (if g = g then z.1 g ||| x else z.1 g)
    rw [if_pos rfl]
  · rw [if_neg e]
    show _ = nI (if g = h then z.1 g ||| x else z.1 g)
    rw [if_neg e]
    exact h1 g hg
theorem fr_in {u x : Nat} (hu : u < 6) (H : FrH σ0 σ b z) : FrH σ0 (up2 σ (b + 5) u (nI (z.2.1 u ||| x))) b (z.1, addM z.2.1 u x, z.2.2) := by
  obtain ⟨f1, f2, h1, h2, h3⟩ := H
  have r : ∀ k, k ≠ b + 5 → up2 σ (b + 5) u (nI (z.2.1 u ||| x)) k = σ k := fun k hk => up2_ne _ _ _ hk
  refine ⟨fun k a c d => by rw [r k d]; exact f1 k a c d, fun i hi => by rw [r b (by omega)]; exact f2 i hi, fun g hg => by rw [r (b + 4) (by omega)]; exact h1 g hg, fun v hv => ?_, by rw [r b (by omega)]; exact h3⟩
  rw [up2_same]
  unfold upd
  show _ = nI (if v = u then z.2.1 v ||| x else z.2.1 v)
  by_cases e : v = u
  · subst e; rw [if_pos rfl, if_pos rfl]
  · rw [if_neg e, if_neg e]; exact h2 v hv
theorem fr_bd (H : FrH σ0 σ b z) : FrH σ0 (up2 σ b 8 3) b (z.1, z.2.1, true) := by
  obtain ⟨f1, f2, h1, h2, h3⟩ := H
  have r : ∀ k, k ≠ b → up2 σ b 8 3 k = σ k := fun k hk => up2_ne _ _ _ hk
  exact ⟨fun k a c d => by rw [r k a]; exact f1 k a c d, fun i hi => by rw [up2_same]; exact (if_neg hi).trans (f2 i hi), fun g hg => by rw [r (b + 4) (by omega)]; exact h1 g hg, fun v hv => by rw [r (b + 5) (by omega)]; exact h2 v hv, up2_at _ _ _ _⟩
end FR
theorem FrH_tx {σ0 σ : gS} {b : Nat} {z : fM} (hb : 16 ≤ b) (H : FrH σ0 σ b z) : txF σ0 σ := fun k h1 h2 => H.1 k (by omega) (by omega) (by omega)
section T53
variable {l : Launch} {D : va_G} {cA : ClassId} {ad : Nat → Nat}
variable {σ0 σ : gS}
set_option maxHeartbeats 4000000 in
set_option maxRecDepth 100000 in
theorem c_X2_passDown {b g : Nat} (hb : svA b) {ln B : Nat → Nat} {z : fM} (h3 : tx3 σ0 ln B) (hn : nd B ln g) (h64 : fM64 z) (H : FrH σ0 σ b z) : GM (XC l D cA ad) mX2_passDown [.ref b, .int (nI g), .int (nI (z.1 g))] σ (g_ri (fun r τ => r = (if (pdS B z g).2 = true then 1 else 0) ∧ FrH σ0 τ b (pdS B z g).1)) := by
  refine GM.of (ls := [some (.ref b), some (.int (nI g)), some (.int (nI (z.1 g))), none]) (by decide) (Nat.le_of_ble_eq_true rfl) rfl ?_
  have hb16 := hb.2.2.2.2.2.2.1
  have h31 : tx3 σ ln B := tx3_F (FrH_tx hb16 H) h3
  have hlt := nd_lt hn
  have hk := nd_kd hn
  have t0 := (h31 _ hn).1
  have hz := h64.1 g
  refine G.aload_n (k := 0) rfl dX2_passDown_0 ?_
  refine G.getr (j := 0) hb.1 gci_X2 (by decide) rfl fl_X2_47 dX2_passDown_1 ?_
  refine G.iload_n (k := 1) rfl dX2_passDown_4 ?_
  refine G.callVif (c_X4_kindAt hlt) rfl (gci_X4).1 ml_X2_103 im_yX4_kindAt se_yX4_kindAt gcl_X4_kindAt (by decide) rfl rfl (Nat.le_of_ble_eq_true rfl) dX2_passDown_5 ?_
  rw [t0.2.2]
  have hI0 : (nI (kd (B g))).toInt = (kd (B g) : Int) := nI_toInt (by omega)
  by_cases hc : kd (B g) = 1
  · have g0 := kd1_ge hc
    refine G.tableIn (tgt := 52) dX2_passDown_8 (by rw [hI0, hc]; decide) (by rw [hI0, hc]; decide) (by rw [hI0, hc]; rfl) (by decide) ?_
    refine G.iload_n (k := 2) rfl dX2_passDown_52 ?_
    refine G.aload_n (k := 0) rfl dX2_passDown_53 ?_
    refine G.getr (j := 0) hb.1 gci_X2 (by decide) rfl fl_X2_47 dX2_passDown_54 ?_
    refine G.iload_n (k := 1) rfl dX2_passDown_57 ?_
    refine G.callVif (c_X4_nameAt (B := B) hlt t0) rfl (gci_X4).1 ml_X2_128 im_yX4_nameAt se_yX4_nameAt gcl_X4_nameAt (by decide) rfl rfl (Nat.le_of_ble_eq_true rfl) dX2_passDown_58 ?_
    rw [nmv_1 hc]
    refine G.ishr dX2_passDown_61 ?_
    refine G.iconst (v := 1) (by decide) dX2_passDown_62 ?_
    refine G.iand dX2_passDown_63 ?_
    refine G.if_eq (tgt := 72) (by decide) dX2_passDown_64 (fun c_64 => ?_) (fun c_64 => ?_)
    · have hn1 : ¬ (z.1 g).testBit (B g - 97) = true := (tb_bit (by omega) (by omega)).mp c_64
      have ez : (z.2.2 || (z.1 g).testBit (B g - 97)) = z.2.2 := by simp at hn1; rw [hn1]; simp
      have hfin : FrH σ0 σ b (z.1, z.2.1, z.2.2 || (z.1 g).testBit (B g - 97)) := by rw [ez]; exact H
      refine G.iconst (v := 0) (by decide) dX2_passDown_72 ?_
      exact G.zret rfl (by decide) ((by have hd : pdS B z g = ((z.1, z.2.1, z.2.2 || (z.1 g).testBit (B g - 97)), false) := (by unfold pdS; rw [if_pos hc]); exact ⟨by rw [hd]; rfl, by rw [hd]; exact hfin⟩)) dX2_passDown_73
    · have hn1 : (z.1 g).testBit (B g - 97) = true := by
        by_cases q : (z.1 g).testBit (B g - 97) = true
        · exact q
        · exact absurd ((tb_bit (by omega) (by omega)).mpr q) c_64
      have ez : (z.2.2 || (z.1 g).testBit (B g - 97)) = true := by rw [hn1]; simp
      refine G.aload_n (k := 0) rfl dX2_passDown_67 ?_
      refine G.iconst (v := 3) (by decide) dX2_passDown_68 ?_
      refine G.put (j := 8) hb.1 gci_X2 gcp_X2 (by decide) rfl rfl rfl rfl fl_X2_34 dX2_passDown_69 ?_
      have hfin : FrH σ0 (up2 σ b 8 3) b (z.1, z.2.1, z.2.2 || (z.1 g).testBit (B g - 97)) := by rw [ez]; exact fr_bd H
      refine G.iconst (v := 0) (by decide) dX2_passDown_72 ?_
      exact G.zret rfl (by decide) ((by have hd : pdS B z g = ((z.1, z.2.1, z.2.2 || (z.1 g).testBit (B g - 97)), false) := (by unfold pdS; rw [if_pos hc]); exact ⟨by rw [hd]; rfl, by rw [hd]; exact hfin⟩)) dX2_passDown_73
  by_cases hc : kd (B g) = 2
  · have g0 := kd2_ge hc
    refine G.tableIn (tgt := 74) dX2_passDown_8 (by rw [hI0, hc]; decide) (by rw [hI0, hc]; decide) (by rw [hI0, hc]; rfl) (by decide) ?_
    refine G.aload_n (k := 0) rfl dX2_passDown_74 ?_
    refine G.aload_n (k := 0) rfl dX2_passDown_75 ?_
    refine G.getr (j := 0) hb.1 gci_X2 (by decide) rfl fl_X2_47 dX2_passDown_76 ?_
    refine G.iload_n (k := 1) rfl dX2_passDown_79 ?_
    refine G.callVif (c_X4_unknownAt (B := B) hlt t0) rfl (gci_X4).1 ml_X2_100 im_yX4_unknownAt se_yX4_unknownAt gcl_X4_unknownAt (by decide) rfl rfl (Nat.le_of_ble_eq_true rfl) dX2_passDown_80 ?_
    rw [if_pos hc]
    refine G.iload_n (k := 2) rfl dX2_passDown_83 ?_
    refine G.callVi (c_X2_mustIn hb (u := B g - 80) (m := z.2.1 (B g - 80)) (by omega) (h64.2 _) (h64.1 g) (H.2.2.2.1 _ (by omega))) hb.1 (gci_X2).1 ml_X2_163 im_yX2_mustIn se_yX2_mustIn gcl_X2_mustIn (by decide) rfl rfl (Nat.le_of_ble_eq_true rfl) dX2_passDown_84 (fun r τ hq => ?_)
    by_cases q : z.1 g &&& (63 ^^^ z.2.1 (B g - 80)) = 0
    · rw [if_pos q] at hq
      rw [(Prod.mk.inj hq).1, (Prod.mk.inj hq).2]
      exact G.zret rfl (by decide) (by have hd : pdS B z g = (z, false) := (by unfold pdS; rw [if_neg (by omega), if_pos hc, if_pos q]); exact ⟨by rw [hd]; rfl, by rw [hd]; exact H⟩) dX2_passDown_87
    rw [if_neg q] at hq
    rw [(Prod.mk.inj hq).1, (Prod.mk.inj hq).2]
    exact G.zret rfl (by decide) ((by have hd : pdS B z g = ((z.1, addM z.2.1 (B g - 80) (z.1 g), z.2.2), true) := (by unfold pdS; rw [if_neg (by omega), if_pos hc, if_neg q]); exact ⟨by rw [hd]; rfl, by rw [hd]; exact fr_in (by omega) H⟩)) dX2_passDown_87
  by_cases hc : kd (B g) = 5
  · refine G.tableIn (tgt := 88) dX2_passDown_8 (by rw [hI0, hc]; decide) (by rw [hI0, hc]; decide) (by rw [hI0, hc]; rfl) (by decide) ?_
    refine G.aload_n (k := 0) rfl dX2_passDown_88 ?_
    refine G.iload_n (k := 1) rfl dX2_passDown_89 ?_
    refine G.iconst (v := 1) (by decide) dX2_passDown_90 ?_
    obtain ⟨n1, n2, eE, d1, d2⟩ := nd_5 hn hc
    have hE1 := nd_E n1
    have l1 := nd_lt n1
    have l2 := nd_lt n2
    refine G.iadd dX2_passDown_91 ?_
    rw [nI_1]
    refine G.aload_n (k := 0) rfl dX2_passDown_92 ?_
    refine G.getr (j := 0) hb.1 gci_X2 (by decide) rfl fl_X2_47 dX2_passDown_93 ?_
    refine G.iload_n (k := 1) rfl dX2_passDown_96 ?_
    refine G.callVif (c_X4_firstLength (e := tE B (g + 1)) (by omega) (h31 _ n1).2.1.1 (by omega)) rfl (gci_X4).1 ml_X2_166 im_yX4_firstLength se_yX4_firstLength gcl_X4_firstLength (by decide) rfl rfl (Nat.le_of_ble_eq_true rfl) dX2_passDown_97 ?_
    refine G.iadd dX2_passDown_100 ?_
    rw [nI_add, show g + 1 + (tE B (g + 1) - g - 1) = tE B (g + 1) by omega]
    refine G.iload_n (k := 2) rfl dX2_passDown_101 ?_
    refine G.callVvf (c_X2_must hb l2) hb.1 (gci_X2).1 ml_X2_146 im_yX2_must se_yX2_must gcl_X2_must (by decide) rfl rfl (Nat.le_of_ble_eq_true rfl) dX2_passDown_102 ?_
    have H2 := fr_must (x := z.1 g) l2 H
    refine G.aload_n (k := 0) rfl dX2_passDown_105 ?_
    refine G.iload_n (k := 1) rfl dX2_passDown_106 ?_
    refine G.iconst (v := 1) (by decide) dX2_passDown_107 ?_
    refine G.iadd dX2_passDown_108 ?_
    rw [nI_1]
    refine G.iload_n (k := 2) rfl dX2_passDown_109 ?_
    refine G.callVvf (c_X2_must hb l1) hb.1 (gci_X2).1 ml_X2_146 im_yX2_must se_yX2_must gcl_X2_must (by decide) rfl rfl (Nat.le_of_ble_eq_true rfl) dX2_passDown_110 ?_
    have H3 := fr_must (x := z.1 g) l1 H2
    refine G.iconst (v := 0) (by decide) dX2_passDown_113 ?_
    exact G.zret rfl (by decide) ((by have hd : pdS B z g = ((addM (addM z.1 (tE B (g + 1)) (z.1 g)) (g + 1) (z.1 g), z.2.1, z.2.2), false) := (by unfold pdS; rw [if_neg (by omega), if_neg (by omega), if_pos hc]); exact ⟨by rw [hd]; rfl, by rw [hd]; exact H3⟩)) dX2_passDown_114
  by_cases hc : kd (B g) = 4
  · refine G.tableIn (tgt := 115) dX2_passDown_8 (by rw [hI0, hc]; decide) (by rw [hI0, hc]; decide) (by rw [hI0, hc]; rfl) (by decide) ?_
    refine G.aload_n (k := 0) rfl dX2_passDown_115 ?_
    refine G.iload_n (k := 1) rfl dX2_passDown_116 ?_
    refine G.iconst (v := 1) (by decide) dX2_passDown_117 ?_
    obtain ⟨n1, eE, d1⟩ := nd_4 hn hc
    have l1 := nd_lt n1
    refine G.iadd dX2_passDown_118 ?_
    rw [nI_1]
    refine G.iload_n (k := 2) rfl dX2_passDown_119 ?_
    refine G.callVvf (c_X2_must hb l1) hb.1 (gci_X2).1 ml_X2_146 im_yX2_must se_yX2_must gcl_X2_must (by decide) rfl rfl (Nat.le_of_ble_eq_true rfl) dX2_passDown_120 ?_
    have H3 := fr_must (x := z.1 g) l1 H
    refine G.iconst (v := 0) (by decide) dX2_passDown_123 ?_
    exact G.zret rfl (by decide) ((by have hd : pdS B z g = ((addM z.1 (g + 1) (z.1 g), z.2.1, z.2.2), false) := (by unfold pdS; rw [if_neg (by omega), if_neg (by omega), if_neg (by omega), if_pos hc]); exact ⟨by rw [hd]; rfl, by rw [hd]; exact H3⟩)) dX2_passDown_124
  by_cases hc : kd (B g) = 6
  · refine G.tableIn (tgt := 125) dX2_passDown_8 (by rw [hI0, hc]; decide) (by rw [hI0, hc]; decide) (by rw [hI0, hc]; rfl) (by decide) ?_
    refine G.aload_n (k := 0) rfl dX2_passDown_125 ?_
    refine G.iload_n (k := 1) rfl dX2_passDown_126 ?_
    refine G.iconst (v := 2) (by decide) dX2_passDown_127 ?_
    obtain ⟨k1, n1, eE, d1⟩ := nd_6 hn hc
    have l1 := nd_lt n1
    have g1 := kd1_ge k1
    refine G.iadd dX2_passDown_128 ?_
    rw [show nI g + 2 = nI (g + 2) from nI_add g 2]
    refine G.iload_n (k := 2) rfl dX2_passDown_129 ?_
    refine G.iconst (v := 1) (by decide) dX2_passDown_130 ?_
    refine G.aload_n (k := 0) rfl dX2_passDown_131 ?_
    refine G.getr (j := 0) hb.1 gci_X2 (by decide) rfl fl_X2_47 dX2_passDown_132 ?_
    refine G.iload_n (k := 1) rfl dX2_passDown_135 ?_
    refine G.iconst (v := 1) (by decide) dX2_passDown_136 ?_
    refine G.iadd dX2_passDown_137 ?_
    rw [nI_1]
    refine G.callVif (c_X4_nameAt (B := B) (by omega) ((h31 _ hn).2.2.1 (Or.inl hc))) rfl (gci_X4).1 ml_X2_128 im_yX4_nameAt se_yX4_nameAt gcl_X4_nameAt (by decide) rfl rfl (Nat.le_of_ble_eq_true rfl) dX2_passDown_138 ?_
    rw [nmv_1 k1]
    refine G.ishl dX2_passDown_141 ?_
    refine G.iconst (v := (-1)) (by decide) dX2_passDown_142 ?_
    refine G.ixor dX2_passDown_143 ?_
    refine G.iand dX2_passDown_144 ?_
    rw [mdel_j _ (h64.1 g) _ (by omega)]
    refine G.callVvf (c_X2_must hb l1) hb.1 (gci_X2).1 ml_X2_146 im_yX2_must se_yX2_must gcl_X2_must (by decide) rfl rfl (Nat.le_of_ble_eq_true rfl) dX2_passDown_145 ?_
    have H3 := fr_must (x := mdel (z.1 g) (B (g + 1) - 97)) l1 H
    refine G.iconst (v := 0) (by decide) dX2_passDown_148 ?_
    exact G.zret rfl (by decide) ((by have hd : pdS B z g = ((addM z.1 (g + 2) (mdel (z.1 g) (B (g + 1) - 97)), z.2.1, z.2.2), false) := (by unfold pdS; rw [if_neg (by omega), if_neg (by omega), if_neg (by omega), if_neg (by omega), if_pos hc]); exact ⟨by rw [hd]; rfl, by rw [hd]; exact H3⟩)) dX2_passDown_149
  by_cases hc : kd (B g) = 7
  · refine G.tableIn (tgt := 150) dX2_passDown_8 (by rw [hI0, hc]; decide) (by rw [hI0, hc]; decide) (by rw [hI0, hc]; rfl) (by decide) ?_
    obtain ⟨k1, k2, n1, eE, d1⟩ := nd_7 hn hc
    have l1 := nd_lt n1
    have g1 := kd1_ge k1
    have g2 := kd1_ge k2
    refine G.ldc ct_X2_63 dX2_passDown_150 ?_
    refine G.aload_n (k := 0) rfl dX2_passDown_152 ?_
    refine G.getr (j := 0) hb.1 gci_X2 (by decide) rfl fl_X2_47 dX2_passDown_153 ?_
    refine G.iload_n (k := 1) rfl dX2_passDown_156 ?_
    refine G.iconst (v := 1) (by decide) dX2_passDown_157 ?_
    refine G.iadd dX2_passDown_158 ?_
    rw [nI_1]
    refine G.callVif (c_X4_nameAt (B := B) (by omega) ((h31 _ hn).2.2.1 (Or.inr hc))) rfl (gci_X4).1 ml_X2_128 im_yX4_nameAt se_yX4_nameAt gcl_X4_nameAt (by decide) rfl rfl (Nat.le_of_ble_eq_true rfl) dX2_passDown_159 ?_
    rw [nmv_1 k1]
    refine G.aload_n (k := 0) rfl dX2_passDown_162 ?_
    refine G.getr (j := 0) hb.1 gci_X2 (by decide) rfl fl_X2_47 dX2_passDown_163 ?_
    refine G.iload_n (k := 1) rfl dX2_passDown_166 ?_
    refine G.iconst (v := 2) (by decide) dX2_passDown_167 ?_
    refine G.iadd dX2_passDown_168 ?_
    rw [show nI g + 2 = nI (g + 2) from nI_add g 2]
    refine G.callVif (c_X4_nameAt (B := B) (by omega) ((h31 _ hn).2.2.2 hc)) rfl (gci_X4).1 ml_X2_128 im_yX4_nameAt se_yX4_nameAt gcl_X4_nameAt (by decide) rfl rfl (Nat.le_of_ble_eq_true rfl) dX2_passDown_169 ?_
    rw [nmv_1 k2]
    refine G.callSif (c_X5_swapFirst (c := tn_id) tn_P_id (show B (g + 1) - 97 < 6 by omega) (show B (g + 2) - 97 < 6 by omega)) ml_X2_169 ws_yX5_swapFirst gcl_X5_swapFirst (by decide) rfl rfl (Nat.le_of_ble_eq_true rfl) dX2_passDown_172 ?_
    rw [tn_id_cmp (tn_P_sw (by omega) (by omega))]
    refine G.ist3 (by decide) rfl dX2_passDown_175 ?_
    refine G.aload_n (k := 0) rfl dX2_passDown_176 ?_
    refine G.iload_n (k := 1) rfl dX2_passDown_177 ?_
    refine G.iconst (v := 3) (by decide) dX2_passDown_178 ?_
    refine G.iadd dX2_passDown_179 ?_
    rw [show nI g + 3 = nI (g + 3) from nI_add g 3]
    refine G.iload_n (k := 3) rfl dX2_passDown_180 ?_
    refine G.iload_n (k := 2) rfl dX2_passDown_181 ?_
    refine G.callSif (c_X5_sources (tn_P_sw (show B (g + 1) - 97 < 6 by omega) (show B (g + 2) - 97 < 6 by omega)).1 (show z.1 g < 2 ^ 31 by omega)) ml_X2_157 ws_yX5_sources gcl_X5_sources (by decide) rfl rfl (Nat.le_of_ble_eq_true rfl) dX2_passDown_182 ?_
    refine G.callVvf (c_X2_must hb l1) hb.1 (gci_X2).1 ml_X2_146 im_yX2_must se_yX2_must gcl_X2_must (by decide) rfl rfl (Nat.le_of_ble_eq_true rfl) dX2_passDown_185 ?_
    have H3 := fr_must (x := tn_ss (tn_sw (B (g + 1) - 97) (B (g + 2) - 97)) (z.1 g)) l1 H
    refine G.iconst (v := 0) (by decide) dX2_passDown_188 ?_
    exact G.zret rfl (by decide) ((by have hd : pdS B z g = ((addM z.1 (g + 3) (tn_ss (tn_sw (B (g + 1) - 97) (B (g + 2) - 97)) (z.1 g)), z.2.1, z.2.2), false) := (by unfold pdS; rw [if_neg (by omega), if_neg (by omega), if_neg (by omega), if_neg (by omega), if_neg (by omega), if_pos hc]); exact ⟨by rw [hd]; rfl, by rw [hd]; exact H3⟩)) dX2_passDown_189
  have hc : kd (B g) = 3 := by omega
  refine G.tableIn (tgt := 190) dX2_passDown_8 (by rw [hI0, hc]; decide) (by rw [hI0, hc]; decide) (by rw [hI0, hc]; rfl) (by decide) ?_
  refine G.iconst (v := 0) (by decide) dX2_passDown_190 ?_
  exact G.zret rfl (by decide) (by have hd : pdS B z g = (z, false) := (by unfold pdS; rw [if_neg (by omega), if_neg (by omega), if_neg (by omega), if_neg (by omega), if_neg (by omega), if_neg (by omega)]); exact ⟨by rw [hd]; rfl, by rw [hd]; exact H⟩) dX2_passDown_191
end T53

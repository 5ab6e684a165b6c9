/-! ===== the model: a solving ===== -/
def fnd2 : Nat → Nat → Nat → Nat → Option Nat
  | 0, _, _, _ => none
  | f + 1, used, s, e => if used.testBit e = true then fnd2 f used s (e + 1) else if s = 0 then some e else fnd2 f used (s - 1) (e + 1)
def ordS : Nat → Nat → Nat → Nat → Nat → Option (List Nat)
  | 0, _, _, _, _ => some []
  | j + 1, pl, used, left, many => match fnd2 8 used (left / many) 0 with
    | none => none
    | some e => match ordS j (pl + 1) (used ||| 2 ^ e) (left % many) (if pl = 0 then 2 else 1) with
      | none => none
      | some es => if e < 4 then some (e :: es) else none
theorem ordS_ok : ∀ k, k < 24 → ordS 4 0 0 k 6 = some (lst (ordE k) 4) := by decide +kernel
theorem dv24 : ∀ a, a < 24 → ∀ m, m < 7 → m ≠ 0 → nI a / nI m = nI (a / m) ∧ nI a - nI a / nI m * nI m = nI (a % m) := by decide +kernel
def gF (σ τ : gS) : Prop := (∀ k, 1 ≤ k → k ≤ 13 → τ k = σ k) ∧ ∀ i, i < 28 → i ≠ 18 → i ≠ 23 → τ 0 i = σ 0 i
theorem gF_rf (σ : gS) : gF σ σ := ⟨fun _ _ _ => rfl, fun _ _ _ _ => rfl⟩
theorem gF_tr {σ τ υ : gS} (h1 : gF σ τ) (h2 : gF τ υ) : gF σ υ := ⟨fun k a b => (h2.1 k a b).trans (h1.1 k a b), fun i a b c => (h2.2 i a b c).trans (h1.2 i a b c)⟩
theorem sF_g {σ τ : gS} (h : sF σ τ) : gF σ τ := ⟨fun k a b => h.1 k (by omega) (by omega), fun i a _ _ => h.2 i (by omega)⟩
theorem hF_g {σ τ : gS} (h : hF σ τ) : gF σ τ := ⟨fun k a b => h.1 k (by omega) (by omega) (by omega) (by omega) (by omega) (by omega), fun i a b c => h.2 i b c (by omega)⟩
theorem gF_Q {σ τ : gS} (h : gF σ τ) : mQ σ τ := ⟨fun k a b => h.1 k (by omega) (by omega), h.2 4 (by decide) (by decide) (by decide)⟩
theorem gF_M {σ τ : gS} {ln B : Nat → Nat} (h : gF σ τ) (hT : TM σ ln B) (hM : MR σ ln B) : TM τ ln B ∧ MR τ ln B := ⟨TM_F (h.1 5 (by decide) (by decide)) (h.1 6 (by decide) (by decide)) hT, MR_F (fun k a b => h.1 k (by omega) (by omega)) (h.2 13 (by decide) (by decide) (by decide)) hT hM⟩
def RQM (τ : gS) (B : Nat → Nat) (R : uS × Nat × Int32) : Prop := VM τ B R.1.1 ∧ τ 0 32 = nI (uwhy B R) ∧ τ 0 33 = R.2.2 ∧ τ 0 34 = nI (600 - R.2.1) ∧ (R.1.2.2.2.2 = 0 → ∀ u, u < 6 → τ 19 u = nI (uMu B R u))
def ZZ (σ0 τ : gS) (B ln td : Nat → Nat) (z : uS × Nat × Int32) : Prop := UM0 τ B td z.1 ∧ uG B ln z.1 ∧ z.2.1 ≤ 600 ∧ z.1.2.2.2.1.length + z.2.1 ≤ 600 ∧ τ 0 32 = nI z.1.2.2.2.2 ∧ τ 0 33 = z.2.2 ∧ τ 0 34 = nI (600 - z.2.1) ∧ (z.1.2.2.2.2 = 0 → z.2.2 = -1) ∧ sF σ0 τ
theorem ZZ_one {σ0 σ τ : gS} {B ln td : Nat → Nat} {z : uS × Nat × Int32} {e : Nat} (hZ : ZZ σ0 σ B ln td z) (hn : nd B ln (60 * e) ∧ nd B ln (60 * e + 30)) (hp : solP σ τ B ln td e (urun false B z.2.1 (z.1.1, [((60 * e, tn_id), (60 * e + 30, tn_id))], z.1.2.2.1, z.1.2.2.2.1, z.1.2.2.2.2))) : ZZ σ0 τ B ln td (uone false B e z) := by
  obtain ⟨a1, a2, a3, a4, a5, a6, a7⟩ := hp
  have hG0 : uG B ln (z.1.1, [((60 * e, tn_id), (60 * e + 30, tn_id))], z.1.2.2.1, z.1.2.2.2.1, z.1.2.2.2.2) := ⟨hZ.2.1.1, hZ.2.1.2.1, fun y hy => by rw [List.mem_singleton.mp hy]; exact ⟨hn.1, tn_P_id, hn.2, tn_P_id⟩, hZ.2.1.2.2.2⟩
  have hG := urun_G (ln := ln) false z.2.1 _ hG0
  obtain ⟨y, hy⟩ : ∃ y, urun false B z.2.1 (z.1.1, [((60 * e, tn_id), (60 * e + 30, tn_id))], z.1.2.2.1, z.1.2.2.2.1, z.1.2.2.2.2) = y := ⟨_, rfl⟩
  rw [hy] at a1 a2 a3 a4 a5 a6 hG
  have hu : uone false B e z = ((y.1.1, y.1.2.1, y.1.2.2.1, y.1.2.2.2.1, wfin y.1), y.2, if wfin y.1 = 0 then -1 else nI e) := by rw [← hy]; rfl
  rw [hu]
  refine ⟨UM_0 a1, ⟨hG.1, hG.2.1, hG.2.2.1, hG.2.2.2.1, hG.2.2.2.2.1, ?_⟩, a5, a6, a2, a3, a4, fun h => if_pos h, sF_tr hZ.2.2.2.2.2.2.2.2 a7⟩
  show wfin y.1 < 8
  unfold wfin
  split
  · decide
  · exact hG.2.2.2.2.2
section TA0
variable {l : Launch} {D : va_G} {cA : ClassId} {ad : Nat → Nat}
variable {σ σ0 : gS}
set_option maxHeartbeats 4000000 in
set_option maxRecDepth 100000 in
theorem lw_X7_solving {Q : Option Value → gS → Prop} {a1 a2 a4 a5 a6 : Int32} {used r : Nat} (hu : used < 16) (K : G (XM l D cA ad) mX7_solving Q 114 [some (.ref 0), some (.int a1), some (.int a2), some (.int (nI used)), some (.int a4), some (.int a5), some (.int a6), some (.int (-1)), some (.int (nI r))] [] σ) : ∀ f s e, fnd2 f used s e = some r → s < 100 → e + f < 30 → G (XM l D cA ad) mX7_solving Q 84 [some (.ref 0), some (.int a1), some (.int a2), some (.int (nI used)), some (.int a4), some (.int a5), some (.int a6), some (.int (nI s)), some (.int (nI e + (-1)))] [] σ := by
  intro f
  induction f with
  | zero => intro s e h; cases h
  | succ f ih =>
    intro s e h hs he
    rw [fnd2] at h
    refine G.iload (i := 7) rfl dX7_solving_84 ?_
    refine G.if_lt (tgt := 114) (by decide) dX7_solving_86 (fun c_86 => absurd c_86 (nI_pos (by omega))) (fun c_86 => ?_)
    refine G.inc8 (d := 1) (by decide) (by decide) rfl dX7_solving_89 ?_
    rw [show nI e + (-1) + 1 = nI e by rw [Int32.add_assoc]; exact Int32.add_zero _]
    refine G.iload (i := 7) rfl dX7_solving_92 ?_
    refine G.iload_n (k := 3) rfl dX7_solving_94 ?_
    refine G.iload (i := 8) rfl dX7_solving_95 ?_
    refine G.callSif (c_X7_isIn (b := used) (n := e) (by omega) (by omega)) ml_X7_200 ws_yX7_isIn gcl_X7_isIn (by decide) rfl rfl (Nat.le_of_ble_eq_true rfl) dX7_solving_97 ?_
    refine G.if_eq (tgt := 107) (by decide) dX7_solving_100 (fun c_100 => ?_) (fun c_100 => ?_)
    · have hb := bo_0.mp c_100
      rw [if_neg hb] at h
      refine G.iconst (v := 1) (by decide) dX7_solving_107 ?_
      refine G.isub dX7_solving_108 ?_
      refine G.ist7 (by decide) rfl dX7_solving_109 ?_
      refine G.goto (tgt := 84) (by decide) dX7_solving_111 ?_
      first
      | (rw [show nI s - 0 = nI s from Int32.sub_zero _, show nI e = nI (e + 1) + (-1) by rw [nu_dec (by omega)]; rfl]
         exact ih s (e + 1) h hs (by omega))
      | (by_cases hs0 : s = 0
         · rw [if_pos hs0] at h
           cases h
           subst hs0
           refine G.iload (i := 7) rfl dX7_solving_84 ?_
           refine G.if_lt (tgt := 114) (by decide) dX7_solving_86 (fun c_86 => ?_) (fun c_86 => absurd (by decide) c_86)
           exact K
         · rw [if_neg hs0] at h
           rw [show nI s - 1 = nI (s - 1) from nu_sub (b := 1) (by omega), show nI e = nI (e + 1) + (-1) by rw [nu_dec (by omega)]; rfl]
           exact ih (s - 1) (e + 1) h (by omega) (by omega))
    · have hb := bo_n.mp c_100
      rw [if_pos hb] at h
      refine G.iconst (v := 0) (by decide) dX7_solving_103 ?_
      refine G.goto (tgt := 108) (by decide) dX7_solving_104 ?_
      refine G.isub dX7_solving_108 ?_
      refine G.ist7 (by decide) rfl dX7_solving_109 ?_
      refine G.goto (tgt := 84) (by decide) dX7_solving_111 ?_
      first
      | (rw [show nI s - 0 = nI s from Int32.sub_zero _, show nI e = nI (e + 1) + (-1) by rw [nu_dec (by omega)]; rfl]
         exact ih s (e + 1) h hs (by omega))
      | (by_cases hs0 : s = 0
         · rw [if_pos hs0] at h
           cases h
           subst hs0
           refine G.iload (i := 7) rfl dX7_solving_84 ?_
           refine G.if_lt (tgt := 114) (by decide) dX7_solving_86 (fun c_86 => ?_) (fun c_86 => absurd (by decide) c_86)
           exact K
         · rw [if_neg hs0] at h
           rw [show nI s - 1 = nI (s - 1) from nu_sub (b := 1) (by omega), show nI e = nI (e + 1) + (-1) by rw [nu_dec (by omega)]; rfl]
           exact ih (s - 1) (e + 1) h (by omega) (by omega))
set_option maxHeartbeats 4000000 in
set_option maxRecDepth 100000 in
theorem l1_X7_solving {ln B td : Nat → Nat} {wm : Nat} {but : Int32} (hT : TM σ0 ln B) (hM : MR σ0 ln B) (htd : td = tdA ln B) (hbut : ∀ e, e < 4 → (nI e = but ↔ wm.testBit e = false)) {R : uS × Nat × Int32} {x1 : Int32} : ∀ j pl used left many es z (τ : gS) (y7 y8 : Option Value), pl + j = 4 → used < 16 → left < 24 → (many < 7 ∧ many ≠ 0) → ordS j pl used left many = some es → ZZ σ0 τ B ln td z → useq false B (fun e => wm.testBit e && thA ln B e) es z = R → G (XM l D cA ad) mX7_solving (g_rv (fun τ => RQM τ B R ∧ gF σ0 τ)) 68 [some (.ref 0), some (.int x1), some (.int but), some (.int (nI used)), some (.int (nI left)), some (.int (nI many)), some (.int (nI pl)), y7, y8] [] τ := by
  have hN : ∀ g, nd B ln g → PrM σ0 B g := fun g hg => MR_nd hM hg
  intro j
  induction j with
  | zero =>
    intro pl used left many es z τ y7 y8 hj hu hl hm ho hZ hR
    have hpl : pl = 4 := by omega
    subst hpl
    rw [ordS] at ho
    cases ho
    have hzR : z = R := hR
    subst hzR
    have h8 := hZ.2.1.2.2.2.2.2
    by_cases h0 : z.1.2.2.2.2 = 0
    · have h32 : τ 0 32 = 0 := by rw [hZ.2.2.2.2.1, h0]; rfl
      refine G.iload (i := 6) rfl dX7_solving_68 ?_
      refine G.iconst (v := 4) (by decide) dX7_solving_70 ?_
      refine G.icmp_ge (tgt := 174) (by decide) dX7_solving_71 (fun c_71 => ?_) (fun c_71 => absurd (by decide) c_71)
      refine G.aload_n (k := 0) rfl dX7_solving_174 ?_
      refine G.geti (j := 32) rfl gci_X7 (by decide) rfl fl_X7_335 dX7_solving_175 ?_
      rw [h32]
      refine G.if_ne (tgt := 185) (by decide) dX7_solving_178 (fun c_178 => absurd rfl c_178) (fun c_178 => ?_)
      refine G.aload_n (k := 0) rfl dX7_solving_181 ?_
      refine G.callVv (c_X7_freshens (S := z.1) (fun g hg => sF_P hZ.2.2.2.2.2.2.2.2 (hN g hg)) hZ.1 hZ.2.1 h0 (fun u hu => by rw [hZ.2.2.2.2.2.2.2.2.1 12 (by decide) (by decide), htd]; exact MR_12 hM u hu) (by have := hZ.2.2.2.1; omega)) rfl (gci_X7).1 ml_X7_351 im_yX7_freshens se_yX7_freshens gcl_X7_freshens (by decide) rfl rfl (Nat.le_of_ble_eq_true rfl) dX7_solving_182 (fun τ2 hq2 => ?_)
      exact G.vret rfl (⟨⟨hF_V hq2.2 hZ.1.1, (hq2.1 z.2.1 z.2.2).1, by rw [hq2.2.2 33 (by decide) (by decide) (by decide)]; exact hZ.2.2.2.2.2.1, by rw [hq2.2.2 34 (by decide) (by decide) (by decide)]; exact hZ.2.2.2.2.2.2.1, fun _ => (hq2.1 z.2.1 z.2.2).2⟩, gF_tr (sF_g hZ.2.2.2.2.2.2.2.2) (hF_g hq2.2)⟩) dX7_solving_185
    · have hfin : RQM τ B z ∧ gF σ0 τ := ⟨⟨hZ.1.1, by rw [hZ.2.2.2.2.1]; unfold uwhy; rw [if_pos h0], hZ.2.2.2.2.2.1, hZ.2.2.2.2.2.2.1, fun h => absurd h h0⟩, sF_g hZ.2.2.2.2.2.2.2.2⟩
      refine G.iload (i := 6) rfl dX7_solving_68 ?_
      refine G.iconst (v := 4) (by decide) dX7_solving_70 ?_
      refine G.icmp_ge (tgt := 174) (by decide) dX7_solving_71 (fun c_71 => ?_) (fun c_71 => absurd (by decide) c_71)
      refine G.aload_n (k := 0) rfl dX7_solving_174 ?_
      refine G.geti (j := 32) rfl gci_X7 (by decide) rfl fl_X7_335 dX7_solving_175 ?_
      rw [hZ.2.2.2.2.1]
      refine G.if_ne (tgt := 185) (by decide) dX7_solving_178 (fun c_178 => ?_) (fun c_178 => absurd ((nI_eq (show z.1.2.2.2.2 < 2 ^ 31 by omega) (show 0 < 2 ^ 31 by decide)).mp c_178) h0)
      exact G.vret rfl (hfin) dX7_solving_185
  | succ j ih =>
    intro pl used left many es z τ y7 y8 hj hu hl hm ho hZ hR
    obtain ⟨d1, d2⟩ := dv24 left hl many hm.1 hm.2
    have hne : nI many ≠ 0 := fun e => hm.2 ((nI_eq (show many < 2 ^ 31 by omega) (show 0 < 2 ^ 31 by decide)).mp e)
    have hq1 : left / many < 24 := Nat.lt_of_le_of_lt (Nat.div_le_self _ _) hl
    have hq2 : left % many < 24 := Nat.lt_of_le_of_lt (Nat.mod_le _ _) hl
    have h8 := hZ.2.1.2.2.2.2.2
    rw [ordS] at ho
    cases hf : fnd2 8 used (left / many) 0 with
    | none => rw [hf] at ho; cases ho
    | some e =>
      rw [hf] at ho
      replace ho : (match ordS j (pl + 1) (used ||| 2 ^ e) (left % many) (if pl = 0 then 2 else 1) with
        | none => none
        | some es => if e < 4 then some (e :: es) else none) = some es := ho
      cases ho2 : ordS j (pl + 1) (used ||| 2 ^ e) (left % many) (if pl = 0 then 2 else 1) with
      | none => rw [ho2] at ho; cases ho
      | some es2 =>
        rw [ho2] at ho
        by_cases he4 : e < 4
        · have he : es = e :: es2 := by
            have ho3 : (if e < 4 then some (e :: es2) else none) = some es := ho
            rw [if_pos he4] at ho3
            cases ho3
            rfl
          subst he
          rw [useq_cons] at hR
          have hus : used ||| 2 ^ e < 16 := Nat.or_lt_two_pow (n := 4) hu (sh1_4 e he4).2
          have hml : ∀ m2, (if pl = 0 then 2 else 1) = m2 → m2 < 7 ∧ m2 ≠ 0 := fun m2 h => by rw [← h]; split <;> decide
          refine G.iload (i := 6) rfl dX7_solving_68 ?_
          refine G.iconst (v := 4) (by decide) dX7_solving_70 ?_
          refine G.icmp_ge (tgt := 174) (by decide) dX7_solving_71 (fun c_71 => absurd c_71 (nI_ge (b := 4) (by omega) (by decide))) (fun c_71 => ?_)
          refine G.iload (i := 4) rfl dX7_solving_74 ?_
          refine G.iload (i := 5) rfl dX7_solving_76 ?_
          refine G.idiv (hne) dX7_solving_78 ?_
          rw [d1]
          refine G.ist7 (by decide) rfl dX7_solving_79 ?_
          refine G.iconst (v := (-1)) (by decide) dX7_solving_81 ?_
          refine G.ist8 (by decide) rfl dX7_solving_82 ?_
          refine lw_X7_solving hu ?_ 8 (left / many) 0 hf (by omega) (by omega)
          refine G.iload_n (k := 3) rfl dX7_solving_114 ?_
          refine G.iconst (v := 1) (by decide) dX7_solving_115 ?_
          refine G.iload (i := 8) rfl dX7_solving_116 ?_
          refine G.ishl dX7_solving_118 ?_
          rw [(sh1_4 e he4).1]
          refine G.ior dX7_solving_119 ?_
          rw [nu_or]
          refine G.ist3 (by decide) rfl dX7_solving_120 ?_
          refine G.iload (i := 4) rfl dX7_solving_121 ?_
          refine G.iload (i := 5) rfl dX7_solving_123 ?_
          refine G.irem (hne) dX7_solving_125 ?_
          rw [d2]
          refine G.ist4 (by decide) rfl dX7_solving_126 ?_
          refine G.iload (i := 6) rfl dX7_solving_128 ?_
          refine G.if_ne (tgt := 137) (by decide) dX7_solving_130 (fun c_130 => ?_) (fun c_130 => ?_)
          · have hpl : ¬ pl = 0 := fun e => c_130 (by rw [e]; rfl)
            rw [if_neg hpl] at ho2
            have hmm := hml 1 (if_neg hpl)
            refine G.iconst (v := 1) (by decide) dX7_solving_137 ?_
            refine G.ist5 (by decide) rfl dX7_solving_138 ?_
            obtain ⟨hT2, hM2⟩ := gF_M (sF_g hZ.2.2.2.2.2.2.2.2) hT hM
            refine G.aload_n (k := 0) rfl dX7_solving_140 ?_
            refine G.geti (j := 32) rfl gci_X7 (by decide) rfl fl_X7_335 dX7_solving_141 ?_
            rw [hZ.2.2.2.2.1]
            refine G.if_ne (tgt := 168) (by decide) dX7_solving_144 (fun c_144 => ?_) (fun c_144 => ?_)
            · have h0 : ¬ z.1.2.2.2.2 = 0 := fun e => c_144 (by rw [e]; rfl)
              rw [if_neg (fun y => h0 y.1)] at hR
              refine G.inc6 (d := 1) (by decide) (by decide) rfl dX7_solving_168 ?_
              refine G.goto (tgt := 68) (by decide) dX7_solving_171 ?_
              rw [nI_1]
              first
              | exact ih (pl + 1) _ _ 1 es2 _ τ2 _ _ (by omega) hus hq2 hmm ho2 hZ2 hR
              | exact ih (pl + 1) _ _ 1 es2 z τ _ _ (by omega) hus hq2 hmm ho2 hZ hR
              | exact ih (pl + 1) _ _ 2 es2 _ τ2 _ _ (by omega) hus hq2 hmm ho2 hZ2 hR
              | exact ih (pl + 1) _ _ 2 es2 z τ _ _ (by omega) hus hq2 hmm ho2 hZ hR
            · have h0 : z.1.2.2.2.2 = 0 := (nI_eq (show z.1.2.2.2.2 < 2 ^ 31 by omega) (show 0 < 2 ^ 31 by decide)).mp c_144
              refine G.iload (i := 8) rfl dX7_solving_147 ?_
              refine G.iload_n (k := 2) rfl dX7_solving_149 ?_
              refine G.icmp_eq (tgt := 168) (by decide) dX7_solving_150 (fun c_150 => ?_) (fun c_150 => ?_)
              · have hb : wm.testBit e = false := (hbut e he4).mp c_150
                rw [if_neg (fun y => by have := y.2; rw [hb] at this; cases this)] at hR
                refine G.inc6 (d := 1) (by decide) (by decide) rfl dX7_solving_168 ?_
                refine G.goto (tgt := 68) (by decide) dX7_solving_171 ?_
                rw [nI_1]
                first
                | exact ih (pl + 1) _ _ 1 es2 _ τ2 _ _ (by omega) hus hq2 hmm ho2 hZ2 hR
                | exact ih (pl + 1) _ _ 1 es2 z τ _ _ (by omega) hus hq2 hmm ho2 hZ hR
                | exact ih (pl + 1) _ _ 2 es2 _ τ2 _ _ (by omega) hus hq2 hmm ho2 hZ2 hR
                | exact ih (pl + 1) _ _ 2 es2 z τ _ _ (by omega) hus hq2 hmm ho2 hZ hR
              · have hb : wm.testBit e = true := by
                  cases y : wm.testBit e with
                  | true => rfl
                  | false => exact absurd ((hbut e he4).mpr y) c_150
                refine G.aload_n (k := 0) rfl dX7_solving_153 ?_
                refine G.iload (i := 8) rfl dX7_solving_154 ?_
                refine G.callVif (c_X7_isThere hT2 hM2 he4) rfl (gci_X7).1 ml_X7_320 im_yX7_isThere se_yX7_isThere gcl_X7_isThere (by decide) rfl rfl (Nat.le_of_ble_eq_true rfl) dX7_solving_156 ?_
                refine G.if_eq (tgt := 168) (by decide) dX7_solving_159 (fun c_159 => ?_) (fun c_159 => ?_)
                · have ht := bo_0.mp c_159
                  rw [if_neg (fun y => by have := y.2; rw [hb] at this; exact ht (by simpa using this))] at hR
                  refine G.inc6 (d := 1) (by decide) (by decide) rfl dX7_solving_168 ?_
                  refine G.goto (tgt := 68) (by decide) dX7_solving_171 ?_
                  rw [nI_1]
                  first
                  | exact ih (pl + 1) _ _ 1 es2 _ τ2 _ _ (by omega) hus hq2 hmm ho2 hZ2 hR
                  | exact ih (pl + 1) _ _ 1 es2 z τ _ _ (by omega) hus hq2 hmm ho2 hZ hR
                  | exact ih (pl + 1) _ _ 2 es2 _ τ2 _ _ (by omega) hus hq2 hmm ho2 hZ2 hR
                  | exact ih (pl + 1) _ _ 2 es2 z τ _ _ (by omega) hus hq2 hmm ho2 hZ hR
                · have ht : thA ln B e = true := bo_n.mp c_159
                  rw [if_pos ⟨h0, by rw [hb, ht]; rfl⟩] at hR
                  have hnn := th_nd (TM_30 hT) he4 ht
                  refine G.aload_n (k := 0) rfl dX7_solving_162 ?_
                  refine G.iload (i := 8) rfl dX7_solving_163 ?_
                  refine G.callVv (c_X7_solves (S := z.1) (f := z.2.1) (td := td) (fun g hg => sF_P hZ.2.2.2.2.2.2.2.2 (hN g hg)) he4 hnn hZ.1 hZ.2.1 h0 hZ.2.2.1 hZ.2.2.2.1 (by rw [hZ.2.2.2.2.1, h0]; rfl) (by rw [hZ.2.2.2.2.2.1]; exact hZ.2.2.2.2.2.2.2.1 h0) hZ.2.2.2.2.2.2.1) rfl (gci_X7).1 ml_X7_348 im_yX7_solves se_yX7_solves gcl_X7_solves (by decide) rfl rfl (Nat.le_of_ble_eq_true rfl) dX7_solving_165 (fun τ2 hqs => ?_)
                  have hZ2 := ZZ_one hZ hnn hqs
                  refine G.inc6 (d := 1) (by decide) (by decide) rfl dX7_solving_168 ?_
                  refine G.goto (tgt := 68) (by decide) dX7_solving_171 ?_
                  rw [nI_1]
                  first
                  | exact ih (pl + 1) _ _ 1 es2 _ τ2 _ _ (by omega) hus hq2 hmm ho2 hZ2 hR
                  | exact ih (pl + 1) _ _ 1 es2 z τ _ _ (by omega) hus hq2 hmm ho2 hZ hR
                  | exact ih (pl + 1) _ _ 2 es2 _ τ2 _ _ (by omega) hus hq2 hmm ho2 hZ2 hR
                  | exact ih (pl + 1) _ _ 2 es2 z τ _ _ (by omega) hus hq2 hmm ho2 hZ hR
          · have hpl : pl = 0 := (nI_eq (show pl < 2 ^ 31 by omega) (show 0 < 2 ^ 31 by decide)).mp c_130
            rw [if_pos hpl] at ho2
            have hmm := hml 2 (if_pos hpl)
            refine G.iconst (v := 2) (by decide) dX7_solving_133 ?_
            refine G.goto (tgt := 138) (by decide) dX7_solving_134 ?_
            refine G.ist5 (by decide) rfl dX7_solving_138 ?_
            obtain ⟨hT2, hM2⟩ := gF_M (sF_g hZ.2.2.2.2.2.2.2.2) hT hM
            refine G.aload_n (k := 0) rfl dX7_solving_140 ?_
            refine G.geti (j := 32) rfl gci_X7 (by decide) rfl fl_X7_335 dX7_solving_141 ?_
            rw [hZ.2.2.2.2.1]
            refine G.if_ne (tgt := 168) (by decide) dX7_solving_144 (fun c_144 => ?_) (fun c_144 => ?_)
            · have h0 : ¬ z.1.2.2.2.2 = 0 := fun e => c_144 (by rw [e]; rfl)
              rw [if_neg (fun y => h0 y.1)] at hR
              refine G.inc6 (d := 1) (by decide) (by decide) rfl dX7_solving_168 ?_
              refine G.goto (tgt := 68) (by decide) dX7_solving_171 ?_
              rw [nI_1]
              first
              | exact ih (pl + 1) _ _ 1 es2 _ τ2 _ _ (by omega) hus hq2 hmm ho2 hZ2 hR
              | exact ih (pl + 1) _ _ 1 es2 z τ _ _ (by omega) hus hq2 hmm ho2 hZ hR
              | exact ih (pl + 1) _ _ 2 es2 _ τ2 _ _ (by omega) hus hq2 hmm ho2 hZ2 hR
              | exact ih (pl + 1) _ _ 2 es2 z τ _ _ (by omega) hus hq2 hmm ho2 hZ hR
            · have h0 : z.1.2.2.2.2 = 0 := (nI_eq (show z.1.2.2.2.2 < 2 ^ 31 by omega) (show 0 < 2 ^ 31 by decide)).mp c_144
              refine G.iload (i := 8) rfl dX7_solving_147 ?_
              refine G.iload_n (k := 2) rfl dX7_solving_149 ?_
              refine G.icmp_eq (tgt := 168) (by decide) dX7_solving_150 (fun c_150 => ?_) (fun c_150 => ?_)
              · have hb : wm.testBit e = false := (hbut e he4).mp c_150
                rw [if_neg (fun y => by have := y.2; rw [hb] at this; cases this)] at hR
                refine G.inc6 (d := 1) (by decide) (by decide) rfl dX7_solving_168 ?_
                refine G.goto (tgt := 68) (by decide) dX7_solving_171 ?_
                rw [nI_1]
                first
                | exact ih (pl + 1) _ _ 1 es2 _ τ2 _ _ (by omega) hus hq2 hmm ho2 hZ2 hR
                | exact ih (pl + 1) _ _ 1 es2 z τ _ _ (by omega) hus hq2 hmm ho2 hZ hR
                | exact ih (pl + 1) _ _ 2 es2 _ τ2 _ _ (by omega) hus hq2 hmm ho2 hZ2 hR
                | exact ih (pl + 1) _ _ 2 es2 z τ _ _ (by omega) hus hq2 hmm ho2 hZ hR
              · have hb : wm.testBit e = true := by
                  cases y : wm.testBit e with
                  | true => rfl
                  | false => exact absurd ((hbut e he4).mpr y) c_150
                refine G.aload_n (k := 0) rfl dX7_solving_153 ?_
                refine G.iload (i := 8) rfl dX7_solving_154 ?_
                refine G.callVif (c_X7_isThere hT2 hM2 he4) rfl (gci_X7).1 ml_X7_320 im_yX7_isThere se_yX7_isThere gcl_X7_isThere (by decide) rfl rfl (Nat.le_of_ble_eq_true rfl) dX7_solving_156 ?_
                refine G.if_eq (tgt := 168) (by decide) dX7_solving_159 (fun c_159 => ?_) (fun c_159 => ?_)
                · have ht := bo_0.mp c_159
                  rw [if_neg (fun y => by have := y.2; rw [hb] at this; exact ht (by simpa using this))] at hR
                  refine G.inc6 (d := 1) (by decide) (by decide) rfl dX7_solving_168 ?_
                  refine G.goto (tgt := 68) (by decide) dX7_solving_171 ?_
                  rw [nI_1]
                  first
                  | exact ih (pl + 1) _ _ 1 es2 _ τ2 _ _ (by omega) hus hq2 hmm ho2 hZ2 hR
                  | exact ih (pl + 1) _ _ 1 es2 z τ _ _ (by omega) hus hq2 hmm ho2 hZ hR
                  | exact ih (pl + 1) _ _ 2 es2 _ τ2 _ _ (by omega) hus hq2 hmm ho2 hZ2 hR
                  | exact ih (pl + 1) _ _ 2 es2 z τ _ _ (by omega) hus hq2 hmm ho2 hZ hR
                · have ht : thA ln B e = true := bo_n.mp c_159
                  rw [if_pos ⟨h0, by rw [hb, ht]; rfl⟩] at hR
                  have hnn := th_nd (TM_30 hT) he4 ht
                  refine G.aload_n (k := 0) rfl dX7_solving_162 ?_
                  refine G.iload (i := 8) rfl dX7_solving_163 ?_
                  refine G.callVv (c_X7_solves (S := z.1) (f := z.2.1) (td := td) (fun g hg => sF_P hZ.2.2.2.2.2.2.2.2 (hN g hg)) he4 hnn hZ.1 hZ.2.1 h0 hZ.2.2.1 hZ.2.2.2.1 (by rw [hZ.2.2.2.2.1, h0]; rfl) (by rw [hZ.2.2.2.2.2.1]; exact hZ.2.2.2.2.2.2.2.1 h0) hZ.2.2.2.2.2.2.1) rfl (gci_X7).1 ml_X7_348 im_yX7_solves se_yX7_solves gcl_X7_solves (by decide) rfl rfl (Nat.le_of_ble_eq_true rfl) dX7_solving_165 (fun τ2 hqs => ?_)
                  have hZ2 := ZZ_one hZ hnn hqs
                  refine G.inc6 (d := 1) (by decide) (by decide) rfl dX7_solving_168 ?_
                  refine G.goto (tgt := 68) (by decide) dX7_solving_171 ?_
                  rw [nI_1]
                  first
                  | exact ih (pl + 1) _ _ 1 es2 _ τ2 _ _ (by omega) hus hq2 hmm ho2 hZ2 hR
                  | exact ih (pl + 1) _ _ 1 es2 z τ _ _ (by omega) hus hq2 hmm ho2 hZ hR
                  | exact ih (pl + 1) _ _ 2 es2 _ τ2 _ _ (by omega) hus hq2 hmm ho2 hZ2 hR
                  | exact ih (pl + 1) _ _ 2 es2 z τ _ _ (by omega) hus hq2 hmm ho2 hZ hR
        · have ho3 : (if e < 4 then some (e :: es2) else none) = some es := ho
          rw [if_neg he4] at ho3
          cases ho3
set_option maxHeartbeats 4000000 in
set_option maxRecDepth 100000 in
theorem l0_X7_solving {ln B td : Nat → Nat} {wm : Nat} {but : Int32} (hT : TM σ0 ln B) (hM : MR σ0 ln B) (htd : td = tdA ln B) (hbut : ∀ e, e < 4 → (nI e = but ↔ wm.testBit e = false)) {k : Nat} (hk : k < 24) : ∀ j u (τ : gS), u + j = 6 → sF σ0 τ → τ 0 32 = 0 → τ 0 33 = -1 → τ 0 34 = 0 → τ 0 35 = 0 → (∀ v, v < u → τ 16 v = -1 ∧ τ 27 v = 0) → G (XM l D cA ad) mX7_solving (g_rv (fun τ => RQM τ B (usol ln B k wm) ∧ gF σ0 τ)) 22 [some (.ref 0), some (.int (nI k)), some (.int but), some (.int (nI u)), none, none, none, none, none] [] τ := by
  intro j
  induction j with
  | zero =>
    intro u τ hj hF h32 h33 h34 h35 hv
    have hu : u = 6 := by omega
    subst hu
    refine G.iload_n (k := 3) rfl dX7_solving_22 ?_
    refine G.bipush (v := 6) (by decide) dX7_solving_23 ?_
    refine G.icmp_ge (tgt := 56) (by decide) dX7_solving_25 (fun c_25 => ?_) (fun c_25 => absurd (by decide) c_25)
    refine G.iconst (v := 0) (by decide) dX7_solving_56 ?_
    refine G.ist3 (by decide) rfl dX7_solving_57 ?_
    refine G.iload_n (k := 1) rfl dX7_solving_58 ?_
    refine G.ist4 (by decide) rfl dX7_solving_59 ?_
    refine G.bipush (v := 6) (by decide) dX7_solving_61 ?_
    refine G.ist5 (by decide) rfl dX7_solving_63 ?_
    refine G.iconst (v := 0) (by decide) dX7_solving_65 ?_
    refine G.ist6 (by decide) rfl dX7_solving_66 ?_
    refine l1_X7_solving hT hM htd hbut (R := usol ln B k wm) 4 0 0 k 6 (lst (ordE k) 4) (((fun _ => none), [], tdA ln B, [], 0), 600, -1) τ none none rfl (by decide) hk (by decide) (ordS_ok k hk) ⟨⟨fun v hv2 => ⟨(hv v hv2).1, fun q hq => (by cases hq)⟩, fun v hv2 => ⟨0, (hv v hv2).2, by decide, by rw [htd]; exact (Nat.or_zero _).symm⟩, trivial, h35⟩, ⟨VG_no B ln, rkd_no B, fun y hy => (by cases hy), tdA64 hT, fun y hy => (by cases hy), (by show 0 < 8; decide)⟩, Nat.le_refl _, Nat.le_refl _, h32, h33, h34, fun _ => rfl, hF⟩ rfl
  | succ j ih =>
    intro u τ hj hF h32 h33 h34 h35 hv
    refine G.iload_n (k := 3) rfl dX7_solving_22 ?_
    refine G.bipush (v := 6) (by decide) dX7_solving_23 ?_
    refine G.icmp_ge (tgt := 56) (by decide) dX7_solving_25 (fun c_25 => absurd c_25 (nI_ge (b := 6) (by omega) (by decide))) (fun c_25 => ?_)
    refine G.aload_n (k := 0) rfl dX7_solving_28 ?_
    refine G.getr (j := 19) rfl gci_X7 (by decide) rfl fl_X7_55 dX7_solving_29 ?_
    refine G.iload_n (k := 3) rfl dX7_solving_32 ?_
    refine G.iconst (v := (-1)) (by decide) dX7_solving_33 ?_
    refine G.iastN (k := u) rfl (rfl) (by omega) (by decide) dX7_solving_34 ?_
    refine G.aload_n (k := 0) rfl dX7_solving_35 ?_
    refine G.getr (j := 20) rfl gci_X7 (by decide) rfl fl_X7_58 dX7_solving_36 ?_
    refine G.iload_n (k := 3) rfl dX7_solving_39 ?_
    refine G.ldc ct_X7_154 dX7_solving_40 ?_
    refine G.iastN (k := u) rfl (rfl) (by omega) (by decide) dX7_solving_42 ?_
    refine G.aload_n (k := 0) rfl dX7_solving_43 ?_
    refine G.getr (j := 39) rfl gci_X7 (by decide) rfl fl_X7_88 dX7_solving_44 ?_
    refine G.iload_n (k := 3) rfl dX7_solving_47 ?_
    refine G.iconst (v := 0) (by decide) dX7_solving_48 ?_
    refine G.iastN (k := u) rfl (rfl) (by omega) (by decide) dX7_solving_49 ?_
    refine G.inc3 (d := 1) (by decide) (by decide) rfl dX7_solving_50 ?_
    refine G.goto (tgt := 22) (by decide) dX7_solving_53 ?_
    rw [nI_1]
    have r : ∀ i, up2 (up2 (up2 τ 16 u (-1)) 17 u 181896) 27 u 0 0 i = τ 0 i := fun i => by rw [up2_ne _ _ _ (by decide), up2_ne _ _ _ (by decide), up2_ne _ _ _ (by decide)]
    refine ih (u + 1) _ (by omega) (sF_tr hF ⟨fun k a b => by rw [up2_ne _ _ _ (by omega), up2_ne _ _ _ (by omega), up2_ne _ _ _ (by omega)], fun i _ => r i⟩) ((r 32).trans h32) ((r 33).trans h33) ((r 34).trans h34) ((r 35).trans h35) (fun v hv2 => ?_)
    by_cases e9 : v = u
    · subst e9
      exact ⟨by rw [up2_ne _ _ _ (by decide), up2_ne _ _ _ (by decide), up2_at], up2_at _ _ _ _⟩
    · exact ⟨by rw [up2_ne _ _ _ (by decide), up2_ne _ _ _ (by decide), up2_r, if_neg (fun y => e9 y.2)]; exact (hv v (by omega)).1, by rw [up2_r, if_neg (fun y => e9 y.2), up2_ne _ _ _ (by decide), up2_ne _ _ _ (by decide)]; exact (hv v (by omega)).2⟩
set_option maxHeartbeats 4000000 in
set_option maxRecDepth 100000 in
theorem c_X7_solving {ln B : Nat → Nat} {wm k : Nat} {but : Int32} (hT : TM σ ln B) (hM : MR σ ln B) (hbut : ∀ e, e < 4 → (nI e = but ↔ wm.testBit e = false)) (hk : k < 24) : GM (XM l D cA ad) mX7_solving [.ref 0, .int (nI k), .int but] σ (g_rv (fun τ => RQM τ B (usol ln B k wm) ∧ gF σ τ)) := by
  refine GM.of (ls := [some (.ref 0), some (.int (nI k)), some (.int but), none, none, none, none, none, none]) (by decide) (Nat.le_of_ble_eq_true rfl) rfl ?_
  refine G.aload_n (k := 0) rfl dX7_solving_0 ?_
  refine G.iconst (v := 0) (by decide) dX7_solving_1 ?_
  refine G.put (j := 32) rfl gci_X7 gcp_X7 (by decide) rfl rfl rfl rfl fl_X7_335 dX7_solving_2 ?_
  refine G.aload_n (k := 0) rfl dX7_solving_5 ?_
  refine G.iconst (v := (-1)) (by decide) dX7_solving_6 ?_
  refine G.put (j := 33) rfl gci_X7 gcp_X7 (by decide) rfl rfl rfl rfl fl_X7_345 dX7_solving_7 ?_
  refine G.aload_n (k := 0) rfl dX7_solving_10 ?_
  refine G.iconst (v := 0) (by decide) dX7_solving_11 ?_
  refine G.put (j := 34) rfl gci_X7 gcp_X7 (by decide) rfl rfl rfl rfl fl_X7_338 dX7_solving_12 ?_
  refine G.aload_n (k := 0) rfl dX7_solving_15 ?_
  refine G.iconst (v := 0) (by decide) dX7_solving_16 ?_
  refine G.put (j := 35) rfl gci_X7 gcp_X7 (by decide) rfl rfl rfl rfl fl_X7_332 dX7_solving_17 ?_
  refine G.iconst (v := 0) (by decide) dX7_solving_20 ?_
  refine G.ist3 (by decide) rfl dX7_solving_21 ?_
  exact l0_X7_solving hT hM rfl hbut hk 6 0 _ rfl ⟨fun k a _ => by rw [up2_ne _ _ _ a, up2_ne _ _ _ a, up2_ne _ _ _ a, up2_ne _ _ _ a], fun i h => by rw [up2_r, if_neg (fun y => by omega), up2_r, if_neg (fun y => by omega), up2_r, if_neg (fun y => by omega), up2_r, if_neg (fun y => by omega)]⟩ (by rw [up2_r, if_neg (by decide), up2_r, if_neg (by decide), up2_r, if_neg (by decide), up2_at]) (by rw [up2_r, if_neg (by decide), up2_r, if_neg (by decide), up2_at]) (by rw [up2_r, if_neg (by decide), up2_at]) (up2_at _ _ _ _) (fun v hv => absurd hv (Nat.not_lt_zero _))
end TA0

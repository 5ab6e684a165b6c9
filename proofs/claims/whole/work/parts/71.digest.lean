/-! ===== digest ===== -/
def hx (h : Int64) (x : Int32) : Int64 := 31 * h + x.toInt64
def itF (f : Nat → Int64 → Int64) : Nat → Nat → Int64 → Int64
  | 0, _, h => h
  | j + 1, i, h => itF f j (i + 1) (f i h)
theorem pm_s : ∀ i, i < 62 → nI i - 1 + 1 = nI (i + 1) - 1 := by decide +kernel
theorem pm15 : ∀ i, i < 16 → ¬ (15 : Int32) ≤ nI i - 1 := by decide +kernel
theorem pm30 : ∀ i, i < 31 → ¬ (30 : Int32) ≤ nI i - 1 := by decide +kernel
theorem pm60 : ∀ i, i < 61 → ¬ (60 : Int32) ≤ nI i - 1 := by decide +kernel
section D71
variable (ln B : Nat → Nat) (lat : Int32)
noncomputable def dgA (w : Nat) (h : Int64) : Int64 := hx h (sp_count ln B lat (nI w))
noncomputable def dgB (t : Nat) (h : Int64) : Int64 := hx h (sp_fault ln B (nI t))
noncomputable def dgC (n : Nat) (h : Int64) : Int64 := hx (hx (hx (hx h (sp_turn ln B (nI n) 0)) (sp_turn ln B (nI n) 1)) (sp_power ln B (nI n) 2)) (sp_power ln B (nI n) (-3))
noncomputable def dgD (w : Nat) (h : Int64) : Int64 := hx h (sp_rounds ln B (nI w))
noncomputable def dgE (i : Nat) (h : Int64) : Int64 := hx h (sp_shows ln B (nI i - 1))
noncomputable def dgF1 (t : Nat) (w : Nat) (h : Int64) : Int64 := hx h (sp_term ln B (nI t) (nI w))
noncomputable def dgF2 (t : Nat) (i : Nat) (h : Int64) : Int64 := hx (hx h (sp_shown ln B tn_id (nI t) (nI i - 1))) (sp_shown ln B (ttA ln B) (nI t) (nI i - 1))
noncomputable def dgF (t : Nat) (h : Int64) : Int64 := itF (dgF2 ln B t) 31 0 (itF (dgF1 ln B t) 4 0 h)
noncomputable def dgG (e : Nat) (h : Int64) : Int64 := hx h (sp_alike ln B (nI e))
noncomputable def dgH (w : Nat) (h : Int64) : Int64 := hx h (sp_solved ln B (nI w))
noncomputable def dgI1 (u : Nat) (i : Nat) (h : Int64) : Int64 := hx h (sp_value ln B (nI u) (nI i - 1))
noncomputable def dgI (u : Nat) (h : Int64) : Int64 := hx (hx (itF (dgI1 ln B u) 61 0 h) (sp_fresh ln B (nI u))) (sp_needs ln B (nI u))
noncomputable def dgJ1 (k : Nat) (w : Nat) (h : Int64) : Int64 := hx h (sp_way ln B (nI k) (nI w))
noncomputable def dgJ (k : Nat) (h : Int64) : Int64 := itF (dgJ1 ln B k) 4 0 h
noncomputable def sp_digest : Int64 := hx (itF (dgJ ln B) 24 0 (itF (dgI ln B) 6 0 (itF (dgH ln B) 4 0 (itF (dgG ln B) 4 0 (itF (dgF ln B) 8 0 (itF (dgE ln B) 16 0 (itF (dgD ln B) 4 0 (itF (dgC ln B) 6 0 (itF (dgB ln B) 10 0 (itF (dgA ln B lat) 8 0 17)))))))))) (sp_spare ln B)
end D71
section T71
variable {l : Launch} {D : va_G} {cA : ClassId} {ad : Nat → Nat}
variable {σ σ0 : gS}
set_option maxHeartbeats 4000000 in
set_option maxRecDepth 100000 in
theorem lg_A {ln B : Nat → Nat} {P : Int64 → gS → Prop} {y4 : Option Value} : ∀ j i h (σ : gS), i + j = 8 → IX σ ln B → qF σ0 σ → (∀ σ' , IX σ' ln B → qF σ0 σ' → G (XC l D cA ad) mX6_digest (g_rl P) 31 [some (.ref 0), some (.long (itF (dgA ln B (σ0 12 3)) j i h)), none, some (.int (nI 8)), y4] [] σ') → G (XC l D cA ad) mX6_digest (g_rl P) 6 [some (.ref 0), some (.long (h)), none, some (.int (nI i)), y4] [] σ := by
  intro j
  induction j with
  | zero =>
    intro i h σ  hi hI hF K
    have hi2 : i = 8 := by omega
    subst hi2
    refine G.iload_n (k := 3) rfl dX6_digest_6 ?_
    refine G.bipush (v := 8) (by decide) dX6_digest_7 ?_
    refine G.icmp_ge (tgt := 31) (by decide) dX6_digest_9 (fun c_9 => ?_) (fun c_9 => absurd (by decide) c_9)
    exact K σ  hI hF
  | succ j ih =>
    intro i h σ  hi hI hF K
    refine G.iload_n (k := 3) rfl dX6_digest_6 ?_
    refine G.bipush (v := 8) (by decide) dX6_digest_7 ?_
    refine G.icmp_ge (tgt := 31) (by decide) dX6_digest_9 (fun c_9 => absurd c_9 (nI_ge (b := 8) (by omega) (by decide))) (fun c_9 => ?_)
    refine G.ldc2 ct_X6_229 dX6_digest_12 ?_
    refine G.lload_n (k := 1) rfl dX6_digest_15 ?_
    refine G.lmul dX6_digest_16 ?_
    refine G.aload_n (k := 0) rfl dX6_digest_17 ?_
    refine G.iload_n (k := 3) rfl dX6_digest_18 ?_
    refine G.callVi (c_X6_count hI) rfl (gci_X6).1 ml_X6_231 im_yX6_count se_yX6_count gcl_X6_count (by decide) rfl rfl (Nat.le_of_ble_eq_true rfl) dX6_digest_19 (fun r19 τ19 hr19 => ?_)
    obtain ⟨e19, hI19, hQ19⟩ := hr19
    subst e19
    have hF19 := qF_tr hF hQ19
    rw [show σ 12 3 = σ0 12 3 by rw [hF 12 (by decide)]]
    refine G.i2l dX6_digest_22 ?_
    refine G.ladd dX6_digest_23 ?_
    refine G.lst1 (by decide) rfl dX6_digest_24 ?_
    refine G.inc3 (d := 1) (by decide) (by decide) rfl dX6_digest_25 ?_
    refine G.goto (tgt := 6) (by decide) dX6_digest_28 ?_
    rw [nI_1]
    exact ih (i + 1) _ _ (by omega) hI19 hF19 K
set_option maxHeartbeats 4000000 in
set_option maxRecDepth 100000 in
theorem lg_B {ln B : Nat → Nat} {P : Int64 → gS → Prop} {y4 : Option Value} : ∀ j i h (σ : gS), i + j = 10 → IX σ ln B → qF σ0 σ → (∀ σ' , IX σ' ln B → qF σ0 σ' → G (XC l D cA ad) mX6_digest (g_rl P) 58 [some (.ref 0), some (.long (itF (dgB ln B) j i h)), none, some (.int (nI 10)), y4] [] σ') → G (XC l D cA ad) mX6_digest (g_rl P) 33 [some (.ref 0), some (.long (h)), none, some (.int (nI i)), y4] [] σ := by
  intro j
  induction j with
  | zero =>
    intro i h σ  hi hI hF K
    have hi2 : i = 10 := by omega
    subst hi2
    refine G.iload_n (k := 3) rfl dX6_digest_33 ?_
    refine G.bipush (v := 10) (by decide) dX6_digest_34 ?_
    refine G.icmp_ge (tgt := 58) (by decide) dX6_digest_36 (fun c_36 => ?_) (fun c_36 => absurd (by decide) c_36)
    exact K σ  hI hF
  | succ j ih =>
    intro i h σ  hi hI hF K
    refine G.iload_n (k := 3) rfl dX6_digest_33 ?_
    refine G.bipush (v := 10) (by decide) dX6_digest_34 ?_
    refine G.icmp_ge (tgt := 58) (by decide) dX6_digest_36 (fun c_36 => absurd c_36 (nI_ge (b := 10) (by omega) (by decide))) (fun c_36 => ?_)
    refine G.ldc2 ct_X6_229 dX6_digest_39 ?_
    refine G.lload_n (k := 1) rfl dX6_digest_42 ?_
    refine G.lmul dX6_digest_43 ?_
    refine G.aload_n (k := 0) rfl dX6_digest_44 ?_
    refine G.iload_n (k := 3) rfl dX6_digest_45 ?_
    refine G.callVif (c_X6_fault hI) rfl (gci_X6).1 ml_X6_234 im_yX6_fault se_yX6_fault gcl_X6_fault (by decide) rfl rfl (Nat.le_of_ble_eq_true rfl) dX6_digest_46 ?_
    refine G.i2l dX6_digest_49 ?_
    refine G.ladd dX6_digest_50 ?_
    refine G.lst1 (by decide) rfl dX6_digest_51 ?_
    refine G.inc3 (d := 1) (by decide) (by decide) rfl dX6_digest_52 ?_
    refine G.goto (tgt := 33) (by decide) dX6_digest_55 ?_
    rw [nI_1]
    exact ih (i + 1) _ _ (by omega) hI hF K
set_option maxHeartbeats 4000000 in
set_option maxRecDepth 100000 in
theorem lg_C {ln B : Nat → Nat} {P : Int64 → gS → Prop} {y4 : Option Value} : ∀ j i h (σ : gS), i + j = 6 → IX σ ln B → qF σ0 σ → (∀ σ' , IX σ' ln B → qF σ0 σ' → G (XC l D cA ad) mX6_digest (g_rl P) 129 [some (.ref 0), some (.long (itF (dgC ln B) j i h)), none, some (.int (nI 6)), y4] [] σ') → G (XC l D cA ad) mX6_digest (g_rl P) 60 [some (.ref 0), some (.long (h)), none, some (.int (nI i)), y4] [] σ := by
  intro j
  induction j with
  | zero =>
    intro i h σ  hi hI hF K
    have hi2 : i = 6 := by omega
    subst hi2
    refine G.iload_n (k := 3) rfl dX6_digest_60 ?_
    refine G.bipush (v := 6) (by decide) dX6_digest_61 ?_
    refine G.icmp_ge (tgt := 129) (by decide) dX6_digest_63 (fun c_63 => ?_) (fun c_63 => absurd (by decide) c_63)
    exact K σ  hI hF
  | succ j ih =>
    intro i h σ  hi hI hF K
    refine G.iload_n (k := 3) rfl dX6_digest_60 ?_
    refine G.bipush (v := 6) (by decide) dX6_digest_61 ?_
    refine G.icmp_ge (tgt := 129) (by decide) dX6_digest_63 (fun c_63 => absurd c_63 (nI_ge (b := 6) (by omega) (by decide))) (fun c_63 => ?_)
    refine G.ldc2 ct_X6_229 dX6_digest_66 ?_
    refine G.lload_n (k := 1) rfl dX6_digest_69 ?_
    refine G.lmul dX6_digest_70 ?_
    refine G.aload_n (k := 0) rfl dX6_digest_71 ?_
    refine G.iload_n (k := 3) rfl dX6_digest_72 ?_
    refine G.iconst (v := 0) (by decide) dX6_digest_73 ?_
    refine G.callVif (c_X6_turn hI) rfl (gci_X6).1 ml_X6_237 im_yX6_turn se_yX6_turn gcl_X6_turn (by decide) rfl rfl (Nat.le_of_ble_eq_true rfl) dX6_digest_74 ?_
    refine G.i2l dX6_digest_77 ?_
    refine G.ladd dX6_digest_78 ?_
    refine G.lst1 (by decide) rfl dX6_digest_79 ?_
    refine G.ldc2 ct_X6_229 dX6_digest_80 ?_
    refine G.lload_n (k := 1) rfl dX6_digest_83 ?_
    refine G.lmul dX6_digest_84 ?_
    refine G.aload_n (k := 0) rfl dX6_digest_85 ?_
    refine G.iload_n (k := 3) rfl dX6_digest_86 ?_
    refine G.iconst (v := 1) (by decide) dX6_digest_87 ?_
    refine G.callVif (c_X6_turn hI) rfl (gci_X6).1 ml_X6_237 im_yX6_turn se_yX6_turn gcl_X6_turn (by decide) rfl rfl (Nat.le_of_ble_eq_true rfl) dX6_digest_88 ?_
    refine G.i2l dX6_digest_91 ?_
    refine G.ladd dX6_digest_92 ?_
    refine G.lst1 (by decide) rfl dX6_digest_93 ?_
    refine G.ldc2 ct_X6_229 dX6_digest_94 ?_
    refine G.lload_n (k := 1) rfl dX6_digest_97 ?_
    refine G.lmul dX6_digest_98 ?_
    refine G.aload_n (k := 0) rfl dX6_digest_99 ?_
    refine G.iload_n (k := 3) rfl dX6_digest_100 ?_
    refine G.iconst (v := 2) (by decide) dX6_digest_101 ?_
    refine G.callVif (c_X6_power hI) rfl (gci_X6).1 ml_X6_240 im_yX6_power se_yX6_power gcl_X6_power (by decide) rfl rfl (Nat.le_of_ble_eq_true rfl) dX6_digest_102 ?_
    refine G.i2l dX6_digest_105 ?_
    refine G.ladd dX6_digest_106 ?_
    refine G.lst1 (by decide) rfl dX6_digest_107 ?_
    refine G.ldc2 ct_X6_229 dX6_digest_108 ?_
    refine G.lload_n (k := 1) rfl dX6_digest_111 ?_
    refine G.lmul dX6_digest_112 ?_
    refine G.aload_n (k := 0) rfl dX6_digest_113 ?_
    refine G.iload_n (k := 3) rfl dX6_digest_114 ?_
    refine G.bipush (v := (-3)) (by decide) dX6_digest_115 ?_
    refine G.callVif (c_X6_power hI) rfl (gci_X6).1 ml_X6_240 im_yX6_power se_yX6_power gcl_X6_power (by decide) rfl rfl (Nat.le_of_ble_eq_true rfl) dX6_digest_117 ?_
    refine G.i2l dX6_digest_120 ?_
    refine G.ladd dX6_digest_121 ?_
    refine G.lst1 (by decide) rfl dX6_digest_122 ?_
    refine G.inc3 (d := 1) (by decide) (by decide) rfl dX6_digest_123 ?_
    refine G.goto (tgt := 60) (by decide) dX6_digest_126 ?_
    rw [nI_1]
    exact ih (i + 1) _ _ (by omega) hI hF K
set_option maxHeartbeats 4000000 in
set_option maxRecDepth 100000 in
theorem lg_D {ln B : Nat → Nat} {P : Int64 → gS → Prop} {y4 : Option Value} : ∀ j i h (σ : gS), i + j = 4 → IX σ ln B → qF σ0 σ → (∀ σ' , IX σ' ln B → qF σ0 σ' → G (XC l D cA ad) mX6_digest (g_rl P) 155 [some (.ref 0), some (.long (itF (dgD ln B) j i h)), none, some (.int (nI 4)), y4] [] σ') → G (XC l D cA ad) mX6_digest (g_rl P) 131 [some (.ref 0), some (.long (h)), none, some (.int (nI i)), y4] [] σ := by
  intro j
  induction j with
  | zero =>
    intro i h σ  hi hI hF K
    have hi2 : i = 4 := by omega
    subst hi2
    refine G.iload_n (k := 3) rfl dX6_digest_131 ?_
    refine G.iconst (v := 4) (by decide) dX6_digest_132 ?_
    refine G.icmp_ge (tgt := 155) (by decide) dX6_digest_133 (fun c_133 => ?_) (fun c_133 => absurd (by decide) c_133)
    exact K σ  hI hF
  | succ j ih =>
    intro i h σ  hi hI hF K
    refine G.iload_n (k := 3) rfl dX6_digest_131 ?_
    refine G.iconst (v := 4) (by decide) dX6_digest_132 ?_
    refine G.icmp_ge (tgt := 155) (by decide) dX6_digest_133 (fun c_133 => absurd c_133 (nI_ge (b := 4) (by omega) (by decide))) (fun c_133 => ?_)
    refine G.ldc2 ct_X6_229 dX6_digest_136 ?_
    refine G.lload_n (k := 1) rfl dX6_digest_139 ?_
    refine G.lmul dX6_digest_140 ?_
    refine G.aload_n (k := 0) rfl dX6_digest_141 ?_
    refine G.iload_n (k := 3) rfl dX6_digest_142 ?_
    refine G.callVif (c_X6_rounds hI) rfl (gci_X6).1 ml_X6_243 im_yX6_rounds se_yX6_rounds gcl_X6_rounds (by decide) rfl rfl (Nat.le_of_ble_eq_true rfl) dX6_digest_143 ?_
    refine G.i2l dX6_digest_146 ?_
    refine G.ladd dX6_digest_147 ?_
    refine G.lst1 (by decide) rfl dX6_digest_148 ?_
    refine G.inc3 (d := 1) (by decide) (by decide) rfl dX6_digest_149 ?_
    refine G.goto (tgt := 131) (by decide) dX6_digest_152 ?_
    rw [nI_1]
    exact ih (i + 1) _ _ (by omega) hI hF K
set_option maxHeartbeats 4000000 in
set_option maxRecDepth 100000 in
theorem lg_E {ln B : Nat → Nat} {P : Int64 → gS → Prop} {y4 : Option Value} : ∀ j i h (σ : gS), i + j = 16 → IX σ ln B → qF σ0 σ → (∀ σ' , IX σ' ln B → qF σ0 σ' → G (XC l D cA ad) mX6_digest (g_rl P) 182 [some (.ref 0), some (.long (itF (dgE ln B) j i h)), none, some (.int (nI 16 - 1)), y4] [] σ') → G (XC l D cA ad) mX6_digest (g_rl P) 157 [some (.ref 0), some (.long (h)), none, some (.int (nI i - 1)), y4] [] σ := by
  intro j
  induction j with
  | zero =>
    intro i h σ  hi hI hF K
    have hi2 : i = 16 := by omega
    subst hi2
    refine G.iload_n (k := 3) rfl dX6_digest_157 ?_
    refine G.bipush (v := 15) (by decide) dX6_digest_158 ?_
    refine G.icmp_ge (tgt := 182) (by decide) dX6_digest_160 (fun c_160 => ?_) (fun c_160 => absurd (by decide) c_160)
    exact K σ  hI hF
  | succ j ih =>
    intro i h σ  hi hI hF K
    refine G.iload_n (k := 3) rfl dX6_digest_157 ?_
    refine G.bipush (v := 15) (by decide) dX6_digest_158 ?_
    refine G.icmp_ge (tgt := 182) (by decide) dX6_digest_160 (fun c_160 => absurd c_160 (pm15 i (by omega))) (fun c_160 => ?_)
    refine G.ldc2 ct_X6_229 dX6_digest_163 ?_
    refine G.lload_n (k := 1) rfl dX6_digest_166 ?_
    refine G.lmul dX6_digest_167 ?_
    refine G.aload_n (k := 0) rfl dX6_digest_168 ?_
    refine G.iload_n (k := 3) rfl dX6_digest_169 ?_
    refine G.callVi (c_X6_shows hI) rfl (gci_X6).1 ml_X6_246 im_yX6_shows se_yX6_shows gcl_X6_shows (by decide) rfl rfl (Nat.le_of_ble_eq_true rfl) dX6_digest_170 (fun r170 τ170 hr170 => ?_)
    obtain ⟨e170, hI170, hQ170⟩ := hr170
    subst e170
    have hF170 := qF_tr hF hQ170
    refine G.i2l dX6_digest_173 ?_
    refine G.ladd dX6_digest_174 ?_
    refine G.lst1 (by decide) rfl dX6_digest_175 ?_
    refine G.inc3 (d := 1) (by decide) (by decide) rfl dX6_digest_176 ?_
    refine G.goto (tgt := 157) (by decide) dX6_digest_179 ?_
    rw [pm_s i (by omega)]
    exact ih (i + 1) _ _ (by omega) hI170 hF170 K
set_option maxHeartbeats 4000000 in
set_option maxRecDepth 100000 in
theorem lg_F1 {ln B : Nat → Nat} {P : Int64 → gS → Prop} {q : Nat} : ∀ j i h (σ : gS), i + j = 4 → IX σ ln B → qF σ0 σ → (∀ σ' , IX σ' ln B → qF σ0 σ' → G (XC l D cA ad) mX6_digest (g_rl P) 220 [some (.ref 0), some (.long (itF (dgF1 ln B q) j i h)), none, some (.int (nI q)), some (.int (nI 4))] [] σ') → G (XC l D cA ad) mX6_digest (g_rl P) 193 [some (.ref 0), some (.long (h)), none, some (.int (nI q)), some (.int (nI i))] [] σ := by
  intro j
  induction j with
  | zero =>
    intro i h σ  hi hI hF K
    have hi2 : i = 4 := by omega
    subst hi2
    refine G.iload (i := 4) rfl dX6_digest_193 ?_
    refine G.iconst (v := 4) (by decide) dX6_digest_195 ?_
    refine G.icmp_ge (tgt := 220) (by decide) dX6_digest_196 (fun c_196 => ?_) (fun c_196 => absurd (by decide) c_196)
    exact K σ  hI hF
  | succ j ih =>
    intro i h σ  hi hI hF K
    refine G.iload (i := 4) rfl dX6_digest_193 ?_
    refine G.iconst (v := 4) (by decide) dX6_digest_195 ?_
    refine G.icmp_ge (tgt := 220) (by decide) dX6_digest_196 (fun c_196 => absurd c_196 (nI_ge (b := 4) (by omega) (by decide))) (fun c_196 => ?_)
    refine G.ldc2 ct_X6_229 dX6_digest_199 ?_
    refine G.lload_n (k := 1) rfl dX6_digest_202 ?_
    refine G.lmul dX6_digest_203 ?_
    refine G.aload_n (k := 0) rfl dX6_digest_204 ?_
    refine G.iload_n (k := 3) rfl dX6_digest_205 ?_
    refine G.iload (i := 4) rfl dX6_digest_206 ?_
    refine G.callVif (c_X6_term hI) rfl (gci_X6).1 ml_X6_249 im_yX6_term se_yX6_term gcl_X6_term (by decide) rfl rfl (Nat.le_of_ble_eq_true rfl) dX6_digest_208 ?_
    refine G.i2l dX6_digest_211 ?_
    refine G.ladd dX6_digest_212 ?_
    refine G.lst1 (by decide) rfl dX6_digest_213 ?_
    refine G.inc4 (d := 1) (by decide) (by decide) rfl dX6_digest_214 ?_
    refine G.goto (tgt := 193) (by decide) dX6_digest_217 ?_
    rw [nI_1]
    exact ih (i + 1) _ _ (by omega) hI hF K
set_option maxHeartbeats 4000000 in
set_option maxRecDepth 100000 in
theorem lg_F2 {ln B : Nat → Nat} {P : Int64 → gS → Prop} {q : Nat} : ∀ j i h (σ : gS), i + j = 31 → IX σ ln B → qF σ0 σ → (∀ σ' , IX σ' ln B → qF σ0 σ' → G (XC l D cA ad) mX6_digest (g_rl P) 266 [some (.ref 0), some (.long (itF (dgF2 ln B q) j i h)), none, some (.int (nI q)), some (.int (nI 31 - 1))] [] σ') → G (XC l D cA ad) mX6_digest (g_rl P) 223 [some (.ref 0), some (.long (h)), none, some (.int (nI q)), some (.int (nI i - 1))] [] σ := by
  intro j
  induction j with
  | zero =>
    intro i h σ  hi hI hF K
    have hi2 : i = 31 := by omega
    subst hi2
    refine G.iload (i := 4) rfl dX6_digest_223 ?_
    refine G.bipush (v := 30) (by decide) dX6_digest_225 ?_
    refine G.icmp_ge (tgt := 266) (by decide) dX6_digest_227 (fun c_227 => ?_) (fun c_227 => absurd (by decide) c_227)
    exact K σ  hI hF
  | succ j ih =>
    intro i h σ  hi hI hF K
    refine G.iload (i := 4) rfl dX6_digest_223 ?_
    refine G.bipush (v := 30) (by decide) dX6_digest_225 ?_
    refine G.icmp_ge (tgt := 266) (by decide) dX6_digest_227 (fun c_227 => absurd c_227 (pm30 i (by omega))) (fun c_227 => ?_)
    refine G.ldc2 ct_X6_229 dX6_digest_230 ?_
    refine G.lload_n (k := 1) rfl dX6_digest_233 ?_
    refine G.lmul dX6_digest_234 ?_
    refine G.aload_n (k := 0) rfl dX6_digest_235 ?_
    refine G.iload_n (k := 3) rfl dX6_digest_236 ?_
    refine G.iload (i := 4) rfl dX6_digest_237 ?_
    refine G.callVi (c_X6_shown hI) rfl (gci_X6).1 ml_X6_252 im_yX6_shown se_yX6_shown gcl_X6_shown (by decide) rfl rfl (Nat.le_of_ble_eq_true rfl) dX6_digest_239 (fun r239 τ239 hr239 => ?_)
    obtain ⟨e239, hI239, hQ239⟩ := hr239
    subst e239
    have hF239 := qF_tr hF hQ239
    refine G.i2l dX6_digest_242 ?_
    refine G.ladd dX6_digest_243 ?_
    refine G.lst1 (by decide) rfl dX6_digest_244 ?_
    refine G.ldc2 ct_X6_229 dX6_digest_245 ?_
    refine G.lload_n (k := 1) rfl dX6_digest_248 ?_
    refine G.lmul dX6_digest_249 ?_
    refine G.aload_n (k := 0) rfl dX6_digest_250 ?_
    refine G.iload_n (k := 3) rfl dX6_digest_251 ?_
    refine G.iload (i := 4) rfl dX6_digest_252 ?_
    refine G.callVi (c_X6_turned hI239) rfl (gci_X6).1 ml_X6_255 im_yX6_turned se_yX6_turned gcl_X6_turned (by decide) rfl rfl (Nat.le_of_ble_eq_true rfl) dX6_digest_254 (fun r254 τ254 hr254 => ?_)
    obtain ⟨e254, hI254, hQ254⟩ := hr254
    subst e254
    have hF254 := qF_tr hF239 hQ254
    refine G.i2l dX6_digest_257 ?_
    refine G.ladd dX6_digest_258 ?_
    refine G.lst1 (by decide) rfl dX6_digest_259 ?_
    refine G.inc4 (d := 1) (by decide) (by decide) rfl dX6_digest_260 ?_
    refine G.goto (tgt := 223) (by decide) dX6_digest_263 ?_
    rw [pm_s i (by omega)]
    exact ih (i + 1) _ _ (by omega) hI254 hF254 K
set_option maxHeartbeats 4000000 in
set_option maxRecDepth 100000 in
theorem lg_G {ln B : Nat → Nat} {P : Int64 → gS → Prop} {y4 : Option Value} : ∀ j i h (σ : gS), i + j = 4 → IX σ ln B → qF σ0 σ → (∀ σ' , IX σ' ln B → qF σ0 σ' → G (XC l D cA ad) mX6_digest (g_rl P) 298 [some (.ref 0), some (.long (itF (dgG ln B) j i h)), none, some (.int (nI 4)), y4] [] σ') → G (XC l D cA ad) mX6_digest (g_rl P) 274 [some (.ref 0), some (.long (h)), none, some (.int (nI i)), y4] [] σ := by
  intro j
  induction j with
  | zero =>
    intro i h σ  hi hI hF K
    have hi2 : i = 4 := by omega
    subst hi2
    refine G.iload_n (k := 3) rfl dX6_digest_274 ?_
    refine G.iconst (v := 4) (by decide) dX6_digest_275 ?_
    refine G.icmp_ge (tgt := 298) (by decide) dX6_digest_276 (fun c_276 => ?_) (fun c_276 => absurd (by decide) c_276)
    exact K σ  hI hF
  | succ j ih =>
    intro i h σ  hi hI hF K
    refine G.iload_n (k := 3) rfl dX6_digest_274 ?_
    refine G.iconst (v := 4) (by decide) dX6_digest_275 ?_
    refine G.icmp_ge (tgt := 298) (by decide) dX6_digest_276 (fun c_276 => absurd c_276 (nI_ge (b := 4) (by omega) (by decide))) (fun c_276 => ?_)
    refine G.ldc2 ct_X6_229 dX6_digest_279 ?_
    refine G.lload_n (k := 1) rfl dX6_digest_282 ?_
    refine G.lmul dX6_digest_283 ?_
    refine G.aload_n (k := 0) rfl dX6_digest_284 ?_
    refine G.iload_n (k := 3) rfl dX6_digest_285 ?_
    refine G.callVi (c_X6_alike hI) rfl (gci_X6).1 ml_X6_258 im_yX6_alike se_yX6_alike gcl_X6_alike (by decide) rfl rfl (Nat.le_of_ble_eq_true rfl) dX6_digest_286 (fun r286 τ286 hr286 => ?_)
    obtain ⟨e286, hI286, hQ286⟩ := hr286
    subst e286
    have hF286 := qF_tr hF hQ286
    refine G.i2l dX6_digest_289 ?_
    refine G.ladd dX6_digest_290 ?_
    refine G.lst1 (by decide) rfl dX6_digest_291 ?_
    refine G.inc3 (d := 1) (by decide) (by decide) rfl dX6_digest_292 ?_
    refine G.goto (tgt := 274) (by decide) dX6_digest_295 ?_
    rw [nI_1]
    exact ih (i + 1) _ _ (by omega) hI286 hF286 K
set_option maxHeartbeats 4000000 in
set_option maxRecDepth 100000 in
theorem lg_H {ln B : Nat → Nat} {P : Int64 → gS → Prop} {y4 : Option Value} : ∀ j i h (σ : gS), i + j = 4 → IX σ ln B → qF σ0 σ → (∀ σ' , IX σ' ln B → qF σ0 σ' → G (XC l D cA ad) mX6_digest (g_rl P) 324 [some (.ref 0), some (.long (itF (dgH ln B) j i h)), none, some (.int (nI 4)), y4] [] σ') → G (XC l D cA ad) mX6_digest (g_rl P) 300 [some (.ref 0), some (.long (h)), none, some (.int (nI i)), y4] [] σ := by
  intro j
  induction j with
  | zero =>
    intro i h σ  hi hI hF K
    have hi2 : i = 4 := by omega
    subst hi2
    refine G.iload_n (k := 3) rfl dX6_digest_300 ?_
    refine G.iconst (v := 4) (by decide) dX6_digest_301 ?_
    refine G.icmp_ge (tgt := 324) (by decide) dX6_digest_302 (fun c_302 => ?_) (fun c_302 => absurd (by decide) c_302)
    exact K σ  hI hF
  | succ j ih =>
    intro i h σ  hi hI hF K
    refine G.iload_n (k := 3) rfl dX6_digest_300 ?_
    refine G.iconst (v := 4) (by decide) dX6_digest_301 ?_
    refine G.icmp_ge (tgt := 324) (by decide) dX6_digest_302 (fun c_302 => absurd c_302 (nI_ge (b := 4) (by omega) (by decide))) (fun c_302 => ?_)
    refine G.ldc2 ct_X6_229 dX6_digest_305 ?_
    refine G.lload_n (k := 1) rfl dX6_digest_308 ?_
    refine G.lmul dX6_digest_309 ?_
    refine G.aload_n (k := 0) rfl dX6_digest_310 ?_
    refine G.iload_n (k := 3) rfl dX6_digest_311 ?_
    refine G.callVi (c_X6_solved hI) rfl (gci_X6).1 ml_X6_261 im_yX6_solved se_yX6_solved gcl_X6_solved (by decide) rfl rfl (Nat.le_of_ble_eq_true rfl) dX6_digest_312 (fun r312 τ312 hr312 => ?_)
    obtain ⟨e312, hI312, hQ312⟩ := hr312
    subst e312
    have hF312 := qF_tr hF hQ312
    refine G.i2l dX6_digest_315 ?_
    refine G.ladd dX6_digest_316 ?_
    refine G.lst1 (by decide) rfl dX6_digest_317 ?_
    refine G.inc3 (d := 1) (by decide) (by decide) rfl dX6_digest_318 ?_
    refine G.goto (tgt := 300) (by decide) dX6_digest_321 ?_
    rw [nI_1]
    exact ih (i + 1) _ _ (by omega) hI312 hF312 K
set_option maxHeartbeats 4000000 in
set_option maxRecDepth 100000 in
theorem lg_I1 {ln B : Nat → Nat} {P : Int64 → gS → Prop} {q : Nat} : ∀ j i h (σ : gS), i + j = 61 → IX σ ln B → qF σ0 σ → (∀ σ' , IX σ' ln B → qF σ0 σ' → G (XC l D cA ad) mX6_digest (g_rl P) 363 [some (.ref 0), some (.long (itF (dgI1 ln B q) j i h)), none, some (.int (nI q)), some (.int (nI 61 - 1))] [] σ') → G (XC l D cA ad) mX6_digest (g_rl P) 335 [some (.ref 0), some (.long (h)), none, some (.int (nI q)), some (.int (nI i - 1))] [] σ := by
  intro j
  induction j with
  | zero =>
    intro i h σ  hi hI hF K
    have hi2 : i = 61 := by omega
    subst hi2
    refine G.iload (i := 4) rfl dX6_digest_335 ?_
    refine G.bipush (v := 60) (by decide) dX6_digest_337 ?_
    refine G.icmp_ge (tgt := 363) (by decide) dX6_digest_339 (fun c_339 => ?_) (fun c_339 => absurd (by decide) c_339)
    exact K σ  hI hF
  | succ j ih =>
    intro i h σ  hi hI hF K
    refine G.iload (i := 4) rfl dX6_digest_335 ?_
    refine G.bipush (v := 60) (by decide) dX6_digest_337 ?_
    refine G.icmp_ge (tgt := 363) (by decide) dX6_digest_339 (fun c_339 => absurd c_339 (pm60 i (by omega))) (fun c_339 => ?_)
    refine G.ldc2 ct_X6_229 dX6_digest_342 ?_
    refine G.lload_n (k := 1) rfl dX6_digest_345 ?_
    refine G.lmul dX6_digest_346 ?_
    refine G.aload_n (k := 0) rfl dX6_digest_347 ?_
    refine G.iload_n (k := 3) rfl dX6_digest_348 ?_
    refine G.iload (i := 4) rfl dX6_digest_349 ?_
    refine G.callVi (c_X6_value hI) rfl (gci_X6).1 ml_X6_264 im_yX6_value se_yX6_value gcl_X6_value (by decide) rfl rfl (Nat.le_of_ble_eq_true rfl) dX6_digest_351 (fun r351 τ351 hr351 => ?_)
    obtain ⟨e351, hI351, hQ351⟩ := hr351
    subst e351
    have hF351 := qF_tr hF hQ351
    refine G.i2l dX6_digest_354 ?_
    refine G.ladd dX6_digest_355 ?_
    refine G.lst1 (by decide) rfl dX6_digest_356 ?_
    refine G.inc4 (d := 1) (by decide) (by decide) rfl dX6_digest_357 ?_
    refine G.goto (tgt := 335) (by decide) dX6_digest_360 ?_
    rw [pm_s i (by omega)]
    exact ih (i + 1) _ _ (by omega) hI351 hF351 K
set_option maxHeartbeats 4000000 in
set_option maxRecDepth 100000 in
theorem lg_J1 {ln B : Nat → Nat} {P : Int64 → gS → Prop} {q : Nat} : ∀ j i h (σ : gS), i + j = 4 → IX σ ln B → qF σ0 σ → (∀ σ' , IX σ' ln B → qF σ0 σ' → G (XC l D cA ad) mX6_digest (g_rl P) 433 [some (.ref 0), some (.long (itF (dgJ1 ln B q) j i h)), none, some (.int (nI q)), some (.int (nI 4))] [] σ') → G (XC l D cA ad) mX6_digest (g_rl P) 406 [some (.ref 0), some (.long (h)), none, some (.int (nI q)), some (.int (nI i))] [] σ := by
  intro j
  induction j with
  | zero =>
    intro i h σ  hi hI hF K
    have hi2 : i = 4 := by omega
    subst hi2
    refine G.iload (i := 4) rfl dX6_digest_406 ?_
    refine G.iconst (v := 4) (by decide) dX6_digest_408 ?_
    refine G.icmp_ge (tgt := 433) (by decide) dX6_digest_409 (fun c_409 => ?_) (fun c_409 => absurd (by decide) c_409)
    exact K σ  hI hF
  | succ j ih =>
    intro i h σ  hi hI hF K
    refine G.iload (i := 4) rfl dX6_digest_406 ?_
    refine G.iconst (v := 4) (by decide) dX6_digest_408 ?_
    refine G.icmp_ge (tgt := 433) (by decide) dX6_digest_409 (fun c_409 => absurd c_409 (nI_ge (b := 4) (by omega) (by decide))) (fun c_409 => ?_)
    refine G.ldc2 ct_X6_229 dX6_digest_412 ?_
    refine G.lload_n (k := 1) rfl dX6_digest_415 ?_
    refine G.lmul dX6_digest_416 ?_
    refine G.aload_n (k := 0) rfl dX6_digest_417 ?_
    refine G.iload_n (k := 3) rfl dX6_digest_418 ?_
    refine G.iload (i := 4) rfl dX6_digest_419 ?_
    refine G.callVi (c_X6_way hI) rfl (gci_X6).1 ml_X6_273 im_yX6_way se_yX6_way gcl_X6_way (by decide) rfl rfl (Nat.le_of_ble_eq_true rfl) dX6_digest_421 (fun r421 τ421 hr421 => ?_)
    obtain ⟨e421, hI421, hQ421⟩ := hr421
    subst e421
    have hF421 := qF_tr hF hQ421
    refine G.i2l dX6_digest_424 ?_
    refine G.ladd dX6_digest_425 ?_
    refine G.lst1 (by decide) rfl dX6_digest_426 ?_
    refine G.inc4 (d := 1) (by decide) (by decide) rfl dX6_digest_427 ?_
    refine G.goto (tgt := 406) (by decide) dX6_digest_430 ?_
    rw [nI_1]
    exact ih (i + 1) _ _ (by omega) hI421 hF421 K
end T71

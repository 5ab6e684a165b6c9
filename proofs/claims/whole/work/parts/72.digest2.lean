/-! ===== digest, whole ===== -/
section T72
variable {l : Launch} {D : va_G} {cA : ClassId} {ad : Nat → Nat}
variable {σ σ0 : gS}
set_option maxHeartbeats 4000000 in
set_option maxRecDepth 100000 in
theorem lg_F {ln B : Nat → Nat} {P : Int64 → gS → Prop} : ∀ j i h (σ : gS) (y4 : Option Value), i + j = 8 → IX σ ln B → qF σ0 σ → (∀ σ' y4, IX σ' ln B → qF σ0 σ' → G (XC l D cA ad) mX6_digest (g_rl P) 272 [some (.ref 0), some (.long (itF (dgF ln B) j i h)), none, some (.int (nI 8)), y4] [] σ') → G (XC l D cA ad) mX6_digest (g_rl P) 184 [some (.ref 0), some (.long h), none, some (.int (nI i)), y4] [] σ := by
  intro j
  induction j with
  | zero =>
    intro i h σ y4 hi hI hF K
    have hi2 : i = 8 := by omega
    subst hi2
    refine G.iload_n (k := 3) rfl dX6_digest_184 ?_
    refine G.bipush (v := 8) (by decide) dX6_digest_185 ?_
    refine G.icmp_ge (tgt := 272) (by decide) dX6_digest_187 (fun c_187 => ?_) (fun c_187 => absurd (by decide) c_187)
    exact K σ y4 hI hF
  | succ j ih =>
    intro i h σ y4 hi hI hF K
    refine G.iload_n (k := 3) rfl dX6_digest_184 ?_
    refine G.bipush (v := 8) (by decide) dX6_digest_185 ?_
    refine G.icmp_ge (tgt := 272) (by decide) dX6_digest_187 (fun c_187 => absurd c_187 (nI_ge (b := 8) (by omega) (by decide))) (fun c_187 => ?_)
    refine G.iconst (v := 0) (by decide) dX6_digest_190 ?_
    refine G.ist4 (by decide) rfl dX6_digest_191 ?_
    refine lg_F1 (q := i) 4 0 h σ (by decide) hI hF (fun σ2 hI2 hF2 => ?_)
    refine G.iconst (v := (-1)) (by decide) dX6_digest_220 ?_
    refine G.ist4 (by decide) rfl dX6_digest_221 ?_
    rw [show (-1 : Int32) = nI 0 - 1 by decide]
    refine lg_F2 (q := i) 31 0 _ σ2 (by decide) hI2 hF2 (fun σ3 hI3 hF3 => ?_)
    refine G.inc3 (d := 1) (by decide) (by decide) rfl dX6_digest_266 ?_
    refine G.goto (tgt := 184) (by decide) dX6_digest_269 ?_
    rw [nI_1]
    exact ih (i + 1) _ _ _ (by omega) hI3 hF3 K
set_option maxHeartbeats 4000000 in
set_option maxRecDepth 100000 in
theorem lg_I {ln B : Nat → Nat} {P : Int64 → gS → Prop} : ∀ j i h (σ : gS) (y4 : Option Value), i + j = 6 → IX σ ln B → qF σ0 σ → (∀ σ' y4, IX σ' ln B → qF σ0 σ' → G (XC l D cA ad) mX6_digest (g_rl P) 395 [some (.ref 0), some (.long (itF (dgI ln B) j i h)), none, some (.int (nI 6)), y4] [] σ') → G (XC l D cA ad) mX6_digest (g_rl P) 326 [some (.ref 0), some (.long h), none, some (.int (nI i)), y4] [] σ := by
  intro j
  induction j with
  | zero =>
    intro i h σ y4 hi hI hF K
    have hi2 : i = 6 := by omega
    subst hi2
    refine G.iload_n (k := 3) rfl dX6_digest_326 ?_
    refine G.bipush (v := 6) (by decide) dX6_digest_327 ?_
    refine G.icmp_ge (tgt := 395) (by decide) dX6_digest_329 (fun c_329 => ?_) (fun c_329 => absurd (by decide) c_329)
    exact K σ y4 hI hF
  | succ j ih =>
    intro i h σ y4 hi hI hF K
    refine G.iload_n (k := 3) rfl dX6_digest_326 ?_
    refine G.bipush (v := 6) (by decide) dX6_digest_327 ?_
    refine G.icmp_ge (tgt := 395) (by decide) dX6_digest_329 (fun c_329 => absurd c_329 (nI_ge (b := 6) (by omega) (by decide))) (fun c_329 => ?_)
    refine G.iconst (v := (-1)) (by decide) dX6_digest_332 ?_
    refine G.ist4 (by decide) rfl dX6_digest_333 ?_
    rw [show (-1 : Int32) = nI 0 - 1 by decide]
    refine lg_I1 (q := i) 61 0 h σ (by decide) hI hF (fun σ2 hI2 hF2 => ?_)
    refine G.ldc2 ct_X6_229 dX6_digest_363 ?_
    refine G.lload_n (k := 1) rfl dX6_digest_366 ?_
    refine G.lmul dX6_digest_367 ?_
    refine G.aload_n (k := 0) rfl dX6_digest_368 ?_
    refine G.iload_n (k := 3) rfl dX6_digest_369 ?_
    refine G.callVi (c_X6_fresh hI2) rfl (gci_X6).1 ml_X6_267 im_yX6_fresh se_yX6_fresh gcl_X6_fresh (by decide) rfl rfl (Nat.le_of_ble_eq_true rfl) dX6_digest_370 (fun r370 τ370 hr370 => ?_)
    obtain ⟨e370, hI370, hQ370⟩ := hr370
    subst e370
    have hF370 := qF_tr hF2 hQ370
    refine G.i2l dX6_digest_373 ?_
    refine G.ladd dX6_digest_374 ?_
    refine G.lst1 (by decide) rfl dX6_digest_375 ?_
    refine G.ldc2 ct_X6_229 dX6_digest_376 ?_
    refine G.lload_n (k := 1) rfl dX6_digest_379 ?_
    refine G.lmul dX6_digest_380 ?_
    refine G.aload_n (k := 0) rfl dX6_digest_381 ?_
    refine G.iload_n (k := 3) rfl dX6_digest_382 ?_
    refine G.callVi (c_X6_needs hI370) rfl (gci_X6).1 ml_X6_270 im_yX6_needs se_yX6_needs gcl_X6_needs (by decide) rfl rfl (Nat.le_of_ble_eq_true rfl) dX6_digest_383 (fun r383 τ383 hr383 => ?_)
    obtain ⟨e383, hI383, hQ383⟩ := hr383
    subst e383
    have hF383 := qF_tr hF370 hQ383
    refine G.i2l dX6_digest_386 ?_
    refine G.ladd dX6_digest_387 ?_
    refine G.lst1 (by decide) rfl dX6_digest_388 ?_
    refine G.inc3 (d := 1) (by decide) (by decide) rfl dX6_digest_389 ?_
    refine G.goto (tgt := 326) (by decide) dX6_digest_392 ?_
    rw [nI_1]
    exact ih (i + 1) _ _ _ (by omega) hI383 hF383 K
set_option maxHeartbeats 4000000 in
set_option maxRecDepth 100000 in
theorem lg_J {ln B : Nat → Nat} {P : Int64 → gS → Prop} : ∀ j i h (σ : gS) (y4 : Option Value), i + j = 24 → IX σ ln B → qF σ0 σ → (∀ σ' y4, IX σ' ln B → qF σ0 σ' → G (XC l D cA ad) mX6_digest (g_rl P) 439 [some (.ref 0), some (.long (itF (dgJ ln B) j i h)), none, some (.int (nI 24)), y4] [] σ') → G (XC l D cA ad) mX6_digest (g_rl P) 397 [some (.ref 0), some (.long h), none, some (.int (nI i)), y4] [] σ := by
  intro j
  induction j with
  | zero =>
    intro i h σ y4 hi hI hF K
    have hi2 : i = 24 := by omega
    subst hi2
    refine G.iload_n (k := 3) rfl dX6_digest_397 ?_
    refine G.bipush (v := 24) (by decide) dX6_digest_398 ?_
    refine G.icmp_ge (tgt := 439) (by decide) dX6_digest_400 (fun c_400 => ?_) (fun c_400 => absurd (by decide) c_400)
    exact K σ y4 hI hF
  | succ j ih =>
    intro i h σ y4 hi hI hF K
    refine G.iload_n (k := 3) rfl dX6_digest_397 ?_
    refine G.bipush (v := 24) (by decide) dX6_digest_398 ?_
    refine G.icmp_ge (tgt := 439) (by decide) dX6_digest_400 (fun c_400 => absurd c_400 (nI_ge (b := 24) (by omega) (by decide))) (fun c_400 => ?_)
    refine G.iconst (v := 0) (by decide) dX6_digest_403 ?_
    refine G.ist4 (by decide) rfl dX6_digest_404 ?_
    refine lg_J1 (q := i) 4 0 h σ (by decide) hI hF (fun σ2 hI2 hF2 => ?_)
    refine G.inc3 (d := 1) (by decide) (by decide) rfl dX6_digest_433 ?_
    refine G.goto (tgt := 397) (by decide) dX6_digest_436 ?_
    rw [nI_1]
    exact ih (i + 1) _ _ _ (by omega) hI2 hF2 K
set_option maxHeartbeats 4000000 in
set_option maxRecDepth 100000 in
theorem c_X6_digest {ln B : Nat → Nat} (h : IX σ ln B) : GM (XC l D cA ad) mX6_digest [.ref 0] σ (g_rl (fun r τ => r = sp_digest ln B (σ 12 3) ∧ IX τ ln B ∧ qF σ τ)) := by
  refine GM.of (ls := [some (.ref 0), none, none, none, none]) (by decide) (Nat.le_of_ble_eq_true rfl) rfl ?_
  refine G.ldc2 ct_X6_227 dX6_digest_0 ?_
  refine G.lst1 (by decide) rfl dX6_digest_3 ?_
  refine G.iconst (v := 0) (by decide) dX6_digest_4 ?_
  refine G.ist3 (by decide) rfl dX6_digest_5 ?_
  refine lg_A 8 0 17 σ (by decide) h (qF_rf σ) (fun σ1 hI1 hF1 => ?_)
  refine G.iconst (v := 0) (by decide) dX6_digest_31 ?_
  refine G.ist3 (by decide) rfl dX6_digest_32 ?_
  refine lg_B 10 0 _ σ1 (by decide) hI1 hF1 (fun σ2 hI2 hF2 => ?_)
  refine G.iconst (v := 0) (by decide) dX6_digest_58 ?_
  refine G.ist3 (by decide) rfl dX6_digest_59 ?_
  refine lg_C 6 0 _ σ2 (by decide) hI2 hF2 (fun σ3 hI3 hF3 => ?_)
  refine G.iconst (v := 0) (by decide) dX6_digest_129 ?_
  refine G.ist3 (by decide) rfl dX6_digest_130 ?_
  refine lg_D 4 0 _ σ3 (by decide) hI3 hF3 (fun σ4 hI4 hF4 => ?_)
  refine G.iconst (v := (-1)) (by decide) dX6_digest_155 ?_
  refine G.ist3 (by decide) rfl dX6_digest_156 ?_
  rw [show (-1 : Int32) = nI 0 - 1 by decide]
  refine lg_E 16 0 _ σ4 (by decide) hI4 hF4 (fun σ5 hI5 hF5 => ?_)
  refine G.iconst (v := 0) (by decide) dX6_digest_182 ?_
  refine G.ist3 (by decide) rfl dX6_digest_183 ?_
  refine lg_F 8 0 _ σ5 _ (by decide) hI5 hF5 (fun σ6 z6 hI6 hF6 => ?_)
  refine G.iconst (v := 0) (by decide) dX6_digest_272 ?_
  refine G.ist3 (by decide) rfl dX6_digest_273 ?_
  refine lg_G 4 0 _ σ6 (by decide) hI6 hF6 (fun σ7 hI7 hF7 => ?_)
  refine G.iconst (v := 0) (by decide) dX6_digest_298 ?_
  refine G.ist3 (by decide) rfl dX6_digest_299 ?_
  refine lg_H 4 0 _ σ7 (by decide) hI7 hF7 (fun σ8 hI8 hF8 => ?_)
  refine G.iconst (v := 0) (by decide) dX6_digest_324 ?_
  refine G.ist3 (by decide) rfl dX6_digest_325 ?_
  refine lg_I 6 0 _ σ8 _ (by decide) hI8 hF8 (fun σ9 z9 hI9 hF9 => ?_)
  refine G.iconst (v := 0) (by decide) dX6_digest_395 ?_
  refine G.ist3 (by decide) rfl dX6_digest_396 ?_
  refine lg_J 24 0 _ σ9 _ (by decide) hI9 hF9 (fun σ10 z10 hI10 hF10 => ?_)
  refine G.ldc2 ct_X6_229 dX6_digest_439 ?_
  refine G.lload_n (k := 1) rfl dX6_digest_442 ?_
  refine G.lmul dX6_digest_443 ?_
  refine G.aload_n (k := 0) rfl dX6_digest_444 ?_
  refine G.callVi (c_X6_spare hI10) rfl (gci_X6).1 ml_X6_276 im_yX6_spare se_yX6_spare gcl_X6_spare (by decide) rfl rfl (Nat.le_of_ble_eq_true rfl) dX6_digest_445 (fun r445 τ445 hr445 => ?_)
  obtain ⟨e445, hI445, hQ445⟩ := hr445
  subst e445
  have hF445 := qF_tr hF10 hQ445
  refine G.i2l dX6_digest_448 ?_
  refine G.ladd dX6_digest_449 ?_
  exact G.lret rfl (⟨rfl, hI445, hF445⟩) dX6_digest_450
end T72

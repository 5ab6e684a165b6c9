/-! ===== the walk of the law: its loop ===== -/
theorem an31 (x : Int32) : ∃ q, q < 32 ∧ x &&& 31 = nI q := by
  obtain ⟨n, rfl⟩ := nI_sj x
  exact ⟨n &&& 31, Nat.lt_of_le_of_lt Nat.and_le_right (by decide), nu_and n 31⟩
theorem lw_go : ∀ L, L < 6 → nI L - 6 < 0 := by decide +kernel
theorem lw_in2 {L i : Nat} (hL : L ≤ 3072) (hi : i ≤ 4000) (h : ¬ nI L - 6 < nI i) : i + 6 ≤ L := by
  by_cases c : L < 6
  · exact absurd (Int32.lt_of_lt_of_le (lw_go L c) (show (0 : Int32) ≤ nI i from nI_le (a := 0) (Nat.zero_le i) (by omega))) h
  · rw [show nI L - 6 = nI (L - 6) from nu_sub (b := 6) (by omega)] at h
    have h2 : ¬ L - 6 < i := fun z => h ((nI_ltI (by omega) (by omega)).mpr z)
    omega
set_option maxHeartbeats 4000000 in
set_option maxRecDepth 100000 in
theorem law_0 {p : Program} {l : Launch} {e : Env} {s : State} {m : MethodId} {below : List Frame} {meth : Method} {c : Code} {D : va_G} {cA : ClassId} {ax am : Nat → Nat} {b L : Nat} {xs : Nat → Int32} (hL : L ≤ 3072) (C0 : lw_At p s m meth c b L xs) (hB : lwB (XC l D cA ax) (XM l D cA am) s) {i : Nat} (hi : i + 6 ≤ L) {ln B : Nat → Nat} {σx σm : gS} (hR : IX σx ln B ∧ TM σm ln B ∧ SR σx σm) (next : ∀ τx τm, RLn τx τm → LW (XC l D cA ax) (XM l D cA am) p e s m below meth c b 968 [some (.ref b), some (.ref (ax 0)), some (.ref (am 0)), some (.int (nI i))] [] τx τm) : LW (XC l D cA ax) (XM l D cA am) p e s m below meth c b 156 [some (.ref b), some (.ref (ax 0)), some (.ref (am 0)), some (.int (nI i))] [] σx σm := by
  refine LW.al C0 (k := 1) rfl dL_law_156 ?_
  refine LW.al C0 (k := 0) rfl dL_law_157 ?_
  refine LW.il C0 (k := 3) rfl dL_law_158 ?_
  refine LW.iconst C0 (v := 1) (by decide) dL_law_159 ?_
  refine LW.iadd C0 dL_law_160 ?_
  rw [show nI i + 1 = nI (i + 1) from nI_add i 1]
  refine LW.sld C0 (vp_in_nI (show i + 1 < L by omega) (by omega)) dL_law_161 ?_
  refine LW.al C0 (k := 0) rfl dL_law_162 ?_
  refine LW.il C0 (k := 3) rfl dL_law_163 ?_
  refine LW.iconst C0 (v := 2) (by decide) dL_law_164 ?_
  refine LW.iadd C0 dL_law_165 ?_
  rw [show nI i + 2 = nI (i + 2) from nI_add i 2]
  refine LW.sld C0 (vp_in_nI (show i + 2 < L by omega) (by omega)) dL_law_166 ?_
  refine LW.call (M' := mX6_type) (as := [.int (xs (nI (i + 1)).toNatClampNeg), .int (xs (nI (i + 2)).toNatClampNeg)]) (rest := []) C0 hB (c_X6_type hR.1) rfl (gci_X6).1 ml_L_13 im_yX6_type se_yX6_type gcl_X6_type ⟨by decide, by decide⟩ rfl rfl (Nat.le_of_ble_eq_true rfl) dL_law_167 (fun rv τx hq => ?_)
  obtain ⟨r1, rfl, hq1⟩ := hq
  show LW (XC l D cA ax) (XM l D cA am) p e s m below meth c b (170) _ [.int r1] τx σm
  refine LW.al C0 (k := 2) rfl dL_law_170 ?_
  refine LW.al C0 (k := 0) rfl dL_law_171 ?_
  refine LW.il C0 (k := 3) rfl dL_law_172 ?_
  refine LW.iconst C0 (v := 1) (by decide) dL_law_173 ?_
  refine LW.iadd C0 dL_law_174 ?_
  rw [show nI i + 1 = nI (i + 1) from nI_add i 1]
  refine LW.sld C0 (vp_in_nI (show i + 1 < L by omega) (by omega)) dL_law_175 ?_
  refine LW.al C0 (k := 0) rfl dL_law_176 ?_
  refine LW.il C0 (k := 3) rfl dL_law_177 ?_
  refine LW.iconst C0 (v := 2) (by decide) dL_law_178 ?_
  refine LW.iadd C0 dL_law_179 ?_
  rw [show nI i + 2 = nI (i + 2) from nI_add i 2]
  refine LW.sld C0 (vp_in_nI (show i + 2 < L by omega) (by omega)) dL_law_180 ?_
  refine LW.sw hB (LW.call (M' := mX7_type) (as := [.int (xs (nI (i + 1)).toNatClampNeg), .int (xs (nI (i + 2)).toNatClampNeg)]) (rest := [.int r1]) C0 hB.sw (c_X7_type hR.2.1) rfl (gci_X7).1 ml_L_17 im_yX7_type se_yX7_type gcl_X7_type ⟨by decide, by decide⟩ rfl rfl (Nat.le_of_ble_eq_true rfl) dL_law_181 (fun rv τm hq => LW.sw hB.sw ?_))
  obtain ⟨r2, rfl, hq2⟩ := hq
  show LW (XC l D cA ax) (XM l D cA am) p e s m below meth c b (184) _ [.int r2, .int r1] τx τm
  obtain ⟨heq, hR2⟩ := pr_text hR.2.2 hq1 hq2
  exact LW.iceq C0 (tgt := 968) (by decide) dL_law_184 (fun _ => next τx τm hR2) (fun h => absurd heq h)
set_option maxHeartbeats 4000000 in
set_option maxRecDepth 100000 in
theorem law_1 {p : Program} {l : Launch} {e : Env} {s : State} {m : MethodId} {below : List Frame} {meth : Method} {c : Code} {D : va_G} {cA : ClassId} {ax am : Nat → Nat} {b L : Nat} {xs : Nat → Int32} (hL : L ≤ 3072) (C0 : lw_At p s m meth c b L xs) (hB : lwB (XC l D cA ax) (XM l D cA am) s) {i : Nat} (hi : i + 6 ≤ L) {ln B : Nat → Nat} {σx σm : gS} (hR : IX σx ln B ∧ TM σm ln B ∧ SR σx σm) (next : ∀ τx τm, RLn τx τm → LW (XC l D cA ax) (XM l D cA am) p e s m below meth c b 968 [some (.ref b), some (.ref (ax 0)), some (.ref (am 0)), some (.int (nI i))] [] τx τm) : LW (XC l D cA ax) (XM l D cA am) p e s m below meth c b 189 [some (.ref b), some (.ref (ax 0)), some (.ref (am 0)), some (.int (nI i))] [] σx σm := by
  refine LW.al C0 (k := 1) rfl dL_law_189 ?_
  refine LW.al C0 (k := 0) rfl dL_law_190 ?_
  refine LW.il C0 (k := 3) rfl dL_law_191 ?_
  refine LW.iconst C0 (v := 1) (by decide) dL_law_192 ?_
  refine LW.iadd C0 dL_law_193 ?_
  rw [show nI i + 1 = nI (i + 1) from nI_add i 1]
  refine LW.sld C0 (vp_in_nI (show i + 1 < L by omega) (by omega)) dL_law_194 ?_
  refine LW.call (M' := mX6_wipe) (as := [.int (xs (nI (i + 1)).toNatClampNeg)]) (rest := []) C0 hB (c_X6_wipe hR.1) rfl (gci_X6).1 ml_L_18 im_yX6_wipe se_yX6_wipe gcl_X6_wipe ⟨by decide, by decide⟩ rfl rfl (Nat.le_of_ble_eq_true rfl) dL_law_195 (fun rv τx hq => ?_)
  obtain ⟨r1, rfl, hq1⟩ := hq
  show LW (XC l D cA ax) (XM l D cA am) p e s m below meth c b (198) _ [.int r1] τx σm
  refine LW.al C0 (k := 2) rfl dL_law_198 ?_
  refine LW.al C0 (k := 0) rfl dL_law_199 ?_
  refine LW.il C0 (k := 3) rfl dL_law_200 ?_
  refine LW.iconst C0 (v := 1) (by decide) dL_law_201 ?_
  refine LW.iadd C0 dL_law_202 ?_
  rw [show nI i + 1 = nI (i + 1) from nI_add i 1]
  refine LW.sld C0 (vp_in_nI (show i + 1 < L by omega) (by omega)) dL_law_203 ?_
  refine LW.sw hB (LW.call (M' := mX7_wipe) (as := [.int (xs (nI (i + 1)).toNatClampNeg)]) (rest := [.int r1]) C0 hB.sw (c_X7_wipe hR.2.1) rfl (gci_X7).1 ml_L_22 im_yX7_wipe se_yX7_wipe gcl_X7_wipe ⟨by decide, by decide⟩ rfl rfl (Nat.le_of_ble_eq_true rfl) dL_law_204 (fun rv τm hq => LW.sw hB.sw ?_))
  obtain ⟨r2, rfl, hq2⟩ := hq
  show LW (XC l D cA ax) (XM l D cA am) p e s m below meth c b (207) _ [.int r2, .int r1] τx τm
  obtain ⟨heq, hR2⟩ := pr_text hR.2.2 hq1 hq2
  exact LW.iceq C0 (tgt := 968) (by decide) dL_law_207 (fun _ => next τx τm hR2) (fun h => absurd heq h)
set_option maxHeartbeats 4000000 in
set_option maxRecDepth 100000 in
theorem law_2 {p : Program} {l : Launch} {e : Env} {s : State} {m : MethodId} {below : List Frame} {meth : Method} {c : Code} {D : va_G} {cA : ClassId} {ax am : Nat → Nat} {b L : Nat} {xs : Nat → Int32} (hL : L ≤ 3072) (C0 : lw_At p s m meth c b L xs) (hB : lwB (XC l D cA ax) (XM l D cA am) s) {i : Nat} (hi : i + 6 ≤ L) {ln B : Nat → Nat} {σx σm : gS} (hR : IX σx ln B ∧ TM σm ln B ∧ SR σx σm) (next : ∀ τx τm, RLn τx τm → LW (XC l D cA ax) (XM l D cA am) p e s m below meth c b 968 [some (.ref b), some (.ref (ax 0)), some (.ref (am 0)), some (.int (nI i))] [] τx τm) : LW (XC l D cA ax) (XM l D cA am) p e s m below meth c b 212 [some (.ref b), some (.ref (ax 0)), some (.ref (am 0)), some (.int (nI i))] [] σx σm := by
  refine LW.al C0 (k := 1) rfl dL_law_212 ?_
  refine LW.al C0 (k := 0) rfl dL_law_213 ?_
  refine LW.il C0 (k := 3) rfl dL_law_214 ?_
  refine LW.iconst C0 (v := 1) (by decide) dL_law_215 ?_
  refine LW.iadd C0 dL_law_216 ?_
  rw [show nI i + 1 = nI (i + 1) from nI_add i 1]
  refine LW.sld C0 (vp_in_nI (show i + 1 < L by omega) (by omega)) dL_law_217 ?_
  refine LW.call (M' := mX6_undo) (as := [.int (xs (nI (i + 1)).toNatClampNeg)]) (rest := []) C0 hB (c_X6_undo hR.1) rfl (gci_X6).1 ml_L_23 im_yX6_undo se_yX6_undo gcl_X6_undo ⟨by decide, by decide⟩ rfl rfl (Nat.le_of_ble_eq_true rfl) dL_law_218 (fun rv τx hq => ?_)
  obtain ⟨r1, rfl, hq1⟩ := hq
  show LW (XC l D cA ax) (XM l D cA am) p e s m below meth c b (221) _ [.int r1] τx σm
  refine LW.al C0 (k := 2) rfl dL_law_221 ?_
  refine LW.al C0 (k := 0) rfl dL_law_222 ?_
  refine LW.il C0 (k := 3) rfl dL_law_223 ?_
  refine LW.iconst C0 (v := 1) (by decide) dL_law_224 ?_
  refine LW.iadd C0 dL_law_225 ?_
  rw [show nI i + 1 = nI (i + 1) from nI_add i 1]
  refine LW.sld C0 (vp_in_nI (show i + 1 < L by omega) (by omega)) dL_law_226 ?_
  refine LW.sw hB (LW.call (M' := mX7_undo) (as := [.int (xs (nI (i + 1)).toNatClampNeg)]) (rest := [.int r1]) C0 hB.sw (c_X7_undo hR.2.1) rfl (gci_X7).1 ml_L_26 im_yX7_undo se_yX7_undo gcl_X7_undo ⟨by decide, by decide⟩ rfl rfl (Nat.le_of_ble_eq_true rfl) dL_law_227 (fun rv τm hq => LW.sw hB.sw ?_))
  obtain ⟨r2, rfl, hq2⟩ := hq
  show LW (XC l D cA ax) (XM l D cA am) p e s m below meth c b (230) _ [.int r2, .int r1] τx τm
  obtain ⟨heq, hR2⟩ := pr_text hR.2.2 hq1 hq2
  exact LW.iceq C0 (tgt := 968) (by decide) dL_law_230 (fun _ => next τx τm hR2) (fun h => absurd heq h)
set_option maxHeartbeats 4000000 in
set_option maxRecDepth 100000 in
theorem law_3 {p : Program} {l : Launch} {e : Env} {s : State} {m : MethodId} {below : List Frame} {meth : Method} {c : Code} {D : va_G} {cA : ClassId} {ax am : Nat → Nat} {b L : Nat} {xs : Nat → Int32} (hL : L ≤ 3072) (C0 : lw_At p s m meth c b L xs) (hB : lwB (XC l D cA ax) (XM l D cA am) s) {i : Nat} (hi : i + 6 ≤ L) {ln B : Nat → Nat} {σx σm : gS} (hR : IX σx ln B ∧ TM σm ln B ∧ SR σx σm) (next : ∀ τx τm, RLn τx τm → LW (XC l D cA ax) (XM l D cA am) p e s m below meth c b 968 [some (.ref b), some (.ref (ax 0)), some (.ref (am 0)), some (.int (nI i))] [] τx τm) : LW (XC l D cA ax) (XM l D cA am) p e s m below meth c b 235 [some (.ref b), some (.ref (ax 0)), some (.ref (am 0)), some (.int (nI i))] [] σx σm := by
  refine LW.al C0 (k := 1) rfl dL_law_235 ?_
  refine LW.al C0 (k := 0) rfl dL_law_236 ?_
  refine LW.il C0 (k := 3) rfl dL_law_237 ?_
  refine LW.iconst C0 (v := 1) (by decide) dL_law_238 ?_
  refine LW.iadd C0 dL_law_239 ?_
  rw [show nI i + 1 = nI (i + 1) from nI_add i 1]
  refine LW.sld C0 (vp_in_nI (show i + 1 < L by omega) (by omega)) dL_law_240 ?_
  refine LW.call (M' := mX6_fault) (as := [.int (xs (nI (i + 1)).toNatClampNeg)]) (rest := []) C0 hB (c_X6_fault hR.1) rfl (gci_X6).1 ml_L_27 im_yX6_fault se_yX6_fault gcl_X6_fault ⟨by decide, by decide⟩ rfl rfl (Nat.le_of_ble_eq_true rfl) dL_law_241 (fun rv τx hq => ?_)
  obtain ⟨r1, rfl, hq1⟩ := hq
  show LW (XC l D cA ax) (XM l D cA am) p e s m below meth c b (244) _ [.int r1] τx σm
  refine LW.al C0 (k := 2) rfl dL_law_244 ?_
  refine LW.al C0 (k := 0) rfl dL_law_245 ?_
  refine LW.il C0 (k := 3) rfl dL_law_246 ?_
  refine LW.iconst C0 (v := 1) (by decide) dL_law_247 ?_
  refine LW.iadd C0 dL_law_248 ?_
  rw [show nI i + 1 = nI (i + 1) from nI_add i 1]
  refine LW.sld C0 (vp_in_nI (show i + 1 < L by omega) (by omega)) dL_law_249 ?_
  refine LW.sw hB (LW.call (M' := mX7_fault) (as := [.int (xs (nI (i + 1)).toNatClampNeg)]) (rest := [.int r1]) C0 hB.sw (c_X7_fault hR.2.1) rfl (gci_X7).1 ml_L_30 im_yX7_fault se_yX7_fault gcl_X7_fault ⟨by decide, by decide⟩ rfl rfl (Nat.le_of_ble_eq_true rfl) dL_law_250 (fun rv τm hq => LW.sw hB.sw ?_))
  obtain ⟨r2, rfl, hq2⟩ := hq
  show LW (XC l D cA ax) (XM l D cA am) p e s m below meth c b (253) _ [.int r2, .int r1] τx τm
  obtain ⟨heq, hR2⟩ := pr_fun hR.1 hR.2.1 hR.2.2 hq1 ⟨hq2.1, rdF_Q hq2.2⟩
  exact LW.iceq C0 (tgt := 968) (by decide) dL_law_253 (fun _ => next τx τm hR2) (fun h => absurd heq h)
set_option maxHeartbeats 4000000 in
set_option maxRecDepth 100000 in
theorem law_4 {p : Program} {l : Launch} {e : Env} {s : State} {m : MethodId} {below : List Frame} {meth : Method} {c : Code} {D : va_G} {cA : ClassId} {ax am : Nat → Nat} {b L : Nat} {xs : Nat → Int32} (hL : L ≤ 3072) (C0 : lw_At p s m meth c b L xs) (hB : lwB (XC l D cA ax) (XM l D cA am) s) {i : Nat} (hi : i + 6 ≤ L) {ln B : Nat → Nat} {σx σm : gS} (hR : IX σx ln B ∧ TM σm ln B ∧ SR σx σm) (next : ∀ τx τm, RLn τx τm → LW (XC l D cA ax) (XM l D cA am) p e s m below meth c b 968 [some (.ref b), some (.ref (ax 0)), some (.ref (am 0)), some (.int (nI i))] [] τx τm) : LW (XC l D cA ax) (XM l D cA am) p e s m below meth c b 258 [some (.ref b), some (.ref (ax 0)), some (.ref (am 0)), some (.int (nI i))] [] σx σm := by
  refine LW.al C0 (k := 1) rfl dL_law_258 ?_
  refine LW.al C0 (k := 0) rfl dL_law_259 ?_
  refine LW.il C0 (k := 3) rfl dL_law_260 ?_
  refine LW.iconst C0 (v := 1) (by decide) dL_law_261 ?_
  refine LW.iadd C0 dL_law_262 ?_
  rw [show nI i + 1 = nI (i + 1) from nI_add i 1]
  refine LW.sld C0 (vp_in_nI (show i + 1 < L by omega) (by omega)) dL_law_263 ?_
  refine LW.al C0 (k := 0) rfl dL_law_264 ?_
  refine LW.il C0 (k := 3) rfl dL_law_265 ?_
  refine LW.iconst C0 (v := 2) (by decide) dL_law_266 ?_
  refine LW.iadd C0 dL_law_267 ?_
  rw [show nI i + 2 = nI (i + 2) from nI_add i 2]
  refine LW.sld C0 (vp_in_nI (show i + 2 < L by omega) (by omega)) dL_law_268 ?_
  refine LW.call (M' := mX6_read) (as := [.int (xs (nI (i + 1)).toNatClampNeg), .int (xs (nI (i + 2)).toNatClampNeg)]) (rest := []) C0 hB (c_X6_read hR.1 hR.2.2.1) rfl (gci_X6).1 ml_L_31 im_yX6_read se_yX6_read gcl_X6_read ⟨by decide, by decide⟩ rfl rfl (Nat.le_of_ble_eq_true rfl) dL_law_269 (fun rv τx hq => ?_)
  obtain ⟨r1, rfl, hq1⟩ := hq
  show LW (XC l D cA ax) (XM l D cA am) p e s m below meth c b (272) _ [.int r1] τx σm
  refine LW.al C0 (k := 2) rfl dL_law_272 ?_
  refine LW.al C0 (k := 0) rfl dL_law_273 ?_
  refine LW.il C0 (k := 3) rfl dL_law_274 ?_
  refine LW.iconst C0 (v := 1) (by decide) dL_law_275 ?_
  refine LW.iadd C0 dL_law_276 ?_
  rw [show nI i + 1 = nI (i + 1) from nI_add i 1]
  refine LW.sld C0 (vp_in_nI (show i + 1 < L by omega) (by omega)) dL_law_277 ?_
  refine LW.al C0 (k := 0) rfl dL_law_278 ?_
  refine LW.il C0 (k := 3) rfl dL_law_279 ?_
  refine LW.iconst C0 (v := 2) (by decide) dL_law_280 ?_
  refine LW.iadd C0 dL_law_281 ?_
  rw [show nI i + 2 = nI (i + 2) from nI_add i 2]
  refine LW.sld C0 (vp_in_nI (show i + 2 < L by omega) (by omega)) dL_law_282 ?_
  refine LW.sw hB (LW.call (M' := mX7_read) (as := [.int (xs (nI (i + 1)).toNatClampNeg), .int (xs (nI (i + 2)).toNatClampNeg)]) (rest := [.int r1]) C0 hB.sw (c_X7_read hR.2.1 hR.2.2.2.1) rfl (gci_X7).1 ml_L_34 im_yX7_read se_yX7_read gcl_X7_read ⟨by decide, by decide⟩ rfl rfl (Nat.le_of_ble_eq_true rfl) dL_law_283 (fun rv τm hq => LW.sw hB.sw ?_))
  obtain ⟨r2, rfl, hq2⟩ := hq
  show LW (XC l D cA ax) (XM l D cA am) p e s m below meth c b (286) _ [.int r2, .int r1] τx τm
  obtain ⟨heq, hR2⟩ := pr_read hR.1 hR.2.1 hR.2.2 hq1 hq2
  exact LW.iceq C0 (tgt := 968) (by decide) dL_law_286 (fun _ => next τx τm hR2) (fun h => absurd heq h)
set_option maxHeartbeats 4000000 in
set_option maxRecDepth 100000 in
theorem law_5 {p : Program} {l : Launch} {e : Env} {s : State} {m : MethodId} {below : List Frame} {meth : Method} {c : Code} {D : va_G} {cA : ClassId} {ax am : Nat → Nat} {b L : Nat} {xs : Nat → Int32} (hL : L ≤ 3072) (C0 : lw_At p s m meth c b L xs) (hB : lwB (XC l D cA ax) (XM l D cA am) s) {i : Nat} (hi : i + 6 ≤ L) {ln B : Nat → Nat} {σx σm : gS} (hR : IX σx ln B ∧ TM σm ln B ∧ SR σx σm) (next : ∀ τx τm, RLn τx τm → LW (XC l D cA ax) (XM l D cA am) p e s m below meth c b 968 [some (.ref b), some (.ref (ax 0)), some (.ref (am 0)), some (.int (nI i))] [] τx τm) : LW (XC l D cA ax) (XM l D cA am) p e s m below meth c b 291 [some (.ref b), some (.ref (ax 0)), some (.ref (am 0)), some (.int (nI i))] [] σx σm := by
  refine LW.al C0 (k := 1) rfl dL_law_291 ?_
  refine LW.al C0 (k := 0) rfl dL_law_292 ?_
  refine LW.il C0 (k := 3) rfl dL_law_293 ?_
  refine LW.iconst C0 (v := 1) (by decide) dL_law_294 ?_
  refine LW.iadd C0 dL_law_295 ?_
  rw [show nI i + 1 = nI (i + 1) from nI_add i 1]
  refine LW.sld C0 (vp_in_nI (show i + 1 < L by omega) (by omega)) dL_law_296 ?_
  refine LW.al C0 (k := 0) rfl dL_law_297 ?_
  refine LW.il C0 (k := 3) rfl dL_law_298 ?_
  refine LW.iconst C0 (v := 2) (by decide) dL_law_299 ?_
  refine LW.iadd C0 dL_law_300 ?_
  rw [show nI i + 2 = nI (i + 2) from nI_add i 2]
  refine LW.sld C0 (vp_in_nI (show i + 2 < L by omega) (by omega)) dL_law_301 ?_
  refine LW.call (M' := mX6_turn) (as := [.int (xs (nI (i + 1)).toNatClampNeg), .int (xs (nI (i + 2)).toNatClampNeg)]) (rest := []) C0 hB (c_X6_turn hR.1) rfl (gci_X6).1 ml_L_35 im_yX6_turn se_yX6_turn gcl_X6_turn ⟨by decide, by decide⟩ rfl rfl (Nat.le_of_ble_eq_true rfl) dL_law_302 (fun rv τx hq => ?_)
  obtain ⟨r1, rfl, hq1⟩ := hq
  show LW (XC l D cA ax) (XM l D cA am) p e s m below meth c b (305) _ [.int r1] τx σm
  refine LW.al C0 (k := 2) rfl dL_law_305 ?_
  refine LW.al C0 (k := 0) rfl dL_law_306 ?_
  refine LW.il C0 (k := 3) rfl dL_law_307 ?_
  refine LW.iconst C0 (v := 1) (by decide) dL_law_308 ?_
  refine LW.iadd C0 dL_law_309 ?_
  rw [show nI i + 1 = nI (i + 1) from nI_add i 1]
  refine LW.sld C0 (vp_in_nI (show i + 1 < L by omega) (by omega)) dL_law_310 ?_
  refine LW.al C0 (k := 0) rfl dL_law_311 ?_
  refine LW.il C0 (k := 3) rfl dL_law_312 ?_
  refine LW.iconst C0 (v := 2) (by decide) dL_law_313 ?_
  refine LW.iadd C0 dL_law_314 ?_
  rw [show nI i + 2 = nI (i + 2) from nI_add i 2]
  refine LW.sld C0 (vp_in_nI (show i + 2 < L by omega) (by omega)) dL_law_315 ?_
  refine LW.sw hB (LW.call (M' := mX7_turn) (as := [.int (xs (nI (i + 1)).toNatClampNeg), .int (xs (nI (i + 2)).toNatClampNeg)]) (rest := [.int r1]) C0 hB.sw (c_X7_turn hR.2.1) rfl (gci_X7).1 ml_L_38 im_yX7_turn se_yX7_turn gcl_X7_turn ⟨by decide, by decide⟩ rfl rfl (Nat.le_of_ble_eq_true rfl) dL_law_316 (fun rv τm hq => LW.sw hB.sw ?_))
  obtain ⟨r2, rfl, hq2⟩ := hq
  show LW (XC l D cA ax) (XM l D cA am) p e s m below meth c b (319) _ [.int r2, .int r1] τx τm
  obtain ⟨heq, hR2⟩ := pr_fun (τm := τm) hR.1 hR.2.1 hR.2.2 hq1 ⟨hq2.1, by rw [hq2.2]; exact mQ_up13 _⟩
  exact LW.iceq C0 (tgt := 968) (by decide) dL_law_319 (fun _ => next τx τm hR2) (fun h => absurd heq h)
set_option maxHeartbeats 4000000 in
set_option maxRecDepth 100000 in
theorem law_6 {p : Program} {l : Launch} {e : Env} {s : State} {m : MethodId} {below : List Frame} {meth : Method} {c : Code} {D : va_G} {cA : ClassId} {ax am : Nat → Nat} {b L : Nat} {xs : Nat → Int32} (hL : L ≤ 3072) (C0 : lw_At p s m meth c b L xs) (hB : lwB (XC l D cA ax) (XM l D cA am) s) {i : Nat} (hi : i + 6 ≤ L) {ln B : Nat → Nat} {σx σm : gS} (hR : IX σx ln B ∧ TM σm ln B ∧ SR σx σm) (next : ∀ τx τm, RLn τx τm → LW (XC l D cA ax) (XM l D cA am) p e s m below meth c b 968 [some (.ref b), some (.ref (ax 0)), some (.ref (am 0)), some (.int (nI i))] [] τx τm) : LW (XC l D cA ax) (XM l D cA am) p e s m below meth c b 324 [some (.ref b), some (.ref (ax 0)), some (.ref (am 0)), some (.int (nI i))] [] σx σm := by
  refine LW.al C0 (k := 1) rfl dL_law_324 ?_
  refine LW.al C0 (k := 0) rfl dL_law_325 ?_
  refine LW.il C0 (k := 3) rfl dL_law_326 ?_
  refine LW.iconst C0 (v := 1) (by decide) dL_law_327 ?_
  refine LW.iadd C0 dL_law_328 ?_
  rw [show nI i + 1 = nI (i + 1) from nI_add i 1]
  refine LW.sld C0 (vp_in_nI (show i + 1 < L by omega) (by omega)) dL_law_329 ?_
  refine LW.al C0 (k := 0) rfl dL_law_330 ?_
  refine LW.il C0 (k := 3) rfl dL_law_331 ?_
  refine LW.iconst C0 (v := 2) (by decide) dL_law_332 ?_
  refine LW.iadd C0 dL_law_333 ?_
  rw [show nI i + 2 = nI (i + 2) from nI_add i 2]
  refine LW.sld C0 (vp_in_nI (show i + 2 < L by omega) (by omega)) dL_law_334 ?_
  refine LW.call (M' := mX6_power) (as := [.int (xs (nI (i + 1)).toNatClampNeg), .int (xs (nI (i + 2)).toNatClampNeg)]) (rest := []) C0 hB (c_X6_power hR.1) rfl (gci_X6).1 ml_L_39 im_yX6_power se_yX6_power gcl_X6_power ⟨by decide, by decide⟩ rfl rfl (Nat.le_of_ble_eq_true rfl) dL_law_335 (fun rv τx hq => ?_)
  obtain ⟨r1, rfl, hq1⟩ := hq
  show LW (XC l D cA ax) (XM l D cA am) p e s m below meth c b (338) _ [.int r1] τx σm
  refine LW.al C0 (k := 2) rfl dL_law_338 ?_
  refine LW.al C0 (k := 0) rfl dL_law_339 ?_
  refine LW.il C0 (k := 3) rfl dL_law_340 ?_
  refine LW.iconst C0 (v := 1) (by decide) dL_law_341 ?_
  refine LW.iadd C0 dL_law_342 ?_
  rw [show nI i + 1 = nI (i + 1) from nI_add i 1]
  refine LW.sld C0 (vp_in_nI (show i + 1 < L by omega) (by omega)) dL_law_343 ?_
  refine LW.al C0 (k := 0) rfl dL_law_344 ?_
  refine LW.il C0 (k := 3) rfl dL_law_345 ?_
  refine LW.iconst C0 (v := 2) (by decide) dL_law_346 ?_
  refine LW.iadd C0 dL_law_347 ?_
  rw [show nI i + 2 = nI (i + 2) from nI_add i 2]
  refine LW.sld C0 (vp_in_nI (show i + 2 < L by omega) (by omega)) dL_law_348 ?_
  refine LW.sw hB (LW.call (M' := mX7_power) (as := [.int (xs (nI (i + 1)).toNatClampNeg), .int (xs (nI (i + 2)).toNatClampNeg)]) (rest := [.int r1]) C0 hB.sw (c_X7_power hR.2.1) rfl (gci_X7).1 ml_L_42 im_yX7_power se_yX7_power gcl_X7_power ⟨by decide, by decide⟩ rfl rfl (Nat.le_of_ble_eq_true rfl) dL_law_349 (fun rv τm hq => LW.sw hB.sw ?_))
  obtain ⟨r2, rfl, hq2⟩ := hq
  show LW (XC l D cA ax) (XM l D cA am) p e s m below meth c b (352) _ [.int r2, .int r1] τx τm
  obtain ⟨heq, hR2⟩ := pr_fun (τm := τm) hR.1 hR.2.1 hR.2.2 hq1 ⟨hq2.1, by rw [hq2.2]; exact mQ_up13 _⟩
  exact LW.iceq C0 (tgt := 968) (by decide) dL_law_352 (fun _ => next τx τm hR2) (fun h => absurd heq h)
set_option maxHeartbeats 4000000 in
set_option maxRecDepth 100000 in
theorem law_7 {p : Program} {l : Launch} {e : Env} {s : State} {m : MethodId} {below : List Frame} {meth : Method} {c : Code} {D : va_G} {cA : ClassId} {ax am : Nat → Nat} {b L : Nat} {xs : Nat → Int32} (hL : L ≤ 3072) (C0 : lw_At p s m meth c b L xs) (hB : lwB (XC l D cA ax) (XM l D cA am) s) {i : Nat} (hi : i + 6 ≤ L) {ln B : Nat → Nat} {σx σm : gS} (hR : IX σx ln B ∧ TM σm ln B ∧ SR σx σm) (next : ∀ τx τm, RLn τx τm → LW (XC l D cA ax) (XM l D cA am) p e s m below meth c b 968 [some (.ref b), some (.ref (ax 0)), some (.ref (am 0)), some (.int (nI i))] [] τx τm) : LW (XC l D cA ax) (XM l D cA am) p e s m below meth c b 357 [some (.ref b), some (.ref (ax 0)), some (.ref (am 0)), some (.int (nI i))] [] σx σm := by
  refine LW.al C0 (k := 1) rfl dL_law_357 ?_
  refine LW.al C0 (k := 0) rfl dL_law_358 ?_
  refine LW.il C0 (k := 3) rfl dL_law_359 ?_
  refine LW.iconst C0 (v := 1) (by decide) dL_law_360 ?_
  refine LW.iadd C0 dL_law_361 ?_
  rw [show nI i + 1 = nI (i + 1) from nI_add i 1]
  refine LW.sld C0 (vp_in_nI (show i + 1 < L by omega) (by omega)) dL_law_362 ?_
  refine LW.call (M' := mX6_rounds) (as := [.int (xs (nI (i + 1)).toNatClampNeg)]) (rest := []) C0 hB (c_X6_rounds hR.1) rfl (gci_X6).1 ml_L_43 im_yX6_rounds se_yX6_rounds gcl_X6_rounds ⟨by decide, by decide⟩ rfl rfl (Nat.le_of_ble_eq_true rfl) dL_law_363 (fun rv τx hq => ?_)
  obtain ⟨r1, rfl, hq1⟩ := hq
  show LW (XC l D cA ax) (XM l D cA am) p e s m below meth c b (366) _ [.int r1] τx σm
  refine LW.al C0 (k := 2) rfl dL_law_366 ?_
  refine LW.al C0 (k := 0) rfl dL_law_367 ?_
  refine LW.il C0 (k := 3) rfl dL_law_368 ?_
  refine LW.iconst C0 (v := 1) (by decide) dL_law_369 ?_
  refine LW.iadd C0 dL_law_370 ?_
  rw [show nI i + 1 = nI (i + 1) from nI_add i 1]
  refine LW.sld C0 (vp_in_nI (show i + 1 < L by omega) (by omega)) dL_law_371 ?_
  refine LW.sw hB (LW.call (M' := mX7_rounds) (as := [.int (xs (nI (i + 1)).toNatClampNeg)]) (rest := [.int r1]) C0 hB.sw (c_X7_rounds hR.2.1) rfl (gci_X7).1 ml_L_46 im_yX7_rounds se_yX7_rounds gcl_X7_rounds ⟨by decide, by decide⟩ rfl rfl (Nat.le_of_ble_eq_true rfl) dL_law_372 (fun rv τm hq => LW.sw hB.sw ?_))
  obtain ⟨r2, rfl, hq2⟩ := hq
  show LW (XC l D cA ax) (XM l D cA am) p e s m below meth c b (375) _ [.int r2, .int r1] τx τm
  obtain ⟨heq, hR2⟩ := pr_fun hR.1 hR.2.1 hR.2.2 hq1 ⟨hq2.1, mQ_tf hq2.2⟩
  exact LW.iceq C0 (tgt := 968) (by decide) dL_law_375 (fun _ => next τx τm hR2) (fun h => absurd heq h)
set_option maxHeartbeats 4000000 in
set_option maxRecDepth 100000 in
theorem law_8 {p : Program} {l : Launch} {e : Env} {s : State} {m : MethodId} {below : List Frame} {meth : Method} {c : Code} {D : va_G} {cA : ClassId} {ax am : Nat → Nat} {b L : Nat} {xs : Nat → Int32} (hL : L ≤ 3072) (C0 : lw_At p s m meth c b L xs) (hB : lwB (XC l D cA ax) (XM l D cA am) s) {i : Nat} (hi : i + 6 ≤ L) {ln B : Nat → Nat} {σx σm : gS} (hR : IX σx ln B ∧ TM σm ln B ∧ SR σx σm) (next : ∀ τx τm, RLn τx τm → LW (XC l D cA ax) (XM l D cA am) p e s m below meth c b 968 [some (.ref b), some (.ref (ax 0)), some (.ref (am 0)), some (.int (nI i))] [] τx τm) : LW (XC l D cA ax) (XM l D cA am) p e s m below meth c b 380 [some (.ref b), some (.ref (ax 0)), some (.ref (am 0)), some (.int (nI i))] [] σx σm := by
  refine LW.al C0 (k := 1) rfl dL_law_380 ?_
  refine LW.al C0 (k := 0) rfl dL_law_381 ?_
  refine LW.il C0 (k := 3) rfl dL_law_382 ?_
  refine LW.iconst C0 (v := 1) (by decide) dL_law_383 ?_
  refine LW.iadd C0 dL_law_384 ?_
  rw [show nI i + 1 = nI (i + 1) from nI_add i 1]
  refine LW.sld C0 (vp_in_nI (show i + 1 < L by omega) (by omega)) dL_law_385 ?_
  refine LW.call (M' := mX6_shows) (as := [.int (xs (nI (i + 1)).toNatClampNeg)]) (rest := []) C0 hB (c_X6_shows hR.1) rfl (gci_X6).1 ml_L_47 im_yX6_shows se_yX6_shows gcl_X6_shows ⟨by decide, by decide⟩ rfl rfl (Nat.le_of_ble_eq_true rfl) dL_law_386 (fun rv τx hq => ?_)
  obtain ⟨r1, rfl, hq1⟩ := hq
  show LW (XC l D cA ax) (XM l D cA am) p e s m below meth c b (389) _ [.int r1] τx σm
  refine LW.al C0 (k := 2) rfl dL_law_389 ?_
  refine LW.al C0 (k := 0) rfl dL_law_390 ?_
  refine LW.il C0 (k := 3) rfl dL_law_391 ?_
  refine LW.iconst C0 (v := 1) (by decide) dL_law_392 ?_
  refine LW.iadd C0 dL_law_393 ?_
  rw [show nI i + 1 = nI (i + 1) from nI_add i 1]
  refine LW.sld C0 (vp_in_nI (show i + 1 < L by omega) (by omega)) dL_law_394 ?_
  refine LW.sw hB (LW.call (M' := mX7_shows) (as := [.int (xs (nI (i + 1)).toNatClampNeg)]) (rest := [.int r1]) C0 hB.sw (c_X7_shows hR.2.1) rfl (gci_X7).1 ml_L_50 im_yX7_shows se_yX7_shows gcl_X7_shows ⟨by decide, by decide⟩ rfl rfl (Nat.le_of_ble_eq_true rfl) dL_law_395 (fun rv τm hq => LW.sw hB.sw ?_))
  obtain ⟨r2, rfl, hq2⟩ := hq
  show LW (XC l D cA ax) (XM l D cA am) p e s m below meth c b (398) _ [.int r2, .int r1] τx τm
  obtain ⟨heq, hR2⟩ := pr_ask hR.2.1 hR.2.2 hq1 ⟨hq2.1, mQ_tf hq2.2⟩
  exact LW.iceq C0 (tgt := 968) (by decide) dL_law_398 (fun _ => next τx τm hR2) (fun h => absurd heq h)
set_option maxHeartbeats 4000000 in
set_option maxRecDepth 100000 in
theorem law_9 {p : Program} {l : Launch} {e : Env} {s : State} {m : MethodId} {below : List Frame} {meth : Method} {c : Code} {D : va_G} {cA : ClassId} {ax am : Nat → Nat} {b L : Nat} {xs : Nat → Int32} (hL : L ≤ 3072) (C0 : lw_At p s m meth c b L xs) (hB : lwB (XC l D cA ax) (XM l D cA am) s) {i : Nat} (hi : i + 6 ≤ L) {ln B : Nat → Nat} {σx σm : gS} (hR : IX σx ln B ∧ TM σm ln B ∧ SR σx σm) (next : ∀ τx τm, RLn τx τm → LW (XC l D cA ax) (XM l D cA am) p e s m below meth c b 968 [some (.ref b), some (.ref (ax 0)), some (.ref (am 0)), some (.int (nI i))] [] τx τm) : LW (XC l D cA ax) (XM l D cA am) p e s m below meth c b 403 [some (.ref b), some (.ref (ax 0)), some (.ref (am 0)), some (.int (nI i))] [] σx σm := by
  refine LW.al C0 (k := 1) rfl dL_law_403 ?_
  refine LW.al C0 (k := 0) rfl dL_law_404 ?_
  refine LW.il C0 (k := 3) rfl dL_law_405 ?_
  refine LW.iconst C0 (v := 1) (by decide) dL_law_406 ?_
  refine LW.iadd C0 dL_law_407 ?_
  rw [show nI i + 1 = nI (i + 1) from nI_add i 1]
  refine LW.sld C0 (vp_in_nI (show i + 1 < L by omega) (by omega)) dL_law_408 ?_
  refine LW.al C0 (k := 0) rfl dL_law_409 ?_
  refine LW.il C0 (k := 3) rfl dL_law_410 ?_
  refine LW.iconst C0 (v := 2) (by decide) dL_law_411 ?_
  refine LW.iadd C0 dL_law_412 ?_
  rw [show nI i + 2 = nI (i + 2) from nI_add i 2]
  refine LW.sld C0 (vp_in_nI (show i + 2 < L by omega) (by omega)) dL_law_413 ?_
  refine LW.call (M' := mX6_term) (as := [.int (xs (nI (i + 1)).toNatClampNeg), .int (xs (nI (i + 2)).toNatClampNeg)]) (rest := []) C0 hB (c_X6_term hR.1) rfl (gci_X6).1 ml_L_51 im_yX6_term se_yX6_term gcl_X6_term ⟨by decide, by decide⟩ rfl rfl (Nat.le_of_ble_eq_true rfl) dL_law_414 (fun rv τx hq => ?_)
  obtain ⟨r1, rfl, hq1⟩ := hq
  show LW (XC l D cA ax) (XM l D cA am) p e s m below meth c b (417) _ [.int r1] τx σm
  refine LW.al C0 (k := 2) rfl dL_law_417 ?_
  refine LW.al C0 (k := 0) rfl dL_law_418 ?_
  refine LW.il C0 (k := 3) rfl dL_law_419 ?_
  refine LW.iconst C0 (v := 1) (by decide) dL_law_420 ?_
  refine LW.iadd C0 dL_law_421 ?_
  rw [show nI i + 1 = nI (i + 1) from nI_add i 1]
  refine LW.sld C0 (vp_in_nI (show i + 1 < L by omega) (by omega)) dL_law_422 ?_
  refine LW.al C0 (k := 0) rfl dL_law_423 ?_
  refine LW.il C0 (k := 3) rfl dL_law_424 ?_
  refine LW.iconst C0 (v := 2) (by decide) dL_law_425 ?_
  refine LW.iadd C0 dL_law_426 ?_
  rw [show nI i + 2 = nI (i + 2) from nI_add i 2]
  refine LW.sld C0 (vp_in_nI (show i + 2 < L by omega) (by omega)) dL_law_427 ?_
  refine LW.sw hB (LW.call (M' := mX7_term) (as := [.int (xs (nI (i + 1)).toNatClampNeg), .int (xs (nI (i + 2)).toNatClampNeg)]) (rest := [.int r1]) C0 hB.sw (c_X7_term hR.2.1) rfl (gci_X7).1 ml_L_54 im_yX7_term se_yX7_term gcl_X7_term ⟨by decide, by decide⟩ rfl rfl (Nat.le_of_ble_eq_true rfl) dL_law_428 (fun rv τm hq => LW.sw hB.sw ?_))
  obtain ⟨r2, rfl, hq2⟩ := hq
  show LW (XC l D cA ax) (XM l D cA am) p e s m below meth c b (431) _ [.int r2, .int r1] τx τm
  obtain ⟨heq, hR2⟩ := pr_fun hR.1 hR.2.1 hR.2.2 hq1 hq2
  exact LW.iceq C0 (tgt := 968) (by decide) dL_law_431 (fun _ => next τx τm hR2) (fun h => absurd heq h)
set_option maxHeartbeats 4000000 in
set_option maxRecDepth 100000 in
theorem law_10 {p : Program} {l : Launch} {e : Env} {s : State} {m : MethodId} {below : List Frame} {meth : Method} {c : Code} {D : va_G} {cA : ClassId} {ax am : Nat → Nat} {b L : Nat} {xs : Nat → Int32} (hL : L ≤ 3072) (C0 : lw_At p s m meth c b L xs) (hB : lwB (XC l D cA ax) (XM l D cA am) s) {i : Nat} (hi : i + 6 ≤ L) {ln B : Nat → Nat} {σx σm : gS} (hR : IX σx ln B ∧ TM σm ln B ∧ SR σx σm) (next : ∀ τx τm, RLn τx τm → LW (XC l D cA ax) (XM l D cA am) p e s m below meth c b 968 [some (.ref b), some (.ref (ax 0)), some (.ref (am 0)), some (.int (nI i))] [] τx τm) : LW (XC l D cA ax) (XM l D cA am) p e s m below meth c b 436 [some (.ref b), some (.ref (ax 0)), some (.ref (am 0)), some (.int (nI i))] [] σx σm := by
  refine LW.al C0 (k := 1) rfl dL_law_436 ?_
  refine LW.al C0 (k := 0) rfl dL_law_437 ?_
  refine LW.il C0 (k := 3) rfl dL_law_438 ?_
  refine LW.iconst C0 (v := 1) (by decide) dL_law_439 ?_
  refine LW.iadd C0 dL_law_440 ?_
  rw [show nI i + 1 = nI (i + 1) from nI_add i 1]
  refine LW.sld C0 (vp_in_nI (show i + 1 < L by omega) (by omega)) dL_law_441 ?_
  refine LW.al C0 (k := 0) rfl dL_law_442 ?_
  refine LW.il C0 (k := 3) rfl dL_law_443 ?_
  refine LW.iconst C0 (v := 2) (by decide) dL_law_444 ?_
  refine LW.iadd C0 dL_law_445 ?_
  rw [show nI i + 2 = nI (i + 2) from nI_add i 2]
  refine LW.sld C0 (vp_in_nI (show i + 2 < L by omega) (by omega)) dL_law_446 ?_
  refine LW.call (M' := mX6_shown) (as := [.int (xs (nI (i + 1)).toNatClampNeg), .int (xs (nI (i + 2)).toNatClampNeg)]) (rest := []) C0 hB (c_X6_shown hR.1) rfl (gci_X6).1 ml_L_55 im_yX6_shown se_yX6_shown gcl_X6_shown ⟨by decide, by decide⟩ rfl rfl (Nat.le_of_ble_eq_true rfl) dL_law_447 (fun rv τx hq => ?_)
  obtain ⟨r1, rfl, hq1⟩ := hq
  show LW (XC l D cA ax) (XM l D cA am) p e s m below meth c b (450) _ [.int r1] τx σm
  refine LW.al C0 (k := 2) rfl dL_law_450 ?_
  refine LW.al C0 (k := 0) rfl dL_law_451 ?_
  refine LW.il C0 (k := 3) rfl dL_law_452 ?_
  refine LW.iconst C0 (v := 1) (by decide) dL_law_453 ?_
  refine LW.iadd C0 dL_law_454 ?_
  rw [show nI i + 1 = nI (i + 1) from nI_add i 1]
  refine LW.sld C0 (vp_in_nI (show i + 1 < L by omega) (by omega)) dL_law_455 ?_
  refine LW.al C0 (k := 0) rfl dL_law_456 ?_
  refine LW.il C0 (k := 3) rfl dL_law_457 ?_
  refine LW.iconst C0 (v := 2) (by decide) dL_law_458 ?_
  refine LW.iadd C0 dL_law_459 ?_
  rw [show nI i + 2 = nI (i + 2) from nI_add i 2]
  refine LW.sld C0 (vp_in_nI (show i + 2 < L by omega) (by omega)) dL_law_460 ?_
  refine LW.sw hB (LW.call (M' := mX7_shown) (as := [.int (xs (nI (i + 1)).toNatClampNeg), .int (xs (nI (i + 2)).toNatClampNeg)]) (rest := [.int r1]) C0 hB.sw (c_X7_shown hR.2.1) rfl (gci_X7).1 ml_L_58 im_yX7_shown se_yX7_shown gcl_X7_shown ⟨by decide, by decide⟩ rfl rfl (Nat.le_of_ble_eq_true rfl) dL_law_461 (fun rv τm hq => LW.sw hB.sw ?_))
  obtain ⟨r2, rfl, hq2⟩ := hq
  show LW (XC l D cA ax) (XM l D cA am) p e s m below meth c b (464) _ [.int r2, .int r1] τx τm
  obtain ⟨heq, hR2⟩ := pr_ask hR.2.1 hR.2.2 hq1 hq2
  exact LW.iceq C0 (tgt := 968) (by decide) dL_law_464 (fun _ => next τx τm hR2) (fun h => absurd heq h)
set_option maxHeartbeats 4000000 in
set_option maxRecDepth 100000 in
theorem law_11 {p : Program} {l : Launch} {e : Env} {s : State} {m : MethodId} {below : List Frame} {meth : Method} {c : Code} {D : va_G} {cA : ClassId} {ax am : Nat → Nat} {b L : Nat} {xs : Nat → Int32} (hL : L ≤ 3072) (C0 : lw_At p s m meth c b L xs) (hB : lwB (XC l D cA ax) (XM l D cA am) s) {i : Nat} (hi : i + 6 ≤ L) {ln B : Nat → Nat} {σx σm : gS} (hR : IX σx ln B ∧ TM σm ln B ∧ SR σx σm) (next : ∀ τx τm, RLn τx τm → LW (XC l D cA ax) (XM l D cA am) p e s m below meth c b 968 [some (.ref b), some (.ref (ax 0)), some (.ref (am 0)), some (.int (nI i))] [] τx τm) : LW (XC l D cA ax) (XM l D cA am) p e s m below meth c b 469 [some (.ref b), some (.ref (ax 0)), some (.ref (am 0)), some (.int (nI i))] [] σx σm := by
  refine LW.al C0 (k := 1) rfl dL_law_469 ?_
  refine LW.al C0 (k := 0) rfl dL_law_470 ?_
  refine LW.il C0 (k := 3) rfl dL_law_471 ?_
  refine LW.iconst C0 (v := 1) (by decide) dL_law_472 ?_
  refine LW.iadd C0 dL_law_473 ?_
  rw [show nI i + 1 = nI (i + 1) from nI_add i 1]
  refine LW.sld C0 (vp_in_nI (show i + 1 < L by omega) (by omega)) dL_law_474 ?_
  refine LW.al C0 (k := 0) rfl dL_law_475 ?_
  refine LW.il C0 (k := 3) rfl dL_law_476 ?_
  refine LW.iconst C0 (v := 2) (by decide) dL_law_477 ?_
  refine LW.iadd C0 dL_law_478 ?_
  rw [show nI i + 2 = nI (i + 2) from nI_add i 2]
  refine LW.sld C0 (vp_in_nI (show i + 2 < L by omega) (by omega)) dL_law_479 ?_
  refine LW.call (M' := mX6_turned) (as := [.int (xs (nI (i + 1)).toNatClampNeg), .int (xs (nI (i + 2)).toNatClampNeg)]) (rest := []) C0 hB (c_X6_turned hR.1) rfl (gci_X6).1 ml_L_59 im_yX6_turned se_yX6_turned gcl_X6_turned ⟨by decide, by decide⟩ rfl rfl (Nat.le_of_ble_eq_true rfl) dL_law_480 (fun rv τx hq => ?_)
  obtain ⟨r1, rfl, hq1⟩ := hq
  show LW (XC l D cA ax) (XM l D cA am) p e s m below meth c b (483) _ [.int r1] τx σm
  refine LW.al C0 (k := 2) rfl dL_law_483 ?_
  refine LW.al C0 (k := 0) rfl dL_law_484 ?_
  refine LW.il C0 (k := 3) rfl dL_law_485 ?_
  refine LW.iconst C0 (v := 1) (by decide) dL_law_486 ?_
  refine LW.iadd C0 dL_law_487 ?_
  rw [show nI i + 1 = nI (i + 1) from nI_add i 1]
  refine LW.sld C0 (vp_in_nI (show i + 1 < L by omega) (by omega)) dL_law_488 ?_
  refine LW.al C0 (k := 0) rfl dL_law_489 ?_
  refine LW.il C0 (k := 3) rfl dL_law_490 ?_
  refine LW.iconst C0 (v := 2) (by decide) dL_law_491 ?_
  refine LW.iadd C0 dL_law_492 ?_
  rw [show nI i + 2 = nI (i + 2) from nI_add i 2]
  refine LW.sld C0 (vp_in_nI (show i + 2 < L by omega) (by omega)) dL_law_493 ?_
  refine LW.sw hB (LW.call (M' := mX7_turned) (as := [.int (xs (nI (i + 1)).toNatClampNeg), .int (xs (nI (i + 2)).toNatClampNeg)]) (rest := [.int r1]) C0 hB.sw (c_X7_turned hR.2.1) rfl (gci_X7).1 ml_L_62 im_yX7_turned se_yX7_turned gcl_X7_turned ⟨by decide, by decide⟩ rfl rfl (Nat.le_of_ble_eq_true rfl) dL_law_494 (fun rv τm hq => LW.sw hB.sw ?_))
  obtain ⟨r2, rfl, hq2⟩ := hq
  show LW (XC l D cA ax) (XM l D cA am) p e s m below meth c b (497) _ [.int r2, .int r1] τx τm
  obtain ⟨heq, hR2⟩ := pr_ask hR.2.1 hR.2.2 hq1 hq2
  exact LW.iceq C0 (tgt := 968) (by decide) dL_law_497 (fun _ => next τx τm hR2) (fun h => absurd heq h)
set_option maxHeartbeats 4000000 in
set_option maxRecDepth 100000 in
theorem law_12 {p : Program} {l : Launch} {e : Env} {s : State} {m : MethodId} {below : List Frame} {meth : Method} {c : Code} {D : va_G} {cA : ClassId} {ax am : Nat → Nat} {b L : Nat} {xs : Nat → Int32} (hL : L ≤ 3072) (C0 : lw_At p s m meth c b L xs) (hB : lwB (XC l D cA ax) (XM l D cA am) s) {i : Nat} (hi : i + 6 ≤ L) {ln B : Nat → Nat} {σx σm : gS} (hR : IX σx ln B ∧ TM σm ln B ∧ SR σx σm) (next : ∀ τx τm, RLn τx τm → LW (XC l D cA ax) (XM l D cA am) p e s m below meth c b 968 [some (.ref b), some (.ref (ax 0)), some (.ref (am 0)), some (.int (nI i))] [] τx τm) : LW (XC l D cA ax) (XM l D cA am) p e s m below meth c b 502 [some (.ref b), some (.ref (ax 0)), some (.ref (am 0)), some (.int (nI i))] [] σx σm := by
  refine LW.al C0 (k := 1) rfl dL_law_502 ?_
  refine LW.al C0 (k := 0) rfl dL_law_503 ?_
  refine LW.il C0 (k := 3) rfl dL_law_504 ?_
  refine LW.iconst C0 (v := 1) (by decide) dL_law_505 ?_
  refine LW.iadd C0 dL_law_506 ?_
  rw [show nI i + 1 = nI (i + 1) from nI_add i 1]
  refine LW.sld C0 (vp_in_nI (show i + 1 < L by omega) (by omega)) dL_law_507 ?_
  refine LW.call (M' := mX6_alike) (as := [.int (xs (nI (i + 1)).toNatClampNeg)]) (rest := []) C0 hB (c_X6_alike hR.1) rfl (gci_X6).1 ml_L_63 im_yX6_alike se_yX6_alike gcl_X6_alike ⟨by decide, by decide⟩ rfl rfl (Nat.le_of_ble_eq_true rfl) dL_law_508 (fun rv τx hq => ?_)
  obtain ⟨r1, rfl, hq1⟩ := hq
  show LW (XC l D cA ax) (XM l D cA am) p e s m below meth c b (511) _ [.int r1] τx σm
  refine LW.al C0 (k := 2) rfl dL_law_511 ?_
  refine LW.al C0 (k := 0) rfl dL_law_512 ?_
  refine LW.il C0 (k := 3) rfl dL_law_513 ?_
  refine LW.iconst C0 (v := 1) (by decide) dL_law_514 ?_
  refine LW.iadd C0 dL_law_515 ?_
  rw [show nI i + 1 = nI (i + 1) from nI_add i 1]
  refine LW.sld C0 (vp_in_nI (show i + 1 < L by omega) (by omega)) dL_law_516 ?_
  refine LW.sw hB (LW.call (M' := mX7_alike) (as := [.int (xs (nI (i + 1)).toNatClampNeg)]) (rest := [.int r1]) C0 hB.sw (c_X7_alike hR.2.1) rfl (gci_X7).1 ml_L_66 im_yX7_alike se_yX7_alike gcl_X7_alike ⟨by decide, by decide⟩ rfl rfl (Nat.le_of_ble_eq_true rfl) dL_law_517 (fun rv τm hq => LW.sw hB.sw ?_))
  obtain ⟨r2, rfl, hq2⟩ := hq
  show LW (XC l D cA ax) (XM l D cA am) p e s m below meth c b (520) _ [.int r2, .int r1] τx τm
  obtain ⟨heq, hR2⟩ := pr_ask hR.2.1 hR.2.2 hq1 hq2
  exact LW.iceq C0 (tgt := 968) (by decide) dL_law_520 (fun _ => next τx τm hR2) (fun h => absurd heq h)
set_option maxHeartbeats 4000000 in
set_option maxRecDepth 100000 in
theorem law_13 {p : Program} {l : Launch} {e : Env} {s : State} {m : MethodId} {below : List Frame} {meth : Method} {c : Code} {D : va_G} {cA : ClassId} {ax am : Nat → Nat} {b L : Nat} {xs : Nat → Int32} (hL : L ≤ 3072) (C0 : lw_At p s m meth c b L xs) (hB : lwB (XC l D cA ax) (XM l D cA am) s) {i : Nat} (hi : i + 6 ≤ L) {ln B : Nat → Nat} {σx σm : gS} (hR : IX σx ln B ∧ TM σm ln B ∧ SR σx σm) (next : ∀ τx τm, RLn τx τm → LW (XC l D cA ax) (XM l D cA am) p e s m below meth c b 968 [some (.ref b), some (.ref (ax 0)), some (.ref (am 0)), some (.int (nI i))] [] τx τm) : LW (XC l D cA ax) (XM l D cA am) p e s m below meth c b 525 [some (.ref b), some (.ref (ax 0)), some (.ref (am 0)), some (.int (nI i))] [] σx σm := by
  refine LW.al C0 (k := 1) rfl dL_law_525 ?_
  refine LW.al C0 (k := 0) rfl dL_law_526 ?_
  refine LW.il C0 (k := 3) rfl dL_law_527 ?_
  refine LW.iconst C0 (v := 1) (by decide) dL_law_528 ?_
  refine LW.iadd C0 dL_law_529 ?_
  rw [show nI i + 1 = nI (i + 1) from nI_add i 1]
  refine LW.sld C0 (vp_in_nI (show i + 1 < L by omega) (by omega)) dL_law_530 ?_
  refine LW.call (M' := mX6_solved) (as := [.int (xs (nI (i + 1)).toNatClampNeg)]) (rest := []) C0 hB (c_X6_solved hR.1) rfl (gci_X6).1 ml_L_67 im_yX6_solved se_yX6_solved gcl_X6_solved ⟨by decide, by decide⟩ rfl rfl (Nat.le_of_ble_eq_true rfl) dL_law_531 (fun rv τx hq => ?_)
  obtain ⟨r1, rfl, hq1⟩ := hq
  show LW (XC l D cA ax) (XM l D cA am) p e s m below meth c b (534) _ [.int r1] τx σm
  refine LW.al C0 (k := 2) rfl dL_law_534 ?_
  refine LW.al C0 (k := 0) rfl dL_law_535 ?_
  refine LW.il C0 (k := 3) rfl dL_law_536 ?_
  refine LW.iconst C0 (v := 1) (by decide) dL_law_537 ?_
  refine LW.iadd C0 dL_law_538 ?_
  rw [show nI i + 1 = nI (i + 1) from nI_add i 1]
  refine LW.sld C0 (vp_in_nI (show i + 1 < L by omega) (by omega)) dL_law_539 ?_
  refine LW.sw hB (LW.call (M' := mX7_solved) (as := [.int (xs (nI (i + 1)).toNatClampNeg)]) (rest := [.int r1]) C0 hB.sw (c_X7_solved hR.2.1) rfl (gci_X7).1 ml_L_70 im_yX7_solved se_yX7_solved gcl_X7_solved ⟨by decide, by decide⟩ rfl rfl (Nat.le_of_ble_eq_true rfl) dL_law_540 (fun rv τm hq => LW.sw hB.sw ?_))
  obtain ⟨r2, rfl, hq2⟩ := hq
  show LW (XC l D cA ax) (XM l D cA am) p e s m below meth c b (543) _ [.int r2, .int r1] τx τm
  obtain ⟨heq, hR2⟩ := pr_ask hR.2.1 hR.2.2 hq1 hq2
  exact LW.iceq C0 (tgt := 968) (by decide) dL_law_543 (fun _ => next τx τm hR2) (fun h => absurd heq h)
set_option maxHeartbeats 4000000 in
set_option maxRecDepth 100000 in
theorem law_14 {p : Program} {l : Launch} {e : Env} {s : State} {m : MethodId} {below : List Frame} {meth : Method} {c : Code} {D : va_G} {cA : ClassId} {ax am : Nat → Nat} {b L : Nat} {xs : Nat → Int32} (hL : L ≤ 3072) (C0 : lw_At p s m meth c b L xs) (hB : lwB (XC l D cA ax) (XM l D cA am) s) {i : Nat} (hi : i + 6 ≤ L) {ln B : Nat → Nat} {σx σm : gS} (hR : IX σx ln B ∧ TM σm ln B ∧ SR σx σm) (next : ∀ τx τm, RLn τx τm → LW (XC l D cA ax) (XM l D cA am) p e s m below meth c b 968 [some (.ref b), some (.ref (ax 0)), some (.ref (am 0)), some (.int (nI i))] [] τx τm) : LW (XC l D cA ax) (XM l D cA am) p e s m below meth c b 548 [some (.ref b), some (.ref (ax 0)), some (.ref (am 0)), some (.int (nI i))] [] σx σm := by
  refine LW.al C0 (k := 1) rfl dL_law_548 ?_
  refine LW.al C0 (k := 0) rfl dL_law_549 ?_
  refine LW.il C0 (k := 3) rfl dL_law_550 ?_
  refine LW.iconst C0 (v := 1) (by decide) dL_law_551 ?_
  refine LW.iadd C0 dL_law_552 ?_
  rw [show nI i + 1 = nI (i + 1) from nI_add i 1]
  refine LW.sld C0 (vp_in_nI (show i + 1 < L by omega) (by omega)) dL_law_553 ?_
  refine LW.al C0 (k := 0) rfl dL_law_554 ?_
  refine LW.il C0 (k := 3) rfl dL_law_555 ?_
  refine LW.iconst C0 (v := 2) (by decide) dL_law_556 ?_
  refine LW.iadd C0 dL_law_557 ?_
  rw [show nI i + 2 = nI (i + 2) from nI_add i 2]
  refine LW.sld C0 (vp_in_nI (show i + 2 < L by omega) (by omega)) dL_law_558 ?_
  refine LW.call (M' := mX6_value) (as := [.int (xs (nI (i + 1)).toNatClampNeg), .int (xs (nI (i + 2)).toNatClampNeg)]) (rest := []) C0 hB (c_X6_value hR.1) rfl (gci_X6).1 ml_L_71 im_yX6_value se_yX6_value gcl_X6_value ⟨by decide, by decide⟩ rfl rfl (Nat.le_of_ble_eq_true rfl) dL_law_559 (fun rv τx hq => ?_)
  obtain ⟨r1, rfl, hq1⟩ := hq
  show LW (XC l D cA ax) (XM l D cA am) p e s m below meth c b (562) _ [.int r1] τx σm
  refine LW.al C0 (k := 2) rfl dL_law_562 ?_
  refine LW.al C0 (k := 0) rfl dL_law_563 ?_
  refine LW.il C0 (k := 3) rfl dL_law_564 ?_
  refine LW.iconst C0 (v := 1) (by decide) dL_law_565 ?_
  refine LW.iadd C0 dL_law_566 ?_
  rw [show nI i + 1 = nI (i + 1) from nI_add i 1]
  refine LW.sld C0 (vp_in_nI (show i + 1 < L by omega) (by omega)) dL_law_567 ?_
  refine LW.al C0 (k := 0) rfl dL_law_568 ?_
  refine LW.il C0 (k := 3) rfl dL_law_569 ?_
  refine LW.iconst C0 (v := 2) (by decide) dL_law_570 ?_
  refine LW.iadd C0 dL_law_571 ?_
  rw [show nI i + 2 = nI (i + 2) from nI_add i 2]
  refine LW.sld C0 (vp_in_nI (show i + 2 < L by omega) (by omega)) dL_law_572 ?_
  refine LW.sw hB (LW.call (M' := mX7_value) (as := [.int (xs (nI (i + 1)).toNatClampNeg), .int (xs (nI (i + 2)).toNatClampNeg)]) (rest := [.int r1]) C0 hB.sw (c_X7_value hR.2.1) rfl (gci_X7).1 ml_L_74 im_yX7_value se_yX7_value gcl_X7_value ⟨by decide, by decide⟩ rfl rfl (Nat.le_of_ble_eq_true rfl) dL_law_573 (fun rv τm hq => LW.sw hB.sw ?_))
  obtain ⟨r2, rfl, hq2⟩ := hq
  show LW (XC l D cA ax) (XM l D cA am) p e s m below meth c b (576) _ [.int r2, .int r1] τx τm
  obtain ⟨heq, hR2⟩ := pr_ask hR.2.1 hR.2.2 hq1 hq2
  exact LW.iceq C0 (tgt := 968) (by decide) dL_law_576 (fun _ => next τx τm hR2) (fun h => absurd heq h)
set_option maxHeartbeats 4000000 in
set_option maxRecDepth 100000 in
theorem law_15 {p : Program} {l : Launch} {e : Env} {s : State} {m : MethodId} {below : List Frame} {meth : Method} {c : Code} {D : va_G} {cA : ClassId} {ax am : Nat → Nat} {b L : Nat} {xs : Nat → Int32} (hL : L ≤ 3072) (C0 : lw_At p s m meth c b L xs) (hB : lwB (XC l D cA ax) (XM l D cA am) s) {i : Nat} (hi : i + 6 ≤ L) {ln B : Nat → Nat} {σx σm : gS} (hR : IX σx ln B ∧ TM σm ln B ∧ SR σx σm) (next : ∀ τx τm, RLn τx τm → LW (XC l D cA ax) (XM l D cA am) p e s m below meth c b 968 [some (.ref b), some (.ref (ax 0)), some (.ref (am 0)), some (.int (nI i))] [] τx τm) : LW (XC l D cA ax) (XM l D cA am) p e s m below meth c b 581 [some (.ref b), some (.ref (ax 0)), some (.ref (am 0)), some (.int (nI i))] [] σx σm := by
  refine LW.al C0 (k := 1) rfl dL_law_581 ?_
  refine LW.al C0 (k := 0) rfl dL_law_582 ?_
  refine LW.il C0 (k := 3) rfl dL_law_583 ?_
  refine LW.iconst C0 (v := 1) (by decide) dL_law_584 ?_
  refine LW.iadd C0 dL_law_585 ?_
  rw [show nI i + 1 = nI (i + 1) from nI_add i 1]
  refine LW.sld C0 (vp_in_nI (show i + 1 < L by omega) (by omega)) dL_law_586 ?_
  refine LW.call (M' := mX6_fresh) (as := [.int (xs (nI (i + 1)).toNatClampNeg)]) (rest := []) C0 hB (c_X6_fresh hR.1) rfl (gci_X6).1 ml_L_75 im_yX6_fresh se_yX6_fresh gcl_X6_fresh ⟨by decide, by decide⟩ rfl rfl (Nat.le_of_ble_eq_true rfl) dL_law_587 (fun rv τx hq => ?_)
  obtain ⟨r1, rfl, hq1⟩ := hq
  show LW (XC l D cA ax) (XM l D cA am) p e s m below meth c b (590) _ [.int r1] τx σm
  refine LW.al C0 (k := 2) rfl dL_law_590 ?_
  refine LW.al C0 (k := 0) rfl dL_law_591 ?_
  refine LW.il C0 (k := 3) rfl dL_law_592 ?_
  refine LW.iconst C0 (v := 1) (by decide) dL_law_593 ?_
  refine LW.iadd C0 dL_law_594 ?_
  rw [show nI i + 1 = nI (i + 1) from nI_add i 1]
  refine LW.sld C0 (vp_in_nI (show i + 1 < L by omega) (by omega)) dL_law_595 ?_
  refine LW.sw hB (LW.call (M' := mX7_fresh) (as := [.int (xs (nI (i + 1)).toNatClampNeg)]) (rest := [.int r1]) C0 hB.sw (c_X7_fresh hR.2.1) rfl (gci_X7).1 ml_L_78 im_yX7_fresh se_yX7_fresh gcl_X7_fresh ⟨by decide, by decide⟩ rfl rfl (Nat.le_of_ble_eq_true rfl) dL_law_596 (fun rv τm hq => LW.sw hB.sw ?_))
  obtain ⟨r2, rfl, hq2⟩ := hq
  show LW (XC l D cA ax) (XM l D cA am) p e s m below meth c b (599) _ [.int r2, .int r1] τx τm
  obtain ⟨heq, hR2⟩ := pr_ask hR.2.1 hR.2.2 hq1 hq2
  exact LW.iceq C0 (tgt := 968) (by decide) dL_law_599 (fun _ => next τx τm hR2) (fun h => absurd heq h)
set_option maxHeartbeats 4000000 in
set_option maxRecDepth 100000 in
theorem law_16 {p : Program} {l : Launch} {e : Env} {s : State} {m : MethodId} {below : List Frame} {meth : Method} {c : Code} {D : va_G} {cA : ClassId} {ax am : Nat → Nat} {b L : Nat} {xs : Nat → Int32} (hL : L ≤ 3072) (C0 : lw_At p s m meth c b L xs) (hB : lwB (XC l D cA ax) (XM l D cA am) s) {i : Nat} (hi : i + 6 ≤ L) {ln B : Nat → Nat} {σx σm : gS} (hR : IX σx ln B ∧ TM σm ln B ∧ SR σx σm) (next : ∀ τx τm, RLn τx τm → LW (XC l D cA ax) (XM l D cA am) p e s m below meth c b 968 [some (.ref b), some (.ref (ax 0)), some (.ref (am 0)), some (.int (nI i))] [] τx τm) : LW (XC l D cA ax) (XM l D cA am) p e s m below meth c b 604 [some (.ref b), some (.ref (ax 0)), some (.ref (am 0)), some (.int (nI i))] [] σx σm := by
  refine LW.al C0 (k := 1) rfl dL_law_604 ?_
  refine LW.al C0 (k := 0) rfl dL_law_605 ?_
  refine LW.il C0 (k := 3) rfl dL_law_606 ?_
  refine LW.iconst C0 (v := 1) (by decide) dL_law_607 ?_
  refine LW.iadd C0 dL_law_608 ?_
  rw [show nI i + 1 = nI (i + 1) from nI_add i 1]
  refine LW.sld C0 (vp_in_nI (show i + 1 < L by omega) (by omega)) dL_law_609 ?_
  refine LW.call (M' := mX6_needs) (as := [.int (xs (nI (i + 1)).toNatClampNeg)]) (rest := []) C0 hB (c_X6_needs hR.1) rfl (gci_X6).1 ml_L_79 im_yX6_needs se_yX6_needs gcl_X6_needs ⟨by decide, by decide⟩ rfl rfl (Nat.le_of_ble_eq_true rfl) dL_law_610 (fun rv τx hq => ?_)
  obtain ⟨r1, rfl, hq1⟩ := hq
  show LW (XC l D cA ax) (XM l D cA am) p e s m below meth c b (613) _ [.int r1] τx σm
  refine LW.al C0 (k := 2) rfl dL_law_613 ?_
  refine LW.al C0 (k := 0) rfl dL_law_614 ?_
  refine LW.il C0 (k := 3) rfl dL_law_615 ?_
  refine LW.iconst C0 (v := 1) (by decide) dL_law_616 ?_
  refine LW.iadd C0 dL_law_617 ?_
  rw [show nI i + 1 = nI (i + 1) from nI_add i 1]
  refine LW.sld C0 (vp_in_nI (show i + 1 < L by omega) (by omega)) dL_law_618 ?_
  refine LW.sw hB (LW.call (M' := mX7_needs) (as := [.int (xs (nI (i + 1)).toNatClampNeg)]) (rest := [.int r1]) C0 hB.sw (c_X7_needs hR.2.1) rfl (gci_X7).1 ml_L_82 im_yX7_needs se_yX7_needs gcl_X7_needs ⟨by decide, by decide⟩ rfl rfl (Nat.le_of_ble_eq_true rfl) dL_law_619 (fun rv τm hq => LW.sw hB.sw ?_))
  obtain ⟨r2, rfl, hq2⟩ := hq
  show LW (XC l D cA ax) (XM l D cA am) p e s m below meth c b (622) _ [.int r2, .int r1] τx τm
  obtain ⟨heq, hR2⟩ := pr_ask hR.2.1 hR.2.2 hq1 hq2
  exact LW.iceq C0 (tgt := 968) (by decide) dL_law_622 (fun _ => next τx τm hR2) (fun h => absurd heq h)
set_option maxHeartbeats 4000000 in
set_option maxRecDepth 100000 in
theorem law_17 {p : Program} {l : Launch} {e : Env} {s : State} {m : MethodId} {below : List Frame} {meth : Method} {c : Code} {D : va_G} {cA : ClassId} {ax am : Nat → Nat} {b L : Nat} {xs : Nat → Int32} (hL : L ≤ 3072) (C0 : lw_At p s m meth c b L xs) (hB : lwB (XC l D cA ax) (XM l D cA am) s) {i : Nat} (hi : i + 6 ≤ L) {ln B : Nat → Nat} {σx σm : gS} (hR : IX σx ln B ∧ TM σm ln B ∧ SR σx σm) (next : ∀ τx τm, RLn τx τm → LW (XC l D cA ax) (XM l D cA am) p e s m below meth c b 968 [some (.ref b), some (.ref (ax 0)), some (.ref (am 0)), some (.int (nI i))] [] τx τm) : LW (XC l D cA ax) (XM l D cA am) p e s m below meth c b 627 [some (.ref b), some (.ref (ax 0)), some (.ref (am 0)), some (.int (nI i))] [] σx σm := by
  refine LW.al C0 (k := 1) rfl dL_law_627 ?_
  refine LW.al C0 (k := 0) rfl dL_law_628 ?_
  refine LW.il C0 (k := 3) rfl dL_law_629 ?_
  refine LW.iconst C0 (v := 1) (by decide) dL_law_630 ?_
  refine LW.iadd C0 dL_law_631 ?_
  rw [show nI i + 1 = nI (i + 1) from nI_add i 1]
  refine LW.sld C0 (vp_in_nI (show i + 1 < L by omega) (by omega)) dL_law_632 ?_
  refine LW.al C0 (k := 0) rfl dL_law_633 ?_
  refine LW.il C0 (k := 3) rfl dL_law_634 ?_
  refine LW.iconst C0 (v := 2) (by decide) dL_law_635 ?_
  refine LW.iadd C0 dL_law_636 ?_
  rw [show nI i + 2 = nI (i + 2) from nI_add i 2]
  refine LW.sld C0 (vp_in_nI (show i + 2 < L by omega) (by omega)) dL_law_637 ?_
  refine LW.call (M' := mX6_way) (as := [.int (xs (nI (i + 1)).toNatClampNeg), .int (xs (nI (i + 2)).toNatClampNeg)]) (rest := []) C0 hB (c_X6_way hR.1) rfl (gci_X6).1 ml_L_83 im_yX6_way se_yX6_way gcl_X6_way ⟨by decide, by decide⟩ rfl rfl (Nat.le_of_ble_eq_true rfl) dL_law_638 (fun rv τx hq => ?_)
  obtain ⟨r1, rfl, hq1⟩ := hq
  show LW (XC l D cA ax) (XM l D cA am) p e s m below meth c b (641) _ [.int r1] τx σm
  refine LW.al C0 (k := 2) rfl dL_law_641 ?_
  refine LW.al C0 (k := 0) rfl dL_law_642 ?_
  refine LW.il C0 (k := 3) rfl dL_law_643 ?_
  refine LW.iconst C0 (v := 1) (by decide) dL_law_644 ?_
  refine LW.iadd C0 dL_law_645 ?_
  rw [show nI i + 1 = nI (i + 1) from nI_add i 1]
  refine LW.sld C0 (vp_in_nI (show i + 1 < L by omega) (by omega)) dL_law_646 ?_
  refine LW.al C0 (k := 0) rfl dL_law_647 ?_
  refine LW.il C0 (k := 3) rfl dL_law_648 ?_
  refine LW.iconst C0 (v := 2) (by decide) dL_law_649 ?_
  refine LW.iadd C0 dL_law_650 ?_
  rw [show nI i + 2 = nI (i + 2) from nI_add i 2]
  refine LW.sld C0 (vp_in_nI (show i + 2 < L by omega) (by omega)) dL_law_651 ?_
  refine LW.sw hB (LW.call (M' := mX7_way) (as := [.int (xs (nI (i + 1)).toNatClampNeg), .int (xs (nI (i + 2)).toNatClampNeg)]) (rest := [.int r1]) C0 hB.sw (c_X7_way hR.2.1) rfl (gci_X7).1 ml_L_86 im_yX7_way se_yX7_way gcl_X7_way ⟨by decide, by decide⟩ rfl rfl (Nat.le_of_ble_eq_true rfl) dL_law_652 (fun rv τm hq => LW.sw hB.sw ?_))
  obtain ⟨r2, rfl, hq2⟩ := hq
  show LW (XC l D cA ax) (XM l D cA am) p e s m below meth c b (655) _ [.int r2, .int r1] τx τm
  obtain ⟨heq, hR2⟩ := pr_ask hR.2.1 hR.2.2 hq1 hq2
  exact LW.iceq C0 (tgt := 968) (by decide) dL_law_655 (fun _ => next τx τm hR2) (fun h => absurd heq h)
set_option maxHeartbeats 4000000 in
set_option maxRecDepth 100000 in
theorem law_18 {p : Program} {l : Launch} {e : Env} {s : State} {m : MethodId} {below : List Frame} {meth : Method} {c : Code} {D : va_G} {cA : ClassId} {ax am : Nat → Nat} {b L : Nat} {xs : Nat → Int32} (hL : L ≤ 3072) (C0 : lw_At p s m meth c b L xs) (hB : lwB (XC l D cA ax) (XM l D cA am) s) {i : Nat} (hi : i + 6 ≤ L) {ln B : Nat → Nat} {σx σm : gS} (hR : IX σx ln B ∧ TM σm ln B ∧ SR σx σm) (next : ∀ τx τm, RLn τx τm → LW (XC l D cA ax) (XM l D cA am) p e s m below meth c b 968 [some (.ref b), some (.ref (ax 0)), some (.ref (am 0)), some (.int (nI i))] [] τx τm) : LW (XC l D cA ax) (XM l D cA am) p e s m below meth c b 660 [some (.ref b), some (.ref (ax 0)), some (.ref (am 0)), some (.int (nI i))] [] σx σm := by
  refine LW.al C0 (k := 1) rfl dL_law_660 ?_
  refine LW.call (M' := mX6_spare) (as := []) (rest := []) C0 hB (c_X6_spare hR.1) rfl (gci_X6).1 ml_L_87 im_yX6_spare se_yX6_spare gcl_X6_spare ⟨by decide, by decide⟩ rfl rfl (Nat.le_of_ble_eq_true rfl) dL_law_661 (fun rv τx hq => ?_)
  obtain ⟨r1, rfl, hq1⟩ := hq
  show LW (XC l D cA ax) (XM l D cA am) p e s m below meth c b (664) _ [.int r1] τx σm
  refine LW.al C0 (k := 2) rfl dL_law_664 ?_
  refine LW.sw hB (LW.call (M' := mX7_spare) (as := []) (rest := [.int r1]) C0 hB.sw (c_X7_spare hR.2.1) rfl (gci_X7).1 ml_L_91 im_yX7_spare se_yX7_spare gcl_X7_spare ⟨by decide, by decide⟩ rfl rfl (Nat.le_of_ble_eq_true rfl) dL_law_665 (fun rv τm hq => LW.sw hB.sw ?_))
  obtain ⟨r2, rfl, hq2⟩ := hq
  show LW (XC l D cA ax) (XM l D cA am) p e s m below meth c b (668) _ [.int r2, .int r1] τx τm
  obtain ⟨heq, hR2⟩ := pr_ask hR.2.1 hR.2.2 hq1 hq2
  exact LW.iceq C0 (tgt := 968) (by decide) dL_law_668 (fun _ => next τx τm hR2) (fun h => absurd heq h)
set_option maxHeartbeats 4000000 in
set_option maxRecDepth 100000 in
theorem law_19 {p : Program} {l : Launch} {e : Env} {s : State} {m : MethodId} {below : List Frame} {meth : Method} {c : Code} {D : va_G} {cA : ClassId} {ax am : Nat → Nat} {b L : Nat} {xs : Nat → Int32} (hL : L ≤ 3072) (C0 : lw_At p s m meth c b L xs) (hB : lwB (XC l D cA ax) (XM l D cA am) s) {i : Nat} (hi : i + 6 ≤ L) {ln B : Nat → Nat} {σx σm : gS} (hR : IX σx ln B ∧ TM σm ln B ∧ SR σx σm) (next : ∀ τx τm, RLn τx τm → LW (XC l D cA ax) (XM l D cA am) p e s m below meth c b 968 [some (.ref b), some (.ref (ax 0)), some (.ref (am 0)), some (.int (nI i))] [] τx τm) : LW (XC l D cA ax) (XM l D cA am) p e s m below meth c b 673 [some (.ref b), some (.ref (ax 0)), some (.ref (am 0)), some (.int (nI i))] [] σx σm := by
  refine LW.al C0 (k := 1) rfl dL_law_673 ?_
  refine LW.al C0 (k := 0) rfl dL_law_674 ?_
  refine LW.il C0 (k := 3) rfl dL_law_675 ?_
  refine LW.iconst C0 (v := 1) (by decide) dL_law_676 ?_
  refine LW.iadd C0 dL_law_677 ?_
  rw [show nI i + 1 = nI (i + 1) from nI_add i 1]
  refine LW.sld C0 (vp_in_nI (show i + 1 < L by omega) (by omega)) dL_law_678 ?_
  refine LW.al C0 (k := 0) rfl dL_law_679 ?_
  refine LW.il C0 (k := 3) rfl dL_law_680 ?_
  refine LW.iconst C0 (v := 2) (by decide) dL_law_681 ?_
  refine LW.iadd C0 dL_law_682 ?_
  rw [show nI i + 2 = nI (i + 2) from nI_add i 2]
  refine LW.sld C0 (vp_in_nI (show i + 2 < L by omega) (by omega)) dL_law_683 ?_
  refine LW.al C0 (k := 0) rfl dL_law_684 ?_
  refine LW.il C0 (k := 3) rfl dL_law_685 ?_
  refine LW.iconst C0 (v := 3) (by decide) dL_law_686 ?_
  refine LW.iadd C0 dL_law_687 ?_
  rw [show nI i + 3 = nI (i + 3) from nI_add i 3]
  refine LW.sld C0 (vp_in_nI (show i + 3 < L by omega) (by omega)) dL_law_688 ?_
  refine LW.call (M' := mX6_sheet) (as := [.int (xs (nI (i + 1)).toNatClampNeg), .int (xs (nI (i + 2)).toNatClampNeg), .int (xs (nI (i + 3)).toNatClampNeg)]) (rest := []) C0 hB (c_X6_sheet) rfl (gci_X6).1 ml_L_92 im_yX6_sheet se_yX6_sheet gcl_X6_sheet ⟨by decide, by decide⟩ rfl rfl (Nat.le_of_ble_eq_true rfl) dL_law_689 (fun rv τx hq => ?_)
  obtain ⟨r1, rfl, hq1⟩ := hq
  show LW (XC l D cA ax) (XM l D cA am) p e s m below meth c b (692) _ [.int r1] τx σm
  refine LW.al C0 (k := 2) rfl dL_law_692 ?_
  refine LW.al C0 (k := 0) rfl dL_law_693 ?_
  refine LW.il C0 (k := 3) rfl dL_law_694 ?_
  refine LW.iconst C0 (v := 1) (by decide) dL_law_695 ?_
  refine LW.iadd C0 dL_law_696 ?_
  rw [show nI i + 1 = nI (i + 1) from nI_add i 1]
  refine LW.sld C0 (vp_in_nI (show i + 1 < L by omega) (by omega)) dL_law_697 ?_
  refine LW.al C0 (k := 0) rfl dL_law_698 ?_
  refine LW.il C0 (k := 3) rfl dL_law_699 ?_
  refine LW.iconst C0 (v := 2) (by decide) dL_law_700 ?_
  refine LW.iadd C0 dL_law_701 ?_
  rw [show nI i + 2 = nI (i + 2) from nI_add i 2]
  refine LW.sld C0 (vp_in_nI (show i + 2 < L by omega) (by omega)) dL_law_702 ?_
  refine LW.al C0 (k := 0) rfl dL_law_703 ?_
  refine LW.il C0 (k := 3) rfl dL_law_704 ?_
  refine LW.iconst C0 (v := 3) (by decide) dL_law_705 ?_
  refine LW.iadd C0 dL_law_706 ?_
  rw [show nI i + 3 = nI (i + 3) from nI_add i 3]
  refine LW.sld C0 (vp_in_nI (show i + 3 < L by omega) (by omega)) dL_law_707 ?_
  refine LW.sw hB (LW.call (M' := mX7_sheet) (as := [.int (xs (nI (i + 1)).toNatClampNeg), .int (xs (nI (i + 2)).toNatClampNeg), .int (xs (nI (i + 3)).toNatClampNeg)]) (rest := [.int r1]) C0 hB.sw (c_X7_sheet) rfl (gci_X7).1 ml_L_96 im_yX7_sheet se_yX7_sheet gcl_X7_sheet ⟨by decide, by decide⟩ rfl rfl (Nat.le_of_ble_eq_true rfl) dL_law_708 (fun rv τm hq => LW.sw hB.sw ?_))
  obtain ⟨r2, rfl, hq2⟩ := hq
  show LW (XC l D cA ax) (XM l D cA am) p e s m below meth c b (711) _ [.int r2, .int r1] τx τm
  obtain ⟨heq, hR2⟩ := pr_sheet hR.1 hR.2.1 hR.2.2 hq1 hq2
  exact LW.iceq C0 (tgt := 968) (by decide) dL_law_711 (fun _ => next τx τm hR2) (fun h => absurd heq h)
set_option maxHeartbeats 4000000 in
set_option maxRecDepth 100000 in
theorem law_20 {p : Program} {l : Launch} {e : Env} {s : State} {m : MethodId} {below : List Frame} {meth : Method} {c : Code} {D : va_G} {cA : ClassId} {ax am : Nat → Nat} {b L : Nat} {xs : Nat → Int32} (hL : L ≤ 3072) (C0 : lw_At p s m meth c b L xs) (hB : lwB (XC l D cA ax) (XM l D cA am) s) {i : Nat} (hi : i + 6 ≤ L) {ln B : Nat → Nat} {σx σm : gS} (hR : IX σx ln B ∧ TM σm ln B ∧ SR σx σm) (next : ∀ τx τm, RLn τx τm → LW (XC l D cA ax) (XM l D cA am) p e s m below meth c b 968 [some (.ref b), some (.ref (ax 0)), some (.ref (am 0)), some (.int (nI i))] [] τx τm) : LW (XC l D cA ax) (XM l D cA am) p e s m below meth c b 716 [some (.ref b), some (.ref (ax 0)), some (.ref (am 0)), some (.int (nI i))] [] σx σm := by
  refine LW.al C0 (k := 1) rfl dL_law_716 ?_
  refine LW.al C0 (k := 0) rfl dL_law_717 ?_
  refine LW.il C0 (k := 3) rfl dL_law_718 ?_
  refine LW.iconst C0 (v := 1) (by decide) dL_law_719 ?_
  refine LW.iadd C0 dL_law_720 ?_
  rw [show nI i + 1 = nI (i + 1) from nI_add i 1]
  refine LW.sld C0 (vp_in_nI (show i + 1 < L by omega) (by omega)) dL_law_721 ?_
  refine LW.call (M' := mX6_lose) (as := [.int (xs (nI (i + 1)).toNatClampNeg)]) (rest := []) C0 hB (c_X6_lose hR.2.2.1) rfl (gci_X6).1 ml_L_97 im_yX6_lose se_yX6_lose gcl_X6_lose ⟨by decide, by decide⟩ rfl rfl (Nat.le_of_ble_eq_true rfl) dL_law_722 (fun rv τx hq => ?_)
  obtain ⟨r1, rfl, hq1⟩ := hq
  show LW (XC l D cA ax) (XM l D cA am) p e s m below meth c b (725) _ [.int r1] τx σm
  refine LW.al C0 (k := 2) rfl dL_law_725 ?_
  refine LW.al C0 (k := 0) rfl dL_law_726 ?_
  refine LW.il C0 (k := 3) rfl dL_law_727 ?_
  refine LW.iconst C0 (v := 1) (by decide) dL_law_728 ?_
  refine LW.iadd C0 dL_law_729 ?_
  rw [show nI i + 1 = nI (i + 1) from nI_add i 1]
  refine LW.sld C0 (vp_in_nI (show i + 1 < L by omega) (by omega)) dL_law_730 ?_
  refine LW.sw hB (LW.call (M' := mX7_lose) (as := [.int (xs (nI (i + 1)).toNatClampNeg)]) (rest := [.int r1]) C0 hB.sw (c_X7_lose hR.2.2.2.1) rfl (gci_X7).1 ml_L_100 im_yX7_lose se_yX7_lose gcl_X7_lose ⟨by decide, by decide⟩ rfl rfl (Nat.le_of_ble_eq_true rfl) dL_law_731 (fun rv τm hq => LW.sw hB.sw ?_))
  obtain ⟨r2, rfl, hq2⟩ := hq
  show LW (XC l D cA ax) (XM l D cA am) p e s m below meth c b (734) _ [.int r2, .int r1] τx τm
  obtain ⟨heq, hR2⟩ := pr_lose hR.1 hR.2.1 hR.2.2 hq1 hq2
  exact LW.iceq C0 (tgt := 968) (by decide) dL_law_734 (fun _ => next τx τm hR2) (fun h => absurd heq h)
set_option maxHeartbeats 4000000 in
set_option maxRecDepth 100000 in
theorem law_21 {p : Program} {l : Launch} {e : Env} {s : State} {m : MethodId} {below : List Frame} {meth : Method} {c : Code} {D : va_G} {cA : ClassId} {ax am : Nat → Nat} {b L : Nat} {xs : Nat → Int32} (hL : L ≤ 3072) (C0 : lw_At p s m meth c b L xs) (hB : lwB (XC l D cA ax) (XM l D cA am) s) {i : Nat} (hi : i + 6 ≤ L) {ln B : Nat → Nat} {σx σm : gS} (hR : IX σx ln B ∧ TM σm ln B ∧ SR σx σm) (next : ∀ τx τm, RLn τx τm → LW (XC l D cA ax) (XM l D cA am) p e s m below meth c b 968 [some (.ref b), some (.ref (ax 0)), some (.ref (am 0)), some (.int (nI i))] [] τx τm) : LW (XC l D cA ax) (XM l D cA am) p e s m below meth c b 739 [some (.ref b), some (.ref (ax 0)), some (.ref (am 0)), some (.int (nI i))] [] σx σm := by
  refine LW.al C0 (k := 1) rfl dL_law_739 ?_
  refine LW.al C0 (k := 0) rfl dL_law_740 ?_
  refine LW.il C0 (k := 3) rfl dL_law_741 ?_
  refine LW.iconst C0 (v := 1) (by decide) dL_law_742 ?_
  refine LW.iadd C0 dL_law_743 ?_
  rw [show nI i + 1 = nI (i + 1) from nI_add i 1]
  refine LW.sld C0 (vp_in_nI (show i + 1 < L by omega) (by omega)) dL_law_744 ?_
  refine LW.al C0 (k := 0) rfl dL_law_745 ?_
  refine LW.il C0 (k := 3) rfl dL_law_746 ?_
  refine LW.iconst C0 (v := 2) (by decide) dL_law_747 ?_
  refine LW.iadd C0 dL_law_748 ?_
  rw [show nI i + 2 = nI (i + 2) from nI_add i 2]
  refine LW.sld C0 (vp_in_nI (show i + 2 < L by omega) (by omega)) dL_law_749 ?_
  refine LW.al C0 (k := 0) rfl dL_law_750 ?_
  refine LW.il C0 (k := 3) rfl dL_law_751 ?_
  refine LW.iconst C0 (v := 3) (by decide) dL_law_752 ?_
  refine LW.iadd C0 dL_law_753 ?_
  rw [show nI i + 3 = nI (i + 3) from nI_add i 3]
  refine LW.sld C0 (vp_in_nI (show i + 3 < L by omega) (by omega)) dL_law_754 ?_
  refine LW.al C0 (k := 0) rfl dL_law_755 ?_
  refine LW.il C0 (k := 3) rfl dL_law_756 ?_
  refine LW.iconst C0 (v := 4) (by decide) dL_law_757 ?_
  refine LW.iadd C0 dL_law_758 ?_
  rw [show nI i + 4 = nI (i + 4) from nI_add i 4]
  refine LW.sld C0 (vp_in_nI (show i + 4 < L by omega) (by omega)) dL_law_759 ?_
  refine LW.call (M' := mX6_lay) (as := [.int (xs (nI (i + 1)).toNatClampNeg), .int (xs (nI (i + 2)).toNatClampNeg), .int (xs (nI (i + 3)).toNatClampNeg), .int (xs (nI (i + 4)).toNatClampNeg)]) (rest := []) C0 hB (c_X6_lay hR.2.2.1) rfl (gci_X6).1 ml_L_101 im_yX6_lay se_yX6_lay gcl_X6_lay ⟨by decide, by decide⟩ rfl rfl (Nat.le_of_ble_eq_true rfl) dL_law_760 (fun rv τx hq => ?_)
  obtain ⟨r1, rfl, hq1⟩ := hq
  show LW (XC l D cA ax) (XM l D cA am) p e s m below meth c b (763) _ [.int r1] τx σm
  refine LW.al C0 (k := 2) rfl dL_law_763 ?_
  refine LW.al C0 (k := 0) rfl dL_law_764 ?_
  refine LW.il C0 (k := 3) rfl dL_law_765 ?_
  refine LW.iconst C0 (v := 1) (by decide) dL_law_766 ?_
  refine LW.iadd C0 dL_law_767 ?_
  rw [show nI i + 1 = nI (i + 1) from nI_add i 1]
  refine LW.sld C0 (vp_in_nI (show i + 1 < L by omega) (by omega)) dL_law_768 ?_
  refine LW.al C0 (k := 0) rfl dL_law_769 ?_
  refine LW.il C0 (k := 3) rfl dL_law_770 ?_
  refine LW.iconst C0 (v := 2) (by decide) dL_law_771 ?_
  refine LW.iadd C0 dL_law_772 ?_
  rw [show nI i + 2 = nI (i + 2) from nI_add i 2]
  refine LW.sld C0 (vp_in_nI (show i + 2 < L by omega) (by omega)) dL_law_773 ?_
  refine LW.al C0 (k := 0) rfl dL_law_774 ?_
  refine LW.il C0 (k := 3) rfl dL_law_775 ?_
  refine LW.iconst C0 (v := 3) (by decide) dL_law_776 ?_
  refine LW.iadd C0 dL_law_777 ?_
  rw [show nI i + 3 = nI (i + 3) from nI_add i 3]
  refine LW.sld C0 (vp_in_nI (show i + 3 < L by omega) (by omega)) dL_law_778 ?_
  refine LW.al C0 (k := 0) rfl dL_law_779 ?_
  refine LW.il C0 (k := 3) rfl dL_law_780 ?_
  refine LW.iconst C0 (v := 4) (by decide) dL_law_781 ?_
  refine LW.iadd C0 dL_law_782 ?_
  rw [show nI i + 4 = nI (i + 4) from nI_add i 4]
  refine LW.sld C0 (vp_in_nI (show i + 4 < L by omega) (by omega)) dL_law_783 ?_
  refine LW.sw hB (LW.call (M' := mX7_lay) (as := [.int (xs (nI (i + 1)).toNatClampNeg), .int (xs (nI (i + 2)).toNatClampNeg), .int (xs (nI (i + 3)).toNatClampNeg), .int (xs (nI (i + 4)).toNatClampNeg)]) (rest := [.int r1]) C0 hB.sw (c_X7_lay hR.2.2.2.1) rfl (gci_X7).1 ml_L_105 im_yX7_lay se_yX7_lay gcl_X7_lay ⟨by decide, by decide⟩ rfl rfl (Nat.le_of_ble_eq_true rfl) dL_law_784 (fun rv τm hq => LW.sw hB.sw ?_))
  obtain ⟨r2, rfl, hq2⟩ := hq
  show LW (XC l D cA ax) (XM l D cA am) p e s m below meth c b (787) _ [.int r2, .int r1] τx τm
  obtain ⟨heq, hR2⟩ := pr_lay hR.1 hR.2.1 hR.2.2 hq1 hq2
  exact LW.iceq C0 (tgt := 968) (by decide) dL_law_787 (fun _ => next τx τm hR2) (fun h => absurd heq h)
set_option maxHeartbeats 4000000 in
set_option maxRecDepth 100000 in
theorem law_22 {p : Program} {l : Launch} {e : Env} {s : State} {m : MethodId} {below : List Frame} {meth : Method} {c : Code} {D : va_G} {cA : ClassId} {ax am : Nat → Nat} {b L : Nat} {xs : Nat → Int32} (hL : L ≤ 3072) (C0 : lw_At p s m meth c b L xs) (hB : lwB (XC l D cA ax) (XM l D cA am) s) {i : Nat} (hi : i + 6 ≤ L) {ln B : Nat → Nat} {σx σm : gS} (hR : IX σx ln B ∧ TM σm ln B ∧ SR σx σm) (next : ∀ τx τm, RLn τx τm → LW (XC l D cA ax) (XM l D cA am) p e s m below meth c b 968 [some (.ref b), some (.ref (ax 0)), some (.ref (am 0)), some (.int (nI i))] [] τx τm) : LW (XC l D cA ax) (XM l D cA am) p e s m below meth c b 792 [some (.ref b), some (.ref (ax 0)), some (.ref (am 0)), some (.int (nI i))] [] σx σm := by
  refine LW.al C0 (k := 1) rfl dL_law_792 ?_
  refine LW.al C0 (k := 0) rfl dL_law_793 ?_
  refine LW.il C0 (k := 3) rfl dL_law_794 ?_
  refine LW.iconst C0 (v := 1) (by decide) dL_law_795 ?_
  refine LW.iadd C0 dL_law_796 ?_
  rw [show nI i + 1 = nI (i + 1) from nI_add i 1]
  refine LW.sld C0 (vp_in_nI (show i + 1 < L by omega) (by omega)) dL_law_797 ?_
  refine LW.al C0 (k := 0) rfl dL_law_798 ?_
  refine LW.il C0 (k := 3) rfl dL_law_799 ?_
  refine LW.iconst C0 (v := 2) (by decide) dL_law_800 ?_
  refine LW.iadd C0 dL_law_801 ?_
  rw [show nI i + 2 = nI (i + 2) from nI_add i 2]
  refine LW.sld C0 (vp_in_nI (show i + 2 < L by omega) (by omega)) dL_law_802 ?_
  refine LW.al C0 (k := 0) rfl dL_law_803 ?_
  refine LW.il C0 (k := 3) rfl dL_law_804 ?_
  refine LW.iconst C0 (v := 3) (by decide) dL_law_805 ?_
  refine LW.iadd C0 dL_law_806 ?_
  rw [show nI i + 3 = nI (i + 3) from nI_add i 3]
  refine LW.sld C0 (vp_in_nI (show i + 3 < L by omega) (by omega)) dL_law_807 ?_
  refine LW.call (M' := mX6_get) (as := [.int (xs (nI (i + 1)).toNatClampNeg), .int (xs (nI (i + 2)).toNatClampNeg), .int (xs (nI (i + 3)).toNatClampNeg)]) (rest := []) C0 hB (c_X6_get hR.2.2.1) rfl (gci_X6).1 ml_L_106 im_yX6_get se_yX6_get gcl_X6_get ⟨by decide, by decide⟩ rfl rfl (Nat.le_of_ble_eq_true rfl) dL_law_808 (fun rv τx hq => ?_)
  obtain ⟨r1, rfl, hq1⟩ := hq
  show LW (XC l D cA ax) (XM l D cA am) p e s m below meth c b (811) _ [.int r1] τx σm
  refine LW.al C0 (k := 2) rfl dL_law_811 ?_
  refine LW.al C0 (k := 0) rfl dL_law_812 ?_
  refine LW.il C0 (k := 3) rfl dL_law_813 ?_
  refine LW.iconst C0 (v := 1) (by decide) dL_law_814 ?_
  refine LW.iadd C0 dL_law_815 ?_
  rw [show nI i + 1 = nI (i + 1) from nI_add i 1]
  refine LW.sld C0 (vp_in_nI (show i + 1 < L by omega) (by omega)) dL_law_816 ?_
  refine LW.al C0 (k := 0) rfl dL_law_817 ?_
  refine LW.il C0 (k := 3) rfl dL_law_818 ?_
  refine LW.iconst C0 (v := 2) (by decide) dL_law_819 ?_
  refine LW.iadd C0 dL_law_820 ?_
  rw [show nI i + 2 = nI (i + 2) from nI_add i 2]
  refine LW.sld C0 (vp_in_nI (show i + 2 < L by omega) (by omega)) dL_law_821 ?_
  refine LW.al C0 (k := 0) rfl dL_law_822 ?_
  refine LW.il C0 (k := 3) rfl dL_law_823 ?_
  refine LW.iconst C0 (v := 3) (by decide) dL_law_824 ?_
  refine LW.iadd C0 dL_law_825 ?_
  rw [show nI i + 3 = nI (i + 3) from nI_add i 3]
  refine LW.sld C0 (vp_in_nI (show i + 3 < L by omega) (by omega)) dL_law_826 ?_
  refine LW.sw hB (LW.call (M' := mX7_get) (as := [.int (xs (nI (i + 1)).toNatClampNeg), .int (xs (nI (i + 2)).toNatClampNeg), .int (xs (nI (i + 3)).toNatClampNeg)]) (rest := [.int r1]) C0 hB.sw (c_X7_get hR.2.2.2.1) rfl (gci_X7).1 ml_L_109 im_yX7_get se_yX7_get gcl_X7_get ⟨by decide, by decide⟩ rfl rfl (Nat.le_of_ble_eq_true rfl) dL_law_827 (fun rv τm hq => LW.sw hB.sw ?_))
  obtain ⟨r2, rfl, hq2⟩ := hq
  show LW (XC l D cA ax) (XM l D cA am) p e s m below meth c b (830) _ [.int r2, .int r1] τx τm
  obtain ⟨heq, hR2⟩ := pr_get hR.1 hR.2.1 hR.2.2 hq1 hq2
  exact LW.iceq C0 (tgt := 968) (by decide) dL_law_830 (fun _ => next τx τm hR2) (fun h => absurd heq h)
set_option maxHeartbeats 4000000 in
set_option maxRecDepth 100000 in
theorem law_23 {p : Program} {l : Launch} {e : Env} {s : State} {m : MethodId} {below : List Frame} {meth : Method} {c : Code} {D : va_G} {cA : ClassId} {ax am : Nat → Nat} {b L : Nat} {xs : Nat → Int32} (hL : L ≤ 3072) (C0 : lw_At p s m meth c b L xs) (hB : lwB (XC l D cA ax) (XM l D cA am) s) {i : Nat} (hi : i + 6 ≤ L) {ln B : Nat → Nat} {σx σm : gS} (hR : IX σx ln B ∧ TM σm ln B ∧ SR σx σm) (next : ∀ τx τm, RLn τx τm → LW (XC l D cA ax) (XM l D cA am) p e s m below meth c b 968 [some (.ref b), some (.ref (ax 0)), some (.ref (am 0)), some (.int (nI i))] [] τx τm) : LW (XC l D cA ax) (XM l D cA am) p e s m below meth c b 835 [some (.ref b), some (.ref (ax 0)), some (.ref (am 0)), some (.int (nI i))] [] σx σm := by
  refine LW.al C0 (k := 1) rfl dL_law_835 ?_
  refine LW.al C0 (k := 0) rfl dL_law_836 ?_
  refine LW.il C0 (k := 3) rfl dL_law_837 ?_
  refine LW.iconst C0 (v := 1) (by decide) dL_law_838 ?_
  refine LW.iadd C0 dL_law_839 ?_
  rw [show nI i + 1 = nI (i + 1) from nI_add i 1]
  refine LW.sld C0 (vp_in_nI (show i + 1 < L by omega) (by omega)) dL_law_840 ?_
  refine LW.al C0 (k := 0) rfl dL_law_841 ?_
  refine LW.il C0 (k := 3) rfl dL_law_842 ?_
  refine LW.iconst C0 (v := 2) (by decide) dL_law_843 ?_
  refine LW.iadd C0 dL_law_844 ?_
  rw [show nI i + 2 = nI (i + 2) from nI_add i 2]
  refine LW.sld C0 (vp_in_nI (show i + 2 < L by omega) (by omega)) dL_law_845 ?_
  refine LW.al C0 (k := 0) rfl dL_law_846 ?_
  refine LW.il C0 (k := 3) rfl dL_law_847 ?_
  refine LW.iconst C0 (v := 3) (by decide) dL_law_848 ?_
  refine LW.iadd C0 dL_law_849 ?_
  rw [show nI i + 3 = nI (i + 3) from nI_add i 3]
  refine LW.sld C0 (vp_in_nI (show i + 3 < L by omega) (by omega)) dL_law_850 ?_
  refine LW.al C0 (k := 0) rfl dL_law_851 ?_
  refine LW.il C0 (k := 3) rfl dL_law_852 ?_
  refine LW.iconst C0 (v := 4) (by decide) dL_law_853 ?_
  refine LW.iadd C0 dL_law_854 ?_
  rw [show nI i + 4 = nI (i + 4) from nI_add i 4]
  refine LW.sld C0 (vp_in_nI (show i + 4 < L by omega) (by omega)) dL_law_855 ?_
  refine LW.al C0 (k := 0) rfl dL_law_856 ?_
  refine LW.il C0 (k := 3) rfl dL_law_857 ?_
  refine LW.iconst C0 (v := 5) (by decide) dL_law_858 ?_
  refine LW.iadd C0 dL_law_859 ?_
  rw [show nI i + 5 = nI (i + 5) from nI_add i 5]
  refine LW.sld C0 (vp_in_nI (show i + 5 < L by omega) (by omega)) dL_law_860 ?_
  refine LW.call (M' := mX6_copy) (as := [.int (xs (nI (i + 1)).toNatClampNeg), .int (xs (nI (i + 2)).toNatClampNeg), .int (xs (nI (i + 3)).toNatClampNeg), .int (xs (nI (i + 4)).toNatClampNeg), .int (xs (nI (i + 5)).toNatClampNeg)]) (rest := []) C0 hB (c_X6_copy hR.2.2.1) rfl (gci_X6).1 ml_L_110 im_yX6_copy se_yX6_copy gcl_X6_copy ⟨by decide, by decide⟩ rfl rfl (Nat.le_of_ble_eq_true rfl) dL_law_861 (fun rv τx hq => ?_)
  obtain ⟨r1, rfl, hq1⟩ := hq
  show LW (XC l D cA ax) (XM l D cA am) p e s m below meth c b (864) _ [.int r1] τx σm
  refine LW.al C0 (k := 2) rfl dL_law_864 ?_
  refine LW.al C0 (k := 0) rfl dL_law_865 ?_
  refine LW.il C0 (k := 3) rfl dL_law_866 ?_
  refine LW.iconst C0 (v := 1) (by decide) dL_law_867 ?_
  refine LW.iadd C0 dL_law_868 ?_
  rw [show nI i + 1 = nI (i + 1) from nI_add i 1]
  refine LW.sld C0 (vp_in_nI (show i + 1 < L by omega) (by omega)) dL_law_869 ?_
  refine LW.al C0 (k := 0) rfl dL_law_870 ?_
  refine LW.il C0 (k := 3) rfl dL_law_871 ?_
  refine LW.iconst C0 (v := 2) (by decide) dL_law_872 ?_
  refine LW.iadd C0 dL_law_873 ?_
  rw [show nI i + 2 = nI (i + 2) from nI_add i 2]
  refine LW.sld C0 (vp_in_nI (show i + 2 < L by omega) (by omega)) dL_law_874 ?_
  refine LW.al C0 (k := 0) rfl dL_law_875 ?_
  refine LW.il C0 (k := 3) rfl dL_law_876 ?_
  refine LW.iconst C0 (v := 3) (by decide) dL_law_877 ?_
  refine LW.iadd C0 dL_law_878 ?_
  rw [show nI i + 3 = nI (i + 3) from nI_add i 3]
  refine LW.sld C0 (vp_in_nI (show i + 3 < L by omega) (by omega)) dL_law_879 ?_
  refine LW.al C0 (k := 0) rfl dL_law_880 ?_
  refine LW.il C0 (k := 3) rfl dL_law_881 ?_
  refine LW.iconst C0 (v := 4) (by decide) dL_law_882 ?_
  refine LW.iadd C0 dL_law_883 ?_
  rw [show nI i + 4 = nI (i + 4) from nI_add i 4]
  refine LW.sld C0 (vp_in_nI (show i + 4 < L by omega) (by omega)) dL_law_884 ?_
  refine LW.al C0 (k := 0) rfl dL_law_885 ?_
  refine LW.il C0 (k := 3) rfl dL_law_886 ?_
  refine LW.iconst C0 (v := 5) (by decide) dL_law_887 ?_
  refine LW.iadd C0 dL_law_888 ?_
  rw [show nI i + 5 = nI (i + 5) from nI_add i 5]
  refine LW.sld C0 (vp_in_nI (show i + 5 < L by omega) (by omega)) dL_law_889 ?_
  refine LW.sw hB (LW.call (M' := mX7_copy) (as := [.int (xs (nI (i + 1)).toNatClampNeg), .int (xs (nI (i + 2)).toNatClampNeg), .int (xs (nI (i + 3)).toNatClampNeg), .int (xs (nI (i + 4)).toNatClampNeg), .int (xs (nI (i + 5)).toNatClampNeg)]) (rest := [.int r1]) C0 hB.sw (c_X7_copy hR.2.2.2.1) rfl (gci_X7).1 ml_L_114 im_yX7_copy se_yX7_copy gcl_X7_copy ⟨by decide, by decide⟩ rfl rfl (Nat.le_of_ble_eq_true rfl) dL_law_890 (fun rv τm hq => LW.sw hB.sw ?_))
  obtain ⟨r2, rfl, hq2⟩ := hq
  show LW (XC l D cA ax) (XM l D cA am) p e s m below meth c b (893) _ [.int r2, .int r1] τx τm
  obtain ⟨heq, hR2⟩ := pr_copy hR.1 hR.2.1 hR.2.2 hq1 hq2
  exact LW.iceq C0 (tgt := 968) (by decide) dL_law_893 (fun _ => next τx τm hR2) (fun h => absurd heq h)
set_option maxHeartbeats 4000000 in
set_option maxRecDepth 100000 in
theorem law_24 {p : Program} {l : Launch} {e : Env} {s : State} {m : MethodId} {below : List Frame} {meth : Method} {c : Code} {D : va_G} {cA : ClassId} {ax am : Nat → Nat} {b L : Nat} {xs : Nat → Int32} (hL : L ≤ 3072) (C0 : lw_At p s m meth c b L xs) (hB : lwB (XC l D cA ax) (XM l D cA am) s) {i : Nat} (hi : i + 6 ≤ L) {ln B : Nat → Nat} {σx σm : gS} (hR : IX σx ln B ∧ TM σm ln B ∧ SR σx σm) (next : ∀ τx τm, RLn τx τm → LW (XC l D cA ax) (XM l D cA am) p e s m below meth c b 968 [some (.ref b), some (.ref (ax 0)), some (.ref (am 0)), some (.int (nI i))] [] τx τm) : LW (XC l D cA ax) (XM l D cA am) p e s m below meth c b 898 [some (.ref b), some (.ref (ax 0)), some (.ref (am 0)), some (.int (nI i))] [] σx σm := by
  refine LW.al C0 (k := 1) rfl dL_law_898 ?_
  refine LW.al C0 (k := 0) rfl dL_law_899 ?_
  refine LW.il C0 (k := 3) rfl dL_law_900 ?_
  refine LW.iconst C0 (v := 1) (by decide) dL_law_901 ?_
  refine LW.iadd C0 dL_law_902 ?_
  rw [show nI i + 1 = nI (i + 1) from nI_add i 1]
  refine LW.sld C0 (vp_in_nI (show i + 1 < L by omega) (by omega)) dL_law_903 ?_
  refine LW.al C0 (k := 0) rfl dL_law_904 ?_
  refine LW.il C0 (k := 3) rfl dL_law_905 ?_
  refine LW.iconst C0 (v := 2) (by decide) dL_law_906 ?_
  refine LW.iadd C0 dL_law_907 ?_
  rw [show nI i + 2 = nI (i + 2) from nI_add i 2]
  refine LW.sld C0 (vp_in_nI (show i + 2 < L by omega) (by omega)) dL_law_908 ?_
  refine LW.call (M' := mX6_write) (as := [.int (xs (nI (i + 1)).toNatClampNeg), .int (xs (nI (i + 2)).toNatClampNeg)]) (rest := []) C0 hB (c_X6_write hR.1 hR.2.2.1) rfl (gci_X6).1 ml_L_115 im_yX6_write se_yX6_write gcl_X6_write ⟨by decide, by decide⟩ rfl rfl (Nat.le_of_ble_eq_true rfl) dL_law_909 (fun rv τx hq => ?_)
  obtain ⟨r1, rfl, hq1⟩ := hq
  show LW (XC l D cA ax) (XM l D cA am) p e s m below meth c b (912) _ [.int r1] τx σm
  refine LW.al C0 (k := 2) rfl dL_law_912 ?_
  refine LW.al C0 (k := 0) rfl dL_law_913 ?_
  refine LW.il C0 (k := 3) rfl dL_law_914 ?_
  refine LW.iconst C0 (v := 1) (by decide) dL_law_915 ?_
  refine LW.iadd C0 dL_law_916 ?_
  rw [show nI i + 1 = nI (i + 1) from nI_add i 1]
  refine LW.sld C0 (vp_in_nI (show i + 1 < L by omega) (by omega)) dL_law_917 ?_
  refine LW.al C0 (k := 0) rfl dL_law_918 ?_
  refine LW.il C0 (k := 3) rfl dL_law_919 ?_
  refine LW.iconst C0 (v := 2) (by decide) dL_law_920 ?_
  refine LW.iadd C0 dL_law_921 ?_
  rw [show nI i + 2 = nI (i + 2) from nI_add i 2]
  refine LW.sld C0 (vp_in_nI (show i + 2 < L by omega) (by omega)) dL_law_922 ?_
  refine LW.sw hB (LW.call (M' := mX7_write) (as := [.int (xs (nI (i + 1)).toNatClampNeg), .int (xs (nI (i + 2)).toNatClampNeg)]) (rest := [.int r1]) C0 hB.sw (c_X7_write hR.2.1 hR.2.2.2.1) rfl (gci_X7).1 ml_L_118 im_yX7_write se_yX7_write gcl_X7_write ⟨by decide, by decide⟩ rfl rfl (Nat.le_of_ble_eq_true rfl) dL_law_923 (fun rv τm hq => LW.sw hB.sw ?_))
  obtain ⟨r2, rfl, hq2⟩ := hq
  show LW (XC l D cA ax) (XM l D cA am) p e s m below meth c b (926) _ [.int r2, .int r1] τx τm
  obtain ⟨heq, hR2⟩ := pr_write hR.1 hR.2.1 hR.2.2 hq1 hq2
  exact LW.iceq C0 (tgt := 968) (by decide) dL_law_926 (fun _ => next τx τm hR2) (fun h => absurd heq h)
set_option maxHeartbeats 4000000 in
set_option maxRecDepth 100000 in
theorem law_25 {p : Program} {l : Launch} {e : Env} {s : State} {m : MethodId} {below : List Frame} {meth : Method} {c : Code} {D : va_G} {cA : ClassId} {ax am : Nat → Nat} {b L : Nat} {xs : Nat → Int32} (hL : L ≤ 3072) (C0 : lw_At p s m meth c b L xs) (hB : lwB (XC l D cA ax) (XM l D cA am) s) {i : Nat} (hi : i + 6 ≤ L) {ln B : Nat → Nat} {σx σm : gS} (hR : IX σx ln B ∧ TM σm ln B ∧ SR σx σm) (next : ∀ τx τm, RLn τx τm → LW (XC l D cA ax) (XM l D cA am) p e s m below meth c b 968 [some (.ref b), some (.ref (ax 0)), some (.ref (am 0)), some (.int (nI i))] [] τx τm) : LW (XC l D cA ax) (XM l D cA am) p e s m below meth c b 931 [some (.ref b), some (.ref (ax 0)), some (.ref (am 0)), some (.int (nI i))] [] σx σm := by
  refine LW.al C0 (k := 1) rfl dL_law_931 ?_
  refine LW.al C0 (k := 0) rfl dL_law_932 ?_
  refine LW.il C0 (k := 3) rfl dL_law_933 ?_
  refine LW.iconst C0 (v := 1) (by decide) dL_law_934 ?_
  refine LW.iadd C0 dL_law_935 ?_
  rw [show nI i + 1 = nI (i + 1) from nI_add i 1]
  refine LW.sld C0 (vp_in_nI (show i + 1 < L by omega) (by omega)) dL_law_936 ?_
  refine LW.call (M' := mX6_count) (as := [.int (xs (nI (i + 1)).toNatClampNeg)]) (rest := []) C0 hB (c_X6_count hR.1) rfl (gci_X6).1 ml_L_119 im_yX6_count se_yX6_count gcl_X6_count ⟨by decide, by decide⟩ rfl rfl (Nat.le_of_ble_eq_true rfl) dL_law_937 (fun rv τx hq => ?_)
  obtain ⟨r1, rfl, hq1⟩ := hq
  show LW (XC l D cA ax) (XM l D cA am) p e s m below meth c b (940) _ [.int r1] τx σm
  refine LW.al C0 (k := 2) rfl dL_law_940 ?_
  refine LW.al C0 (k := 0) rfl dL_law_941 ?_
  refine LW.il C0 (k := 3) rfl dL_law_942 ?_
  refine LW.iconst C0 (v := 1) (by decide) dL_law_943 ?_
  refine LW.iadd C0 dL_law_944 ?_
  rw [show nI i + 1 = nI (i + 1) from nI_add i 1]
  refine LW.sld C0 (vp_in_nI (show i + 1 < L by omega) (by omega)) dL_law_945 ?_
  refine LW.sw hB (LW.call (M' := mX7_count) (as := [.int (xs (nI (i + 1)).toNatClampNeg)]) (rest := [.int r1]) C0 hB.sw (c_X7_count hR.2.1) rfl (gci_X7).1 ml_L_122 im_yX7_count se_yX7_count gcl_X7_count ⟨by decide, by decide⟩ rfl rfl (Nat.le_of_ble_eq_true rfl) dL_law_946 (fun rv τm hq => LW.sw hB.sw ?_))
  obtain ⟨r2, rfl, hq2⟩ := hq
  show LW (XC l D cA ax) (XM l D cA am) p e s m below meth c b (949) _ [.int r2, .int r1] τx τm
  obtain ⟨heq, hR2⟩ := pr_count hR.2.1 hR.2.2 hq1 hq2
  exact LW.iceq C0 (tgt := 968) (by decide) dL_law_949 (fun _ => next τx τm hR2) (fun h => absurd heq h)
set_option maxHeartbeats 4000000 in
set_option maxRecDepth 100000 in
theorem law_26 {p : Program} {l : Launch} {e : Env} {s : State} {m : MethodId} {below : List Frame} {meth : Method} {c : Code} {D : va_G} {cA : ClassId} {ax am : Nat → Nat} {b L : Nat} {xs : Nat → Int32} (hL : L ≤ 3072) (C0 : lw_At p s m meth c b L xs) (hB : lwB (XC l D cA ax) (XM l D cA am) s) {i : Nat} (hi : i + 6 ≤ L) {ln B : Nat → Nat} {σx σm : gS} (hR : IX σx ln B ∧ TM σm ln B ∧ SR σx σm) (next : ∀ τx τm, RLn τx τm → LW (XC l D cA ax) (XM l D cA am) p e s m below meth c b 968 [some (.ref b), some (.ref (ax 0)), some (.ref (am 0)), some (.int (nI i))] [] τx τm) : LW (XC l D cA ax) (XM l D cA am) p e s m below meth c b 954 [some (.ref b), some (.ref (ax 0)), some (.ref (am 0)), some (.int (nI i))] [] σx σm := by
  refine LW.al C0 (k := 1) rfl dL_law_954 ?_
  refine LW.call (M' := mX6_digest) (as := []) (rest := []) C0 hB (c_X6_digest hR.1) rfl (gci_X6).1 ml_L_123 im_yX6_digest se_yX6_digest gcl_X6_digest ⟨by decide, by decide⟩ rfl rfl (Nat.le_of_ble_eq_true rfl) dL_law_955 (fun rv τx hq => ?_)
  obtain ⟨r1, rfl, hq1⟩ := hq
  show LW (XC l D cA ax) (XM l D cA am) p e s m below meth c b (958) _ [.long r1] τx σm
  refine LW.al C0 (k := 2) rfl dL_law_958 ?_
  refine LW.sw hB (LW.call (M' := mX7_digest) (as := []) (rest := [.long r1]) C0 hB.sw (c_X7_digest hR.2.1) rfl (gci_X7).1 ml_L_127 im_yX7_digest se_yX7_digest gcl_X7_digest ⟨by decide, by decide⟩ rfl rfl (Nat.le_of_ble_eq_true rfl) dL_law_959 (fun rv τm hq => LW.sw hB.sw ?_))
  obtain ⟨r2, rfl, hq2⟩ := hq
  show LW (XC l D cA ax) (XM l D cA am) p e s m below meth c b (962) _ [.long r2, .long r1] τx τm
  obtain ⟨heq, hR2⟩ := pr_digest hR.2.2 hq1 hq2
  exact LW.lcmp C0 dL_law_962 dL_law_963 heq (next τx τm hR2)
set_option maxHeartbeats 4000000 in
set_option maxRecDepth 100000 in
theorem law_loop {p : Program} {l : Launch} {e : Env} {s : State} {m : MethodId} {below : List Frame} {meth : Method} {c : Code} {D : va_G} {cA : ClassId} {ax am : Nat → Nat} {b L : Nat} {xs : Nat → Int32} (hL : L ≤ 3072) (C0 : lw_At p s m meth c b L xs) (hB : lwB (XC l D cA ax) (XM l D cA am) s) : ∀ n i σx σm, i ≤ L + 6 → L < i + 6 * n → RLn σx σm → LW (XC l D cA ax) (XM l D cA am) p e s m below meth c b 18 [some (.ref b), some (.ref (ax 0)), some (.ref (am 0)), some (.int (nI i))] [] σx σm := by
  intro n
  induction n with
  | zero =>
    intro i σx σm hi hn hRL
    refine LW.il C0 (k := 3) rfl dL_law_18 ?_
    refine LW.al C0 (k := 0) rfl dL_law_19 ?_
    refine LW.slen C0 dL_law_20 ?_
    refine LW.bipush C0 (v := 6) (by decide) dL_law_21 ?_
    refine LW.isub C0 dL_law_23 ?_
    refine LW.icgt C0 (tgt := 974) (by decide) dL_law_24 (fun _ => ?_) (fun h => ?_)
    · refine LW.iconst C0 (v := 1) (by decide) dL_law_974 ?_
      exact LW.ret C0 dL_law_975
    · exfalso
      have := lw_in2 hL (show i ≤ 4000 by omega) h
      omega
  | succ n ih =>
    intro i σx σm hi hn hRL
    refine LW.il C0 (k := 3) rfl dL_law_18 ?_
    refine LW.al C0 (k := 0) rfl dL_law_19 ?_
    refine LW.slen C0 dL_law_20 ?_
    refine LW.bipush C0 (v := 6) (by decide) dL_law_21 ?_
    refine LW.isub C0 dL_law_23 ?_
    refine LW.icgt C0 (tgt := 974) (by decide) dL_law_24 (fun _ => ?_) (fun h => ?_)
    · refine LW.iconst C0 (v := 1) (by decide) dL_law_974 ?_
      exact LW.ret C0 dL_law_975
    · have hi6 := lw_in2 hL (show i ≤ 4000 by omega) h
      have next : ∀ τx τm, RLn τx τm → LW (XC l D cA ax) (XM l D cA am) p e s m below meth c b 968 [some (.ref b), some (.ref (ax 0)), some (.ref (am 0)), some (.int (nI i))] [] τx τm := by
        intro τx τm hR2
        refine LW.inc C0 (i := 3) (d := 6) rfl (by decide) (by decide) (fun j v h1 h2 => by have hj : j = 2 := (by omega); subst hj; cases h1; rfl) dL_law_968 ?_
        refine LW.goto C0 (tgt := 18) (by decide) dL_law_971 ?_
        show LW (XC l D cA ax) (XM l D cA am) p e s m below meth c b 18 [some (.ref b), some (.ref (ax 0)), some (.ref (am 0)), some (.int (nI i + 6))] [] τx τm
        rw [show nI i + 6 = nI (i + 6) from nI_add i 6]
        exact ih (i + 6) τx τm (by omega) (by omega) hR2
      obtain ⟨ln, B, hR⟩ := hRL
      refine LW.al C0 (k := 0) rfl dL_law_27 ?_
      refine LW.il C0 (k := 3) rfl dL_law_28 ?_
      refine LW.sld C0 (vp_in_nI (show i < L by omega) (by omega)) dL_law_29 ?_
      refine LW.bipush C0 (v := 31) (by decide) dL_law_30 ?_
      refine LW.iand C0 dL_law_32 ?_
      obtain ⟨q, hq, eq⟩ := an31 (xs (nI i).toNatClampNeg)
      rw [eq]
      have cc : q = 0 ∨ q = 1 ∨ q = 2 ∨ q = 3 ∨ q = 4 ∨ q = 5 ∨ q = 6 ∨ q = 7 ∨ q = 8 ∨ q = 9 ∨ q = 10 ∨ q = 11 ∨ q = 12 ∨ q = 13 ∨ q = 14 ∨ q = 15 ∨ q = 16 ∨ q = 17 ∨ q = 18 ∨ q = 19 ∨ q = 20 ∨ q = 21 ∨ q = 22 ∨ q = 23 ∨ q = 24 ∨ q = 25 ∨ q = 26 ∨ 27 ≤ q := by omega
      rcases cc with rfl | rfl | rfl | rfl | rfl | rfl | rfl | rfl | rfl | rfl | rfl | rfl | rfl | rfl | rfl | rfl | rfl | rfl | rfl | rfl | rfl | rfl | rfl | rfl | rfl | rfl | rfl | hq27
      · refine LW.tin C0 (tgt := 156) dL_law_33 (by decide) (by decide) rfl (by decide) ?_
        exact law_0 hL C0 hB hi6 hR next
      · refine LW.tin C0 (tgt := 189) dL_law_33 (by decide) (by decide) rfl (by decide) ?_
        exact law_1 hL C0 hB hi6 hR next
      · refine LW.tin C0 (tgt := 212) dL_law_33 (by decide) (by decide) rfl (by decide) ?_
        exact law_2 hL C0 hB hi6 hR next
      · refine LW.tin C0 (tgt := 235) dL_law_33 (by decide) (by decide) rfl (by decide) ?_
        exact law_3 hL C0 hB hi6 hR next
      · refine LW.tin C0 (tgt := 258) dL_law_33 (by decide) (by decide) rfl (by decide) ?_
        exact law_4 hL C0 hB hi6 hR next
      · refine LW.tin C0 (tgt := 291) dL_law_33 (by decide) (by decide) rfl (by decide) ?_
        exact law_5 hL C0 hB hi6 hR next
      · refine LW.tin C0 (tgt := 324) dL_law_33 (by decide) (by decide) rfl (by decide) ?_
        exact law_6 hL C0 hB hi6 hR next
      · refine LW.tin C0 (tgt := 357) dL_law_33 (by decide) (by decide) rfl (by decide) ?_
        exact law_7 hL C0 hB hi6 hR next
      · refine LW.tin C0 (tgt := 380) dL_law_33 (by decide) (by decide) rfl (by decide) ?_
        exact law_8 hL C0 hB hi6 hR next
      · refine LW.tin C0 (tgt := 403) dL_law_33 (by decide) (by decide) rfl (by decide) ?_
        exact law_9 hL C0 hB hi6 hR next
      · refine LW.tin C0 (tgt := 436) dL_law_33 (by decide) (by decide) rfl (by decide) ?_
        exact law_10 hL C0 hB hi6 hR next
      · refine LW.tin C0 (tgt := 469) dL_law_33 (by decide) (by decide) rfl (by decide) ?_
        exact law_11 hL C0 hB hi6 hR next
      · refine LW.tin C0 (tgt := 502) dL_law_33 (by decide) (by decide) rfl (by decide) ?_
        exact law_12 hL C0 hB hi6 hR next
      · refine LW.tin C0 (tgt := 525) dL_law_33 (by decide) (by decide) rfl (by decide) ?_
        exact law_13 hL C0 hB hi6 hR next
      · refine LW.tin C0 (tgt := 548) dL_law_33 (by decide) (by decide) rfl (by decide) ?_
        exact law_14 hL C0 hB hi6 hR next
      · refine LW.tin C0 (tgt := 581) dL_law_33 (by decide) (by decide) rfl (by decide) ?_
        exact law_15 hL C0 hB hi6 hR next
      · refine LW.tin C0 (tgt := 604) dL_law_33 (by decide) (by decide) rfl (by decide) ?_
        exact law_16 hL C0 hB hi6 hR next
      · refine LW.tin C0 (tgt := 627) dL_law_33 (by decide) (by decide) rfl (by decide) ?_
        exact law_17 hL C0 hB hi6 hR next
      · refine LW.tin C0 (tgt := 660) dL_law_33 (by decide) (by decide) rfl (by decide) ?_
        exact law_18 hL C0 hB hi6 hR next
      · refine LW.tin C0 (tgt := 673) dL_law_33 (by decide) (by decide) rfl (by decide) ?_
        exact law_19 hL C0 hB hi6 hR next
      · refine LW.tin C0 (tgt := 716) dL_law_33 (by decide) (by decide) rfl (by decide) ?_
        exact law_20 hL C0 hB hi6 hR next
      · refine LW.tin C0 (tgt := 739) dL_law_33 (by decide) (by decide) rfl (by decide) ?_
        exact law_21 hL C0 hB hi6 hR next
      · refine LW.tin C0 (tgt := 792) dL_law_33 (by decide) (by decide) rfl (by decide) ?_
        exact law_22 hL C0 hB hi6 hR next
      · refine LW.tin C0 (tgt := 835) dL_law_33 (by decide) (by decide) rfl (by decide) ?_
        exact law_23 hL C0 hB hi6 hR next
      · refine LW.tin C0 (tgt := 898) dL_law_33 (by decide) (by decide) rfl (by decide) ?_
        exact law_24 hL C0 hB hi6 hR next
      · refine LW.tin C0 (tgt := 931) dL_law_33 (by decide) (by decide) rfl (by decide) ?_
        exact law_25 hL C0 hB hi6 hR next
      · refine LW.tin C0 (tgt := 954) dL_law_33 (by decide) (by decide) rfl (by decide) ?_
        exact law_26 hL C0 hB hi6 hR next
      · refine LW.tout C0 (tgt := 968) dL_law_33 (Or.inr (by rw [nI_toInt (by omega)]; omega)) (by decide) ?_
        exact next σx σm ⟨ln, B, hR⟩

/-! ===== the model shows a term ===== -/
def sM (σ τ : gS) : Prop := (∀ k, k ≠ 0 → (k < 13 ∨ 15 < k) → τ k = σ k) ∧ ∀ i, i ≠ 15 → i ≠ 18 → τ 0 i = σ 0 i
theorem sM_rf (σ : gS) : sM σ σ := ⟨fun _ _ _ => rfl, fun _ _ _ => rfl⟩
theorem sM_tr {σ τ υ : gS} (h1 : sM σ τ) (h2 : sM τ υ) : sM σ υ := ⟨fun k a b => (h2.1 k a b).trans (h1.1 k a b), fun i a b => (h2.2 i a b).trans (h1.2 i a b)⟩
theorem lM_F {σ τ : gS} (h : lM σ τ) : sM σ τ := ⟨fun k a b => h.1 k a (by omega), fun i a _ => h.2 i a⟩
def StM (σ : gS) (B : Nat → Nat) : List (Nat × Nat) → Prop
  | [] => True
  | q :: s => σ 14 s.length = nI (pN B q.1) ∧ σ 15 s.length = nI q.2 ∧ StM σ B s
theorem StM_congr {σ τ : gS} {B : Nat → Nat} : ∀ s : List (Nat × Nat), (∀ i, i < s.length → τ 14 i = σ 14 i ∧ τ 15 i = σ 15 i) → StM σ B s → StM τ B s := by
  intro s
  induction s with
  | nil => intro _ _; trivial
  | cons q s ih => intro h h1; exact ⟨by rw [(h _ (by simp)).1]; exact h1.1, by rw [(h _ (by simp)).2]; exact h1.2.1, ih (fun i hi => h i (by simp; omega)) h1.2.2⟩
def SkM (σ : gS) (B : Nat → Nat) (s : List (Nat × Nat)) : Prop := StM σ B s ∧ σ 0 18 = nI s.length
abbrev pu (σ : gS) (n : Nat) (x y : Int32) : gS := up2 (up2 (up2 σ 14 n x) 15 n y) 0 18 (nI (n + 1))
theorem pu_F (σ : gS) (n : Nat) (x y : Int32) : sM σ (pu σ n x y) := ⟨fun k a b => by unfold pu; rw [up2_ne _ _ _ a, up2_ne _ _ _ (by omega), up2_ne _ _ _ (by omega)], fun i a b => by unfold pu; rw [up2_r, if_neg (fun z => b z.2), up2_ne _ _ _ (by decide), up2_ne _ _ _ (by decide)]⟩
theorem pu_L {σ : gS} {n : Nat} {x y : Int32} {L : List Nat} (h : LnM σ L) : LnM (pu σ n x y) L := by
  refine ⟨?_, h.2.1, fun i z hi => ?_⟩
  · unfold pu; rw [up2_r, if_neg (by decide), up2_ne _ _ _ (by decide), up2_ne _ _ _ (by decide)]; exact h.1
  · unfold pu; rw [up2_ne _ _ _ (by decide), up2_ne _ _ _ (by decide), up2_ne _ _ _ (by decide)]; exact h.2.2 i z hi
theorem pu_S {σ : gS} {B : Nat → Nat} {s : List (Nat × Nat)} (q : Nat × Nat) (h : StM σ B s) : SkM (pu σ s.length (nI (pN B q.1)) (nI q.2)) B (q :: s) := by
  refine ⟨⟨?_, ?_, StM_congr s (fun i hi => ?_) h⟩, up2_at _ _ _ _⟩
  · unfold pu; rw [up2_ne _ _ _ (by decide), up2_ne _ _ _ (by decide), up2_at]
  · unfold pu; rw [up2_ne _ _ _ (by decide), up2_at]
  · unfold pu
    rw [up2_ne _ _ _ (show (14 : Nat) ≠ 0 by decide), up2_ne _ _ _ (show (14 : Nat) ≠ 15 by decide), up2_ne _ _ _ (show (15 : Nat) ≠ 0 by decide), up2_r, if_neg (fun z => by omega), up2_r, if_neg (fun z => by omega), up2_ne _ _ _ (by decide)]
    exact ⟨rfl, rfl⟩
theorem lM_S {σ τ : gS} {B : Nat → Nat} {s : List (Nat × Nat)} (h : lM σ τ) (hs : SkM σ B s) : SkM τ B s := ⟨StM_congr s (fun i _ => by rw [h.1 14 (by decide) (by decide), h.1 15 (by decide) (by decide)]; exact ⟨rfl, rfl⟩) hs.1, by rw [h.2 18 (by decide)]; exact hs.2⟩
theorem PrM_F {σ τ : gS} {B : Nat → Nat} {g : Nat} (h : ∀ k, 8 ≤ k → k ≤ 11 → τ k = σ k) (hP : PrM σ B g) : PrM τ B g := by
  unfold PrM at hP ⊢
  rw [h 8 (by decide) (by decide), h 9 (by decide) (by decide), h 10 (by decide) (by decide), h 11 (by decide) (by decide)]
  exact hP
theorem sM_P {σ τ : gS} {B : Nat → Nat} {g : Nat} (h : sM σ τ) (hP : PrM σ B g) : PrM τ B g := PrM_F (fun k a b => h.1 k (by omega) (by omega)) hP
def vp (B : Nat → Nat) (V : uV) (u : Nat) : Int32 := match V u with
  | some q => nI (pN B q.1)
  | none => -1
def VM (σ : gS) (B : Nat → Nat) (V : uV) : Prop := ∀ u, u < 6 → σ 16 u = vp B V u ∧ ∀ q, V u = some q → σ 17 u = nI q.2
def vM (σ : gS) (B : Nat → Nat) (fl : Int32) (V : uV) : Prop := (fl = 0 ∧ ∀ u, V u = none) ∨ (fl = 1 ∧ VM σ B V)
theorem VM_F {σ τ : gS} {B : Nat → Nat} {V : uV} (h16 : τ 16 = σ 16) (h17 : τ 17 = σ 17) (h : VM σ B V) : VM τ B V := fun u hu => by rw [h16, h17]; exact h u hu
theorem vM_F {σ τ : gS} {B : Nat → Nat} {fl : Int32} {V : uV} (h16 : τ 16 = σ 16) (h17 : τ 17 = σ 17) (h : vM σ B fl V) : vM τ B fl V := h.elim Or.inl (fun z => Or.inr ⟨z.1, VM_F h16 h17 z.2⟩)
theorem pN_ne1 {B ln : Nat → Nat} {q : Nat} (h : nd B ln q) : ¬ nI (pN B q) = -1 := fun e => nI_pos (show pN B q < 2 ^ 31 by have := pN_lt h; omega) (by rw [e]; decide)
theorem en_7 {B ln : Nat → Nat} {V : uV} (hV : VG B ln V) (hr : rkd B V) {q : Nat × Nat} (hn : nd B ln q.1) (c : kd (B q.1) = 7) : en B V 241 q = en B V 241 (q.1 + 3, tn_cmp q.2 (tn_sw (B (q.1 + 1) - 97) (B (q.1 + 2) - 97))) := by
  have h := rkd_end hV hr (q := (q.1 + 3, tn_cmp q.2 (tn_sw (B (q.1 + 1) - 97) (B (q.1 + 2) - 97)))) (nd_7 hn c).2.2.1 (f := 240) (by decide)
  rw [en, if_pos c]
  exact (en_add 240 1 _ h).symm
theorem en_2 {B ln : Nat → Nat} {V : uV} (hV : VG B ln V) (hr : rkd B V) {q w : Nat × Nat} (c : kd (B q.1) = 2) (hw : V (B q.1 - 80) = some w) : en B V 241 q = en B V 241 (w.1, tn_cmp q.2 w.2) := by
  have h := rkd_end hV hr (q := (w.1, tn_cmp q.2 w.2)) (hV _ _ hw).2.1 (f := 240) (by decide)
  rw [en, if_neg (by omega), if_pos c, hw]
  exact (en_add 240 1 _ h).symm
theorem shB_pos (B : Nat → Nat) (q : Nat × Nat) : 1 ≤ (shB B q).length := by
  unfold shB
  repeat' split
  all_goals simp
/-- what a public call of the model leaves as it was -/
def mQ (σ τ : gS) : Prop := (∀ k, 1 ≤ k → k ≤ 6 → τ k = σ k) ∧ τ 0 4 = σ 0 4
theorem mQ_rf (σ : gS) : mQ σ σ := ⟨fun _ _ _ => rfl, rfl⟩
theorem mQ_tr {σ τ υ : gS} (h1 : mQ σ τ) (h2 : mQ τ υ) : mQ σ υ := ⟨fun k a b => (h2.1 k a b).trans (h1.1 k a b), h2.2.trans h1.2⟩
theorem rdF_Q {σ τ : gS} (h : rdF σ τ) : mQ σ τ := ⟨fun k a b => h.1 k (by omega) (by omega), h.2 4 (by decide)⟩
theorem sM_Q {σ τ : gS} (h : sM σ τ) : mQ σ τ := ⟨fun k a b => h.1 k (by omega) (by omega), h.2 4 (by decide) (by decide)⟩
theorem cst_1 {ln B : Nat → Nat} {t : Nat} (h : wlA ln B t = true) : 1 ≤ cst B (30 * t) (ln t) := by
  have h2 := (wlA_iff.mp h).1
  have h1 : stb B (30 * t) 0 = true := stb_1 (op := 0) rfl
  have := cst_lt h1 h2
  omega
section T91
variable {l : Launch} {D : va_G} {cA : ClassId} {ad : Nat → Nat}
variable {σ σ0 : gS}
set_option maxHeartbeats 4000000 in
set_option maxRecDepth 100000 in
theorem c_X7_puts {n : Nat} {x y : Int32} (hn : σ 0 18 = nI n) (h : n < 400) : GM (XM l D cA ad) mX7_puts [.ref 0, .int x, .int y] σ (g_rv (fun τ => τ = pu σ n x y)) := by
  refine GM.of (ls := [some (.ref 0), some (.int x), some (.int y)]) (by decide) (Nat.le_of_ble_eq_true rfl) rfl ?_
  refine G.aload_n (k := 0) rfl dX7_puts_0 ?_
  refine G.getr (j := 16) rfl gci_X7 (by decide) rfl fl_X7_49 dX7_puts_1 ?_
  refine G.aload_n (k := 0) rfl dX7_puts_4 ?_
  refine G.geti (j := 18) rfl gci_X7 (by decide) rfl fl_X7_236 dX7_puts_5 ?_
  rw [hn]
  refine G.iload_n (k := 1) rfl dX7_puts_8 ?_
  refine G.iastN (k := n) rfl (rfl) (h) (by decide) dX7_puts_9 ?_
  refine G.aload_n (k := 0) rfl dX7_puts_10 ?_
  refine G.getr (j := 17) rfl gci_X7 (by decide) rfl fl_X7_52 dX7_puts_11 ?_
  refine G.aload_n (k := 0) rfl dX7_puts_14 ?_
  refine G.geti (j := 18) rfl gci_X7 (by decide) rfl fl_X7_236 dX7_puts_15 ?_
  rw [up2_ne _ _ _ (show (0 : Nat) ≠ 14 by decide), hn]
  refine G.iload_n (k := 2) rfl dX7_puts_18 ?_
  refine G.iastN (k := n) rfl (rfl) (h) (by decide) dX7_puts_19 ?_
  refine G.aload_n (k := 0) rfl dX7_puts_20 ?_
  refine G.dupr dX7_puts_21 ?_
  refine G.geti (j := 18) rfl gci_X7 (by decide) rfl fl_X7_236 dX7_puts_22 ?_
  rw [up2_ne _ _ _ (show (0 : Nat) ≠ 15 by decide), up2_ne _ _ _ (show (0 : Nat) ≠ 14 by decide), hn]
  refine G.iconst (v := 1) (by decide) dX7_puts_25 ?_
  refine G.iadd dX7_puts_26 ?_
  rw [nI_1]
  refine G.put (j := 18) rfl gci_X7 gcp_X7 (by decide) rfl rfl rfl rfl fl_X7_236 dX7_puts_27 ?_
  exact G.vret rfl (rfl) dX7_puts_30
theorem h42 : ∀ {b : Nat}, kd b = 3 → b = 42 := by
  intro b h
  unfold kd at h
  repeat' split at h
  all_goals first | omega | assumption
theorem h48 : ∀ {b : Nat}, kd b = 4 → 48 ≤ b ∧ b ≤ 52 := by
  intro b h
  unfold kd at h
  repeat' split at h
  all_goals first | omega | assumption
set_option maxHeartbeats 4000000 in
set_option maxRecDepth 100000 in
theorem c_X7_tellsPart {ln B : Nat → Nat} {q : Nat × Nat} {s : List (Nat × Nat)} {L : List Nat} (hN : ∀ g, nd B ln g → PrM σ B g) (hn : nd B ln q.1) (hP : tn_P q.2) (h7 : ¬ kd (B q.1) = 7) (hL : LnM σ L) (hs : SkM σ B s) (h60 : s.length ≤ 61) : GM (XM l D cA ad) mX7_tellsPart [.ref 0, .int (nI (pN B q.1)), .int (nI q.2)] σ (g_rv (fun τ => LnM τ ((L ++ shB B q).take 60) ∧ SkM τ B (shK B q ++ s) ∧ sM σ τ)) := by
  refine GM.of (ls := [some (.ref 0), some (.int (nI (pN B q.1))), some (.int (nI q.2))]) (by decide) (Nat.le_of_ble_eq_true rfl) rfl ?_
  have hlt := pN_lt hn
  have hPr := hN _ hn
  have hkd := nd_kd hn
  have cc : kd (B q.1) = 1 ∨ kd (B q.1) = 2 ∨ kd (B q.1) = 3 ∨ kd (B q.1) = 4 ∨ kd (B q.1) = 5 ∨ kd (B q.1) = 6 := by omega
  rcases cc with hc | hc | hc | hc | hc | hc
  · refine G.aload_n (k := 0) rfl dX7_tellsPart_0 ?_
    refine G.getr (j := 8) rfl gci_X7 (by decide) rfl fl_X7_31 dX7_tellsPart_1 ?_
    refine G.iload_n (k := 1) rfl dX7_tellsPart_4 ?_
    refine G.ialdN (k := pN B q.1) rfl (rfl) (hlt.2.2) (by decide) dX7_tellsPart_5 ?_
    rw [show σ 8 (pN B q.1) = 0 by rw [hPr.1, hc]; rfl]
    refine G.tableIn (tgt := 40) dX7_tellsPart_6 (by decide) (by decide) rfl (by decide) ?_
    refine G.aload_n (k := 0) rfl dX7_tellsPart_40 ?_
    refine G.bipush (v := 97) (by decide) dX7_tellsPart_41 ?_
    refine G.iload_n (k := 2) rfl dX7_tellsPart_43 ?_
    refine G.aload_n (k := 0) rfl dX7_tellsPart_44 ?_
    refine G.getr (j := 9) rfl gci_X7 (by decide) rfl fl_X7_34 dX7_tellsPart_45 ?_
    refine G.iload_n (k := 1) rfl dX7_tellsPart_48 ?_
    refine G.ialdN (k := pN B q.1) rfl (rfl) (hlt.2.2) (by decide) dX7_tellsPart_49 ?_
    rw [hPr.2.1, show nmr B q.1 = B q.1 - 97 from if_pos hc]
    refine G.callSif (c_X7_image hP.1 (l97 hc)) ml_X7_123 ws_yX7_image gcl_X7_image (by decide) rfl rfl (Nat.le_of_ble_eq_true rfl) dX7_tellsPart_50 ?_
    refine G.iadd dX7_tellsPart_53 ?_
    rw [show (97 : Int32) + nI (tn_im q.2 (B q.1 - 97)) = nI (97 + tn_im q.2 (B q.1 - 97)) from nI_add 97 _]
    refine G.callVv (c_X7_tells hL) rfl (gci_X7).1 ml_X7_207 im_yX7_tells se_yX7_tells gcl_X7_tells (by decide) rfl rfl (Nat.le_of_ble_eq_true rfl) dX7_tellsPart_54 (fun τ hq => ?_)
    refine G.goto (tgt := 176) (by decide) dX7_tellsPart_57 ?_
    exact G.vret rfl (⟨by rw [shB, if_pos hc]; exact hq.1, by rw [shK, if_neg (by omega), if_neg (by omega), if_neg (by omega)]; exact lM_S hq.2 hs, lM_F hq.2⟩) dX7_tellsPart_176
  · refine G.aload_n (k := 0) rfl dX7_tellsPart_0 ?_
    refine G.getr (j := 8) rfl gci_X7 (by decide) rfl fl_X7_31 dX7_tellsPart_1 ?_
    refine G.iload_n (k := 1) rfl dX7_tellsPart_4 ?_
    refine G.ialdN (k := pN B q.1) rfl (rfl) (hlt.2.2) (by decide) dX7_tellsPart_5 ?_
    rw [show σ 8 (pN B q.1) = 1 by rw [hPr.1, hc]; rfl]
    refine G.tableIn (tgt := 60) dX7_tellsPart_6 (by decide) (by decide) rfl (by decide) ?_
    refine G.aload_n (k := 0) rfl dX7_tellsPart_60 ?_
    refine G.iload_n (k := 2) rfl dX7_tellsPart_61 ?_
    refine G.callVi (c_X7_tellsTurn hP hL) rfl (gci_X7).1 ml_X7_211 im_yX7_tellsTurn se_yX7_tellsTurn gcl_X7_tellsTurn (by decide) rfl rfl (Nat.le_of_ble_eq_true rfl) dX7_tellsPart_62 (fun r τ hq => ?_)
    refine G.popi dX7_tellsPart_65 ?_
    refine G.aload_n (k := 0) rfl dX7_tellsPart_66 ?_
    refine G.bipush (v := 80) (by decide) dX7_tellsPart_67 ?_
    refine G.aload_n (k := 0) rfl dX7_tellsPart_69 ?_
    refine G.getr (j := 9) rfl gci_X7 (by decide) rfl fl_X7_34 dX7_tellsPart_70 ?_
    refine G.iload_n (k := 1) rfl dX7_tellsPart_73 ?_
    refine G.ialdN (k := pN B q.1) rfl (rfl) (hlt.2.2) (by decide) dX7_tellsPart_74 ?_
    rw [hq.2.2.1 9 (by decide) (by decide), hPr.2.1, show nmr B q.1 = B q.1 - 80 by rw [nmr, if_neg (by omega), if_pos hc]]
    refine G.iadd dX7_tellsPart_75 ?_
    rw [show (80 : Int32) + nI (B q.1 - 80) = nI (B q.1) by rw [show (80 : Int32) = nI 80 from rfl, nI_add]; exact congrArg nI (by have := kd2_ge hc; omega)]
    refine G.callVv (c_X7_tells hq.2.1) rfl (gci_X7).1 ml_X7_207 im_yX7_tells se_yX7_tells gcl_X7_tells (by decide) rfl rfl (Nat.le_of_ble_eq_true rfl) dX7_tellsPart_76 (fun τ2 hq2 => ?_)
    refine G.goto (tgt := 176) (by decide) dX7_tellsPart_79 ?_
    exact G.vret rfl (⟨by rw [shB, if_neg (by omega), if_pos hc, ← List.append_assoc, ← take_app]; exact hq2.1, by rw [shK, if_neg (by omega), if_neg (by omega), if_neg (by omega)]; exact lM_S hq2.2 (lM_S hq.2.2 hs), lM_F (lM_tr hq.2.2 hq2.2)⟩) dX7_tellsPart_176
  · refine G.aload_n (k := 0) rfl dX7_tellsPart_0 ?_
    refine G.getr (j := 8) rfl gci_X7 (by decide) rfl fl_X7_31 dX7_tellsPart_1 ?_
    refine G.iload_n (k := 1) rfl dX7_tellsPart_4 ?_
    refine G.ialdN (k := pN B q.1) rfl (rfl) (hlt.2.2) (by decide) dX7_tellsPart_5 ?_
    rw [show σ 8 (pN B q.1) = 2 by rw [hPr.1, hc]; rfl]
    refine G.tableIn (tgt := 82) dX7_tellsPart_6 (by decide) (by decide) rfl (by decide) ?_
    refine G.aload_n (k := 0) rfl dX7_tellsPart_82 ?_
    refine G.bipush (v := 42) (by decide) dX7_tellsPart_83 ?_
    refine G.callVv (c_X7_tells (x := 42) hL) rfl (gci_X7).1 ml_X7_207 im_yX7_tells se_yX7_tells gcl_X7_tells (by decide) rfl rfl (Nat.le_of_ble_eq_true rfl) dX7_tellsPart_85 (fun τ hq => ?_)
    refine G.goto (tgt := 176) (by decide) dX7_tellsPart_88 ?_
    exact G.vret rfl (⟨by rw [shB, if_neg (by omega), if_neg (by omega), if_neg (by omega), if_neg (by omega), h42 hc]; exact hq.1, by rw [shK, if_neg (by omega), if_neg (by omega), if_neg (by omega)]; exact lM_S hq.2 hs, lM_F hq.2⟩) dX7_tellsPart_176
  · obtain ⟨n1, n2, n3⟩ := nd_4 hn hc
    have p1 := pN_45 hn n1 n3
    refine G.aload_n (k := 0) rfl dX7_tellsPart_0 ?_
    refine G.getr (j := 8) rfl gci_X7 (by decide) rfl fl_X7_31 dX7_tellsPart_1 ?_
    refine G.iload_n (k := 1) rfl dX7_tellsPart_4 ?_
    refine G.ialdN (k := pN B q.1) rfl (rfl) (hlt.2.2) (by decide) dX7_tellsPart_5 ?_
    rw [show σ 8 (pN B q.1) = 3 by rw [hPr.1, hc]; rfl]
    refine G.tableIn (tgt := 91) dX7_tellsPart_6 (by decide) (by decide) rfl (by decide) ?_
    refine G.aload_n (k := 0) rfl dX7_tellsPart_91 ?_
    refine G.bipush (v := 48) (by decide) dX7_tellsPart_92 ?_
    refine G.aload_n (k := 0) rfl dX7_tellsPart_94 ?_
    refine G.getr (j := 9) rfl gci_X7 (by decide) rfl fl_X7_34 dX7_tellsPart_95 ?_
    refine G.iload_n (k := 1) rfl dX7_tellsPart_98 ?_
    refine G.ialdN (k := pN B q.1) rfl (rfl) (hlt.2.2) (by decide) dX7_tellsPart_99 ?_
    rw [hPr.2.1, show nmr B q.1 = B q.1 - 48 by rw [nmr, if_neg (by omega), if_neg (by omega), if_pos hc]]
    refine G.iadd dX7_tellsPart_100 ?_
    rw [show (48 : Int32) + nI (B q.1 - 48) = nI (B q.1) by rw [show (48 : Int32) = nI 48 from rfl, nI_add]; exact congrArg nI (by have := h48 hc; omega)]
    refine G.callVv (c_X7_tells hL) rfl (gci_X7).1 ml_X7_207 im_yX7_tells se_yX7_tells gcl_X7_tells (by decide) rfl rfl (Nat.le_of_ble_eq_true rfl) dX7_tellsPart_101 (fun τ hq => ?_)
    refine G.aload_n (k := 0) rfl dX7_tellsPart_104 ?_
    refine G.iload_n (k := 1) rfl dX7_tellsPart_105 ?_
    refine G.iconst (v := 1) (by decide) dX7_tellsPart_106 ?_
    refine G.iadd dX7_tellsPart_107 ?_
    rw [nI_1, ← p1]
    refine G.iload_n (k := 2) rfl dX7_tellsPart_108 ?_
    have S1 := lM_S hq.2 hs
    refine G.callVvf (c_X7_puts (n := s.length) S1.2 (by omega)) rfl (gci_X7).1 ml_X7_239 im_yX7_puts se_yX7_puts gcl_X7_puts (by decide) rfl rfl (Nat.le_of_ble_eq_true rfl) dX7_tellsPart_109 ?_
    have S2 := pu_S (q.1 + 1, q.2) S1.1
    refine G.goto (tgt := 176) (by decide) dX7_tellsPart_112 ?_
    exact G.vret rfl (⟨by rw [shB, if_neg (by omega), if_neg (by omega), if_neg (by omega), if_neg (by omega)]; exact pu_L hq.1, by rw [shK, if_pos hc]; exact S2, sM_tr (lM_F hq.2) (pu_F _ _ _ _)⟩) dX7_tellsPart_176
  · obtain ⟨n1, n2, n3, n4, n5⟩ := nd_5 hn hc
    have p1 := pN_45 hn n1 n4
    have q1 := pN_lt n1
    have hE := (hN _ n1).2.2.2
    rw [n4, show pt B (q.1 / 30) (tE B (q.1 + 1)) = pN B (tE B (q.1 + 1)) by unfold pN; rw [n5]] at hE
    refine G.aload_n (k := 0) rfl dX7_tellsPart_0 ?_
    refine G.getr (j := 8) rfl gci_X7 (by decide) rfl fl_X7_31 dX7_tellsPart_1 ?_
    refine G.iload_n (k := 1) rfl dX7_tellsPart_4 ?_
    refine G.ialdN (k := pN B q.1) rfl (rfl) (hlt.2.2) (by decide) dX7_tellsPart_5 ?_
    rw [show σ 8 (pN B q.1) = 4 by rw [hPr.1, hc]; rfl]
    refine G.tableIn (tgt := 115) dX7_tellsPart_6 (by decide) (by decide) rfl (by decide) ?_
    refine G.aload_n (k := 0) rfl dX7_tellsPart_115 ?_
    refine G.bipush (v := 44) (by decide) dX7_tellsPart_116 ?_
    refine G.callVv (c_X7_tells (x := 44) hL) rfl (gci_X7).1 ml_X7_207 im_yX7_tells se_yX7_tells gcl_X7_tells (by decide) rfl rfl (Nat.le_of_ble_eq_true rfl) dX7_tellsPart_118 (fun τ hq => ?_)
    refine G.aload_n (k := 0) rfl dX7_tellsPart_121 ?_
    refine G.aload_n (k := 0) rfl dX7_tellsPart_122 ?_
    refine G.getr (j := 11) rfl gci_X7 (by decide) rfl fl_X7_40 dX7_tellsPart_123 ?_
    refine G.iload_n (k := 1) rfl dX7_tellsPart_126 ?_
    refine G.iconst (v := 1) (by decide) dX7_tellsPart_127 ?_
    refine G.iadd dX7_tellsPart_128 ?_
    rw [nI_1, ← p1]
    refine G.ialdN (k := pN B (q.1 + 1)) rfl (rfl) (q1.2.2) (by decide) dX7_tellsPart_129 ?_
    rw [hq.2.1 11 (by decide) (by decide), hE]
    refine G.iload_n (k := 2) rfl dX7_tellsPart_130 ?_
    have S1 := lM_S hq.2 hs
    refine G.callVvf (c_X7_puts (n := s.length) S1.2 (by omega)) rfl (gci_X7).1 ml_X7_239 im_yX7_puts se_yX7_puts gcl_X7_puts (by decide) rfl rfl (Nat.le_of_ble_eq_true rfl) dX7_tellsPart_131 ?_
    have S2 := pu_S (tE B (q.1 + 1), q.2) S1.1
    refine G.aload_n (k := 0) rfl dX7_tellsPart_134 ?_
    refine G.iload_n (k := 1) rfl dX7_tellsPart_135 ?_
    refine G.iconst (v := 1) (by decide) dX7_tellsPart_136 ?_
    refine G.iadd dX7_tellsPart_137 ?_
    rw [nI_1, ← p1]
    refine G.iload_n (k := 2) rfl dX7_tellsPart_138 ?_
    refine G.callVvf (c_X7_puts (n := s.length + 1) S2.2 (by omega)) rfl (gci_X7).1 ml_X7_239 im_yX7_puts se_yX7_puts gcl_X7_puts (by decide) rfl rfl (Nat.le_of_ble_eq_true rfl) dX7_tellsPart_139 ?_
    have S3 := pu_S (q.1 + 1, q.2) S2.1
    refine G.goto (tgt := 176) (by decide) dX7_tellsPart_142 ?_
    exact G.vret rfl (⟨by rw [shB, if_neg (by omega), if_neg (by omega), if_pos hc]; exact pu_L (pu_L hq.1), by rw [shK, if_neg (by omega), if_pos hc]; exact S3, sM_tr (lM_F hq.2) (sM_tr (pu_F _ _ _ _) (pu_F _ _ _ _))⟩) dX7_tellsPart_176
  · obtain ⟨k1, n1, n2, n3⟩ := nd_6 hn hc
    have p1 := pN_6 hn hc
    refine G.aload_n (k := 0) rfl dX7_tellsPart_0 ?_
    refine G.getr (j := 8) rfl gci_X7 (by decide) rfl fl_X7_31 dX7_tellsPart_1 ?_
    refine G.iload_n (k := 1) rfl dX7_tellsPart_4 ?_
    refine G.ialdN (k := pN B q.1) rfl (rfl) (hlt.2.2) (by decide) dX7_tellsPart_5 ?_
    rw [show σ 8 (pN B q.1) = 5 by rw [hPr.1, hc]; rfl]
    refine G.tableOut (tgt := 145) dX7_tellsPart_6 (Or.inr (by decide)) (by decide) ?_
    refine G.aload_n (k := 0) rfl dX7_tellsPart_145 ?_
    refine G.bipush (v := 46) (by decide) dX7_tellsPart_146 ?_
    refine G.callVv (c_X7_tells (x := 46) hL) rfl (gci_X7).1 ml_X7_207 im_yX7_tells se_yX7_tells gcl_X7_tells (by decide) rfl rfl (Nat.le_of_ble_eq_true rfl) dX7_tellsPart_148 (fun τ hq => ?_)
    refine G.aload_n (k := 0) rfl dX7_tellsPart_151 ?_
    refine G.bipush (v := 97) (by decide) dX7_tellsPart_152 ?_
    refine G.iload_n (k := 2) rfl dX7_tellsPart_154 ?_
    refine G.aload_n (k := 0) rfl dX7_tellsPart_155 ?_
    refine G.getr (j := 9) rfl gci_X7 (by decide) rfl fl_X7_34 dX7_tellsPart_156 ?_
    refine G.iload_n (k := 1) rfl dX7_tellsPart_159 ?_
    refine G.ialdN (k := pN B q.1) rfl (rfl) (hlt.2.2) (by decide) dX7_tellsPart_160 ?_
    rw [hq.2.1 9 (by decide) (by decide), hPr.2.1, nmr_67 (Or.inl hc)]
    refine G.callSif (c_X7_image hP.1 (l97 k1)) ml_X7_123 ws_yX7_image gcl_X7_image (by decide) rfl rfl (Nat.le_of_ble_eq_true rfl) dX7_tellsPart_161 ?_
    refine G.iadd dX7_tellsPart_164 ?_
    rw [show (97 : Int32) + nI (tn_im q.2 (B (q.1 + 1) - 97)) = nI (97 + tn_im q.2 (B (q.1 + 1) - 97)) from nI_add 97 _]
    refine G.callVv (c_X7_tells hq.1) rfl (gci_X7).1 ml_X7_207 im_yX7_tells se_yX7_tells gcl_X7_tells (by decide) rfl rfl (Nat.le_of_ble_eq_true rfl) dX7_tellsPart_165 (fun τ2 hq2 => ?_)
    refine G.aload_n (k := 0) rfl dX7_tellsPart_168 ?_
    refine G.iload_n (k := 1) rfl dX7_tellsPart_169 ?_
    refine G.iconst (v := 1) (by decide) dX7_tellsPart_170 ?_
    refine G.iadd dX7_tellsPart_171 ?_
    rw [nI_1, ← p1]
    refine G.iload_n (k := 2) rfl dX7_tellsPart_172 ?_
    have S1 := lM_S hq2.2 (lM_S hq.2 hs)
    refine G.callVvf (c_X7_puts (n := s.length) S1.2 (by omega)) rfl (gci_X7).1 ml_X7_239 im_yX7_puts se_yX7_puts gcl_X7_puts (by decide) rfl rfl (Nat.le_of_ble_eq_true rfl) dX7_tellsPart_173 ?_
    have S2 := pu_S (q.1 + 2, q.2) S1.1
    exact G.vret rfl (⟨by rw [shB, if_neg (by omega), if_neg (by omega), if_neg (by omega), if_pos hc]; have h := hq2.1; rw [take_app, List.append_assoc] at h; exact pu_L h, by rw [shK, if_neg (by omega), if_neg (by omega), if_pos hc]; exact S2, sM_tr (lM_F (lM_tr hq.2 hq2.2)) (pu_F _ _ _ _)⟩) dX7_tellsPart_176
theorem shK_len1 (B : Nat → Nat) (q : Nat × Nat) : (shK B q).length ≤ (shB B q).length + 1 := by
  have h1 := shB_pos B q
  have h2 := shK_len B q
  omega
set_option maxHeartbeats 4000000 in
set_option maxRecDepth 100000 in
theorem l_X7_showing {x1 x2 fl : Int32} {ln B : Nat → Nat} {V : uV} {F : List Nat} (hN : ∀ g, nd B ln g → PrM σ0 B g) (hV : VG B ln V) (hrk : rkd B V) (hv : vM σ0 B fl V) : ∀ j s C (τ : gS) (y4 y5 y6 : Option Value), 60 ≤ C.length + j → s.length ≤ C.length + 1 → (∀ w ∈ s, nd B ln w.1 ∧ tn_P w.2) → LnM τ C → SkM τ B s → sM σ0 τ → (C ++ ush B V j s).take 60 = F → G (XM l D cA ad) mX7_showing (g_rv (fun τ => LnM τ F ∧ sM σ0 τ)) 16 [some (.ref 0), some (.int x1), some (.int x2), some (.int fl), y4, y5, y6] [] τ := by
  intro j
  induction j with
  | zero =>
    intro s C τ y4 y5 y6 hj hl hs hC hS hF he
    have hfin : LnM τ F ∧ sM σ0 τ := by
      rw [ush, List.append_nil, List.take_of_length_le hC.2.1] at he
      rw [← he]
      exact ⟨hC, hF⟩
    refine G.aload_n (k := 0) rfl dX7_showing_16 ?_
    refine G.geti (j := 18) rfl gci_X7 (by decide) rfl fl_X7_236 dX7_showing_17 ?_
    rw [hS.2]
    refine G.if_le (tgt := 199) (by decide) dX7_showing_20 (fun c_20 => ?_) (fun c_20 => ?_)
    · exact G.vret rfl (hfin) dX7_showing_199
    · refine G.aload_n (k := 0) rfl dX7_showing_23 ?_
      refine G.geti (j := 15) rfl gci_X7 (by decide) rfl fl_X7_204 dX7_showing_24 ?_
      rw [hC.1]
      refine G.bipush (v := 60) (by decide) dX7_showing_27 ?_
      refine G.icmp_ge (tgt := 199) (by decide) dX7_showing_29 (fun c_29 => ?_) (fun c_29 => absurd (nI_le (a := 60) (show 60 ≤ C.length by omega) (by have := hC.2.1; omega)) c_29)
      exact G.vret rfl (hfin) dX7_showing_199
  | succ j ih =>
    obtain ⟨rk, hrk1, hrk2⟩ := id hrk
    have key : ∀ f q s C (τ : gS) (y4 y5 y6 : Option Value), phi B rk q.1 ≤ f → 60 ≤ C.length + (j + 1) → (q :: s).length ≤ C.length + 1 → (∀ w ∈ (q :: s), nd B ln w.1 ∧ tn_P w.2) → LnM τ C → SkM τ B (q :: s) → sM σ0 τ → (C ++ ush B V (j + 1) (q :: s)).take 60 = F → G (XM l D cA ad) mX7_showing (g_rv (fun τ => LnM τ F ∧ sM σ0 τ)) 16 [some (.ref 0), some (.int x1), some (.int x2), some (.int fl), y4, y5, y6] [] τ := by
      intro f
      induction f with
      | zero => intro q s C τ y4 y5 y6 h; have := phi_pos (B := B) (rk := rk) q.1; omega
      | succ f key =>
        intro q s C τ y4 y5 y6 hf hj hl hs hC hS hF he
        have hq := hs q List.mem_cons_self
        have hlen : (q :: s).length = s.length + 1 := rfl
        have hC60 := hC.2.1
        have hS4 : τ 0 18 = nI (s.length + 1) := hS.2
        have hpl := pN_lt hq.1
        have hkd := nd_kd hq.1
        by_cases hc : kd (B q.1) = 7
        · obtain ⟨k1, k2, n1, n2, n3⟩ := nd_7 hq.1 hc
          have p1 := pN_7 hq.1 hc
          refine G.aload_n (k := 0) rfl dX7_showing_16 ?_
          refine G.geti (j := 18) rfl gci_X7 (by decide) rfl fl_X7_236 dX7_showing_17 ?_
          rw [hS4]
          refine G.if_le (tgt := 199) (by decide) dX7_showing_20 (fun c_20 => absurd c_20 (nI_nle (by omega) (by omega))) (fun c_20 => ?_)
          refine G.aload_n (k := 0) rfl dX7_showing_23 ?_
          refine G.geti (j := 15) rfl gci_X7 (by decide) rfl fl_X7_204 dX7_showing_24 ?_
          rw [hC.1]
          refine G.bipush (v := 60) (by decide) dX7_showing_27 ?_
          refine G.icmp_ge (tgt := 199) (by decide) dX7_showing_29 (fun c_29 => ?_) (fun c_29 => ?_)
          · have hge : 60 ≤ C.length := by
              rcases Nat.lt_or_ge C.length 60 with z | z
              · exact absurd c_29 (nI_ge (b := 60) z (by decide))
              · exact z
            have hfin : LnM τ F ∧ sM σ0 τ := by
              rw [List.take_append_of_le_length hge, List.take_of_length_le hC.2.1] at he
              rw [← he]
              exact ⟨hC, hF⟩
            exact G.vret rfl (hfin) dX7_showing_199
          · have hlt60 : C.length < 60 := by
              rcases Nat.lt_or_ge C.length 60 with z | z
              · exact z
              · exact absurd (nI_le (a := 60) z (by omega)) c_29
            refine G.aload_n (k := 0) rfl dX7_showing_32 ?_
            refine G.dupr dX7_showing_33 ?_
            refine G.geti (j := 18) rfl gci_X7 (by decide) rfl fl_X7_236 dX7_showing_34 ?_
            rw [hS4]
            refine G.iconst (v := 1) (by decide) dX7_showing_37 ?_
            refine G.isub dX7_showing_38 ?_
            rw [nI_pred]
            refine G.put (j := 18) rfl gci_X7 gcp_X7 (by decide) rfl rfl rfl rfl fl_X7_236 dX7_showing_39 ?_
            generalize hτ1 : up2 τ 0 18 (nI s.length) = τ1
            have r1 : ∀ k, k ≠ 0 → τ1 k = τ k := fun k hk => by rw [← hτ1]; exact up2_ne _ _ _ hk
            have r2 : ∀ i, i ≠ 18 → τ1 0 i = τ 0 i := fun i hi => by rw [← hτ1, up2_r]; exact if_neg (fun z => hi z.2)
            have r4 : τ1 0 18 = nI s.length := by rw [← hτ1]; exact up2_at _ _ _ _
            have hF1 : sM σ0 τ1 := sM_tr hF ⟨fun k a _ => r1 k a, fun i _ h => r2 i h⟩
            have hS1 : SkM τ1 B s := ⟨StM_congr s (fun i _ => by rw [r1 14 (by decide), r1 15 (by decide)]; exact ⟨rfl, rfl⟩) hS.1.2.2, r4⟩
            have hC1 : LnM τ1 C := ⟨by rw [r2 15 (by decide)]; exact hC.1, hC.2.1, fun i y hi => by rw [r1 13 (by decide)]; exact hC.2.2 i y hi⟩
            have hN1 : ∀ g, nd B ln g → PrM τ1 B g := fun g hg => sM_P hF1 (hN g hg)
            have hPr := hN1 q.1 hq.1
            have hv1 : vM τ1 B fl V := vM_F (hF1.1 16 (by decide) (by decide)) (hF1.1 17 (by decide) (by decide)) hv
            refine G.aload_n (k := 0) rfl dX7_showing_42 ?_
            refine G.getr (j := 16) rfl gci_X7 (by decide) rfl fl_X7_49 dX7_showing_43 ?_
            refine G.aload_n (k := 0) rfl dX7_showing_46 ?_
            refine G.geti (j := 18) rfl gci_X7 (by decide) rfl fl_X7_236 dX7_showing_47 ?_
            rw [r4]
            refine G.ialdN (k := s.length) rfl (rfl) (by omega) (by decide) dX7_showing_50 ?_
            rw [r1 14 (by decide), hS.1.1]
            refine G.ist4 (by decide) rfl dX7_showing_51 ?_
            refine G.aload_n (k := 0) rfl dX7_showing_53 ?_
            refine G.getr (j := 17) rfl gci_X7 (by decide) rfl fl_X7_52 dX7_showing_54 ?_
            refine G.aload_n (k := 0) rfl dX7_showing_57 ?_
            refine G.geti (j := 18) rfl gci_X7 (by decide) rfl fl_X7_236 dX7_showing_58 ?_
            rw [r4]
            refine G.ialdN (k := s.length) rfl (rfl) (by omega) (by decide) dX7_showing_61 ?_
            rw [r1 15 (by decide), hS.1.2.1]
            refine G.ist5 (by decide) rfl dX7_showing_62 ?_
            refine G.aload_n (k := 0) rfl dX7_showing_64 ?_
            refine G.getr (j := 8) rfl gci_X7 (by decide) rfl fl_X7_31 dX7_showing_65 ?_
            refine G.iload (i := 4) rfl dX7_showing_68 ?_
            refine G.ialdN (k := pN B q.1) rfl (rfl) (hpl.2.2) (by decide) dX7_showing_70 ?_
            rw [show τ1 8 (pN B q.1) = 6 by rw [hPr.1, hc]; rfl]
            refine G.iconst (v := 1) (by decide) dX7_showing_71 ?_
            refine G.icmp_ne (tgt := 99) (by decide) dX7_showing_72 (fun c_72 => ?_) (fun c_72 => absurd c_72 (by decide))
            refine G.iconst (v := 0) (by decide) dX7_showing_99 ?_
            refine G.ist6 (by decide) rfl dX7_showing_100 ?_
            refine G.iload (i := 6) rfl dX7_showing_102 ?_
            refine G.if_eq (tgt := 143) (by decide) dX7_showing_104 (fun c_104 => ?_) (fun c_104 => absurd rfl c_104)
            refine G.aload_n (k := 0) rfl dX7_showing_143 ?_
            refine G.getr (j := 8) rfl gci_X7 (by decide) rfl fl_X7_31 dX7_showing_144 ?_
            refine G.iload (i := 4) rfl dX7_showing_147 ?_
            refine G.ialdN (k := pN B q.1) rfl (rfl) (hpl.2.2) (by decide) dX7_showing_149 ?_
            rw [show τ1 8 (pN B q.1) = 6 by rw [hPr.1, hc]; rfl]
            refine G.bipush (v := 6) (by decide) dX7_showing_150 ?_
            refine G.icmp_ne (tgt := 188) (by decide) dX7_showing_152 (fun c_152 => absurd rfl c_152) (fun c_152 => ?_)
            refine G.aload_n (k := 0) rfl dX7_showing_155 ?_
            refine G.iload (i := 4) rfl dX7_showing_156 ?_
            refine G.iconst (v := 1) (by decide) dX7_showing_158 ?_
            refine G.iadd dX7_showing_159 ?_
            rw [nI_1, ← p1]
            refine G.iload (i := 5) rfl dX7_showing_160 ?_
            refine G.aload_n (k := 0) rfl dX7_showing_162 ?_
            refine G.getr (j := 9) rfl gci_X7 (by decide) rfl fl_X7_34 dX7_showing_163 ?_
            refine G.iload (i := 4) rfl dX7_showing_166 ?_
            refine G.ialdN (k := pN B q.1) rfl (rfl) (hpl.2.2) (by decide) dX7_showing_168 ?_
            rw [hPr.2.1, nmr_67 (Or.inr hc)]
            refine G.aload_n (k := 0) rfl dX7_showing_169 ?_
            refine G.getr (j := 10) rfl gci_X7 (by decide) rfl fl_X7_37 dX7_showing_170 ?_
            refine G.iload (i := 4) rfl dX7_showing_173 ?_
            refine G.ialdN (k := pN B q.1) rfl (rfl) (hpl.2.2) (by decide) dX7_showing_175 ?_
            rw [hPr.2.2.1 hc]
            refine G.callSif (c_X7_swap (l97 k1) (l97 k2)) ml_X7_158 ws_yX7_swap gcl_X7_swap (by decide) rfl rfl (Nat.le_of_ble_eq_true rfl) dX7_showing_176 ?_
            refine G.callSif (c_X7_behind hq.2 (tn_P_sw (l97 k1) (l97 k2))) ml_X7_161 ws_yX7_behind gcl_X7_behind (by decide) rfl rfl (Nat.le_of_ble_eq_true rfl) dX7_showing_179 ?_
            refine G.callVvf (c_X7_puts (n := s.length) r4 (by omega)) rfl (gci_X7).1 ml_X7_239 im_yX7_puts se_yX7_puts gcl_X7_puts (by decide) rfl rfl (Nat.le_of_ble_eq_true rfl) dX7_showing_182 ?_
            have S2 := pu_S (q.1 + 3, tn_cmp q.2 (tn_sw (B (q.1 + 1) - 97) (B (q.1 + 2) - 97))) hS1.1
            refine G.goto (tgt := 196) (by decide) dX7_showing_185 ?_
            refine G.goto (tgt := 16) (by decide) dX7_showing_196 ?_
            refine key (q.1 + 3, tn_cmp q.2 (tn_sw (B (q.1 + 1) - 97) (B (q.1 + 2) - 97))) s C _ _ _ _ (by have := phi_7 (rk := rk) hq.1 hc; show phi B rk (q.1 + 3) ≤ f; omega) hj hl (fun y hy => ?_) (pu_L hC1) S2 (sM_tr hF1 (pu_F _ _ _ _)) (by rw [← he, ush, ush, en_7 hV hrk hq.1 hc])
            rcases List.mem_cons.mp hy with z | z
            · rw [z]; exact ⟨n1, tn_P_cmp hq.2 (tn_P_sw (l97 k1) (l97 k2))⟩
            · exact hs y (List.mem_cons_of_mem _ z)
        · have h7 := hc
          by_cases hc : kd (B q.1) = 2
          · cases hw : V (B q.1 - 80) with
            | none =>
              have hno : kd (B q.1) = 2 → V (B q.1 - 80) = none := fun _ => hw
              rcases id hv with ⟨hfl, _⟩ | ⟨hfl, _⟩
              · have hfl := hfl
                refine G.aload_n (k := 0) rfl dX7_showing_16 ?_
                refine G.geti (j := 18) rfl gci_X7 (by decide) rfl fl_X7_236 dX7_showing_17 ?_
                rw [hS4]
                refine G.if_le (tgt := 199) (by decide) dX7_showing_20 (fun c_20 => absurd c_20 (nI_nle (by omega) (by omega))) (fun c_20 => ?_)
                refine G.aload_n (k := 0) rfl dX7_showing_23 ?_
                refine G.geti (j := 15) rfl gci_X7 (by decide) rfl fl_X7_204 dX7_showing_24 ?_
                rw [hC.1]
                refine G.bipush (v := 60) (by decide) dX7_showing_27 ?_
                refine G.icmp_ge (tgt := 199) (by decide) dX7_showing_29 (fun c_29 => ?_) (fun c_29 => ?_)
                · have hge : 60 ≤ C.length := by
                    rcases Nat.lt_or_ge C.length 60 with z | z
                    · exact absurd c_29 (nI_ge (b := 60) z (by decide))
                    · exact z
                  have hfin : LnM τ F ∧ sM σ0 τ := by
                    rw [List.take_append_of_le_length hge, List.take_of_length_le hC.2.1] at he
                    rw [← he]
                    exact ⟨hC, hF⟩
                  exact G.vret rfl (hfin) dX7_showing_199
                · have hlt60 : C.length < 60 := by
                    rcases Nat.lt_or_ge C.length 60 with z | z
                    · exact z
                    · exact absurd (nI_le (a := 60) z (by omega)) c_29
                  refine G.aload_n (k := 0) rfl dX7_showing_32 ?_
                  refine G.dupr dX7_showing_33 ?_
                  refine G.geti (j := 18) rfl gci_X7 (by decide) rfl fl_X7_236 dX7_showing_34 ?_
                  rw [hS4]
                  refine G.iconst (v := 1) (by decide) dX7_showing_37 ?_
                  refine G.isub dX7_showing_38 ?_
                  rw [nI_pred]
                  refine G.put (j := 18) rfl gci_X7 gcp_X7 (by decide) rfl rfl rfl rfl fl_X7_236 dX7_showing_39 ?_
                  generalize hτ1 : up2 τ 0 18 (nI s.length) = τ1
                  have r1 : ∀ k, k ≠ 0 → τ1 k = τ k := fun k hk => by rw [← hτ1]; exact up2_ne _ _ _ hk
                  have r2 : ∀ i, i ≠ 18 → τ1 0 i = τ 0 i := fun i hi => by rw [← hτ1, up2_r]; exact if_neg (fun z => hi z.2)
                  have r4 : τ1 0 18 = nI s.length := by rw [← hτ1]; exact up2_at _ _ _ _
                  have hF1 : sM σ0 τ1 := sM_tr hF ⟨fun k a _ => r1 k a, fun i _ h => r2 i h⟩
                  have hS1 : SkM τ1 B s := ⟨StM_congr s (fun i _ => by rw [r1 14 (by decide), r1 15 (by decide)]; exact ⟨rfl, rfl⟩) hS.1.2.2, r4⟩
                  have hC1 : LnM τ1 C := ⟨by rw [r2 15 (by decide)]; exact hC.1, hC.2.1, fun i y hi => by rw [r1 13 (by decide)]; exact hC.2.2 i y hi⟩
                  have hN1 : ∀ g, nd B ln g → PrM τ1 B g := fun g hg => sM_P hF1 (hN g hg)
                  have hPr := hN1 q.1 hq.1
                  have hv1 : vM τ1 B fl V := vM_F (hF1.1 16 (by decide) (by decide)) (hF1.1 17 (by decide) (by decide)) hv
                  refine G.aload_n (k := 0) rfl dX7_showing_42 ?_
                  refine G.getr (j := 16) rfl gci_X7 (by decide) rfl fl_X7_49 dX7_showing_43 ?_
                  refine G.aload_n (k := 0) rfl dX7_showing_46 ?_
                  refine G.geti (j := 18) rfl gci_X7 (by decide) rfl fl_X7_236 dX7_showing_47 ?_
                  rw [r4]
                  refine G.ialdN (k := s.length) rfl (rfl) (by omega) (by decide) dX7_showing_50 ?_
                  rw [r1 14 (by decide), hS.1.1]
                  refine G.ist4 (by decide) rfl dX7_showing_51 ?_
                  refine G.aload_n (k := 0) rfl dX7_showing_53 ?_
                  refine G.getr (j := 17) rfl gci_X7 (by decide) rfl fl_X7_52 dX7_showing_54 ?_
                  refine G.aload_n (k := 0) rfl dX7_showing_57 ?_
                  refine G.geti (j := 18) rfl gci_X7 (by decide) rfl fl_X7_236 dX7_showing_58 ?_
                  rw [r4]
                  refine G.ialdN (k := s.length) rfl (rfl) (by omega) (by decide) dX7_showing_61 ?_
                  rw [r1 15 (by decide), hS.1.2.1]
                  refine G.ist5 (by decide) rfl dX7_showing_62 ?_
                  refine G.aload_n (k := 0) rfl dX7_showing_64 ?_
                  refine G.getr (j := 8) rfl gci_X7 (by decide) rfl fl_X7_31 dX7_showing_65 ?_
                  refine G.iload (i := 4) rfl dX7_showing_68 ?_
                  refine G.ialdN (k := pN B q.1) rfl (rfl) (hpl.2.2) (by decide) dX7_showing_70 ?_
                  rw [show τ1 8 (pN B q.1) = 1 by rw [hPr.1, hc]; rfl]
                  refine G.iconst (v := 1) (by decide) dX7_showing_71 ?_
                  refine G.icmp_ne (tgt := 99) (by decide) dX7_showing_72 (fun c_72 => absurd rfl c_72) (fun c_72 => ?_)
                  refine G.iload_n (k := 3) rfl dX7_showing_75 ?_
                  refine G.if_eq (tgt := 99) (by decide) dX7_showing_76 (fun c_76 => ?_) (fun c_76 => absurd hfl c_76)
                  refine G.iconst (v := 0) (by decide) dX7_showing_99 ?_
                  refine G.ist6 (by decide) rfl dX7_showing_100 ?_
                  refine G.iload (i := 6) rfl dX7_showing_102 ?_
                  refine G.if_eq (tgt := 143) (by decide) dX7_showing_104 (fun c_104 => ?_) (fun c_104 => absurd rfl c_104)
                  refine G.aload_n (k := 0) rfl dX7_showing_143 ?_
                  refine G.getr (j := 8) rfl gci_X7 (by decide) rfl fl_X7_31 dX7_showing_144 ?_
                  refine G.iload (i := 4) rfl dX7_showing_147 ?_
                  refine G.ialdN (k := pN B q.1) rfl (rfl) (hpl.2.2) (by decide) dX7_showing_149 ?_
                  rw [show τ1 8 (pN B q.1) = 1 by rw [hPr.1, hc]; rfl]
                  refine G.bipush (v := 6) (by decide) dX7_showing_150 ?_
                  refine G.icmp_ne (tgt := 188) (by decide) dX7_showing_152 (fun c_152 => ?_) (fun c_152 => absurd c_152 (by decide))
                  refine G.aload_n (k := 0) rfl dX7_showing_188 ?_
                  refine G.iload (i := 4) rfl dX7_showing_189 ?_
                  refine G.iload (i := 5) rfl dX7_showing_191 ?_
                  refine G.callVv (c_X7_tellsPart hN1 hq.1 hq.2 h7 hC1 hS1 (by omega)) rfl (gci_X7).1 ml_X7_243 im_yX7_tellsPart se_yX7_tellsPart gcl_X7_tellsPart (by decide) rfl rfl (Nat.le_of_ble_eq_true rfl) dX7_showing_193 (fun τ2 hq2 => ?_)
                  refine G.goto (tgt := 16) (by decide) dX7_showing_196 ?_
                  have hen : en B V 241 q = q := en_stop 241 q ⟨h7, hno⟩
                  refine ih _ _ _ _ _ _ ?_ ?_ ?_ hq2.1 hq2.2.1 (sM_tr hF1 hq2.2.2) ?_
                  · have h1 := shB_pos B q
                    rw [List.length_take, List.length_append]; omega
                  · have h1 := shB_pos B q
                    have h2 := shK_len1 B q
                    have h3 := shK_len B q
                    rw [List.length_take, List.length_append, List.length_append]; omega
                  · intro w hw
                    rcases List.mem_append.mp hw with z | z
                    · exact shK_nd hq.1 hq.2 w z
                    · exact hs w (List.mem_cons_of_mem _ z)
                  · rw [take_app, ← he, ush, hen, List.append_assoc]
              · have hv2 : ∀ {τ1 : gS}, vM τ1 B fl V → VM τ1 B V := fun h => h.elim (fun z => absurd (z.1.symm.trans hfl) (by decide)) (fun z => z.2)
                refine G.aload_n (k := 0) rfl dX7_showing_16 ?_
                refine G.geti (j := 18) rfl gci_X7 (by decide) rfl fl_X7_236 dX7_showing_17 ?_
                rw [hS4]
                refine G.if_le (tgt := 199) (by decide) dX7_showing_20 (fun c_20 => absurd c_20 (nI_nle (by omega) (by omega))) (fun c_20 => ?_)
                refine G.aload_n (k := 0) rfl dX7_showing_23 ?_
                refine G.geti (j := 15) rfl gci_X7 (by decide) rfl fl_X7_204 dX7_showing_24 ?_
                rw [hC.1]
                refine G.bipush (v := 60) (by decide) dX7_showing_27 ?_
                refine G.icmp_ge (tgt := 199) (by decide) dX7_showing_29 (fun c_29 => ?_) (fun c_29 => ?_)
                · have hge : 60 ≤ C.length := by
                    rcases Nat.lt_or_ge C.length 60 with z | z
                    · exact absurd c_29 (nI_ge (b := 60) z (by decide))
                    · exact z
                  have hfin : LnM τ F ∧ sM σ0 τ := by
                    rw [List.take_append_of_le_length hge, List.take_of_length_le hC.2.1] at he
                    rw [← he]
                    exact ⟨hC, hF⟩
                  exact G.vret rfl (hfin) dX7_showing_199
                · have hlt60 : C.length < 60 := by
                    rcases Nat.lt_or_ge C.length 60 with z | z
                    · exact z
                    · exact absurd (nI_le (a := 60) z (by omega)) c_29
                  refine G.aload_n (k := 0) rfl dX7_showing_32 ?_
                  refine G.dupr dX7_showing_33 ?_
                  refine G.geti (j := 18) rfl gci_X7 (by decide) rfl fl_X7_236 dX7_showing_34 ?_
                  rw [hS4]
                  refine G.iconst (v := 1) (by decide) dX7_showing_37 ?_
                  refine G.isub dX7_showing_38 ?_
                  rw [nI_pred]
                  refine G.put (j := 18) rfl gci_X7 gcp_X7 (by decide) rfl rfl rfl rfl fl_X7_236 dX7_showing_39 ?_
                  generalize hτ1 : up2 τ 0 18 (nI s.length) = τ1
                  have r1 : ∀ k, k ≠ 0 → τ1 k = τ k := fun k hk => by rw [← hτ1]; exact up2_ne _ _ _ hk
                  have r2 : ∀ i, i ≠ 18 → τ1 0 i = τ 0 i := fun i hi => by rw [← hτ1, up2_r]; exact if_neg (fun z => hi z.2)
                  have r4 : τ1 0 18 = nI s.length := by rw [← hτ1]; exact up2_at _ _ _ _
                  have hF1 : sM σ0 τ1 := sM_tr hF ⟨fun k a _ => r1 k a, fun i _ h => r2 i h⟩
                  have hS1 : SkM τ1 B s := ⟨StM_congr s (fun i _ => by rw [r1 14 (by decide), r1 15 (by decide)]; exact ⟨rfl, rfl⟩) hS.1.2.2, r4⟩
                  have hC1 : LnM τ1 C := ⟨by rw [r2 15 (by decide)]; exact hC.1, hC.2.1, fun i y hi => by rw [r1 13 (by decide)]; exact hC.2.2 i y hi⟩
                  have hN1 : ∀ g, nd B ln g → PrM τ1 B g := fun g hg => sM_P hF1 (hN g hg)
                  have hPr := hN1 q.1 hq.1
                  have hv1 : vM τ1 B fl V := vM_F (hF1.1 16 (by decide) (by decide)) (hF1.1 17 (by decide) (by decide)) hv
                  refine G.aload_n (k := 0) rfl dX7_showing_42 ?_
                  refine G.getr (j := 16) rfl gci_X7 (by decide) rfl fl_X7_49 dX7_showing_43 ?_
                  refine G.aload_n (k := 0) rfl dX7_showing_46 ?_
                  refine G.geti (j := 18) rfl gci_X7 (by decide) rfl fl_X7_236 dX7_showing_47 ?_
                  rw [r4]
                  refine G.ialdN (k := s.length) rfl (rfl) (by omega) (by decide) dX7_showing_50 ?_
                  rw [r1 14 (by decide), hS.1.1]
                  refine G.ist4 (by decide) rfl dX7_showing_51 ?_
                  refine G.aload_n (k := 0) rfl dX7_showing_53 ?_
                  refine G.getr (j := 17) rfl gci_X7 (by decide) rfl fl_X7_52 dX7_showing_54 ?_
                  refine G.aload_n (k := 0) rfl dX7_showing_57 ?_
                  refine G.geti (j := 18) rfl gci_X7 (by decide) rfl fl_X7_236 dX7_showing_58 ?_
                  rw [r4]
                  refine G.ialdN (k := s.length) rfl (rfl) (by omega) (by decide) dX7_showing_61 ?_
                  rw [r1 15 (by decide), hS.1.2.1]
                  refine G.ist5 (by decide) rfl dX7_showing_62 ?_
                  refine G.aload_n (k := 0) rfl dX7_showing_64 ?_
                  refine G.getr (j := 8) rfl gci_X7 (by decide) rfl fl_X7_31 dX7_showing_65 ?_
                  refine G.iload (i := 4) rfl dX7_showing_68 ?_
                  refine G.ialdN (k := pN B q.1) rfl (rfl) (hpl.2.2) (by decide) dX7_showing_70 ?_
                  rw [show τ1 8 (pN B q.1) = 1 by rw [hPr.1, hc]; rfl]
                  refine G.iconst (v := 1) (by decide) dX7_showing_71 ?_
                  refine G.icmp_ne (tgt := 99) (by decide) dX7_showing_72 (fun c_72 => absurd rfl c_72) (fun c_72 => ?_)
                  refine G.iload_n (k := 3) rfl dX7_showing_75 ?_
                  refine G.if_eq (tgt := 99) (by decide) dX7_showing_76 (fun c_76 => absurd c_76 (by rw [hfl]; decide)) (fun c_76 => ?_)
                  refine G.aload_n (k := 0) rfl dX7_showing_79 ?_
                  refine G.getr (j := 19) rfl gci_X7 (by decide) rfl fl_X7_55 dX7_showing_80 ?_
                  refine G.aload_n (k := 0) rfl dX7_showing_83 ?_
                  refine G.getr (j := 9) rfl gci_X7 (by decide) rfl fl_X7_34 dX7_showing_84 ?_
                  refine G.iload (i := 4) rfl dX7_showing_87 ?_
                  refine G.ialdN (k := pN B q.1) rfl (rfl) (hpl.2.2) (by decide) dX7_showing_89 ?_
                  rw [hPr.2.1, show nmr B q.1 = B q.1 - 80 by rw [nmr, if_neg (by omega), if_pos hc]]
                  refine G.ialdN (k := B q.1 - 80) rfl (rfl) (l80 hc) (by decide) dX7_showing_90 ?_
                  rw [(hv2 hv1 _ (l80 hc)).1, show vp B V (B q.1 - 80) = -1 by rw [vp, hw]]
                  refine G.iconst (v := (-1)) (by decide) dX7_showing_91 ?_
                  refine G.icmp_eq (tgt := 99) (by decide) dX7_showing_92 (fun c_92 => ?_) (fun c_92 => absurd rfl c_92)
                  refine G.iconst (v := 0) (by decide) dX7_showing_99 ?_
                  refine G.ist6 (by decide) rfl dX7_showing_100 ?_
                  refine G.iload (i := 6) rfl dX7_showing_102 ?_
                  refine G.if_eq (tgt := 143) (by decide) dX7_showing_104 (fun c_104 => ?_) (fun c_104 => absurd rfl c_104)
                  refine G.aload_n (k := 0) rfl dX7_showing_143 ?_
                  refine G.getr (j := 8) rfl gci_X7 (by decide) rfl fl_X7_31 dX7_showing_144 ?_
                  refine G.iload (i := 4) rfl dX7_showing_147 ?_
                  refine G.ialdN (k := pN B q.1) rfl (rfl) (hpl.2.2) (by decide) dX7_showing_149 ?_
                  rw [show τ1 8 (pN B q.1) = 1 by rw [hPr.1, hc]; rfl]
                  refine G.bipush (v := 6) (by decide) dX7_showing_150 ?_
                  refine G.icmp_ne (tgt := 188) (by decide) dX7_showing_152 (fun c_152 => ?_) (fun c_152 => absurd c_152 (by decide))
                  refine G.aload_n (k := 0) rfl dX7_showing_188 ?_
                  refine G.iload (i := 4) rfl dX7_showing_189 ?_
                  refine G.iload (i := 5) rfl dX7_showing_191 ?_
                  refine G.callVv (c_X7_tellsPart hN1 hq.1 hq.2 h7 hC1 hS1 (by omega)) rfl (gci_X7).1 ml_X7_243 im_yX7_tellsPart se_yX7_tellsPart gcl_X7_tellsPart (by decide) rfl rfl (Nat.le_of_ble_eq_true rfl) dX7_showing_193 (fun τ2 hq2 => ?_)
                  refine G.goto (tgt := 16) (by decide) dX7_showing_196 ?_
                  have hen : en B V 241 q = q := en_stop 241 q ⟨h7, hno⟩
                  refine ih _ _ _ _ _ _ ?_ ?_ ?_ hq2.1 hq2.2.1 (sM_tr hF1 hq2.2.2) ?_
                  · have h1 := shB_pos B q
                    rw [List.length_take, List.length_append]; omega
                  · have h1 := shB_pos B q
                    have h2 := shK_len1 B q
                    have h3 := shK_len B q
                    rw [List.length_take, List.length_append, List.length_append]; omega
                  · intro w hw
                    rcases List.mem_append.mp hw with z | z
                    · exact shK_nd hq.1 hq.2 w z
                    · exact hs w (List.mem_cons_of_mem _ z)
                  · rw [take_app, ← he, ush, hen, List.append_assoc]
            | some w =>
              have hwn := hV _ _ hw
              rcases id hv with ⟨hfl, hv0⟩ | ⟨hfl, _⟩
              · rw [hv0] at hw; cases hw
              · have hv2 : ∀ {τ1 : gS}, vM τ1 B fl V → VM τ1 B V := fun h => h.elim (fun z => absurd (z.1.symm.trans hfl) (by decide)) (fun z => z.2)
                refine G.aload_n (k := 0) rfl dX7_showing_16 ?_
                refine G.geti (j := 18) rfl gci_X7 (by decide) rfl fl_X7_236 dX7_showing_17 ?_
                rw [hS4]
                refine G.if_le (tgt := 199) (by decide) dX7_showing_20 (fun c_20 => absurd c_20 (nI_nle (by omega) (by omega))) (fun c_20 => ?_)
                refine G.aload_n (k := 0) rfl dX7_showing_23 ?_
                refine G.geti (j := 15) rfl gci_X7 (by decide) rfl fl_X7_204 dX7_showing_24 ?_
                rw [hC.1]
                refine G.bipush (v := 60) (by decide) dX7_showing_27 ?_
                refine G.icmp_ge (tgt := 199) (by decide) dX7_showing_29 (fun c_29 => ?_) (fun c_29 => ?_)
                · have hge : 60 ≤ C.length := by
                    rcases Nat.lt_or_ge C.length 60 with z | z
                    · exact absurd c_29 (nI_ge (b := 60) z (by decide))
                    · exact z
                  have hfin : LnM τ F ∧ sM σ0 τ := by
                    rw [List.take_append_of_le_length hge, List.take_of_length_le hC.2.1] at he
                    rw [← he]
                    exact ⟨hC, hF⟩
                  exact G.vret rfl (hfin) dX7_showing_199
                · have hlt60 : C.length < 60 := by
                    rcases Nat.lt_or_ge C.length 60 with z | z
                    · exact z
                    · exact absurd (nI_le (a := 60) z (by omega)) c_29
                  refine G.aload_n (k := 0) rfl dX7_showing_32 ?_
                  refine G.dupr dX7_showing_33 ?_
                  refine G.geti (j := 18) rfl gci_X7 (by decide) rfl fl_X7_236 dX7_showing_34 ?_
                  rw [hS4]
                  refine G.iconst (v := 1) (by decide) dX7_showing_37 ?_
                  refine G.isub dX7_showing_38 ?_
                  rw [nI_pred]
                  refine G.put (j := 18) rfl gci_X7 gcp_X7 (by decide) rfl rfl rfl rfl fl_X7_236 dX7_showing_39 ?_
                  generalize hτ1 : up2 τ 0 18 (nI s.length) = τ1
                  have r1 : ∀ k, k ≠ 0 → τ1 k = τ k := fun k hk => by rw [← hτ1]; exact up2_ne _ _ _ hk
                  have r2 : ∀ i, i ≠ 18 → τ1 0 i = τ 0 i := fun i hi => by rw [← hτ1, up2_r]; exact if_neg (fun z => hi z.2)
                  have r4 : τ1 0 18 = nI s.length := by rw [← hτ1]; exact up2_at _ _ _ _
                  have hF1 : sM σ0 τ1 := sM_tr hF ⟨fun k a _ => r1 k a, fun i _ h => r2 i h⟩
                  have hS1 : SkM τ1 B s := ⟨StM_congr s (fun i _ => by rw [r1 14 (by decide), r1 15 (by decide)]; exact ⟨rfl, rfl⟩) hS.1.2.2, r4⟩
                  have hC1 : LnM τ1 C := ⟨by rw [r2 15 (by decide)]; exact hC.1, hC.2.1, fun i y hi => by rw [r1 13 (by decide)]; exact hC.2.2 i y hi⟩
                  have hN1 : ∀ g, nd B ln g → PrM τ1 B g := fun g hg => sM_P hF1 (hN g hg)
                  have hPr := hN1 q.1 hq.1
                  have hv1 : vM τ1 B fl V := vM_F (hF1.1 16 (by decide) (by decide)) (hF1.1 17 (by decide) (by decide)) hv
                  refine G.aload_n (k := 0) rfl dX7_showing_42 ?_
                  refine G.getr (j := 16) rfl gci_X7 (by decide) rfl fl_X7_49 dX7_showing_43 ?_
                  refine G.aload_n (k := 0) rfl dX7_showing_46 ?_
                  refine G.geti (j := 18) rfl gci_X7 (by decide) rfl fl_X7_236 dX7_showing_47 ?_
                  rw [r4]
                  refine G.ialdN (k := s.length) rfl (rfl) (by omega) (by decide) dX7_showing_50 ?_
                  rw [r1 14 (by decide), hS.1.1]
                  refine G.ist4 (by decide) rfl dX7_showing_51 ?_
                  refine G.aload_n (k := 0) rfl dX7_showing_53 ?_
                  refine G.getr (j := 17) rfl gci_X7 (by decide) rfl fl_X7_52 dX7_showing_54 ?_
                  refine G.aload_n (k := 0) rfl dX7_showing_57 ?_
                  refine G.geti (j := 18) rfl gci_X7 (by decide) rfl fl_X7_236 dX7_showing_58 ?_
                  rw [r4]
                  refine G.ialdN (k := s.length) rfl (rfl) (by omega) (by decide) dX7_showing_61 ?_
                  rw [r1 15 (by decide), hS.1.2.1]
                  refine G.ist5 (by decide) rfl dX7_showing_62 ?_
                  refine G.aload_n (k := 0) rfl dX7_showing_64 ?_
                  refine G.getr (j := 8) rfl gci_X7 (by decide) rfl fl_X7_31 dX7_showing_65 ?_
                  refine G.iload (i := 4) rfl dX7_showing_68 ?_
                  refine G.ialdN (k := pN B q.1) rfl (rfl) (hpl.2.2) (by decide) dX7_showing_70 ?_
                  rw [show τ1 8 (pN B q.1) = 1 by rw [hPr.1, hc]; rfl]
                  refine G.iconst (v := 1) (by decide) dX7_showing_71 ?_
                  refine G.icmp_ne (tgt := 99) (by decide) dX7_showing_72 (fun c_72 => absurd rfl c_72) (fun c_72 => ?_)
                  refine G.iload_n (k := 3) rfl dX7_showing_75 ?_
                  refine G.if_eq (tgt := 99) (by decide) dX7_showing_76 (fun c_76 => absurd c_76 (by rw [hfl]; decide)) (fun c_76 => ?_)
                  refine G.aload_n (k := 0) rfl dX7_showing_79 ?_
                  refine G.getr (j := 19) rfl gci_X7 (by decide) rfl fl_X7_55 dX7_showing_80 ?_
                  refine G.aload_n (k := 0) rfl dX7_showing_83 ?_
                  refine G.getr (j := 9) rfl gci_X7 (by decide) rfl fl_X7_34 dX7_showing_84 ?_
                  refine G.iload (i := 4) rfl dX7_showing_87 ?_
                  refine G.ialdN (k := pN B q.1) rfl (rfl) (hpl.2.2) (by decide) dX7_showing_89 ?_
                  rw [hPr.2.1, show nmr B q.1 = B q.1 - 80 by rw [nmr, if_neg (by omega), if_pos hc]]
                  refine G.ialdN (k := B q.1 - 80) rfl (rfl) (l80 hc) (by decide) dX7_showing_90 ?_
                  rw [(hv2 hv1 _ (l80 hc)).1, show vp B V (B q.1 - 80) = nI (pN B w.1) by rw [vp, hw]]
                  refine G.iconst (v := (-1)) (by decide) dX7_showing_91 ?_
                  refine G.icmp_eq (tgt := 99) (by decide) dX7_showing_92 (fun c_92 => absurd c_92 (pN_ne1 hwn.2.1)) (fun c_92 => ?_)
                  refine G.iconst (v := 1) (by decide) dX7_showing_95 ?_
                  refine G.goto (tgt := 100) (by decide) dX7_showing_96 ?_
                  refine G.ist6 (by decide) rfl dX7_showing_100 ?_
                  refine G.iload (i := 6) rfl dX7_showing_102 ?_
                  refine G.if_eq (tgt := 143) (by decide) dX7_showing_104 (fun c_104 => absurd c_104 (by decide)) (fun c_104 => ?_)
                  refine G.aload_n (k := 0) rfl dX7_showing_107 ?_
                  refine G.aload_n (k := 0) rfl dX7_showing_108 ?_
                  refine G.getr (j := 19) rfl gci_X7 (by decide) rfl fl_X7_55 dX7_showing_109 ?_
                  refine G.aload_n (k := 0) rfl dX7_showing_112 ?_
                  refine G.getr (j := 9) rfl gci_X7 (by decide) rfl fl_X7_34 dX7_showing_113 ?_
                  refine G.iload (i := 4) rfl dX7_showing_116 ?_
                  refine G.ialdN (k := pN B q.1) rfl (rfl) (hpl.2.2) (by decide) dX7_showing_118 ?_
                  rw [hPr.2.1, show nmr B q.1 = B q.1 - 80 by rw [nmr, if_neg (by omega), if_pos hc]]
                  refine G.ialdN (k := B q.1 - 80) rfl (rfl) (l80 hc) (by decide) dX7_showing_119 ?_
                  rw [(hv2 hv1 _ (l80 hc)).1, show vp B V (B q.1 - 80) = nI (pN B w.1) by rw [vp, hw]]
                  refine G.iload (i := 5) rfl dX7_showing_120 ?_
                  refine G.aload_n (k := 0) rfl dX7_showing_122 ?_
                  refine G.getr (j := 20) rfl gci_X7 (by decide) rfl fl_X7_58 dX7_showing_123 ?_
                  refine G.aload_n (k := 0) rfl dX7_showing_126 ?_
                  refine G.getr (j := 9) rfl gci_X7 (by decide) rfl fl_X7_34 dX7_showing_127 ?_
                  refine G.iload (i := 4) rfl dX7_showing_130 ?_
                  refine G.ialdN (k := pN B q.1) rfl (rfl) (hpl.2.2) (by decide) dX7_showing_132 ?_
                  rw [hPr.2.1, show nmr B q.1 = B q.1 - 80 by rw [nmr, if_neg (by omega), if_pos hc]]
                  refine G.ialdN (k := B q.1 - 80) rfl (rfl) (l80 hc) (by decide) dX7_showing_133 ?_
                  rw [(hv2 hv1 _ (l80 hc)).2 w hw]
                  refine G.callSif (c_X7_behind hq.2 hwn.2.2) ml_X7_161 ws_yX7_behind gcl_X7_behind (by decide) rfl rfl (Nat.le_of_ble_eq_true rfl) dX7_showing_134 ?_
                  refine G.callVvf (c_X7_puts (n := s.length) r4 (by omega)) rfl (gci_X7).1 ml_X7_239 im_yX7_puts se_yX7_puts gcl_X7_puts (by decide) rfl rfl (Nat.le_of_ble_eq_true rfl) dX7_showing_137 ?_
                  have S2 := pu_S (w.1, tn_cmp q.2 w.2) hS1.1
                  refine G.goto (tgt := 196) (by decide) dX7_showing_140 ?_
                  refine G.goto (tgt := 16) (by decide) dX7_showing_196 ?_
                  refine key (w.1, tn_cmp q.2 w.2) s C _ _ _ _ (by have := phi_2 hc hw hrk2; show phi B rk w.1 ≤ f; omega) hj hl (fun y hy => ?_) (pu_L hC1) S2 (sM_tr hF1 (pu_F _ _ _ _)) (by rw [← he, ush, ush, en_2 hV hrk hc hw])
                  rcases List.mem_cons.mp hy with z | z
                  · rw [z]; exact ⟨hwn.2.1, tn_P_cmp hq.2 hwn.2.2⟩
                  · exact hs y (List.mem_cons_of_mem _ z)
          · have hno : kd (B q.1) = 2 → V (B q.1 - 80) = none := fun z => absurd z hc
            have hne1 : ¬ nI (kd (B q.1) - 1) = 1 := fun z => by
              have := (nI_eq (show kd (B q.1) - 1 < 2 ^ 31 by omega) (show 1 < 2 ^ 31 by decide)).mp z
              omega
            have hne6 : ¬ nI (kd (B q.1) - 1) = 6 := fun z => by
              have := (nI_eq (show kd (B q.1) - 1 < 2 ^ 31 by omega) (show 6 < 2 ^ 31 by decide)).mp z
              omega
            refine G.aload_n (k := 0) rfl dX7_showing_16 ?_
            refine G.geti (j := 18) rfl gci_X7 (by decide) rfl fl_X7_236 dX7_showing_17 ?_
            rw [hS4]
            refine G.if_le (tgt := 199) (by decide) dX7_showing_20 (fun c_20 => absurd c_20 (nI_nle (by omega) (by omega))) (fun c_20 => ?_)
            refine G.aload_n (k := 0) rfl dX7_showing_23 ?_
            refine G.geti (j := 15) rfl gci_X7 (by decide) rfl fl_X7_204 dX7_showing_24 ?_
            rw [hC.1]
            refine G.bipush (v := 60) (by decide) dX7_showing_27 ?_
            refine G.icmp_ge (tgt := 199) (by decide) dX7_showing_29 (fun c_29 => ?_) (fun c_29 => ?_)
            · have hge : 60 ≤ C.length := by
                rcases Nat.lt_or_ge C.length 60 with z | z
                · exact absurd c_29 (nI_ge (b := 60) z (by decide))
                · exact z
              have hfin : LnM τ F ∧ sM σ0 τ := by
                rw [List.take_append_of_le_length hge, List.take_of_length_le hC.2.1] at he
                rw [← he]
                exact ⟨hC, hF⟩
              exact G.vret rfl (hfin) dX7_showing_199
            · have hlt60 : C.length < 60 := by
                rcases Nat.lt_or_ge C.length 60 with z | z
                · exact z
                · exact absurd (nI_le (a := 60) z (by omega)) c_29
              refine G.aload_n (k := 0) rfl dX7_showing_32 ?_
              refine G.dupr dX7_showing_33 ?_
              refine G.geti (j := 18) rfl gci_X7 (by decide) rfl fl_X7_236 dX7_showing_34 ?_
              rw [hS4]
              refine G.iconst (v := 1) (by decide) dX7_showing_37 ?_
              refine G.isub dX7_showing_38 ?_
              rw [nI_pred]
              refine G.put (j := 18) rfl gci_X7 gcp_X7 (by decide) rfl rfl rfl rfl fl_X7_236 dX7_showing_39 ?_
              generalize hτ1 : up2 τ 0 18 (nI s.length) = τ1
              have r1 : ∀ k, k ≠ 0 → τ1 k = τ k := fun k hk => by rw [← hτ1]; exact up2_ne _ _ _ hk
              have r2 : ∀ i, i ≠ 18 → τ1 0 i = τ 0 i := fun i hi => by rw [← hτ1, up2_r]; exact if_neg (fun z => hi z.2)
              have r4 : τ1 0 18 = nI s.length := by rw [← hτ1]; exact up2_at _ _ _ _
              have hF1 : sM σ0 τ1 := sM_tr hF ⟨fun k a _ => r1 k a, fun i _ h => r2 i h⟩
              have hS1 : SkM τ1 B s := ⟨StM_congr s (fun i _ => by rw [r1 14 (by decide), r1 15 (by decide)]; exact ⟨rfl, rfl⟩) hS.1.2.2, r4⟩
              have hC1 : LnM τ1 C := ⟨by rw [r2 15 (by decide)]; exact hC.1, hC.2.1, fun i y hi => by rw [r1 13 (by decide)]; exact hC.2.2 i y hi⟩
              have hN1 : ∀ g, nd B ln g → PrM τ1 B g := fun g hg => sM_P hF1 (hN g hg)
              have hPr := hN1 q.1 hq.1
              have hv1 : vM τ1 B fl V := vM_F (hF1.1 16 (by decide) (by decide)) (hF1.1 17 (by decide) (by decide)) hv
              refine G.aload_n (k := 0) rfl dX7_showing_42 ?_
              refine G.getr (j := 16) rfl gci_X7 (by decide) rfl fl_X7_49 dX7_showing_43 ?_
              refine G.aload_n (k := 0) rfl dX7_showing_46 ?_
              refine G.geti (j := 18) rfl gci_X7 (by decide) rfl fl_X7_236 dX7_showing_47 ?_
              rw [r4]
              refine G.ialdN (k := s.length) rfl (rfl) (by omega) (by decide) dX7_showing_50 ?_
              rw [r1 14 (by decide), hS.1.1]
              refine G.ist4 (by decide) rfl dX7_showing_51 ?_
              refine G.aload_n (k := 0) rfl dX7_showing_53 ?_
              refine G.getr (j := 17) rfl gci_X7 (by decide) rfl fl_X7_52 dX7_showing_54 ?_
              refine G.aload_n (k := 0) rfl dX7_showing_57 ?_
              refine G.geti (j := 18) rfl gci_X7 (by decide) rfl fl_X7_236 dX7_showing_58 ?_
              rw [r4]
              refine G.ialdN (k := s.length) rfl (rfl) (by omega) (by decide) dX7_showing_61 ?_
              rw [r1 15 (by decide), hS.1.2.1]
              refine G.ist5 (by decide) rfl dX7_showing_62 ?_
              refine G.aload_n (k := 0) rfl dX7_showing_64 ?_
              refine G.getr (j := 8) rfl gci_X7 (by decide) rfl fl_X7_31 dX7_showing_65 ?_
              refine G.iload (i := 4) rfl dX7_showing_68 ?_
              refine G.ialdN (k := pN B q.1) rfl (rfl) (hpl.2.2) (by decide) dX7_showing_70 ?_
              rw [hPr.1]
              refine G.iconst (v := 1) (by decide) dX7_showing_71 ?_
              refine G.icmp_ne (tgt := 99) (by decide) dX7_showing_72 (fun c_72 => ?_) (fun c_72 => absurd c_72 hne1)
              refine G.iconst (v := 0) (by decide) dX7_showing_99 ?_
              refine G.ist6 (by decide) rfl dX7_showing_100 ?_
              refine G.iload (i := 6) rfl dX7_showing_102 ?_
              refine G.if_eq (tgt := 143) (by decide) dX7_showing_104 (fun c_104 => ?_) (fun c_104 => absurd rfl c_104)
              refine G.aload_n (k := 0) rfl dX7_showing_143 ?_
              refine G.getr (j := 8) rfl gci_X7 (by decide) rfl fl_X7_31 dX7_showing_144 ?_
              refine G.iload (i := 4) rfl dX7_showing_147 ?_
              refine G.ialdN (k := pN B q.1) rfl (rfl) (hpl.2.2) (by decide) dX7_showing_149 ?_
              rw [hPr.1]
              refine G.bipush (v := 6) (by decide) dX7_showing_150 ?_
              refine G.icmp_ne (tgt := 188) (by decide) dX7_showing_152 (fun c_152 => ?_) (fun c_152 => absurd c_152 hne6)
              refine G.aload_n (k := 0) rfl dX7_showing_188 ?_
              refine G.iload (i := 4) rfl dX7_showing_189 ?_
              refine G.iload (i := 5) rfl dX7_showing_191 ?_
              refine G.callVv (c_X7_tellsPart hN1 hq.1 hq.2 h7 hC1 hS1 (by omega)) rfl (gci_X7).1 ml_X7_243 im_yX7_tellsPart se_yX7_tellsPart gcl_X7_tellsPart (by decide) rfl rfl (Nat.le_of_ble_eq_true rfl) dX7_showing_193 (fun τ2 hq2 => ?_)
              refine G.goto (tgt := 16) (by decide) dX7_showing_196 ?_
              have hen : en B V 241 q = q := en_stop 241 q ⟨h7, hno⟩
              refine ih _ _ _ _ _ _ ?_ ?_ ?_ hq2.1 hq2.2.1 (sM_tr hF1 hq2.2.2) ?_
              · have h1 := shB_pos B q
                rw [List.length_take, List.length_append]; omega
              · have h1 := shB_pos B q
                have h2 := shK_len1 B q
                have h3 := shK_len B q
                rw [List.length_take, List.length_append, List.length_append]; omega
              · intro w hw
                rcases List.mem_append.mp hw with z | z
                · exact shK_nd hq.1 hq.2 w z
                · exact hs w (List.mem_cons_of_mem _ z)
              · rw [take_app, ← he, ush, hen, List.append_assoc]
    intro s C τ y4 y5 y6 hj hl hs hC hS hF he
    cases s with
    | nil =>
      have hfin : LnM τ F ∧ sM σ0 τ := by
        rw [ush, List.append_nil, List.take_of_length_le hC.2.1] at he
        rw [← he]
        exact ⟨hC, hF⟩
      refine G.aload_n (k := 0) rfl dX7_showing_16 ?_
      refine G.geti (j := 18) rfl gci_X7 (by decide) rfl fl_X7_236 dX7_showing_17 ?_
      rw [hS.2]
      refine G.if_le (tgt := 199) (by decide) dX7_showing_20 (fun c_20 => ?_) (fun c_20 => absurd (by decide) c_20)
      exact G.vret rfl (hfin) dX7_showing_199
    | cons q s => exact key _ q s C τ y4 y5 y6 (Nat.le_refl _) hj hl hs hC hS hF he
set_option maxHeartbeats 4000000 in
set_option maxRecDepth 100000 in
theorem c_X7_showing {fl : Int32} {ln B : Nat → Nat} {V : uV} {q : Nat × Nat} (hN : ∀ g, nd B ln g → PrM σ B g) (hV : VG B ln V) (hrk : rkd B V) (hv : vM σ B fl V) (hn : nd B ln q.1) (hP : tn_P q.2) (hfl : fl = 0 ∨ fl = 1) : GM (XM l D cA ad) mX7_showing [.ref 0, .int (nI (pN B q.1)), .int (nI q.2), .int fl] σ (g_rv (fun τ => LnM τ ((ush B V 60 [q]).take 60) ∧ sM σ τ)) := by
  refine GM.of (ls := [some (.ref 0), some (.int (nI (pN B q.1))), some (.int (nI q.2)), some (.int fl), none, none, none]) (by decide) (Nat.le_of_ble_eq_true rfl) rfl ?_
  refine G.aload_n (k := 0) rfl dX7_showing_0 ?_
  refine G.iconst (v := 0) (by decide) dX7_showing_1 ?_
  refine G.put (j := 15) rfl gci_X7 gcp_X7 (by decide) rfl rfl rfl rfl fl_X7_204 dX7_showing_2 ?_
  refine G.aload_n (k := 0) rfl dX7_showing_5 ?_
  refine G.iconst (v := 0) (by decide) dX7_showing_6 ?_
  refine G.put (j := 18) rfl gci_X7 gcp_X7 (by decide) rfl rfl rfl rfl fl_X7_236 dX7_showing_7 ?_
  generalize hτ1 : up2 (up2 σ 0 15 0) 0 18 0 = τ1
  have r4 : τ1 0 18 = nI 0 := by rw [← hτ1]; exact up2_at _ _ _ _
  have hF1 : sM σ τ1 := ⟨fun k a _ => by rw [← hτ1, up2_ne _ _ _ a, up2_ne _ _ _ a], fun i h1 h2 => by rw [← hτ1, up2_r, if_neg (fun z => h2 z.2), up2_r, if_neg (fun z => h1 z.2)]⟩
  have hC1 : LnM τ1 [] := ⟨by rw [← hτ1, up2_r, if_neg (by decide), up2_at]; rfl, by simp, fun i y hi => by simp at hi⟩
  refine G.aload_n (k := 0) rfl dX7_showing_10 ?_
  refine G.iload_n (k := 1) rfl dX7_showing_11 ?_
  refine G.iload_n (k := 2) rfl dX7_showing_12 ?_
  refine G.callVvf (c_X7_puts (n := 0) r4 (by decide)) rfl (gci_X7).1 ml_X7_239 im_yX7_puts se_yX7_puts gcl_X7_puts (by decide) rfl rfl (Nat.le_of_ble_eq_true rfl) dX7_showing_13 ?_
  have S2 := pu_S (σ := τ1) (B := B) (s := []) q trivial
  exact l_X7_showing hN hV hrk hv 60 [q] [] _ none none none (by simp) (by simp) (fun w hw => by rw [List.mem_singleton.mp hw]; exact ⟨hn, hP⟩) (pu_L hC1) S2 (sM_tr hF1 (pu_F _ _ _ _)) rfl
set_option maxHeartbeats 4000000 in
set_option maxRecDepth 100000 in
theorem c_X7_shownBy {ln B : Nat → Nat} {t c : Nat} {i : Int32} (hT : TM σ ln B) (hM : MR σ ln B) (ht : t < 8) (hc : tn_P c) (hi : ¬ noPl i) : GM (XM l D cA ad) mX7_shownBy [.ref 0, .int (nI t), .int (nI c), .int i] σ (g_ri (fun r τ => r = lnT (shT ln B t c) i ∧ sM σ τ)) := by
  refine GM.of (ls := [some (.ref 0), some (.int (nI t)), some (.int (nI c)), some (.int i)]) (by decide) (Nat.le_of_ble_eq_true rfl) rfl ?_
  have h30 : ln t ≤ 30 := Nat.le_trans (hT t (by omega)).2.1 (tcap_le t)
  have hle := cst_le (B := B) (s := 30 * t) (ln t)
  refine G.aload_n (k := 0) rfl dX7_shownBy_0 ?_
  refine G.iconst (v := 0) (by decide) dX7_shownBy_1 ?_
  refine G.put (j := 15) rfl gci_X7 gcp_X7 (by decide) rfl rfl rfl rfl fl_X7_204 dX7_shownBy_2 ?_
  refine G.aload_n (k := 0) rfl dX7_shownBy_5 ?_
  refine G.getr (j := 7) rfl gci_X7 (by decide) rfl fl_X7_28 dX7_shownBy_6 ?_
  refine G.iload_n (k := 1) rfl dX7_shownBy_9 ?_
  refine G.ialdN (k := t) rfl (rfl) (ht) (by decide) dX7_shownBy_10 ?_
  rw [up2_ne _ _ _ (show (7 : Nat) ≠ 0 by decide), (MR_P hM ht).1]
  refine G.if_le (tgt := 24) (by decide) dX7_shownBy_11 (fun c_11 => ?_) (fun c_11 => ?_)
  · have hw : ¬ wlA ln B t = true := fun e => by
      rw [if_pos e] at c_11
      have := cst_1 e
      exact absurd c_11 (nI_nle (by omega) (by omega))
    have hq : LnM (up2 σ 0 15 0) (shT ln B t c) ∧ sM σ (up2 σ 0 15 0) := by
      rw [shT, if_neg hw]; exact ⟨LnM_0 σ, lM_F (lM_0 σ)⟩
    refine G.aload_n (k := 0) rfl dX7_shownBy_24 ?_
    refine G.iload_n (k := 3) rfl dX7_shownBy_25 ?_
    refine G.callVif (c_X7_toldAt hi hq.1) rfl (gci_X7).1 ml_X7_226 im_yX7_toldAt se_yX7_toldAt gcl_X7_toldAt (by decide) rfl rfl (Nat.le_of_ble_eq_true rfl) dX7_shownBy_26 ?_
    exact G.iret rfl (⟨rfl, hq.2⟩) dX7_shownBy_29
  · have hw : wlA ln B t = true := Decidable.byContradiction (fun e => by rw [if_neg e] at c_11; exact c_11 (by decide))
    have hwl := wlA_iff.mp hw
    have n0 := (nd_0 ht hwl h30).1
    refine G.aload_n (k := 0) rfl dX7_shownBy_14 ?_
    refine G.bipush (v := 30) (by decide) dX7_shownBy_15 ?_
    refine G.iload_n (k := 1) rfl dX7_shownBy_17 ?_
    refine G.imul dX7_shownBy_18 ?_
    rw [nu_30']
    rw [show 30 * t = pN B (30 * t) from (pN_p (B := B) (t := t) (p := 0) (by decide)).symm]
    refine G.iload_n (k := 2) rfl dX7_shownBy_19 ?_
    refine G.iconst (v := 0) (by decide) dX7_shownBy_20 ?_
    refine G.callVv (c_X7_showing (q := (30 * t, c)) (V := fun _ => none) (fun g hg => PrM_F (fun k a b => up2_ne _ _ _ (by omega)) (MR_nd hM hg)) (VG_no B ln) (rkd_no B) (Or.inl ⟨rfl, fun _ => rfl⟩) n0 hc (Or.inl rfl)) rfl (gci_X7).1 ml_X7_280 im_yX7_showing se_yX7_showing gcl_X7_showing (by decide) rfl rfl (Nat.le_of_ble_eq_true rfl) dX7_shownBy_21 (fun τ hq0 => ?_)
    have hq : LnM τ (shT ln B t c) ∧ sM σ τ := by
      rw [shT, if_pos hw]; exact ⟨hq0.1, sM_tr (lM_F (lM_0 σ)) hq0.2⟩
    refine G.aload_n (k := 0) rfl dX7_shownBy_24 ?_
    refine G.iload_n (k := 3) rfl dX7_shownBy_25 ?_
    refine G.callVif (c_X7_toldAt hi hq.1) rfl (gci_X7).1 ml_X7_226 im_yX7_toldAt se_yX7_toldAt gcl_X7_toldAt (by decide) rfl rfl (Nat.le_of_ble_eq_true rfl) dX7_shownBy_26 ?_
    exact G.iret rfl (⟨rfl, hq.2⟩) dX7_shownBy_29
set_option maxHeartbeats 4000000 in
set_option maxRecDepth 100000 in
theorem c_X7_shown {ln B : Nat → Nat} {t i : Int32} (hT : TM σ ln B) : GM (XM l D cA ad) mX7_shown [.ref 0, .int t, .int i] σ (g_ri (fun r τ => r = sp_shown ln B tn_id t i ∧ mQ σ τ)) := by
  refine GM.of (ls := [some (.ref 0), some (.int t), some (.int i)]) (by decide) (Nat.le_of_ble_eq_true rfl) rfl ?_
  refine G.aload_n (k := 0) rfl dX7_shown_0 ?_
  refine G.callVv (c_X7_readsAll hT) rfl (gci_X7).1 ml_X7_271 im_yX7_readsAll se_yX7_readsAll gcl_X7_readsAll (by decide) rfl rfl (Nat.le_of_ble_eq_true rfl) dX7_shown_1 (fun τ hr => ?_)
  have hT1 := TM_rd hr.1 hT
  refine G.iload_n (k := 1) rfl dX7_shown_4 ?_
  refine G.callSif (c_X7_isTerm) ml_X7_274 ws_yX7_isTerm gcl_X7_isTerm (by decide) rfl rfl (Nat.le_of_ble_eq_true rfl) dX7_shown_5 ?_
  refine G.if_eq (tgt := 36) (by decide) dX7_shown_8 (fun c_8 => ?_) (fun c_8 => ?_)
  · have h1 := in_f 7 (by decide) c_8
    refine G.bipush (v := (-2)) (by decide) dX7_shown_36 ?_
    exact G.iret rfl (by unfold sp_shown; first | (rw [if_pos ⟨h1, h2⟩, xq]; exact ⟨hq2.1, mQ_tr (rdF_Q hr.1) (sM_Q hq2.2)⟩) | (rw [if_neg (fun z => by first | (rw [h1] at z; exact absurd z.1 (by decide)) | exact z.2 h2)]; exact ⟨rfl, rdF_Q hr.1⟩)) dX7_shown_38
  · have h1 := in_t 7 (by decide) c_8
    obtain ⟨q, hq, eq⟩ := inB_of (by decide) h1
    subst eq
    have xq : ix (nI q) = q := ix_nI (by omega)
    refine G.iload_n (k := 2) rfl dX7_shown_11 ?_
    refine G.i2l dX7_shown_12 ?_
    refine G.ldc2 ct_X7_229 dX7_shown_13 ?_
    refine G.ldc2 ct_X7_231 dX7_shown_16 ?_
    refine G.callSif (c_X7_in (x := i) (a := -1) (b := 59) (by decide) (by decide)) ml_X7_94 ws_yX7_in gcl_X7_in (by decide) rfl rfl (Nat.le_of_ble_eq_true rfl) dX7_shown_19 ?_
    refine G.if_eq (tgt := 36) (by decide) dX7_shown_22 (fun c_22 => ?_) (fun c_22 => ?_)
    · have h2 := pl_in.mp c_22
      refine G.bipush (v := (-2)) (by decide) dX7_shown_36 ?_
      exact G.iret rfl (by unfold sp_shown; first | (rw [if_pos ⟨h1, h2⟩, xq]; exact ⟨hq2.1, mQ_tr (rdF_Q hr.1) (sM_Q hq2.2)⟩) | (rw [if_neg (fun z => by first | (rw [h1] at z; exact absurd z.1 (by decide)) | exact z.2 h2)]; exact ⟨rfl, rdF_Q hr.1⟩)) dX7_shown_38
    · have h2 : ¬ noPl i := fun e => c_22 (pl_in.mpr e)
      refine G.aload_n (k := 0) rfl dX7_shown_25 ?_
      refine G.iload_n (k := 1) rfl dX7_shown_26 ?_
      refine G.ldc ct_X7_154 dX7_shown_27 ?_
      refine G.iload_n (k := 2) rfl dX7_shown_29 ?_
      refine G.callVi (c_X7_shownBy hT1 hr.2 hq tn_P_id h2) rfl (gci_X7).1 ml_X7_284 im_yX7_shownBy se_yX7_shownBy gcl_X7_shownBy (by decide) rfl rfl (Nat.le_of_ble_eq_true rfl) dX7_shown_30 (fun r τ2 hq2 => ?_)
      refine G.goto (tgt := 38) (by decide) dX7_shown_33 ?_
      exact G.iret rfl (by unfold sp_shown; first | (rw [if_pos ⟨h1, h2⟩, xq]; exact ⟨hq2.1, mQ_tr (rdF_Q hr.1) (sM_Q hq2.2)⟩) | (rw [if_neg (fun z => by first | (rw [h1] at z; exact absurd z.1 (by decide)) | exact z.2 h2)]; exact ⟨rfl, rdF_Q hr.1⟩)) dX7_shown_38
set_option maxHeartbeats 4000000 in
set_option maxRecDepth 100000 in
theorem c_X7_turned {ln B : Nat → Nat} {t i : Int32} (hT : TM σ ln B) : GM (XM l D cA ad) mX7_turned [.ref 0, .int t, .int i] σ (g_ri (fun r τ => r = sp_shown ln B (ttA ln B) t i ∧ mQ σ τ)) := by
  refine GM.of (ls := [some (.ref 0), some (.int t), some (.int i)]) (by decide) (Nat.le_of_ble_eq_true rfl) rfl ?_
  refine G.aload_n (k := 0) rfl dX7_turned_0 ?_
  refine G.callVv (c_X7_readsAll hT) rfl (gci_X7).1 ml_X7_271 im_yX7_readsAll se_yX7_readsAll gcl_X7_readsAll (by decide) rfl rfl (Nat.le_of_ble_eq_true rfl) dX7_turned_1 (fun τ hr => ?_)
  have hT1 := TM_rd hr.1 hT
  refine G.iload_n (k := 1) rfl dX7_turned_4 ?_
  refine G.callSif (c_X7_isTerm) ml_X7_274 ws_yX7_isTerm gcl_X7_isTerm (by decide) rfl rfl (Nat.le_of_ble_eq_true rfl) dX7_turned_5 ?_
  refine G.if_eq (tgt := 38) (by decide) dX7_turned_8 (fun c_8 => ?_) (fun c_8 => ?_)
  · have h1 := in_f 7 (by decide) c_8
    refine G.bipush (v := (-2)) (by decide) dX7_turned_38 ?_
    exact G.iret rfl (by unfold sp_shown; first | (rw [if_pos ⟨h1, h2⟩, xq]; exact ⟨hq2.1, mQ_tr (rdF_Q hr.1) (sM_Q hq2.2)⟩) | (rw [if_neg (fun z => by first | (rw [h1] at z; exact absurd z.1 (by decide)) | exact z.2 h2)]; exact ⟨rfl, rdF_Q hr.1⟩)) dX7_turned_40
  · have h1 := in_t 7 (by decide) c_8
    obtain ⟨q, hq, eq⟩ := inB_of (by decide) h1
    subst eq
    have xq : ix (nI q) = q := ix_nI (by omega)
    refine G.iload_n (k := 2) rfl dX7_turned_11 ?_
    refine G.i2l dX7_turned_12 ?_
    refine G.ldc2 ct_X7_229 dX7_turned_13 ?_
    refine G.ldc2 ct_X7_231 dX7_turned_16 ?_
    refine G.callSif (c_X7_in (x := i) (a := -1) (b := 59) (by decide) (by decide)) ml_X7_94 ws_yX7_in gcl_X7_in (by decide) rfl rfl (Nat.le_of_ble_eq_true rfl) dX7_turned_19 ?_
    refine G.if_eq (tgt := 38) (by decide) dX7_turned_22 (fun c_22 => ?_) (fun c_22 => ?_)
    · have h2 := pl_in.mp c_22
      refine G.bipush (v := (-2)) (by decide) dX7_turned_38 ?_
      exact G.iret rfl (by unfold sp_shown; first | (rw [if_pos ⟨h1, h2⟩, xq]; exact ⟨hq2.1, mQ_tr (rdF_Q hr.1) (sM_Q hq2.2)⟩) | (rw [if_neg (fun z => by first | (rw [h1] at z; exact absurd z.1 (by decide)) | exact z.2 h2)]; exact ⟨rfl, rdF_Q hr.1⟩)) dX7_turned_40
    · have h2 : ¬ noPl i := fun e => c_22 (pl_in.mpr e)
      refine G.aload_n (k := 0) rfl dX7_turned_25 ?_
      refine G.iload_n (k := 1) rfl dX7_turned_26 ?_
      refine G.aload_n (k := 0) rfl dX7_turned_27 ?_
      refine G.geti (j := 13) rfl gci_X7 (by decide) rfl fl_X7_155 dX7_turned_28 ?_
      rw [MR_13 hr.2]
      refine G.iload_n (k := 2) rfl dX7_turned_31 ?_
      refine G.callVi (c_X7_shownBy hT1 hr.2 hq (TM_ttP hT) h2) rfl (gci_X7).1 ml_X7_284 im_yX7_shownBy se_yX7_shownBy gcl_X7_shownBy (by decide) rfl rfl (Nat.le_of_ble_eq_true rfl) dX7_turned_32 (fun r τ2 hq2 => ?_)
      refine G.goto (tgt := 40) (by decide) dX7_turned_35 ?_
      exact G.iret rfl (by unfold sp_shown; first | (rw [if_pos ⟨h1, h2⟩, xq]; exact ⟨hq2.1, mQ_tr (rdF_Q hr.1) (sM_Q hq2.2)⟩) | (rw [if_neg (fun z => by first | (rw [h1] at z; exact absurd z.1 (by decide)) | exact z.2 h2)]; exact ⟨rfl, rdF_Q hr.1⟩)) dX7_turned_40
end T91

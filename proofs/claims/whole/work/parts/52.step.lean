/-! ===== a solver's cells hold a solving ===== -/
def PlH (σ : gS) (b : Nat) : uP → Prop
  | [] => True
  | x :: P => σ (b + 2) P.length = nI (spot x.1) ∧ σ (b + 3) P.length = nI (spot x.2) ∧ PlH σ b P
theorem PlH_congr {σ τ : gS} {b : Nat} : ∀ P : uP, (∀ i, i < P.length → τ (b + 2) i = σ (b + 2) i ∧ τ (b + 3) i = σ (b + 3) i) → PlH σ b P → PlH τ b P := by
  intro P
  induction P with
  | nil => intro _ _; trivial
  | cons x P ih =>
    intro h h1
    have h0 := h P.length (by simp)
    exact ⟨by rw [h0.1]; exact h1.1, by rw [h0.2]; exact h1.2.1, ih (fun i hi => h i (by simp; omega)) h1.2.2⟩
def wmk : List (Nat × Nat) → Nat → Nat
  | [], _ => 0
  | x :: t, g => if x.1 = g then wmk t g ||| 2 ^ x.2 else wmk t g
def cntV (V : uV) : Nat → Nat
  | 0 => 0
  | n + 1 => cntV V n + (if (V n).isSome = true then 1 else 0)
theorem cntV_up {V : uV} {u : Nat} {q : Nat × Nat} (h : V u = none) : ∀ n, cntV (fun v => if v = u then some q else V v) n = cntV V n + (if u < n then 1 else 0) := by
  intro n
  induction n with
  | zero => rfl
  | succ n ih =>
    show cntV (fun v => if v = u then some q else V v) n + (if ((if n = u then some q else V n)).isSome = true then 1 else 0) = cntV V n + (if (V n).isSome = true then 1 else 0) + _
    rw [ih]
    by_cases e : n = u
    · subst e
      rw [if_neg (Nat.lt_irrefl n), if_pos rfl, h, if_pos (Nat.lt_succ_self n)]
      simp
    · rw [if_neg e]
      by_cases e2 : u < n
      · rw [if_pos e2, if_pos (show u < n + 1 by omega)]; omega
      · rw [if_neg e2, if_neg (show ¬ u < n + 1 by omega)]; omega
def rgI (rig : Bool) : Int32 := if rig = true then 1 else 0
def SvH (σ : gS) (b : Nat) (S : uS) : Prop := (∀ u, u < 6 → σ (b + 1) u = vrow S.1 u) ∧ (PlH σ b S.2.1 ∧ σ b 5 = nI S.2.1.length) ∧ (∀ u, u < 6 → σ (b + 5) u = nI (S.2.2.1 u)) ∧ (∀ g, g < 240 → σ (b + 4) g = nI (wmk S.2.2.2.1 g)) ∧ σ b 8 = nI S.2.2.2.2 ∧ σ b 2 = nI (cntV S.1 6)
def SvI (σ0 σ : gS) (b : Nat) (S : uS) (n : Nat) (rig : Bool) (wh : Int32) : Prop := svF σ0 σ b ∧ SvH σ b S ∧ σ b 10 = nI n ∧ σ b 11 = rgI rig ∧ σ b 9 = wh
section SV
variable {σ0 σ : gS} {b n : Nat} {V : uV} {P : uP} {w : Nat → Nat} {W : List (Nat × Nat)} {y : Nat} {rig : Bool} {wh : Int32}
theorem sv_pile {l r : Nat × Nat} (h : SvI σ0 σ b (V, P, w, W, y) n rig wh) : SvI σ0 (up2 (up2 (up2 σ (b + 2) P.length (nI (spot l))) (b + 3) P.length (nI (spot r))) b 5 (nI (P.length + 1))) b (V, (l, r) :: P, w, W, y) n rig wh := by
  obtain ⟨f, ⟨h1, h2, h3, h4, h5, h6⟩, h7, h8, h9⟩ := h
  generalize hτ : up2 (up2 (up2 σ (b + 2) P.length (nI (spot l))) (b + 3) P.length (nI (spot r))) b 5 (nI (P.length + 1)) = τ
  have r1 : ∀ k, k ≠ b → k ≠ b + 2 → k ≠ b + 3 → τ k = σ k := fun k a c d => by rw [← hτ, up2_ne _ _ _ a, up2_ne _ _ _ d, up2_ne _ _ _ c]
  have r0 : ∀ i, i ≠ 5 → τ b i = σ b i := fun i hi => by
    rw [← hτ, up2_same]
    unfold upd
    rw [if_neg hi, up2_ne _ _ _ (show b ≠ b + 3 by omega), up2_ne _ _ _ (show b ≠ b + 2 by omega)]
  have r2 : τ (b + 2) = upd (σ (b + 2)) P.length (nI (spot l)) := by rw [← hτ, up2_ne _ _ _ (show b + 2 ≠ b by omega), up2_ne _ _ _ (show b + 2 ≠ b + 3 by omega), up2_same]
  have r3 : τ (b + 3) = upd (σ (b + 3)) P.length (nI (spot r)) := by rw [← hτ, up2_ne _ _ _ (show b + 3 ≠ b by omega), up2_same, up2_ne _ _ _ (show b + 3 ≠ b + 2 by omega)]
  refine ⟨fun k hk => (r1 k (by omega) (by omega) (by omega)).trans (f k hk), ⟨fun u hu => ?_, ⟨⟨?_, ?_, ?_⟩, ?_⟩, fun u hu => ?_, fun g hg => ?_, ?_, ?_⟩, ?_, ?_, ?_⟩
  · rw [r1 (b + 1) (by omega) (by omega) (by omega)]; exact h1 u hu
  · rw [r2]; exact if_pos rfl
  · rw [r3]; exact if_pos rfl
  · refine PlH_congr P (fun i hi => ⟨?_, ?_⟩) h2.1
    · rw [r2]; exact if_neg (by omega)
    · rw [r3]; exact if_neg (by omega)
  · rw [← hτ]; exact up2_at _ _ _ _
  · rw [r1 (b + 5) (by omega) (by omega) (by omega)]; exact h3 u hu
  · rw [r1 (b + 4) (by omega) (by omega) (by omega)]; exact h4 g hg
  · rw [r0 8 (by decide)]; exact h5
  · rw [r0 2 (by decide)]; exact h6
  · rw [r0 10 (by decide)]; exact h7
  · rw [r0 11 (by decide)]; exact h8
  · rw [r0 9 (by decide)]; exact h9
theorem sv_pop {x : (Nat × Nat) × (Nat × Nat)} (h : SvI σ0 σ b (V, x :: P, w, W, y) n rig wh) : SvI σ0 (up2 σ b 5 (nI P.length)) b (V, P, w, W, y) n rig wh := by
  obtain ⟨f, ⟨h1, h2, h3, h4, h5, h6⟩, h7, h8, h9⟩ := h
  generalize hτ : up2 σ b 5 (nI P.length) = τ
  have r1 : ∀ k, k ≠ b → τ k = σ k := fun k a => by rw [← hτ, up2_ne _ _ _ a]
  have r0 : ∀ i, i ≠ 5 → τ b i = σ b i := fun i hi => by rw [← hτ, up2_same]; exact if_neg hi
  refine ⟨fun k hk => (r1 k (by omega)).trans (f k hk), ⟨fun u hu => ?_, ⟨?_, ?_⟩, fun u hu => ?_, fun g hg => ?_, ?_, ?_⟩, ?_, ?_, ?_⟩
  · rw [r1 (b + 1) (by omega)]; exact h1 u hu
  · exact PlH_congr P (fun i _ => ⟨by rw [r1 (b + 2) (by omega)], by rw [r1 (b + 3) (by omega)]⟩) h2.1.2.2
  · rw [← hτ]; exact up2_at _ _ _ _
  · rw [r1 (b + 5) (by omega)]; exact h3 u hu
  · rw [r1 (b + 4) (by omega)]; exact h4 g hg
  · rw [r0 8 (by decide)]; exact h5
  · rw [r0 2 (by decide)]; exact h6
  · rw [r0 10 (by decide)]; exact h7
  · rw [r0 11 (by decide)]; exact h8
  · rw [r0 9 (by decide)]; exact h9
theorem sv_why (z : Nat) (h : SvI σ0 σ b (V, P, w, W, y) n rig wh) : SvI σ0 (up2 σ b 8 (nI z)) b (V, P, w, W, z) n rig wh := by
  obtain ⟨f, ⟨h1, h2, h3, h4, h5, h6⟩, h7, h8, h9⟩ := h
  generalize hτ : up2 σ b 8 (nI z) = τ
  have r1 : ∀ k, k ≠ b → τ k = σ k := fun k a => by rw [← hτ, up2_ne _ _ _ a]
  have r0 : ∀ i, i ≠ 8 → τ b i = σ b i := fun i hi => by rw [← hτ, up2_same]; exact if_neg hi
  refine ⟨fun k hk => (r1 k (by omega)).trans (f k hk), ⟨fun u hu => ?_, ⟨?_, ?_⟩, fun u hu => ?_, fun g hg => ?_, ?_, ?_⟩, ?_, ?_, ?_⟩
  · rw [r1 (b + 1) (by omega)]; exact h1 u hu
  · exact PlH_congr P (fun i _ => ⟨by rw [r1 (b + 2) (by omega)], by rw [r1 (b + 3) (by omega)]⟩) h2.1
  · rw [r0 5 (by decide)]; exact h2.2
  · rw [r1 (b + 5) (by omega)]; exact h3 u hu
  · rw [r1 (b + 4) (by omega)]; exact h4 g hg
  · rw [← hτ]; exact up2_at _ _ _ _
  · rw [r0 2 (by decide)]; exact h6
  · rw [r0 10 (by decide)]; exact h7
  · rw [r0 11 (by decide)]; exact h8
  · rw [r0 9 (by decide)]; exact h9
theorem sv_must {g m : Nat} (hg : g < 240) (h : SvI σ0 σ b (V, P, w, W, y) n rig wh) : SvI σ0 (up2 σ (b + 4) g (σ (b + 4) g ||| nI (2 ^ m))) b (V, P, w, (g, m) :: W, y) n rig wh := by
  obtain ⟨f, ⟨h1, h2, h3, h4, h5, h6⟩, h7, h8, h9⟩ := h
  generalize hτ : up2 σ (b + 4) g (σ (b + 4) g ||| nI (2 ^ m)) = τ
  have r1 : ∀ k, k ≠ b + 4 → τ k = σ k := fun k a => by rw [← hτ, up2_ne _ _ _ a]
  refine ⟨fun k hk => (r1 k (by omega)).trans (f k hk), ⟨fun u hu => ?_, ⟨?_, ?_⟩, fun u hu => ?_, fun h hh => ?_, ?_, ?_⟩, ?_, ?_, ?_⟩
  · rw [r1 (b + 1) (by omega)]; exact h1 u hu
  · exact PlH_congr P (fun i _ => ⟨by rw [r1 (b + 2) (by omega)], by rw [r1 (b + 3) (by omega)]⟩) h2.1
  · rw [r1 b (by omega)]; exact h2.2
  · rw [r1 (b + 5) (by omega)]; exact h3 u hu
  · rw [← hτ, up2_same]
    show upd (σ (b + 4)) g _ h = nI (if g = h then wmk W h ||| 2 ^ m else wmk W h)
    unfold upd
    by_cases e : h = g
    · subst e
      rw [if_pos rfl, if_pos rfl, h4 h hh, nu_or]
    · rw [if_neg e, if_neg (fun q => e q.symm)]
      exact h4 h hh
  · rw [r1 b (by omega)]; exact h5
  · rw [r1 b (by omega)]; exact h6
  · rw [r1 b (by omega)]; exact h7
  · rw [r1 b (by omega)]; exact h8
  · rw [r1 b (by omega)]; exact h9
theorem sv_want {u x : Nat} (hu : u < 6) (h : SvI σ0 σ b (V, P, w, W, y) n rig wh) : SvI σ0 (up2 σ (b + 5) u (nI (w u ||| x))) b (V, P, (fun v => if v = u then w v ||| x else w v), W, y) n rig wh := by
  obtain ⟨f, ⟨h1, h2, h3, h4, h5, h6⟩, h7, h8, h9⟩ := h
  generalize hτ : up2 σ (b + 5) u (nI (w u ||| x)) = τ
  have r1 : ∀ k, k ≠ b + 5 → τ k = σ k := fun k a => by rw [← hτ, up2_ne _ _ _ a]
  refine ⟨fun k hk => (r1 k (by omega)).trans (f k hk), ⟨fun u hu => ?_, ⟨?_, ?_⟩, fun v hv => ?_, fun g hg => ?_, ?_, ?_⟩, ?_, ?_, ?_⟩
  · rw [r1 (b + 1) (by omega)]; exact h1 u hu
  · exact PlH_congr P (fun i _ => ⟨by rw [r1 (b + 2) (by omega)], by rw [r1 (b + 3) (by omega)]⟩) h2.1
  · rw [r1 b (by omega)]; exact h2.2
  · rw [← hτ, up2_same]
    show upd (σ (b + 5)) u _ v = nI (if v = u then w v ||| x else w v)
    unfold upd
    by_cases e : v = u
    · subst e; rw [if_pos rfl, if_pos rfl]
    · rw [if_neg e, if_neg e]; exact h3 v hv
  · rw [r1 (b + 4) (by omega)]; exact h4 g hg
  · rw [r1 b (by omega)]; exact h5
  · rw [r1 b (by omega)]; exact h6
  · rw [r1 b (by omega)]; exact h7
  · rw [r1 b (by omega)]; exact h8
  · rw [r1 b (by omega)]; exact h9
theorem sv_give {u : Nat} {q : Nat × Nat} (hu : u < 6) (hn : V u = none) (h : SvI σ0 σ b (V, P, w, W, y) n rig wh) : SvI σ0 (up2 (up2 σ (b + 1) u (nI (spot q))) b 2 (nI (cntV V 6 + 1))) b ((fun v => if v = u then some q else V v), P, w, W, y) n rig wh := by
  obtain ⟨f, ⟨h1, h2, h3, h4, h5, h6⟩, h7, h8, h9⟩ := h
  generalize hτ : up2 (up2 σ (b + 1) u (nI (spot q))) b 2 (nI (cntV V 6 + 1)) = τ
  have r1 : ∀ k, k ≠ b → k ≠ b + 1 → τ k = σ k := fun k a c => by rw [← hτ, up2_ne _ _ _ a, up2_ne _ _ _ c]
  have r0 : ∀ i, i ≠ 2 → τ b i = σ b i := fun i hi => by
    rw [← hτ, up2_same]
    unfold upd
    rw [if_neg hi, up2_ne _ _ _ (show b ≠ b + 1 by omega)]
  refine ⟨fun k hk => (r1 k (by omega) (by omega)).trans (f k hk), ⟨fun v hv => ?_, ⟨?_, ?_⟩, fun u hu => ?_, fun g hg => ?_, ?_, ?_⟩, ?_, ?_, ?_⟩
  · rw [← hτ, up2_ne _ _ _ (show b + 1 ≠ b by omega), up2_same]
    unfold upd
    by_cases e : v = u
    · subst e; rw [if_pos rfl, vrow]; simp
    · rw [if_neg e, h1 v hv]
      show vrow V v = _
      unfold vrow
      simp [e]
  · exact PlH_congr P (fun i _ => ⟨by rw [r1 (b + 2) (by omega) (by omega)], by rw [r1 (b + 3) (by omega) (by omega)]⟩) h2.1
  · rw [r0 5 (by decide)]; exact h2.2
  · rw [r1 (b + 5) (by omega) (by omega)]; exact h3 u hu
  · rw [r1 (b + 4) (by omega) (by omega)]; exact h4 g hg
  · rw [r0 8 (by decide)]; exact h5
  · rw [← hτ, up2_at]
    show nI (cntV V 6 + 1) = nI (cntV (fun v => if v = u then some q else V v) 6)
    rw [cntV_up hn 6, if_pos hu]
  · rw [r0 10 (by decide)]; exact h7
  · rw [r0 11 (by decide)]; exact h8
  · rw [r0 9 (by decide)]; exact h9
end SV
section T52
variable {l : Launch} {D : va_G} {cA : ClassId} {ad : Nat → Nat}
variable {σ0 σ : gS}
set_option maxHeartbeats 4000000 in
set_option maxRecDepth 100000 in
theorem c_X2_give {b n : Nat} (hb : svA b) {ln B : Nat → Nat} {V : uV} {P : uP} {w : Nat → Nat} {W : List (Nat × Nat)} {rig : Bool} {wh : Int32} (h3 : tx3 σ0 ln B) {P0 : uP} {u : Nat} {o s : Nat × Nat} (hV : VG B ln V) (hu : u < 6) (hno : V u = none) (ho : nd B ln o.1 ∧ tn_P o.2) (hs : nd B ln s.1 ∧ tn_P s.2) (hI : SvI σ0 σ b (V, P, w, W, 0) n rig wh) : GM (XC l D cA ad) mX2_give [.ref b, .int (nI u), .int (nI (spot o)), .int (nI (spot s))] σ (g_rv (fun τ => SvI σ0 τ b (ugive rig B (V, P0, w, W, 0) P u o s) n rig wh)) := by
  refine GM.of (ls := [some (.ref b), some (.int (nI u)), some (.int (nI (spot o))), some (.int (nI (spot s)))]) (by decide) (Nat.le_of_ble_eq_true rfl) rfl ?_
  have h31 : tx3 σ ln B := tx3_F (svF_tx hb.2.2.2.2.2.2.1 hI.1) h3
  have ls := nd_lt hs.1
  have lo := nd_lt ho.1
  have bs := me_b _ hs.1
  refine G.aload_n (k := 0) rfl dX2_give_0 ?_
  refine G.geti (j := 11) hb.1 gci_X2 (by decide) rfl fl_X2_43 dX2_give_1 ?_
  rw [hI.2.2.2.1]
  refine G.if_eq (tgt := 15) (by decide) dX2_give_4 (fun c_4 => ?_) (fun c_4 => ?_)
  · have hrg : ¬ rig = true := fun e => by
      rw [rgI, if_pos e] at c_4
      exact absurd c_4 (by decide)
    refine G.aload_n (k := 0) rfl dX2_give_15 ?_
    refine G.aload_n (k := 0) rfl dX2_give_16 ?_
    refine G.getr (j := 0) hb.1 gci_X2 (by decide) rfl fl_X2_47 dX2_give_17 ?_
    refine G.iload_n (k := 3) rfl dX2_give_20 ?_
    refine G.callSif (c_X3_node (by omega) hs.2.1) ml_X2_97 ws_yX3_node gcl_X3_node (by decide) rfl rfl (Nat.le_of_ble_eq_true rfl) dX2_give_21 ?_
    refine G.callVif (c_X4_unknownsFrom ls) rfl (gci_X4).1 ml_X2_119 im_yX4_unknownsFrom se_yX4_unknownsFrom gcl_X4_unknownsFrom (by decide) rfl rfl (Nat.le_of_ble_eq_true rfl) dX2_give_24 ?_
    rw [(h31 _ hs.1).2.1.2.2.2.2]
    refine G.callVi (c_X2_withValuesIn hb h31 hV hI.2.1.1 bs.2.1) hb.1 (gci_X2).1 ml_X2_84 im_yX2_withValuesIn se_yX2_withValuesIn gcl_X2_withValuesIn (by decide) rfl rfl (Nat.le_of_ble_eq_true rfl) dX2_give_27 (fun r τ hq => ?_)
    obtain ⟨rfl, R, rfl, hR⟩ := hq
    have hR64 := hR.1
    have hru := isClo_iff hR hu
    refine G.iload_n (k := 1) rfl dX2_give_30 ?_
    refine G.ishr dX2_give_31 ?_
    refine G.iconst (v := 1) (by decide) dX2_give_32 ?_
    refine G.iand dX2_give_33 ?_
    refine G.if_eq (tgt := 45) (by decide) dX2_give_34 (fun c_34 => ?_) (fun c_34 => ?_)
    · have hnr : ¬ rch B V (tuk B s.1) u := fun z => (tb_bit (by omega) (by omega)).mp c_34 (hru.mpr z)
      refine G.aload_n (k := 0) rfl dX2_give_45 ?_
      refine G.getr (j := 1) hb.1 gci_X2 (by decide) rfl fl_X2_9 dX2_give_46 ?_
      refine G.iload_n (k := 1) rfl dX2_give_49 ?_
      refine G.iload_n (k := 3) rfl dX2_give_50 ?_
      refine G.callSif (c_X3_node (by omega) hs.2.1) ml_X2_97 ws_yX3_node gcl_X3_node (by decide) rfl rfl (Nat.le_of_ble_eq_true rfl) dX2_give_51 ?_
      refine G.iload_n (k := 2) rfl dX2_give_54 ?_
      refine G.callSif (c_X3_by ho.2.1) ml_X2_106 ws_yX3_by gcl_X3_by (by decide) rfl rfl (Nat.le_of_ble_eq_true rfl) dX2_give_55 ?_
      refine G.callSif (c_X5_back ho.2) ml_X2_122 ws_yX5_back gcl_X5_back (by decide) rfl rfl (Nat.le_of_ble_eq_true rfl) dX2_give_58 ?_
      refine G.iload_n (k := 3) rfl dX2_give_61 ?_
      refine G.callSif (c_X3_by hs.2.1) ml_X2_106 ws_yX3_by gcl_X3_by (by decide) rfl rfl (Nat.le_of_ble_eq_true rfl) dX2_give_62 ?_
      refine G.callSif (c_X5_join (tn_P_bk ho.2) hs.2) ml_X2_125 ws_yX5_join gcl_X5_join (by decide) rfl rfl (Nat.le_of_ble_eq_true rfl) dX2_give_65 ?_
      refine G.callSif (c_X3_make (tn_P_cmp (tn_P_bk ho.2) hs.2).1) ml_X2_64 ws_yX3_make gcl_X3_make (by decide) rfl rfl (Nat.le_of_ble_eq_true rfl) dX2_give_68 ?_
      refine G.iastN (k := u) hb.2.1 rfl (by omega) (by decide) dX2_give_71 ?_
      refine G.aload_n (k := 0) rfl dX2_give_72 ?_
      refine G.dupr dX2_give_73 ?_
      refine G.geti (j := 2) hb.1 gci_X2 (by decide) rfl fl_X2_15 dX2_give_74 ?_
      rw [up2_ne _ _ _ (show b ≠ b + 1 by omega), hI.2.1.2.2.2.2.2]
      refine G.iconst (v := 1) (by decide) dX2_give_77 ?_
      refine G.iadd dX2_give_78 ?_
      rw [nI_1]
      refine G.put (j := 2) hb.1 gci_X2 gcp_X2 (by decide) rfl rfl rfl rfl fl_X2_15 dX2_give_79 ?_
      have hfin := sv_give (q := (s.1, tn_cmp (tn_bk o.2) s.2)) hu hno hI
      exact G.vret rfl (by unfold ugive; first | (rw [if_pos hrg]; exact hfin) | (rw [if_neg hrg, if_pos hrc]; exact hfin) | (rw [if_neg hrg, if_neg hnr]; exact hfin)) dX2_give_82
    · have hrc : rch B V (tuk B s.1) u := by
        refine hru.mp ?_
        by_cases z : R.testBit u = true
        · exact z
        · exact absurd ((tb_bit (by omega) (by omega)).mpr z) c_34
      refine G.aload_n (k := 0) rfl dX2_give_37 ?_
      refine G.iconst (v := 2) (by decide) dX2_give_38 ?_
      refine G.put (j := 8) hb.1 gci_X2 gcp_X2 (by decide) rfl rfl rfl rfl fl_X2_34 dX2_give_39 ?_
      have hfin := sv_why 2 hI
      refine G.goto (tgt := 82) (by decide) dX2_give_42 ?_
      exact G.vret rfl (by unfold ugive; first | (rw [if_pos hrg]; exact hfin) | (rw [if_neg hrg, if_pos hrc]; exact hfin) | (rw [if_neg hrg, if_neg hnr]; exact hfin)) dX2_give_82
  · have hrg : rig = true := by
      cases rig with
      | true => rfl
      | false => exact absurd rfl c_4
    refine G.aload_n (k := 0) rfl dX2_give_7 ?_
    refine G.iconst (v := 1) (by decide) dX2_give_8 ?_
    refine G.put (j := 8) hb.1 gci_X2 gcp_X2 (by decide) rfl rfl rfl rfl fl_X2_34 dX2_give_9 ?_
    have hfin := sv_why 1 hI
    refine G.goto (tgt := 82) (by decide) dX2_give_12 ?_
    exact G.vret rfl (by unfold ugive; first | (rw [if_pos hrg]; exact hfin) | (rw [if_neg hrg, if_pos hrc]; exact hfin) | (rw [if_neg hrg, if_neg hnr]; exact hfin)) dX2_give_82
set_option maxHeartbeats 4000000 in
set_option maxRecDepth 100000 in
theorem c_X2_split {b n : Nat} (hb : svA b) {ln B : Nat → Nat} {V : uV} {P : uP} {w : Nat → Nat} {W : List (Nat × Nat)} {rig : Bool} {wh : Int32} (h3 : tx3 σ0 ln B) {P0 : uP} {a q : Nat × Nat} (ha : nd B ln a.1 ∧ tn_P a.2) (hq : nd B ln q.1 ∧ tn_P q.2) (hk : kd (B a.1) = kd (B q.1)) (h2 : ¬ kd (B a.1) = 2) (h7 : ¬ kd (B a.1) = 7) (hlen : P.length ≤ 600) (hI : SvI σ0 σ b (V, P, w, W, 0) n rig wh) : GM (XC l D cA ad) mX2_split [.ref b, .int (nI (spot a)), .int (nI (spot q)), .int (nI (kd (B a.1)))] σ (g_rv (fun τ => SvI σ0 τ b (usplit B (V, P0, w, W, 0) P a q) n rig wh)) := by
  refine GM.of (ls := [some (.ref b), some (.int (nI (spot a))), some (.int (nI (spot q))), some (.int (nI (kd (B a.1)))), none, none, none, none, none]) (by decide) (Nat.le_of_ble_eq_true rfl) rfl ?_
  have h31 : tx3 σ ln B := tx3_F (svF_tx hb.2.2.2.2.2.2.1 hI.1) h3
  have la := nd_lt ha.1
  have lq := nd_lt hq.1
  have hka := nd_kd ha.1
  have ta := (h31 _ ha.1).1
  have tq := (h31 _ hq.1).1
  refine G.iload_n (k := 1) rfl dX2_split_0 ?_
  refine G.callSif (c_X3_node (by omega) ha.2.1) ml_X2_97 ws_yX3_node gcl_X3_node (by decide) rfl rfl (Nat.le_of_ble_eq_true rfl) dX2_split_1 ?_
  refine G.ist4 (by decide) rfl dX2_split_4 ?_
  refine G.iload_n (k := 2) rfl dX2_split_6 ?_
  refine G.callSif (c_X3_node (by omega) hq.2.1) ml_X2_97 ws_yX3_node gcl_X3_node (by decide) rfl rfl (Nat.le_of_ble_eq_true rfl) dX2_split_7 ?_
  refine G.ist5 (by decide) rfl dX2_split_10 ?_
  refine G.iload_n (k := 3) rfl dX2_split_12 ?_
  have hI0 : (nI (kd (B a.1))).toInt = (kd (B a.1) : Int) := nI_toInt (by omega)
  by_cases hc : kd (B a.1) = 1
  · have hcq : kd (B q.1) = 1 := by omega
    have g1 := kd1_ge hc
    have g2 := kd1_ge hcq
    refine G.tableIn (tgt := 52) dX2_split_13 (by rw [hI0, hc]; decide) (by rw [hI0, hc]; decide) (by rw [hI0, hc]; rfl) (by decide) ?_
    refine G.iload_n (k := 1) rfl dX2_split_52 ?_
    refine G.callSif (c_X3_by ha.2.1) ml_X2_106 ws_yX3_by gcl_X3_by (by decide) rfl rfl (Nat.le_of_ble_eq_true rfl) dX2_split_53 ?_
    refine G.aload_n (k := 0) rfl dX2_split_56 ?_
    refine G.getr (j := 0) hb.1 gci_X2 (by decide) rfl fl_X2_47 dX2_split_57 ?_
    refine G.iload (i := 4) rfl dX2_split_60 ?_
    refine G.callVif (c_X4_nameAt (B := B) la ta) rfl (gci_X4).1 ml_X2_128 im_yX4_nameAt se_yX4_nameAt gcl_X4_nameAt (by decide) rfl rfl (Nat.le_of_ble_eq_true rfl) dX2_split_62 ?_
    rw [nmv_1 hc]
    refine G.callSif (c_X5_image ha.2.1 (show B a.1 - 97 < 6 by omega)) ml_X2_131 ws_yX5_image gcl_X5_image (by decide) rfl rfl (Nat.le_of_ble_eq_true rfl) dX2_split_65 ?_
    refine G.ist6 (by decide) rfl dX2_split_68 ?_
    refine G.iload (i := 6) rfl dX2_split_70 ?_
    refine G.iload_n (k := 2) rfl dX2_split_72 ?_
    refine G.callSif (c_X3_by hq.2.1) ml_X2_106 ws_yX3_by gcl_X3_by (by decide) rfl rfl (Nat.le_of_ble_eq_true rfl) dX2_split_73 ?_
    refine G.aload_n (k := 0) rfl dX2_split_76 ?_
    refine G.getr (j := 0) hb.1 gci_X2 (by decide) rfl fl_X2_47 dX2_split_77 ?_
    refine G.iload (i := 5) rfl dX2_split_80 ?_
    refine G.callVif (c_X4_nameAt (B := B) lq tq) rfl (gci_X4).1 ml_X2_128 im_yX4_nameAt se_yX4_nameAt gcl_X4_nameAt (by decide) rfl rfl (Nat.le_of_ble_eq_true rfl) dX2_split_82 ?_
    rw [nmv_1 hcq]
    refine G.callSif (c_X5_image hq.2.1 (show B q.1 - 97 < 6 by omega)) ml_X2_131 ws_yX5_image gcl_X5_image (by decide) rfl rfl (Nat.le_of_ble_eq_true rfl) dX2_split_85 ?_
    refine G.icmp_eq (tgt := 278) (by decide) dX2_split_88 (fun c_88 => ?_) (fun c_88 => ?_)
    · have he : tn_im a.2 (B a.1 - 97) = tn_im q.2 (B q.1 - 97) := (nI_eq (by have := tn_im8 a.2 (B a.1 - 97); omega) (by have := tn_im8 q.2 (B q.1 - 97); omega)).mp c_88
      have hfin := hI
      exact G.vret rfl (by unfold usplit; rw [if_pos hc]; first | (rw [if_pos he]; exact hfin) | (rw [if_neg he]; exact hfin)) dX2_split_278
    · have he : ¬ tn_im a.2 (B a.1 - 97) = tn_im q.2 (B q.1 - 97) := fun e => c_88 (by rw [e])
      refine G.aload_n (k := 0) rfl dX2_split_91 ?_
      refine G.iconst (v := 1) (by decide) dX2_split_92 ?_
      refine G.put (j := 8) hb.1 gci_X2 gcp_X2 (by decide) rfl rfl rfl rfl fl_X2_34 dX2_split_93 ?_
      have hfin := sv_why 1 hI
      refine G.goto (tgt := 278) (by decide) dX2_split_96 ?_
      exact G.vret rfl (by unfold usplit; rw [if_pos hc]; first | (rw [if_pos he]; exact hfin) | (rw [if_neg he]; exact hfin)) dX2_split_278
  by_cases hc : kd (B a.1) = 4
  · refine G.tableIn (tgt := 99) dX2_split_13 (by rw [hI0, hc]; decide) (by rw [hI0, hc]; decide) (by rw [hI0, hc]; rfl) (by decide) ?_
    refine G.aload_n (k := 0) rfl dX2_split_99 ?_
    refine G.getr (j := 0) hb.1 gci_X2 (by decide) rfl fl_X2_47 dX2_split_100 ?_
    refine G.iload (i := 4) rfl dX2_split_103 ?_
    refine G.callVif (c_X4_byteAt la) rfl (gci_X4).1 ml_X2_134 im_yX4_byteAt se_yX4_byteAt gcl_X4_byteAt (by decide) rfl rfl (Nat.le_of_ble_eq_true rfl) dX2_split_105 ?_
    rw [ta.2.1]
    refine G.aload_n (k := 0) rfl dX2_split_108 ?_
    refine G.getr (j := 0) hb.1 gci_X2 (by decide) rfl fl_X2_47 dX2_split_109 ?_
    refine G.iload (i := 5) rfl dX2_split_112 ?_
    refine G.callVif (c_X4_byteAt lq) rfl (gci_X4).1 ml_X2_134 im_yX4_byteAt se_yX4_byteAt gcl_X4_byteAt (by decide) rfl rfl (Nat.le_of_ble_eq_true rfl) dX2_split_114 ?_
    rw [tq.2.1]
    refine G.icmp_ne (tgt := 137) (by decide) dX2_split_117 (fun c_117 => ?_) (fun c_117 => ?_)
    · have he : ¬ B a.1 = B q.1 := fun e => c_117 (by rw [e])
      refine G.aload_n (k := 0) rfl dX2_split_137 ?_
      refine G.iconst (v := 1) (by decide) dX2_split_138 ?_
      refine G.put (j := 8) hb.1 gci_X2 gcp_X2 (by decide) rfl rfl rfl rfl fl_X2_34 dX2_split_139 ?_
      have hfin := sv_why 1 hI
      refine G.goto (tgt := 278) (by decide) dX2_split_142 ?_
      exact G.vret rfl (by unfold usplit; rw [if_neg (by omega), if_pos hc]; first | (rw [if_pos he]; exact hfin) | (rw [if_neg he]; exact hfin)) dX2_split_278
    · have he : B a.1 = B q.1 := (nI_eq (by have := ta.1; omega) (by have := tq.1; omega)).mp c_117
      refine G.aload_n (k := 0) rfl dX2_split_120 ?_
      refine G.iload_n (k := 1) rfl dX2_split_121 ?_
      refine G.iconst (v := 1) (by decide) dX2_split_122 ?_
      refine G.callSif (c_X3_further (n := a.1) (c := a.2) (b := 1)) ml_X2_137 ws_yX3_further gcl_X3_further (by decide) rfl rfl (Nat.le_of_ble_eq_true rfl) dX2_split_123 ?_
      refine G.iload_n (k := 2) rfl dX2_split_126 ?_
      refine G.iconst (v := 1) (by decide) dX2_split_127 ?_
      refine G.callSif (c_X3_further (n := q.1) (c := q.2) (b := 1)) ml_X2_137 ws_yX3_further gcl_X3_further (by decide) rfl rfl (Nat.le_of_ble_eq_true rfl) dX2_split_128 ?_
      refine G.callVvf (c_X2_pile hb (n := P.length) hI.2.1.2.1.2 (by omega)) hb.1 (gci_X2).1 ml_X2_70 im_yX2_pile se_yX2_pile gcl_X2_pile (by decide) rfl rfl (Nat.le_of_ble_eq_true rfl) dX2_split_131 ?_
      have hfin := sv_pile (l := (a.1 + 1, a.2)) (r := (q.1 + 1, q.2)) hI
      refine G.goto (tgt := 278) (by decide) dX2_split_134 ?_
      exact G.vret rfl (by unfold usplit; rw [if_neg (by omega), if_pos hc]; first | (rw [if_pos he]; exact hfin) | (rw [if_neg he]; exact hfin)) dX2_split_278
  by_cases hc : kd (B a.1) = 5
  · have hcq : kd (B q.1) = 5 := by omega
    refine G.tableIn (tgt := 145) dX2_split_13 (by rw [hI0, hc]; decide) (by rw [hI0, hc]; decide) (by rw [hI0, hc]; rfl) (by decide) ?_
    refine G.aload_n (k := 0) rfl dX2_split_145 ?_
    refine G.aload_n (k := 0) rfl dX2_split_146 ?_
    refine G.getr (j := 0) hb.1 gci_X2 (by decide) rfl fl_X2_47 dX2_split_147 ?_
    refine G.iload_n (k := 1) rfl dX2_split_150 ?_
    obtain ⟨n1, n2, eE, d1, d2⟩ := nd_5 ha.1 hc
    obtain ⟨n3, n4, eE2, d3, d4⟩ := nd_5 hq.1 hcq
    have hE1 := nd_E n1
    have hE3 := nd_E n3
    have l1 := nd_lt n1
    have l3 := nd_lt n3
    refine G.callVif (c_X4_secondOf (e := tE B (a.1 + 1)) (by omega) (h31 _ n1).2.1.1 (by omega) ha.2.1) rfl (gci_X4).1 ml_X2_140 im_yX4_secondOf se_yX4_secondOf gcl_X4_secondOf (by decide) rfl rfl (Nat.le_of_ble_eq_true rfl) dX2_split_151 ?_
    refine G.aload_n (k := 0) rfl dX2_split_154 ?_
    refine G.getr (j := 0) hb.1 gci_X2 (by decide) rfl fl_X2_47 dX2_split_155 ?_
    refine G.iload_n (k := 2) rfl dX2_split_158 ?_
    refine G.callVif (c_X4_secondOf (e := tE B (q.1 + 1)) (by omega) (h31 _ n3).2.1.1 (by omega) hq.2.1) rfl (gci_X4).1 ml_X2_140 im_yX4_secondOf se_yX4_secondOf gcl_X4_secondOf (by decide) rfl rfl (Nat.le_of_ble_eq_true rfl) dX2_split_159 ?_
    refine G.callVvf (c_X2_pile hb (n := P.length) hI.2.1.2.1.2 (by omega)) hb.1 (gci_X2).1 ml_X2_70 im_yX2_pile se_yX2_pile gcl_X2_pile (by decide) rfl rfl (Nat.le_of_ble_eq_true rfl) dX2_split_162 ?_
    have hI2 := sv_pile (l := (tE B (a.1 + 1), a.2)) (r := (tE B (q.1 + 1), q.2)) hI
    refine G.aload_n (k := 0) rfl dX2_split_165 ?_
    refine G.iload_n (k := 1) rfl dX2_split_166 ?_
    refine G.iconst (v := 1) (by decide) dX2_split_167 ?_
    refine G.callSif (c_X3_further (n := a.1) (c := a.2) (b := 1)) ml_X2_137 ws_yX3_further gcl_X3_further (by decide) rfl rfl (Nat.le_of_ble_eq_true rfl) dX2_split_168 ?_
    refine G.iload_n (k := 2) rfl dX2_split_171 ?_
    refine G.iconst (v := 1) (by decide) dX2_split_172 ?_
    refine G.callSif (c_X3_further (n := q.1) (c := q.2) (b := 1)) ml_X2_137 ws_yX3_further gcl_X3_further (by decide) rfl rfl (Nat.le_of_ble_eq_true rfl) dX2_split_173 ?_
    refine G.callVvf (c_X2_pile hb (n := P.length + 1) hI2.2.1.2.1.2 (by omega)) hb.1 (gci_X2).1 ml_X2_70 im_yX2_pile se_yX2_pile gcl_X2_pile (by decide) rfl rfl (Nat.le_of_ble_eq_true rfl) dX2_split_176 ?_
    have hfin := sv_pile (l := (a.1 + 1, a.2)) (r := (q.1 + 1, q.2)) hI2
    refine G.goto (tgt := 278) (by decide) dX2_split_179 ?_
    exact G.vret rfl (by unfold usplit; rw [if_neg (by omega), if_neg (by omega), if_pos hc]; exact hfin) dX2_split_278
  by_cases hc : kd (B a.1) = 6
  · have hcq : kd (B q.1) = 6 := by omega
    refine G.tableIn (tgt := 182) dX2_split_13 (by rw [hI0, hc]; decide) (by rw [hI0, hc]; decide) (by rw [hI0, hc]; rfl) (by decide) ?_
    refine G.iload_n (k := 1) rfl dX2_split_182 ?_
    obtain ⟨k1, n1, eE, d1⟩ := nd_6 ha.1 hc
    obtain ⟨k2, n2, eE2, d2⟩ := nd_6 hq.1 hcq
    have l1 := nd_lt n1
    have l2 := nd_lt n2
    have g1 := kd1_ge k1
    have g2 := kd1_ge k2
    have i1 := ha.2.2.1 (B (a.1 + 1) - 97) (by omega)
    have i2 := hq.2.2.1 (B (q.1 + 1) - 97) (by omega)
    refine G.callSif (c_X3_by ha.2.1) ml_X2_106 ws_yX3_by gcl_X3_by (by decide) rfl rfl (Nat.le_of_ble_eq_true rfl) dX2_split_183 ?_
    refine G.aload_n (k := 0) rfl dX2_split_186 ?_
    refine G.getr (j := 0) hb.1 gci_X2 (by decide) rfl fl_X2_47 dX2_split_187 ?_
    refine G.iload (i := 4) rfl dX2_split_190 ?_
    refine G.iconst (v := 1) (by decide) dX2_split_192 ?_
    refine G.iadd dX2_split_193 ?_
    rw [nI_1]
    refine G.callVif (c_X4_nameAt (B := B) (by omega) ((h31 _ ha.1).2.2.1 (Or.inl hc))) rfl (gci_X4).1 ml_X2_128 im_yX4_nameAt se_yX4_nameAt gcl_X4_nameAt (by decide) rfl rfl (Nat.le_of_ble_eq_true rfl) dX2_split_194 ?_
    rw [nmv_1 k1]
    refine G.callSif (c_X5_image ha.2.1 (show B (a.1 + 1) - 97 < 6 by omega)) ml_X2_131 ws_yX5_image gcl_X5_image (by decide) rfl rfl (Nat.le_of_ble_eq_true rfl) dX2_split_197 ?_
    refine G.ist7 (by decide) rfl dX2_split_200 ?_
    refine G.iload_n (k := 2) rfl dX2_split_202 ?_
    refine G.callSif (c_X3_by hq.2.1) ml_X2_106 ws_yX3_by gcl_X3_by (by decide) rfl rfl (Nat.le_of_ble_eq_true rfl) dX2_split_203 ?_
    refine G.aload_n (k := 0) rfl dX2_split_206 ?_
    refine G.getr (j := 0) hb.1 gci_X2 (by decide) rfl fl_X2_47 dX2_split_207 ?_
    refine G.iload (i := 5) rfl dX2_split_210 ?_
    refine G.iconst (v := 1) (by decide) dX2_split_212 ?_
    refine G.iadd dX2_split_213 ?_
    rw [nI_1]
    refine G.callVif (c_X4_nameAt (B := B) (by omega) ((h31 _ hq.1).2.2.1 (Or.inl hcq))) rfl (gci_X4).1 ml_X2_128 im_yX4_nameAt se_yX4_nameAt gcl_X4_nameAt (by decide) rfl rfl (Nat.le_of_ble_eq_true rfl) dX2_split_214 ?_
    rw [nmv_1 k2]
    refine G.callSif (c_X5_image hq.2.1 (show B (q.1 + 1) - 97 < 6 by omega)) ml_X2_131 ws_yX5_image gcl_X5_image (by decide) rfl rfl (Nat.le_of_ble_eq_true rfl) dX2_split_217 ?_
    refine G.ist8 (by decide) rfl dX2_split_220 ?_
    refine G.iload (i := 7) rfl dX2_split_222 ?_
    refine G.iload (i := 8) rfl dX2_split_224 ?_
    refine G.icmp_eq (tgt := 248) (by decide) dX2_split_226 (fun c_226 => ?_) (fun c_226 => ?_)
    · have he : tn_im a.2 (B (a.1 + 1) - 97) = tn_im q.2 (B (q.1 + 1) - 97) := (nI_eq (by omega) (by omega)).mp c_226
      have hI2 := hI
      refine G.aload_n (k := 0) rfl dX2_split_248 ?_
      refine G.iload_n (k := 1) rfl dX2_split_249 ?_
      refine G.iconst (v := 2) (by decide) dX2_split_250 ?_
      refine G.callSif (c_X3_further (n := a.1) (c := a.2) (b := 2)) ml_X2_137 ws_yX3_further gcl_X3_further (by decide) rfl rfl (Nat.le_of_ble_eq_true rfl) dX2_split_251 ?_
      refine G.iload (i := 5) rfl dX2_split_254 ?_
      refine G.iconst (v := 2) (by decide) dX2_split_256 ?_
      refine G.iadd dX2_split_257 ?_
      rw [show nI q.1 + 2 = nI (q.1 + 2) from nI_add q.1 2]
      refine G.iload_n (k := 2) rfl dX2_split_258 ?_
      refine G.callSif (c_X3_by hq.2.1) ml_X2_106 ws_yX3_by gcl_X3_by (by decide) rfl rfl (Nat.le_of_ble_eq_true rfl) dX2_split_259 ?_
      refine G.iload (i := 7) rfl dX2_split_262 ?_
      refine G.iload (i := 8) rfl dX2_split_264 ?_
      refine G.callSif (c_X5_swapLast hq.2 i1 i2) ml_X2_149 ws_yX5_swapLast gcl_X5_swapLast (by decide) rfl rfl (Nat.le_of_ble_eq_true rfl) dX2_split_266 ?_
      refine G.callSif (c_X3_make (tn_P_cmp (tn_P_sw i1 i2) hq.2).1) ml_X2_64 ws_yX3_make gcl_X3_make (by decide) rfl rfl (Nat.le_of_ble_eq_true rfl) dX2_split_269 ?_
      refine G.callVvf (c_X2_pile hb (n := P.length) hI2.2.1.2.1.2 (by omega)) hb.1 (gci_X2).1 ml_X2_70 im_yX2_pile se_yX2_pile gcl_X2_pile (by decide) rfl rfl (Nat.le_of_ble_eq_true rfl) dX2_split_272 ?_
      have hfin := sv_pile (l := (a.1 + 2, a.2)) (r := (q.1 + 2, tn_cmp (tn_sw (tn_im a.2 (B (a.1 + 1) - 97)) (tn_im q.2 (B (q.1 + 1) - 97))) q.2)) hI2
      refine G.goto (tgt := 278) (by decide) dX2_split_275 ?_
      exact G.vret rfl (by unfold usplit; rw [if_neg (by omega), if_neg (by omega), if_neg (by omega), if_pos hc]; first | (rw [if_pos he]; exact hfin) | (rw [if_neg he]; exact hfin)) dX2_split_278
    · have he : ¬ tn_im a.2 (B (a.1 + 1) - 97) = tn_im q.2 (B (q.1 + 1) - 97) := fun e => c_226 (by rw [e])
      refine G.aload_n (k := 0) rfl dX2_split_229 ?_
      refine G.iload (i := 5) rfl dX2_split_230 ?_
      refine G.iconst (v := 2) (by decide) dX2_split_232 ?_
      refine G.iadd dX2_split_233 ?_
      rw [show nI q.1 + 2 = nI (q.1 + 2) from nI_add q.1 2]
      refine G.iconst (v := 1) (by decide) dX2_split_234 ?_
      refine G.iload_n (k := 2) rfl dX2_split_235 ?_
      refine G.callSif (c_X3_by hq.2.1) ml_X2_106 ws_yX3_by gcl_X3_by (by decide) rfl rfl (Nat.le_of_ble_eq_true rfl) dX2_split_236 ?_
      refine G.iload (i := 7) rfl dX2_split_239 ?_
      refine G.callSif (c_X5_source hq.2.1 i1) ml_X2_143 ws_yX5_source gcl_X5_source (by decide) rfl rfl (Nat.le_of_ble_eq_true rfl) dX2_split_241 ?_
      have hsl := tn_src_lt (c := q.2) i1
      refine G.ishl dX2_split_244 ?_
      rw [show ((1 : Int32) <<< (nI (tn_src q.2 (tn_im a.2 (B (a.1 + 1) - 97))) &&& 31)) = nI 1 <<< (nI (tn_src q.2 (tn_im a.2 (B (a.1 + 1) - 97))) &&& 31) from rfl, nu_shl 1 (by omega), Nat.one_mul]
      refine G.callVvf (c_X2_must hb l2) hb.1 (gci_X2).1 ml_X2_146 im_yX2_must se_yX2_must gcl_X2_must (by decide) rfl rfl (Nat.le_of_ble_eq_true rfl) dX2_split_245 ?_
      have hI2 := sv_must (m := tn_src q.2 (tn_im a.2 (B (a.1 + 1) - 97))) l2 hI
      refine G.aload_n (k := 0) rfl dX2_split_248 ?_
      refine G.iload_n (k := 1) rfl dX2_split_249 ?_
      refine G.iconst (v := 2) (by decide) dX2_split_250 ?_
      refine G.callSif (c_X3_further (n := a.1) (c := a.2) (b := 2)) ml_X2_137 ws_yX3_further gcl_X3_further (by decide) rfl rfl (Nat.le_of_ble_eq_true rfl) dX2_split_251 ?_
      refine G.iload (i := 5) rfl dX2_split_254 ?_
      refine G.iconst (v := 2) (by decide) dX2_split_256 ?_
      refine G.iadd dX2_split_257 ?_
      rw [show nI q.1 + 2 = nI (q.1 + 2) from nI_add q.1 2]
      refine G.iload_n (k := 2) rfl dX2_split_258 ?_
      refine G.callSif (c_X3_by hq.2.1) ml_X2_106 ws_yX3_by gcl_X3_by (by decide) rfl rfl (Nat.le_of_ble_eq_true rfl) dX2_split_259 ?_
      refine G.iload (i := 7) rfl dX2_split_262 ?_
      refine G.iload (i := 8) rfl dX2_split_264 ?_
      refine G.callSif (c_X5_swapLast hq.2 i1 i2) ml_X2_149 ws_yX5_swapLast gcl_X5_swapLast (by decide) rfl rfl (Nat.le_of_ble_eq_true rfl) dX2_split_266 ?_
      refine G.callSif (c_X3_make (tn_P_cmp (tn_P_sw i1 i2) hq.2).1) ml_X2_64 ws_yX3_make gcl_X3_make (by decide) rfl rfl (Nat.le_of_ble_eq_true rfl) dX2_split_269 ?_
      refine G.callVvf (c_X2_pile hb (n := P.length) hI2.2.1.2.1.2 (by omega)) hb.1 (gci_X2).1 ml_X2_70 im_yX2_pile se_yX2_pile gcl_X2_pile (by decide) rfl rfl (Nat.le_of_ble_eq_true rfl) dX2_split_272 ?_
      have hfin := sv_pile (l := (a.1 + 2, a.2)) (r := (q.1 + 2, tn_cmp (tn_sw (tn_im a.2 (B (a.1 + 1) - 97)) (tn_im q.2 (B (q.1 + 1) - 97))) q.2)) hI2
      refine G.goto (tgt := 278) (by decide) dX2_split_275 ?_
      exact G.vret rfl (by unfold usplit; rw [if_neg (by omega), if_neg (by omega), if_neg (by omega), if_pos hc]; first | (rw [if_pos he]; exact hfin) | (rw [if_neg he]; exact hfin)) dX2_split_278
  have hc : kd (B a.1) = 3 := by omega
  refine G.tableIn (tgt := 278) dX2_split_13 (by rw [hI0, hc]; decide) (by rw [hI0, hc]; decide) (by rw [hI0, hc]; rfl) (by decide) ?_
  exact G.vret rfl (by unfold usplit; rw [if_neg (by omega), if_neg (by omega), if_neg (by omega), if_neg (by omega)]; exact hI) dX2_split_278
set_option maxHeartbeats 4000000 in
set_option maxRecDepth 100000 in
theorem c_X2_step {b n : Nat} (hb : svA b) {ln B : Nat → Nat} {V : uV} {x : (Nat × Nat) × (Nat × Nat)} {P : uP} {w : Nat → Nat} {W : List (Nat × Nat)} {rig : Bool} {wh : Int32} (h3 : tx3 σ0 ln B) (hG : uG B ln (V, x :: P, w, W, 0)) (hl6 : P.length ≤ 600) (hI : SvI σ0 σ b (V, x :: P, w, W, 0) n rig wh) : GM (XC l D cA ad) mX2_step [.ref b] σ (g_rv (fun τ => SvI σ0 τ b (ustep rig B (V, x :: P, w, W, 0)) n rig wh)) := by
  refine GM.of (ls := [some (.ref b), none, none, none, none, none]) (by decide) (Nat.le_of_ble_eq_true rfl) rfl ?_
  have hx := hG.2.2.1 x List.mem_cons_self
  have hb16 := hb.2.2.2.2.2.2.1
  have hI1 := sv_pop hI
  have hlen : (x :: P).length = P.length + 1 := rfl
  have h5 : σ b 5 = nI (P.length + 1) := hI.2.1.2.1.2
  refine G.aload_n (k := 0) rfl dX2_step_0 ?_
  refine G.dupr dX2_step_1 ?_
  refine G.geti (j := 5) hb.1 gci_X2 (by decide) rfl fl_X2_25 dX2_step_2 ?_
  rw [h5]
  refine G.iconst (v := 1) (by decide) dX2_step_5 ?_
  refine G.isub dX2_step_6 ?_
  rw [nI_pred]
  refine G.put (j := 5) hb.1 gci_X2 gcp_X2 (by decide) rfl rfl rfl rfl fl_X2_25 dX2_step_7 ?_
  have e2 : up2 σ b 5 (nI P.length) (b + 2) = σ (b + 2) := up2_ne _ _ _ (by omega)
  have e3 : up2 σ b 5 (nI P.length) (b + 3) = σ (b + 3) := up2_ne _ _ _ (by omega)
  have e5 : up2 σ b 5 (nI P.length) b 5 = nI P.length := up2_at _ _ _ _
  generalize hτ : up2 σ b 5 (nI P.length) = τ at *
  have h31 : tx3 τ ln B := tx3_F (svF_tx hb16 hI1.1) h3
  have ha := en_nd hG.1 241 x.1 hx.1 hx.2.1
  have hq := en_nd hG.1 241 x.2 hx.2.2.1 hx.2.2.2
  have ende := rkd_end hG.1 hG.2.1 hx.1 (f := 241) (by decide)
  have endq := rkd_end hG.1 hG.2.1 hx.2.2.1 (f := 241) (by decide)
  refine G.aload_n (k := 0) rfl dX2_step_10 ?_
  refine G.getr (j := 0) hb.1 gci_X2 (by decide) rfl fl_X2_47 dX2_step_11 ?_
  refine G.aload_n (k := 0) rfl dX2_step_14 ?_
  refine G.getr (j := 3) hb.1 gci_X2 (by decide) rfl fl_X2_19 dX2_step_15 ?_
  refine G.aload_n (k := 0) rfl dX2_step_18 ?_
  refine G.geti (j := 5) hb.1 gci_X2 (by decide) rfl fl_X2_25 dX2_step_19 ?_
  rw [e5]
  refine G.ialdN (k := P.length) hb.2.2.1 rfl (by omega) (by decide) dX2_step_22 ?_
  rw [e2, hI.2.1.2.1.1.1]
  refine G.aload_n (k := 0) rfl dX2_step_23 ?_
  refine G.getr (j := 1) hb.1 gci_X2 (by decide) rfl fl_X2_9 dX2_step_24 ?_
  refine G.callVif (c_X4_enter h31 hG.1 hb.2.1 hI1.2.1.1 hx.1 hx.2.1) rfl (gci_X4).1 ml_X2_93 im_yX4_enter se_yX4_enter gcl_X4_enter (by decide) rfl rfl (Nat.le_of_ble_eq_true rfl) dX2_step_27 ?_
  refine G.ist1 (by decide) rfl dX2_step_30 ?_
  refine G.aload_n (k := 0) rfl dX2_step_31 ?_
  refine G.getr (j := 0) hb.1 gci_X2 (by decide) rfl fl_X2_47 dX2_step_32 ?_
  refine G.aload_n (k := 0) rfl dX2_step_35 ?_
  refine G.getr (j := 4) hb.1 gci_X2 (by decide) rfl fl_X2_22 dX2_step_36 ?_
  refine G.aload_n (k := 0) rfl dX2_step_39 ?_
  refine G.geti (j := 5) hb.1 gci_X2 (by decide) rfl fl_X2_25 dX2_step_40 ?_
  rw [e5]
  refine G.ialdN (k := P.length) hb.2.2.2.1 rfl (by omega) (by decide) dX2_step_43 ?_
  rw [e3, hI.2.1.2.1.1.2.1]
  refine G.aload_n (k := 0) rfl dX2_step_44 ?_
  refine G.getr (j := 1) hb.1 gci_X2 (by decide) rfl fl_X2_9 dX2_step_45 ?_
  refine G.callVif (c_X4_enter h31 hG.1 hb.2.1 hI1.2.1.1 hx.2.2.1 hx.2.2.2) rfl (gci_X4).1 ml_X2_93 im_yX4_enter se_yX4_enter gcl_X4_enter (by decide) rfl rfl (Nat.le_of_ble_eq_true rfl) dX2_step_48 ?_
  generalize ea : en B V 241 x.1 = a at *
  generalize eq : en B V 241 x.2 = q at *
  have la := nd_lt ha.1
  have lq := nd_lt hq.1
  have ta := (h31 _ ha.1).1
  have tq := (h31 _ hq.1).1
  refine G.ist2 (by decide) rfl dX2_step_51 ?_
  refine G.aload_n (k := 0) rfl dX2_step_52 ?_
  refine G.getr (j := 0) hb.1 gci_X2 (by decide) rfl fl_X2_47 dX2_step_53 ?_
  refine G.iload_n (k := 1) rfl dX2_step_56 ?_
  refine G.callSif (c_X3_node (by omega) ha.2.1) ml_X2_97 ws_yX3_node gcl_X3_node (by decide) rfl rfl (Nat.le_of_ble_eq_true rfl) dX2_step_57 ?_
  refine G.callVif (c_X4_unknownAt (B := B) la ta) rfl (gci_X4).1 ml_X2_100 im_yX4_unknownAt se_yX4_unknownAt gcl_X4_unknownAt (by decide) rfl rfl (Nat.le_of_ble_eq_true rfl) dX2_step_60 ?_
  refine G.ist3 (by decide) rfl dX2_step_63 ?_
  refine G.aload_n (k := 0) rfl dX2_step_64 ?_
  refine G.getr (j := 0) hb.1 gci_X2 (by decide) rfl fl_X2_47 dX2_step_65 ?_
  refine G.iload_n (k := 2) rfl dX2_step_68 ?_
  refine G.callSif (c_X3_node (by omega) hq.2.1) ml_X2_97 ws_yX3_node gcl_X3_node (by decide) rfl rfl (Nat.le_of_ble_eq_true rfl) dX2_step_69 ?_
  refine G.callVif (c_X4_unknownAt (B := B) lq tq) rfl (gci_X4).1 ml_X2_100 im_yX4_unknownAt se_yX4_unknownAt gcl_X4_unknownAt (by decide) rfl rfl (Nat.le_of_ble_eq_true rfl) dX2_step_72 ?_
  refine G.ist4 (by decide) rfl dX2_step_75 ?_
  refine G.aload_n (k := 0) rfl dX2_step_77 ?_
  refine G.getr (j := 0) hb.1 gci_X2 (by decide) rfl fl_X2_47 dX2_step_78 ?_
  refine G.iload_n (k := 1) rfl dX2_step_81 ?_
  refine G.callSif (c_X3_node (by omega) ha.2.1) ml_X2_97 ws_yX3_node gcl_X3_node (by decide) rfl rfl (Nat.le_of_ble_eq_true rfl) dX2_step_82 ?_
  refine G.callVif (c_X4_kindAt la) rfl (gci_X4).1 ml_X2_103 im_yX4_kindAt se_yX4_kindAt gcl_X4_kindAt (by decide) rfl rfl (Nat.le_of_ble_eq_true rfl) dX2_step_85 ?_
  rw [ta.2.2]
  refine G.ist5 (by decide) rfl dX2_step_88 ?_
  have hkq := nd_kd hq.1
  have hka := nd_kd ha.1
  by_cases ca : kd (B a.1) = 2
  · have ga := kd2_ge ca
    rw [if_pos ca]
    by_cases cq : kd (B q.1) = 2
    · have gq := kd2_ge cq
      rw [if_pos cq]
      by_cases eab : B a.1 = B q.1
      · have hfin : SvI σ0 (up2 τ (b + 5) (B a.1 - 80) (nI (w (B a.1 - 80) ||| tn_un a.2 q.2))) b (uat rig B (V, x :: P, w, W, 0) P a q) n rig wh := by
          unfold uat
          rw [if_pos ⟨ca, cq, eab⟩]
          exact sv_want (by omega) hI1
        refine G.iload_n (k := 3) rfl dX2_step_90 ?_
        refine G.iconst (v := (-1)) (by decide) dX2_step_91 ?_
        refine G.icmp_eq (tgt := 124) (by decide) dX2_step_92 (fun c_92 => absurd c_92 (ne_m1 (by omega))) (fun c_92 => ?_)
        refine G.iload_n (k := 3) rfl dX2_step_95 ?_
        refine G.iload (i := 4) rfl dX2_step_96 ?_
        refine G.icmp_ne (tgt := 124) (by decide) dX2_step_98 (fun c_98 => absurd (by rw [eab]) c_98) (fun c_98 => ?_)
        refine G.aload_n (k := 0) rfl dX2_step_101 ?_
        refine G.getr (j := 7) hb.1 gci_X2 (by decide) rfl fl_X2_31 dX2_step_102 ?_
        refine G.iload_n (k := 3) rfl dX2_step_105 ?_
        refine G.dup2 dX2_step_106 ?_
        refine G.ialdN (k := B a.1 - 80) hb.2.2.2.2.2.1 rfl (by omega) (by decide) dX2_step_107 ?_
        rw [hI1.2.1.2.2.1 (B a.1 - 80) (by omega)]
        refine G.iload_n (k := 1) rfl dX2_step_108 ?_
        refine G.callSif (c_X3_by ha.2.1) ml_X2_106 ws_yX3_by gcl_X3_by (by decide) rfl rfl (Nat.le_of_ble_eq_true rfl) dX2_step_109 ?_
        refine G.iload_n (k := 2) rfl dX2_step_112 ?_
        refine G.callSif (c_X3_by hq.2.1) ml_X2_106 ws_yX3_by gcl_X3_by (by decide) rfl rfl (Nat.le_of_ble_eq_true rfl) dX2_step_113 ?_
        refine G.callSif (c_X5_unlike ha.2.1 hq.2.1) ml_X2_109 ws_yX5_unlike gcl_X5_unlike (by decide) rfl rfl (Nat.le_of_ble_eq_true rfl) dX2_step_116 ?_
        refine G.ior dX2_step_119 ?_
        rw [nu_or]
        refine G.iastN (k := B a.1 - 80) hb.2.2.2.2.2.1 rfl (by omega) (by decide) dX2_step_120 ?_
        refine G.goto (tgt := 189) (by decide) dX2_step_121 ?_
        exact G.vret rfl (by show SvI σ0 _ b (uat rig B (V, x :: P, w, W, 0) P (en B V 241 x.1) (en B V 241 x.2)) n rig wh; rw [ea, eq]; exact hfin) dX2_step_189
      · by_cases hlt : B q.1 < B a.1
        · have hd : uat rig B (V, x :: P, w, W, 0) P a q = ugive rig B (V, x :: P, w, W, 0) P (B a.1 - 80) a q := by
            unfold uat
            rw [if_neg (fun h => eab h.2.2), if_pos ⟨ca, fun _ => hlt⟩]
          refine G.iload_n (k := 3) rfl dX2_step_90 ?_
          refine G.iconst (v := (-1)) (by decide) dX2_step_91 ?_
          refine G.icmp_eq (tgt := 124) (by decide) dX2_step_92 (fun c_92 => absurd c_92 (ne_m1 (by omega))) (fun c_92 => ?_)
          refine G.iload_n (k := 3) rfl dX2_step_95 ?_
          refine G.iload (i := 4) rfl dX2_step_96 ?_
          refine G.icmp_ne (tgt := 124) (by decide) dX2_step_98 (fun c_98 => ?_) (fun c_98 => absurd ((nI_eq (by omega) (by omega)).mp c_98) (by omega))
          refine G.iload_n (k := 3) rfl dX2_step_124 ?_
          refine G.iload (i := 4) rfl dX2_step_125 ?_
          refine G.icmp_le (tgt := 140) (by decide) dX2_step_127 (fun c_127 => absurd c_127 (Int32.not_le.mpr (nI_lt (by omega) (by omega)))) (fun c_127 => ?_)
          refine G.aload_n (k := 0) rfl dX2_step_130 ?_
          refine G.iload_n (k := 3) rfl dX2_step_131 ?_
          refine G.iload_n (k := 1) rfl dX2_step_132 ?_
          refine G.iload_n (k := 2) rfl dX2_step_133 ?_
          refine G.callVv (c_X2_give hb h3 (P0 := x :: P) hG.1 (by omega) (ende.2 ca) ha hq hI1) hb.1 (gci_X2).1 ml_X2_112 im_yX2_give se_yX2_give gcl_X2_give (by decide) rfl rfl (Nat.le_of_ble_eq_true rfl) dX2_step_134 (fun τ2 hfin => ?_)
          rw [← hd] at hfin
          refine G.goto (tgt := 189) (by decide) dX2_step_137 ?_
          exact G.vret rfl (by show SvI σ0 _ b (uat rig B (V, x :: P, w, W, 0) P (en B V 241 x.1) (en B V 241 x.2)) n rig wh; rw [ea, eq]; exact hfin) dX2_step_189
        · have hd : uat rig B (V, x :: P, w, W, 0) P a q = ugive rig B (V, x :: P, w, W, 0) P (B q.1 - 80) q a := by
            unfold uat
            rw [if_neg (fun h => eab h.2.2), if_neg (fun h => hlt (h.2 cq)), if_pos cq]
          refine G.iload_n (k := 3) rfl dX2_step_90 ?_
          refine G.iconst (v := (-1)) (by decide) dX2_step_91 ?_
          refine G.icmp_eq (tgt := 124) (by decide) dX2_step_92 (fun c_92 => absurd c_92 (ne_m1 (by omega))) (fun c_92 => ?_)
          refine G.iload_n (k := 3) rfl dX2_step_95 ?_
          refine G.iload (i := 4) rfl dX2_step_96 ?_
          refine G.icmp_ne (tgt := 124) (by decide) dX2_step_98 (fun c_98 => ?_) (fun c_98 => absurd ((nI_eq (by omega) (by omega)).mp c_98) (by omega))
          refine G.iload_n (k := 3) rfl dX2_step_124 ?_
          refine G.iload (i := 4) rfl dX2_step_125 ?_
          refine G.icmp_le (tgt := 140) (by decide) dX2_step_127 (fun c_127 => ?_) (fun c_127 => absurd (nI_le (by omega) (by omega)) c_127)
          refine G.iload (i := 4) rfl dX2_step_140 ?_
          refine G.iload_n (k := 3) rfl dX2_step_142 ?_
          refine G.icmp_le (tgt := 157) (by decide) dX2_step_143 (fun c_143 => absurd c_143 (Int32.not_le.mpr (nI_lt (by omega) (by omega)))) (fun c_143 => ?_)
          refine G.aload_n (k := 0) rfl dX2_step_146 ?_
          refine G.iload (i := 4) rfl dX2_step_147 ?_
          refine G.iload_n (k := 2) rfl dX2_step_149 ?_
          refine G.iload_n (k := 1) rfl dX2_step_150 ?_
          refine G.callVv (c_X2_give hb h3 (P0 := x :: P) hG.1 (by omega) (endq.2 cq) hq ha hI1) hb.1 (gci_X2).1 ml_X2_112 im_yX2_give se_yX2_give gcl_X2_give (by decide) rfl rfl (Nat.le_of_ble_eq_true rfl) dX2_step_151 (fun τ2 hfin => ?_)
          rw [← hd] at hfin
          refine G.goto (tgt := 189) (by decide) dX2_step_154 ?_
          exact G.vret rfl (by show SvI σ0 _ b (uat rig B (V, x :: P, w, W, 0) P (en B V 241 x.1) (en B V 241 x.2)) n rig wh; rw [ea, eq]; exact hfin) dX2_step_189
    · rw [if_neg cq]
      have hd : uat rig B (V, x :: P, w, W, 0) P a q = ugive rig B (V, x :: P, w, W, 0) P (B a.1 - 80) a q := by
        unfold uat
        rw [if_neg (fun h => cq h.2.1), if_pos ⟨ca, fun e => absurd e cq⟩]
      have hm1 : (-1 : Int32) < nI (B a.1 - 80) := Int32.lt_of_lt_of_le (by decide : (-1 : Int32) < 0) (nI_pos' (by omega))
      refine G.iload_n (k := 3) rfl dX2_step_90 ?_
      refine G.iconst (v := (-1)) (by decide) dX2_step_91 ?_
      refine G.icmp_eq (tgt := 124) (by decide) dX2_step_92 (fun c_92 => absurd c_92 (ne_m1 (by omega))) (fun c_92 => ?_)
      refine G.iload_n (k := 3) rfl dX2_step_95 ?_
      refine G.iload (i := 4) rfl dX2_step_96 ?_
      refine G.icmp_ne (tgt := 124) (by decide) dX2_step_98 (fun c_98 => ?_) (fun c_98 => absurd c_98 (ne_m1 (by omega)))
      refine G.iload_n (k := 3) rfl dX2_step_124 ?_
      refine G.iload (i := 4) rfl dX2_step_125 ?_
      refine G.icmp_le (tgt := 140) (by decide) dX2_step_127 (fun c_127 => absurd c_127 (Int32.not_le.mpr hm1)) (fun c_127 => ?_)
      refine G.aload_n (k := 0) rfl dX2_step_130 ?_
      refine G.iload_n (k := 3) rfl dX2_step_131 ?_
      refine G.iload_n (k := 1) rfl dX2_step_132 ?_
      refine G.iload_n (k := 2) rfl dX2_step_133 ?_
      refine G.callVv (c_X2_give hb h3 (P0 := x :: P) hG.1 (by omega) (ende.2 ca) ha hq hI1) hb.1 (gci_X2).1 ml_X2_112 im_yX2_give se_yX2_give gcl_X2_give (by decide) rfl rfl (Nat.le_of_ble_eq_true rfl) dX2_step_134 (fun τ2 hfin => ?_)
      rw [← hd] at hfin
      refine G.goto (tgt := 189) (by decide) dX2_step_137 ?_
      exact G.vret rfl (by show SvI σ0 _ b (uat rig B (V, x :: P, w, W, 0) P (en B V 241 x.1) (en B V 241 x.2)) n rig wh; rw [ea, eq]; exact hfin) dX2_step_189
  · rw [if_neg ca]
    by_cases cq : kd (B q.1) = 2
    · have gq := kd2_ge cq
      rw [if_pos cq]
      have hd : uat rig B (V, x :: P, w, W, 0) P a q = ugive rig B (V, x :: P, w, W, 0) P (B q.1 - 80) q a := by
        unfold uat
        rw [if_neg (fun h => ca h.1), if_neg (fun h => ca h.1), if_pos cq]
      have hm1 : (-1 : Int32) < nI (B q.1 - 80) := Int32.lt_of_lt_of_le (by decide : (-1 : Int32) < 0) (nI_pos' (by omega))
      refine G.iload_n (k := 3) rfl dX2_step_90 ?_
      refine G.iconst (v := (-1)) (by decide) dX2_step_91 ?_
      refine G.icmp_eq (tgt := 124) (by decide) dX2_step_92 (fun c_92 => ?_) (fun c_92 => absurd rfl c_92)
      refine G.iload_n (k := 3) rfl dX2_step_124 ?_
      refine G.iload (i := 4) rfl dX2_step_125 ?_
      refine G.icmp_le (tgt := 140) (by decide) dX2_step_127 (fun c_127 => ?_) (fun c_127 => absurd (Int32.le_of_lt hm1) c_127)
      refine G.iload (i := 4) rfl dX2_step_140 ?_
      refine G.iload_n (k := 3) rfl dX2_step_142 ?_
      refine G.icmp_le (tgt := 157) (by decide) dX2_step_143 (fun c_143 => absurd c_143 (Int32.not_le.mpr hm1)) (fun c_143 => ?_)
      refine G.aload_n (k := 0) rfl dX2_step_146 ?_
      refine G.iload (i := 4) rfl dX2_step_147 ?_
      refine G.iload_n (k := 2) rfl dX2_step_149 ?_
      refine G.iload_n (k := 1) rfl dX2_step_150 ?_
      refine G.callVv (c_X2_give hb h3 (P0 := x :: P) hG.1 (by omega) (endq.2 cq) hq ha hI1) hb.1 (gci_X2).1 ml_X2_112 im_yX2_give se_yX2_give gcl_X2_give (by decide) rfl rfl (Nat.le_of_ble_eq_true rfl) dX2_step_151 (fun τ2 hfin => ?_)
      rw [← hd] at hfin
      refine G.goto (tgt := 189) (by decide) dX2_step_154 ?_
      exact G.vret rfl (by show SvI σ0 _ b (uat rig B (V, x :: P, w, W, 0) P (en B V 241 x.1) (en B V 241 x.2)) n rig wh; rw [ea, eq]; exact hfin) dX2_step_189
    · rw [if_neg cq]
      by_cases ek : kd (B a.1) = kd (B q.1)
      · have hd : uat rig B (V, x :: P, w, W, 0) P a q = usplit B (V, x :: P, w, W, 0) P a q := by
          unfold uat
          rw [if_neg (fun h => ca h.1), if_neg (fun h => ca h.1), if_neg cq, if_pos ek]
        refine G.iload_n (k := 3) rfl dX2_step_90 ?_
        refine G.iconst (v := (-1)) (by decide) dX2_step_91 ?_
        refine G.icmp_eq (tgt := 124) (by decide) dX2_step_92 (fun c_92 => ?_) (fun c_92 => absurd rfl c_92)
        refine G.iload_n (k := 3) rfl dX2_step_124 ?_
        refine G.iload (i := 4) rfl dX2_step_125 ?_
        refine G.icmp_le (tgt := 140) (by decide) dX2_step_127 (fun c_127 => ?_) (fun c_127 => absurd (by decide) c_127)
        refine G.iload (i := 4) rfl dX2_step_140 ?_
        refine G.iload_n (k := 3) rfl dX2_step_142 ?_
        refine G.icmp_le (tgt := 157) (by decide) dX2_step_143 (fun c_143 => ?_) (fun c_143 => absurd (by decide) c_143)
        refine G.iload (i := 5) rfl dX2_step_157 ?_
        refine G.aload_n (k := 0) rfl dX2_step_159 ?_
        refine G.getr (j := 0) hb.1 gci_X2 (by decide) rfl fl_X2_47 dX2_step_160 ?_
        refine G.iload_n (k := 2) rfl dX2_step_163 ?_
        refine G.callSif (c_X3_node (by omega) hq.2.1) ml_X2_97 ws_yX3_node gcl_X3_node (by decide) rfl rfl (Nat.le_of_ble_eq_true rfl) dX2_step_164 ?_
        refine G.callVif (c_X4_kindAt lq) rfl (gci_X4).1 ml_X2_103 im_yX4_kindAt se_yX4_kindAt gcl_X4_kindAt (by decide) rfl rfl (Nat.le_of_ble_eq_true rfl) dX2_step_167 ?_
        rw [tq.2.2]
        refine G.icmp_eq (tgt := 181) (by decide) dX2_step_170 (fun c_170 => ?_) (fun c_170 => absurd (show nI (kd (B a.1)) = nI (kd (B q.1)) by rw [ek]) c_170)
        refine G.aload_n (k := 0) rfl dX2_step_181 ?_
        refine G.iload_n (k := 1) rfl dX2_step_182 ?_
        refine G.iload_n (k := 2) rfl dX2_step_183 ?_
        refine G.iload (i := 5) rfl dX2_step_184 ?_
        refine G.callVv (c_X2_split hb h3 (P0 := x :: P) ha hq ek ca ende.1 (by omega) hI1) hb.1 (gci_X2).1 ml_X2_116 im_yX2_split se_yX2_split gcl_X2_split (by decide) rfl rfl (Nat.le_of_ble_eq_true rfl) dX2_step_186 (fun τ2 hfin => ?_)
        rw [← hd] at hfin
        exact G.vret rfl (by show SvI σ0 _ b (uat rig B (V, x :: P, w, W, 0) P (en B V 241 x.1) (en B V 241 x.2)) n rig wh; rw [ea, eq]; exact hfin) dX2_step_189
      · have hfin : SvI σ0 (up2 τ b 8 (nI 1)) b (uat rig B (V, x :: P, w, W, 0) P a q) n rig wh := by
          unfold uat
          rw [if_neg (fun h => ca h.1), if_neg (fun h => ca h.1), if_neg cq, if_neg ek]
          exact sv_why 1 hI1
        refine G.iload_n (k := 3) rfl dX2_step_90 ?_
        refine G.iconst (v := (-1)) (by decide) dX2_step_91 ?_
        refine G.icmp_eq (tgt := 124) (by decide) dX2_step_92 (fun c_92 => ?_) (fun c_92 => absurd rfl c_92)
        refine G.iload_n (k := 3) rfl dX2_step_124 ?_
        refine G.iload (i := 4) rfl dX2_step_125 ?_
        refine G.icmp_le (tgt := 140) (by decide) dX2_step_127 (fun c_127 => ?_) (fun c_127 => absurd (by decide) c_127)
        refine G.iload (i := 4) rfl dX2_step_140 ?_
        refine G.iload_n (k := 3) rfl dX2_step_142 ?_
        refine G.icmp_le (tgt := 157) (by decide) dX2_step_143 (fun c_143 => ?_) (fun c_143 => absurd (by decide) c_143)
        refine G.iload (i := 5) rfl dX2_step_157 ?_
        refine G.aload_n (k := 0) rfl dX2_step_159 ?_
        refine G.getr (j := 0) hb.1 gci_X2 (by decide) rfl fl_X2_47 dX2_step_160 ?_
        refine G.iload_n (k := 2) rfl dX2_step_163 ?_
        refine G.callSif (c_X3_node (by omega) hq.2.1) ml_X2_97 ws_yX3_node gcl_X3_node (by decide) rfl rfl (Nat.le_of_ble_eq_true rfl) dX2_step_164 ?_
        refine G.callVif (c_X4_kindAt lq) rfl (gci_X4).1 ml_X2_103 im_yX4_kindAt se_yX4_kindAt gcl_X4_kindAt (by decide) rfl rfl (Nat.le_of_ble_eq_true rfl) dX2_step_167 ?_
        rw [tq.2.2]
        refine G.icmp_eq (tgt := 181) (by decide) dX2_step_170 (fun c_170 => absurd ((nI_eq (by omega) (by omega)).mp c_170) ek) (fun c_170 => ?_)
        refine G.aload_n (k := 0) rfl dX2_step_173 ?_
        refine G.iconst (v := 1) (by decide) dX2_step_174 ?_
        refine G.put (j := 8) hb.1 gci_X2 gcp_X2 (by decide) rfl rfl rfl rfl fl_X2_34 dX2_step_175 ?_
        refine G.goto (tgt := 189) (by decide) dX2_step_178 ?_
        exact G.vret rfl (by show SvI σ0 _ b (uat rig B (V, x :: P, w, W, 0) P (en B V 241 x.1) (en B V 241 x.2)) n rig wh; rw [ea, eq]; exact hfin) dX2_step_189
end T52

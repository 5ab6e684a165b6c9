theorem usplit_len {B : Nat → Nat} {S : uS} {P' : uP} {a b : Nat × Nat} : (usplit B S P' a b).2.1.length ≤ P'.length + 2 := by
  unfold usplit
  repeat' split
  all_goals simp
theorem ugive_len {rig : Bool} {B : Nat → Nat} {S : uS} {P' : uP} {u : Nat} {o s : Nat × Nat} : (ugive rig B S P' u o s).2.1.length ≤ P'.length + 2 := by
  unfold ugive
  split
  · simp
  · by_cases c : rch B S.1 (tuk B s.1) u
    · rw [if_pos c]; simp
    · rw [if_neg c]; simp
theorem uat_len {rig : Bool} {B : Nat → Nat} {S : uS} {P' : uP} {a b : Nat × Nat} : (uat rig B S P' a b).2.1.length ≤ P'.length + 2 := by
  unfold uat
  split
  · simp
  · split
    · exact ugive_len
    · split
      · exact ugive_len
      · split
        · exact usplit_len
        · simp
def lst (es : Nat → Nat) : Nat → List Nat
  | 0 => []
  | p + 1 => es p :: lst es p
/-- the class's texts say that an equation is there -/
def thX (σ : gS) (e : Nat) : Bool := wlB σ (2 * e) && wlB σ (2 * e + 1)
theorem wlB_F {σ τ : gS} (h : txF σ τ) (t : Nat) : wlB τ t = wlB σ t := by unfold wlB; rw [h 4 (by decide) (by decide), h 5 (by decide) (by decide)]
theorem thX_F {σ τ : gS} (h : txF σ τ) (e : Nat) : thX τ e = thX σ e := by unfold thX; rw [wlB_F h, wlB_F h]
/-- what an equation there means -/
def thOK (σ : gS) (B ln : Nat → Nat) : Prop := ∀ e, e < 4 → thX σ e = true → nd B ln (60 * e) ∧ nd B ln (60 * e + 30)
theorem urun_len (rig : Bool) (B : Nat → Nat) : ∀ f S, (urun rig B f S).1.2.1.length ≤ S.2.1.length + f := by
  intro f
  induction f with
  | zero => intro S; exact Nat.le_refl _
  | succ f ih =>
    intro S
    rw [urun]
    split
    · exact Nat.le_add_right _ _
    · have h1 := ih (ustep rig B S)
      have h2 : (ustep rig B S).2.1.length ≤ S.2.1.length + 1 := by
        unfold ustep
        cases e : S.2.1 with
        | nil => rw [e]; exact Nat.zero_le _
        | cons x P' =>
          have h3 : (uat rig B S P' (en B S.1 241 x.1) (en B S.1 241 x.2)).2.1.length ≤ P'.length + 2 := uat_len
          simp only [List.length_cons]
          omega
      omega
section T55
variable {l : Launch} {D : va_G} {cA : ClassId} {ad : Nat → Nat}
variable {σ0 σ : gS}
set_option maxHeartbeats 4000000 in
set_option maxRecDepth 100000 in
theorem l_X2_clear {b : Nat} (hb : svA b) {td : Nat → Nat} {rig : Bool} (hr : rig = false) {P : gS → Prop} (done : ∀ τ f, svF σ τ b → (∀ i, i ≠ 11 → τ b i = σ b i) → τ b 11 = rgI rig → (∀ u, u < 6 → τ (b + 1) u = -1) → (∀ g, g < 240 → τ (b + 4) g = 0) → τ (b + 5) = f → (∀ u, u < 6 → f u = nI (td u)) → G (XC l D cA ad) mX2_clear (g_rv P) 61 [some (.ref b), some (.int (rgI rig)), some (.int 6)] [] τ) (htd : ∀ u, u < 6 → σ 11 u = nI (td u)) :
    ∀ j q τ, q + j = 6 → svF σ τ b → (∀ i, i ≠ 11 → τ b i = σ b i) → τ b 11 = rgI rig → (∀ u, u < 6 → τ (b + 1) u = -1) → (∀ g, g < 240 → τ (b + 4) g = 0) → (∀ u, u < q → τ (b + 5) u = nI (td u)) → G (XC l D cA ad) mX2_clear (g_rv P) 31 [some (.ref b), some (.int (rgI rig)), some (.int (nI q))] [] τ := by
  have hb16 := hb.2.2.2.2.2.2.1
  intro j
  induction j with
  | zero =>
    intro q τ hq h1 h2 h3 h4 h5 h6
    have hq : q = 6 := by omega
    subst hq
    refine G.iload_n (k := 2) rfl dX2_clear_31 ?_
    refine G.bipush (v := 6) (by decide) dX2_clear_32 ?_
    refine G.icmp_ge (tgt := 61) (by decide) dX2_clear_34 (fun c_34 => ?_) (fun c_34 => absurd (by decide) c_34)
    exact done τ _ h1 h2 h3 h4 h5 rfl h6
  | succ j ih =>
    intro q τ hq h1 h2 h3 h4 h5 h6
    refine G.iload_n (k := 2) rfl dX2_clear_31 ?_
    refine G.bipush (v := 6) (by decide) dX2_clear_32 ?_
    refine G.icmp_ge (tgt := 61) (by decide) dX2_clear_34 (fun c_34 => absurd c_34 (nI_ge (b := 6) (by omega) (by decide))) (fun c_34 => ?_)
    refine G.iload_n (k := 1) rfl dX2_clear_37 ?_
    refine G.if_ne (tgt := 61) (by decide) dX2_clear_38 (fun c_38 => absurd (by rw [hr]; rfl) c_38) (fun c_38 => ?_)
    refine G.aload_n (k := 0) rfl dX2_clear_41 ?_
    refine G.getr (j := 7) hb.1 gci_X2 (by decide) rfl fl_X2_31 dX2_clear_42 ?_
    refine G.iload_n (k := 2) rfl dX2_clear_45 ?_
    refine G.aload_n (k := 0) rfl dX2_clear_46 ?_
    refine G.getr (j := 0) hb.1 gci_X2 (by decide) rfl fl_X2_47 dX2_clear_47 ?_
    refine G.iload_n (k := 2) rfl dX2_clear_50 ?_
    refine G.callVif (c_X4_toldFreshIn (show q < 6 by omega)) rfl (gci_X4).1 ml_X2_80 im_yX4_toldFreshIn se_yX4_toldFreshIn gcl_X4_toldFreshIn (by decide) rfl rfl (Nat.le_of_ble_eq_true rfl) dX2_clear_51 ?_
    rw [h1 11 (by omega), htd q (by omega)]
    refine G.iastN (k := q) hb.2.2.2.2.2.1 rfl (by omega) (by decide) dX2_clear_54 ?_
    refine G.inc2 (d := 1) (by decide) (by decide) rfl dX2_clear_55 ?_
    refine G.goto (tgt := 31) (by decide) dX2_clear_58 ?_
    rw [nI_1]
    refine ih (q + 1) _ (by omega) (svF_up h1 (by omega) _ _) (fun i hi => by rw [up2_ne _ _ _ (by omega)]; exact h2 i hi) (by rw [up2_ne _ _ _ (by omega)]; exact h3) (fun u hu => by rw [up2_ne _ _ _ (by omega)]; exact h4 u hu) (fun g hg => by rw [up2_ne _ _ _ (by omega)]; exact h5 g hg) (fun u hu => ?_)
    rw [up2_same]
    unfold upd
    by_cases e : u = q
    · rw [if_pos e, e]
    · rw [if_neg e]; exact h6 u (by omega)
set_option maxHeartbeats 4000000 in
set_option maxRecDepth 100000 in
theorem t_X2_clear {b : Nat} (hb : svA b) {td : Nat → Nat} {rig : Bool} {z2 : Option Value} {τ : gS} (h1 : svF σ τ b) (h3 : τ b 11 = rgI rig) (h4 : ∀ u, u < 6 → τ (b + 1) u = -1) (h5 : ∀ g, g < 240 → τ (b + 4) g = 0) (h6 : ∀ u, u < 6 → τ (b + 5) u = nI (if rig = true then 0 else td u)) : G (XC l D cA ad) mX2_clear (g_rv (fun τ => SvI σ τ b ((fun _ => none), [], (fun u => if rig = true then 0 else td u), [], 0) 0 rig (-1))) 61 [some (.ref b), some (.int (rgI rig)), z2] [] τ := by
  have hb16 := hb.2.2.2.2.2.2.1
  refine G.aload_n (k := 0) rfl dX2_clear_61 ?_
  refine G.iconst (v := 0) (by decide) dX2_clear_62 ?_
  refine G.put (j := 2) hb.1 gci_X2 gcp_X2 (by decide) rfl rfl rfl rfl fl_X2_15 dX2_clear_63 ?_
  refine G.aload_n (k := 0) rfl dX2_clear_66 ?_
  refine G.iconst (v := 0) (by decide) dX2_clear_67 ?_
  refine G.put (j := 5) hb.1 gci_X2 gcp_X2 (by decide) rfl rfl rfl rfl fl_X2_25 dX2_clear_68 ?_
  refine G.aload_n (k := 0) rfl dX2_clear_71 ?_
  refine G.iconst (v := 0) (by decide) dX2_clear_72 ?_
  refine G.put (j := 8) hb.1 gci_X2 gcp_X2 (by decide) rfl rfl rfl rfl fl_X2_34 dX2_clear_73 ?_
  refine G.aload_n (k := 0) rfl dX2_clear_76 ?_
  refine G.iconst (v := (-1)) (by decide) dX2_clear_77 ?_
  refine G.put (j := 9) hb.1 gci_X2 gcp_X2 (by decide) rfl rfl rfl rfl fl_X2_37 dX2_clear_78 ?_
  refine G.aload_n (k := 0) rfl dX2_clear_81 ?_
  refine G.iconst (v := 0) (by decide) dX2_clear_82 ?_
  refine G.put (j := 10) hb.1 gci_X2 gcp_X2 (by decide) rfl rfl rfl rfl fl_X2_40 dX2_clear_83 ?_
  have hfin : SvI σ (up2 (up2 (up2 (up2 (up2 τ b 2 0) b 5 0) b 8 0) b 9 (-1)) b 10 0) b ((fun _ => none), [], (fun u => if rig = true then 0 else td u), [], 0) 0 rig (-1) := by
    generalize hυ : up2 (up2 (up2 (up2 (up2 τ b 2 0) b 5 0) b 8 0) b 9 (-1)) b 10 0 = υ
    have rr : ∀ k, k ≠ b → υ k = τ k := fun k hk => by rw [← hυ, up2_ne _ _ _ hk, up2_ne _ _ _ hk, up2_ne _ _ _ hk, up2_ne _ _ _ hk, up2_ne _ _ _ hk]
    have r0 : ∀ i, υ b i = if i = 10 then 0 else if i = 9 then -1 else if i = 8 then 0 else if i = 5 then 0 else if i = 2 then 0 else τ b i := fun i => by
      rw [← hυ]
      simp only [up2_same]
      unfold upd
      rfl
    refine ⟨fun k hk => (rr k (by omega)).trans (h1 k hk), ⟨fun u hu => ?_, ⟨trivial, ?_⟩, fun u hu => ?_, fun g hg => ?_, ?_, ?_⟩, ?_, ?_, ?_⟩
    · rw [rr (b + 1) (by omega)]; exact h4 u hu
    · rw [r0]; rfl
    · rw [rr (b + 5) (by omega)]; exact h6 u hu
    · rw [rr (b + 4) (by omega)]; exact h5 g hg
    · rw [r0]; rfl
    · rw [r0]; rfl
    · rw [r0]; rfl
    · rw [r0]; exact h3
    · rw [r0]; rfl
  exact G.vret rfl (hfin) dX2_clear_86
set_option maxHeartbeats 4000000 in
set_option maxRecDepth 100000 in
theorem c_X2_clear {b : Nat} (hb : svA b) {td : Nat → Nat} {rig : Bool} (htd : ∀ u, u < 6 → σ 11 u = nI (td u)) : GM (XC l D cA ad) mX2_clear [.ref b, .int (rgI rig)] σ (g_rv (fun τ => SvI σ τ b ((fun _ => none), [], (fun u => if rig = true then 0 else td u), [], 0) 0 rig (-1))) := by
  refine GM.of (ls := [some (.ref b), some (.int (rgI rig)), none]) (by decide) (Nat.le_of_ble_eq_true rfl) rfl ?_
  have hb16 := hb.2.2.2.2.2.2.1
  refine G.aload_n (k := 0) rfl dX2_clear_0 ?_
  refine G.iload_n (k := 1) rfl dX2_clear_1 ?_
  refine G.put (j := 11) hb.1 gci_X2 gcp_X2 (by decide) rfl rfl (by cases rig <;> rfl) (by cases rig <;> rfl) fl_X2_43 dX2_clear_2 ?_
  refine G.aload_n (k := 0) rfl dX2_clear_5 ?_
  refine G.getr (j := 1) hb.1 gci_X2 (by decide) rfl fl_X2_9 dX2_clear_6 ?_
  refine G.iconst (v := (-1)) (by decide) dX2_clear_9 ?_
  refine G.callSvf (c_J7_fill_53178 hb.2.1 (by decide)) ml_X2_87 ws_yJ7_fill_53178 gcl_J7_fill_53178 (by decide) rfl rfl (Nat.le_of_ble_eq_true rfl) dX2_clear_10 ?_
  refine G.aload_n (k := 0) rfl dX2_clear_13 ?_
  refine G.getr (j := 6) hb.1 gci_X2 (by decide) rfl fl_X2_28 dX2_clear_14 ?_
  refine G.iconst (v := 0) (by decide) dX2_clear_17 ?_
  refine G.callSvf (c_J7_fill_53178 hb.2.2.2.2.1 (by decide)) ml_X2_87 ws_yJ7_fill_53178 gcl_J7_fill_53178 (by decide) rfl rfl (Nat.le_of_ble_eq_true rfl) dX2_clear_18 ?_
  refine G.aload_n (k := 0) rfl dX2_clear_21 ?_
  refine G.getr (j := 7) hb.1 gci_X2 (by decide) rfl fl_X2_31 dX2_clear_22 ?_
  refine G.iconst (v := 0) (by decide) dX2_clear_25 ?_
  refine G.callSvf (c_J7_fill_53178 hb.2.2.2.2.2.1 (by decide)) ml_X2_87 ws_yJ7_fill_53178 gcl_J7_fill_53178 (by decide) rfl rfl (Nat.le_of_ble_eq_true rfl) dX2_clear_26 ?_
  generalize hτ : flr (flr (flr (up2 σ b 11 (rgI rig)) (b + 1) 0 6 (-1)) (b + 4) 0 240 0) (b + 5) 0 6 0 = τ
  have n1 : ∀ (υ : gS) (a lo hi : Nat) (v : Int32) (k : Nat), k ≠ a → flr υ a lo hi v k = υ k := fun υ a lo hi v k hk => upA_ne υ _ hk
  have s1 : ∀ (υ : gS) (a lo hi : Nat) (v : Int32) (i : Nat), lo ≤ i → i < hi → flr υ a lo hi v a i = v := fun υ a lo hi v i q1 q2 => by unfold flr; rw [upA_same]; exact if_pos ⟨q1, q2⟩
  have h1 : svF σ τ b := fun k hk => by rw [← hτ, n1 _ _ _ _ _ _ (by omega), n1 _ _ _ _ _ _ (by omega), n1 _ _ _ _ _ _ (by omega), up2_ne _ _ _ (by omega)]
  have eb : τ b = upd (σ b) 11 (rgI rig) := by rw [← hτ, n1 _ _ _ _ _ _ (by omega), n1 _ _ _ _ _ _ (by omega), n1 _ _ _ _ _ _ (by omega), up2_same]
  have h2 : ∀ i, i ≠ 11 → τ b i = σ b i := fun i hi => by rw [eb]; exact if_neg hi
  have h3 : τ b 11 = rgI rig := by rw [eb]; exact if_pos rfl
  have h4 : ∀ u, u < 6 → τ (b + 1) u = -1 := fun u hu => by rw [← hτ, n1 _ _ _ _ _ _ (by omega), n1 _ _ _ _ _ _ (by omega), s1 _ _ _ _ _ _ (by omega) hu]
  have h5 : ∀ g, g < 240 → τ (b + 4) g = 0 := fun g hg => by rw [← hτ, n1 _ _ _ _ _ _ (by omega), s1 _ _ _ _ _ _ (by omega) hg]
  have h6 : ∀ u, u < 6 → τ (b + 5) u = 0 := fun u hu => by rw [← hτ, s1 _ _ _ _ _ _ (by omega) hu]
  refine G.iconst (v := 0) (by decide) dX2_clear_29 ?_
  refine G.ist2 (by decide) rfl dX2_clear_30 ?_
  cases rig with
  | true =>
    refine G.iload_n (k := 2) rfl dX2_clear_31 ?_
    refine G.bipush (v := 6) (by decide) dX2_clear_32 ?_
    refine G.icmp_ge (tgt := 61) (by decide) dX2_clear_34 (fun c_34 => absurd c_34 (by decide)) (fun c_34 => ?_)
    refine G.iload_n (k := 1) rfl dX2_clear_37 ?_
    refine G.if_ne (tgt := 61) (by decide) dX2_clear_38 (fun c_38 => ?_) (fun c_38 => absurd c_38 (by decide))
    exact t_X2_clear hb h1 h3 h4 h5 (fun u hu => h6 u hu)
  | false =>
    exact l_X2_clear hb rfl (fun τ2 f q1 q2 q3 q4 q5 q6 q7 => t_X2_clear hb q1 q3 q4 q5 (fun u hu => by rw [q6]; exact q7 u hu)) htd 6 0 τ rfl h1 h2 h3 h4 h5 (fun u hu => by omega)
theorem SvI_tx {σ0 σ : gS} {b n : Nat} {S : uS} {rig : Bool} {wh : Int32} (hb : 16 ≤ b) (h : SvI σ0 σ b S n rig wh) : txF σ0 σ := svF_tx hb h.1
theorem sv_steps {σ0 σ : gS} {b n m : Nat} {S : uS} {rig : Bool} {wh : Int32} (h : SvI σ0 σ b S n rig wh) : SvI σ0 (up2 σ b 10 (nI m)) b S m rig wh := by
  obtain ⟨V, P, w, W, y⟩ := S
  obtain ⟨f, ⟨h1, h2, h3, h4, h5, h6⟩, h7, h8, h9⟩ := h
  generalize hτ : up2 σ b 10 (nI m) = τ
  have r1 : ∀ k, k ≠ b → τ k = σ k := fun k a => by rw [← hτ, up2_ne _ _ _ a]
  have r0 : ∀ i, i ≠ 10 → τ b i = σ b i := fun i hi => by rw [← hτ, up2_same]; exact if_neg hi
  exact ⟨fun k hk => (r1 k (by omega)).trans (f k hk), ⟨fun u hu => by rw [r1 (b + 1) (by omega)]; exact h1 u hu, ⟨PlH_congr P (fun i _ => ⟨by rw [r1 (b + 2) (by omega)], by rw [r1 (b + 3) (by omega)]⟩) h2.1, by rw [r0 5 (by decide)]; exact h2.2⟩, fun u hu => by rw [r1 (b + 5) (by omega)]; exact h3 u hu, fun g hg => by rw [r1 (b + 4) (by omega)]; exact h4 g hg, by rw [r0 8 (by decide)]; exact h5, by rw [r0 2 (by decide)]; exact h6⟩, by rw [← hτ]; exact up2_at _ _ _ _, by rw [r0 11 (by decide)]; exact h8, by rw [r0 9 (by decide)]; exact h9⟩
theorem sv_where {σ0 σ : gS} {b n : Nat} {S : uS} {rig : Bool} {wh x : Int32} (h : SvI σ0 σ b S n rig wh) : SvI σ0 (up2 σ b 9 x) b S n rig x := by
  obtain ⟨V, P, w, W, y⟩ := S
  obtain ⟨f, ⟨h1, h2, h3, h4, h5, h6⟩, h7, h8, h9⟩ := h
  generalize hτ : up2 σ b 9 x = τ
  have r1 : ∀ k, k ≠ b → τ k = σ k := fun k a => by rw [← hτ, up2_ne _ _ _ a]
  have r0 : ∀ i, i ≠ 9 → τ b i = σ b i := fun i hi => by rw [← hτ, up2_same]; exact if_neg hi
  exact ⟨fun k hk => (r1 k (by omega)).trans (f k hk), ⟨fun u hu => by rw [r1 (b + 1) (by omega)]; exact h1 u hu, ⟨PlH_congr P (fun i _ => ⟨by rw [r1 (b + 2) (by omega)], by rw [r1 (b + 3) (by omega)]⟩) h2.1, by rw [r0 5 (by decide)]; exact h2.2⟩, fun u hu => by rw [r1 (b + 5) (by omega)]; exact h3 u hu, fun g hg => by rw [r1 (b + 4) (by omega)]; exact h4 g hg, by rw [r0 8 (by decide)]; exact h5, by rw [r0 2 (by decide)]; exact h6⟩, by rw [r0 10 (by decide)]; exact h7, by rw [r0 11 (by decide)]; exact h8, by rw [← hτ]; exact up2_at _ _ _ _⟩
set_option maxHeartbeats 4000000 in
set_option maxRecDepth 100000 in
theorem l1_X2_run {b : Nat} (hb : svA b) {ln B : Nat → Nat} {rig : Bool} {wh o wm rg : Int32} {z4 z5 z6 : Option Value} {Q : Option Value → gS → Prop} (h3 : tx3 σ0 ln B) {R : uS × Nat} (done : ∀ τ, SvI σ0 τ b R.1 (600 - R.2) rig wh → R.2 ≤ 600 → (R.2 = 0 ∨ R.1.2.1 = [] ∨ R.1.2.2.2.2 ≠ 0) → G (XC l D cA ad) mX2_run Q 125 [some (.ref b), some (.int o), some (.int wm), some (.int rg), z4, z5, z6] [] τ) :
    ∀ f S τ, f ≤ 600 → S.2.1.length + f ≤ 601 → uG B ln S → urun rig B f S = R → SvI σ0 τ b S (600 - f) rig wh → G (XC l D cA ad) mX2_run Q 84 [some (.ref b), some (.int o), some (.int wm), some (.int rg), z4, z5, z6] [] τ := by
  have hb16 := hb.2.2.2.2.2.2.1
  intro f
  induction f with
  | zero =>
    intro S τ hf hl hG hR hI
    rw [urun] at hR
    have hend : G (XC l D cA ad) mX2_run Q 125 [some (.ref b), some (.int o), some (.int wm), some (.int rg), z4, z5, z6] [] τ := done τ (by rw [← hR]; exact hI) (by rw [← hR]; omega) (by rw [← hR]; exact Or.inl rfl)
    refine G.aload_n (k := 0) rfl dX2_run_84 ?_
    refine G.geti (j := 5) hb.1 gci_X2 (by decide) rfl fl_X2_25 dX2_run_85 ?_
    rw [hI.2.1.2.1.2]
    refine G.if_le (tgt := 125) (by decide) dX2_run_88 (fun c_88 => ?_) (fun c_88 => ?_)
    · exact hend
    · refine G.aload_n (k := 0) rfl dX2_run_91 ?_
      refine G.geti (j := 8) hb.1 gci_X2 (by decide) rfl fl_X2_34 dX2_run_92 ?_
      rw [hI.2.1.2.2.2.2.1]
      refine G.if_ne (tgt := 125) (by decide) dX2_run_95 (fun c_95 => ?_) (fun c_95 => ?_)
      · exact hend
      · refine G.aload_n (k := 0) rfl dX2_run_98 ?_
        refine G.geti (j := 10) hb.1 gci_X2 (by decide) rfl fl_X2_40 dX2_run_99 ?_
        rw [hI.2.2.1]
        refine G.sipush (v := 600) (by decide) dX2_run_102 ?_
        refine G.icmp_ge (tgt := 125) (by decide) dX2_run_105 (fun c_105 => ?_) (fun c_105 => absurd (by decide) c_105)
        exact hend
  | succ f ih =>
    intro S τ hf hl hG hR hI
    obtain ⟨V, P, w, W, y⟩ := S
    rw [urun] at hR
    have hy8 : y < 8 := hG.2.2.2.2.2
    by_cases hst : P = [] ∨ y ≠ 0
    · rw [if_pos hst] at hR
      have hend : G (XC l D cA ad) mX2_run Q 125 [some (.ref b), some (.int o), some (.int wm), some (.int rg), z4, z5, z6] [] τ := done τ (by rw [← hR]; exact hI) (by rw [← hR]; omega) (by rw [← hR]; exact Or.inr hst)
      by_cases hp : P = []
      · subst hp
        refine G.aload_n (k := 0) rfl dX2_run_84 ?_
        refine G.geti (j := 5) hb.1 gci_X2 (by decide) rfl fl_X2_25 dX2_run_85 ?_
        rw [hI.2.1.2.1.2]
        refine G.if_le (tgt := 125) (by decide) dX2_run_88 (fun c_88 => ?_) (fun c_88 => absurd (show (nI 0 : Int32) ≤ 0 by decide) c_88)
        exact hend
      · have hy : y ≠ 0 := hst.resolve_left hp
        refine G.aload_n (k := 0) rfl dX2_run_84 ?_
        refine G.geti (j := 5) hb.1 gci_X2 (by decide) rfl fl_X2_25 dX2_run_85 ?_
        rw [hI.2.1.2.1.2]
        refine G.if_le (tgt := 125) (by decide) dX2_run_88 (fun c_88 => ?_) (fun c_88 => ?_)
        · exact hend
        · refine G.aload_n (k := 0) rfl dX2_run_91 ?_
          refine G.geti (j := 8) hb.1 gci_X2 (by decide) rfl fl_X2_34 dX2_run_92 ?_
          rw [hI.2.1.2.2.2.2.1]
          refine G.if_ne (tgt := 125) (by decide) dX2_run_95 (fun c_95 => ?_) (fun c_95 => absurd c_95 (nI_ne0 (n := y) (by omega) (by omega)))
          exact hend
    · rw [if_neg hst] at hR
      have hy : y = 0 := by
        rcases Nat.eq_zero_or_pos y with q | q
        · exact q
        · exact absurd (Or.inr (by omega)) hst
      subst hy
      cases P with
      | nil => exact absurd (Or.inl rfl) hst
      | cons x P =>
        have hlen : (x :: P).length = P.length + 1 := rfl
        have hl2 : (x :: P).length + (f + 1) ≤ 601 := hl
        refine G.aload_n (k := 0) rfl dX2_run_84 ?_
        refine G.geti (j := 5) hb.1 gci_X2 (by decide) rfl fl_X2_25 dX2_run_85 ?_
        rw [hI.2.1.2.1.2]
        refine G.if_le (tgt := 125) (by decide) dX2_run_88 (fun c_88 => absurd c_88 (nI_nle (show 0 < (x :: P).length by omega) (by omega))) (fun c_88 => ?_)
        refine G.aload_n (k := 0) rfl dX2_run_91 ?_
        refine G.geti (j := 8) hb.1 gci_X2 (by decide) rfl fl_X2_34 dX2_run_92 ?_
        rw [hI.2.1.2.2.2.2.1]
        refine G.if_ne (tgt := 125) (by decide) dX2_run_95 (fun c_95 => absurd rfl c_95) (fun c_95 => ?_)
        refine G.aload_n (k := 0) rfl dX2_run_98 ?_
        refine G.geti (j := 10) hb.1 gci_X2 (by decide) rfl fl_X2_40 dX2_run_99 ?_
        rw [hI.2.2.1]
        refine G.sipush (v := 600) (by decide) dX2_run_102 ?_
        refine G.icmp_ge (tgt := 125) (by decide) dX2_run_105 (fun c_105 => absurd c_105 (nI_ge (b := 600) (by omega) (by decide))) (fun c_105 => ?_)
        refine G.aload_n (k := 0) rfl dX2_run_108 ?_
        refine G.dupr dX2_run_109 ?_
        refine G.geti (j := 10) hb.1 gci_X2 (by decide) rfl fl_X2_40 dX2_run_110 ?_
        rw [hI.2.2.1]
        refine G.iconst (v := 1) (by decide) dX2_run_113 ?_
        refine G.iadd dX2_run_114 ?_
        rw [nI_1, show 600 - (f + 1) + 1 = 600 - f by omega]
        refine G.put (j := 10) hb.1 gci_X2 gcp_X2 (by decide) rfl rfl rfl rfl fl_X2_40 dX2_run_115 ?_
        have hI2 := sv_steps (m := 600 - f) hI
        refine G.aload_n (k := 0) rfl dX2_run_118 ?_
        refine G.callVv (c_X2_step hb h3 hG (by omega) hI2) hb.1 (gci_X2).1 ml_X2_74 im_yX2_step se_yX2_step gcl_X2_step (by decide) rfl rfl (Nat.le_of_ble_eq_true rfl) dX2_run_119 (fun τ2 hI3 => ?_)
        refine G.goto (tgt := 84) (by decide) dX2_run_122 ?_
        refine ih _ τ2 (by omega) ?_ (ustep_G rig hG) hR hI3
        have h1 : (ustep rig B (V, x :: P, w, W, 0)).2.1.length ≤ P.length + 2 := uat_len
        omega
theorem wmk_bit : ∀ (W : List (Nat × Nat)) (g m : Nat), (wmk W g).testBit m = true ↔ (g, m) ∈ W := by
  intro W g m
  induction W with
  | nil => simp [wmk]
  | cons x t ih =>
    rw [wmk]
    by_cases e : x.1 = g
    · rw [if_pos e, Nat.testBit_or, Bool.or_eq_true, ih, List.mem_cons, Nat.testBit_two_pow]
      constructor
      · rintro (h | h)
        · exact Or.inr h
        · exact Or.inl (by have h2 : x.2 = m := by simpa using h
                           rw [← e, ← h2])
      · rintro (h | h)
        · exact Or.inr (by rw [← h]; simp)
        · exact Or.inl h
    · rw [if_neg e, ih, List.mem_cons]
      constructor
      · exact Or.inr
      · rintro (h | h)
        · exact absurd (by rw [← h]) e
        · exact h
theorem wmk_lt {W : List (Nat × Nat)} (h : ∀ x ∈ W, x.2 < 6) (g : Nat) : wmk W g < 64 := by
  induction W with
  | nil => exact Nat.zero_lt_succ _
  | cons x t ih =>
    rw [wmk]
    have h1 := ih (fun y hy => h y (List.mem_cons_of_mem _ hy))
    split
    · exact or_lt64 h1 (Nat.pow_lt_pow_right (show 1 < 2 by decide) (h x List.mem_cons_self))
    · exact h1
/-- how a run of the solver ends -/
def RunP (σ τ : gS) (b : Nat) (B : Nat → Nat) (rig : Bool) (R : uS × Nat × Int32) : Prop := svF σ τ b ∧ (∀ u, u < 6 → τ (b + 1) u = vrow R.1.1 u) ∧ τ b 10 = nI (600 - R.2.1) ∧ τ b 9 = R.2.2 ∧ τ b 2 = nI (cntV R.1.1 6) ∧ (R.1.2.2.2.2 ≠ 0 → τ b 8 = nI R.1.2.2.2.2) ∧ (R.1.2.2.2.2 = 0 → ∃ (bd : Bool) (mU : Nat → Nat), τ b 8 = bdI bd ∧ (bd = true ↔ BD B R.1.1 R.1.2.2.2.1 R.1.2.2.1) ∧ ∀ u, u < 6 → τ (b + 5) u = nI (mU u) ∧ mU u < 64 ∧ ∀ m, (mU u).testBit m = true ↔ m < 6 ∧ LU B R.1.1 R.1.2.2.2.1 R.1.2.2.1 u m)
set_option maxHeartbeats 4000000 in
set_option maxRecDepth 100000 in
theorem e_X2_run {b : Nat} (hb : svA b) {ln B : Nat → Nat} {rig : Bool} {wh : Int32} {f : Nat} {S : uS} {o wm rg : Int32} {z4 z5 z6 : Option Value} {τ : gS} (h3 : tx3 σ0 ln B) (hG : uG B ln S) (hI : SvI σ0 τ b S (600 - f) rig wh) : G (XC l D cA ad) mX2_run (g_rv (fun τ => RunP σ0 τ b B rig (S, f, wh))) 167 [some (.ref b), some (.int o), some (.int wm), some (.int rg), z4, z5, z6] [] τ := by
  have hb16 := hb.2.2.2.2.2.2.1
  have h31 : tx3 τ ln B := tx3_F (SvI_tx hb16 hI) h3
  have hy8 : S.2.2.2.2 < 8 := hG.2.2.2.2.2
  refine G.aload_n (k := 0) rfl dX2_run_167 ?_
  refine G.geti (j := 8) hb.1 gci_X2 (by decide) rfl fl_X2_34 dX2_run_168 ?_
  rw [hI.2.1.2.2.2.2.1]
  refine G.if_ne (tgt := 178) (by decide) dX2_run_171 (fun c_171 => ?_) (fun c_171 => ?_)
  · have hy : ¬ S.2.2.2.2 = 0 := fun e => c_171 (by rw [e]; rfl)
    exact G.vret rfl (by first | exact ⟨hI.1, hI.2.1.1, hI.2.2.1, hI.2.2.2.2, hI.2.1.2.2.2.2.2, fun _ => hI.2.1.2.2.2.2.1, fun e => absurd e hy⟩ | (obtain ⟨z, H, z64, hu, hbd⟩ := hq; exact ⟨fun k hk => (H.1 k (by omega) (by omega) (by omega)).trans (hI.1 k hk), fun u h6 => by rw [H.1 (b + 1) (by omega) (by omega) (by omega)]; exact hI.2.1.1 u h6, by rw [H.2.1 10 (by decide)]; exact hI.2.2.1, by rw [H.2.1 9 (by decide)]; exact hI.2.2.2.2, by rw [H.2.1 2 (by decide)]; exact hI.2.1.2.2.2.2.2, fun e => absurd hy e, fun _ => ⟨z.2.2, z.2.1, H.2.2.2.2, hbd, fun u h6 => ⟨H.2.2.2.1 u h6, z64.2 u, fun m => hu u m h6⟩⟩⟩)) dX2_run_178
  · have hy : S.2.2.2.2 = 0 := (nI_eq (by omega) (by decide)).mp (show nI S.2.2.2.2 = nI 0 from c_171)
    refine G.aload_n (k := 0) rfl dX2_run_174 ?_
    have hFr : FrH τ τ b (wmk S.2.2.2.1, S.2.2.1, false) := ⟨fun _ _ _ _ => rfl, fun _ _ => rfl, fun g hg => hI.2.1.2.2.2.1 g hg, fun u hu => hI.2.1.2.2.1 u hu, by rw [hI.2.1.2.2.2.2.1, hy]; rfl⟩
    have cl := LN_cl B S.1 S.2.2.2.1 S.2.2.1
    have hfI : frI B ln S.1 S.2.2.2.1 S.2.2.1 (wmk S.2.2.2.1, S.2.2.1, false) := ⟨⟨wmk_lt (fun y hy2 => (hG.2.2.2.2.1 y hy2).2), hG.2.2.2.1⟩, fun g m hb2 => ⟨(hG.2.2.2.2.1 _ ((wmk_bit _ g m).mp hb2)).1, (hG.2.2.2.2.1 _ ((wmk_bit _ g m).mp hb2)).2, cl.1 _ ((wmk_bit _ g m).mp hb2)⟩, fun u m hu hb2 => ⟨bit_lt6 (hG.2.2.2.1 u) hb2, cl.2.1 u m hu (bit_lt6 (hG.2.2.2.1 u) hb2) hb2⟩, fun q => (by cases q), fun y hy2 => (wmk_bit _ y.1 y.2).mpr hy2, fun u m _ _ hb2 => hb2⟩
    refine G.callVv (c_X2_spreadFresh (σ0 := τ) hb h31 hG.1 hI.2.1.1 (W := S.2.2.2.1) (w := S.2.2.1) (z := (wmk S.2.2.2.1, S.2.2.1, false)) hG.2.2.2.2.1 hFr hfI) hb.1 (gci_X2).1 ml_X2_77 im_yX2_spreadFresh se_yX2_spreadFresh gcl_X2_spreadFresh (by decide) rfl rfl (Nat.le_of_ble_eq_true rfl) dX2_run_175 (fun τ2 hq => ?_)
    exact G.vret rfl (by first | exact ⟨hI.1, hI.2.1.1, hI.2.2.1, hI.2.2.2.2, hI.2.1.2.2.2.2.2, fun _ => hI.2.1.2.2.2.2.1, fun e => absurd e hy⟩ | (obtain ⟨z, H, z64, hu, hbd⟩ := hq; exact ⟨fun k hk => (H.1 k (by omega) (by omega) (by omega)).trans (hI.1 k hk), fun u h6 => by rw [H.1 (b + 1) (by omega) (by omega) (by omega)]; exact hI.2.1.1 u h6, by rw [H.2.1 10 (by decide)]; exact hI.2.2.1, by rw [H.2.1 9 (by decide)]; exact hI.2.2.2.2, by rw [H.2.1 2 (by decide)]; exact hI.2.1.2.2.2.2.2, fun e => absurd hy e, fun _ => ⟨z.2.2, z.2.1, H.2.2.2.2, hbd, fun u h6 => ⟨H.2.2.2.1 u h6, z64.2 u, fun m => hu u m h6⟩⟩⟩)) dX2_run_178
set_option maxHeartbeats 4000000 in
set_option maxRecDepth 100000 in
theorem l_X2_run {b wm : Nat} (hb : svA b) {ln B : Nat → Nat} {rig : Bool} {o rg : Int32} {es : Nat → Nat} (h3 : tx3 σ0 ln B) (hth : thOK σ0 B ln) (hes : ∀ p, p < 4 → es p < 4) (ho : ∀ p, p < 4 → (o >>> ((4 * nI p) &&& 31)) &&& 3 = nI (es p)) (hwm : wm < 16) {R : uS × Nat × Int32} : ∀ p x S f wh τ z5 z6, p ≤ 4 → x = nI p - 1 → uG B ln S → (S.2.2.2.2 = 0 → S.2.1 = []) → f ≤ 600 → useq rig B (fun e => wm.testBit e && thX σ0 e) (lst es p) (S, f, wh) = R → SvI σ0 τ b S (600 - f) rig wh → G (XC l D cA ad) mX2_run (g_rv (fun τ => RunP σ0 τ b B rig R)) 8 [some (.ref b), some (.int o), some (.int (nI wm)), some (.int rg), some (.int x), z5, z6] [] τ := by
  have hb16 := hb.2.2.2.2.2.2.1
  intro p
  induction p with
  | zero =>
    intro x S f wh τ z5 z6 hp hx hG hP hf hR hI
    subst hx
    rw [lst, useq] at hR
    subst hR
    refine G.iload (i := 4) rfl dX2_run_8 ?_
    refine G.if_lt (tgt := 167) (by decide) dX2_run_10 (fun c_10 => ?_) (fun c_10 => absurd (show nI 0 - 1 < 0 by decide) c_10)
    exact e_X2_run hb h3 hG hI
  | succ p ih =>
    intro x S f wh τ z5 z6 hp hx hG hP hf hR hI
    have hx : x = nI p := by rw [hx]; exact nI_pred p
    subst hx
    rw [lst, useq] at hR
    dsimp only at hR
    have hy8 : S.2.2.2.2 < 8 := hG.2.2.2.2.2
    by_cases hy : S.2.2.2.2 = 0
    · rw [if_neg (fun h => h hy)] at hR
      have hE := hes p (by omega)
      refine G.iload (i := 4) rfl dX2_run_8 ?_
      refine G.if_lt (tgt := 167) (by decide) dX2_run_10 (fun c_10 => absurd c_10 (nI_pos (by omega))) (fun c_10 => ?_)
      refine G.aload_n (k := 0) rfl dX2_run_13 ?_
      refine G.geti (j := 8) hb.1 gci_X2 (by decide) rfl fl_X2_34 dX2_run_14 ?_
      rw [hI.2.1.2.2.2.2.1, hy]
      refine G.if_ne (tgt := 167) (by decide) dX2_run_17 (fun c_17 => absurd rfl c_17) (fun c_17 => ?_)
      refine G.iload_n (k := 1) rfl dX2_run_20 ?_
      refine G.iconst (v := 4) (by decide) dX2_run_21 ?_
      refine G.iload (i := 4) rfl dX2_run_22 ?_
      refine G.imul dX2_run_24 ?_
      refine G.ishr dX2_run_25 ?_
      refine G.iconst (v := 3) (by decide) dX2_run_26 ?_
      refine G.iand dX2_run_27 ?_
      rw [ho p (by omega)]
      refine G.ist5 (by decide) rfl dX2_run_28 ?_
      refine G.iload_n (k := 2) rfl dX2_run_30 ?_
      refine G.iload (i := 5) rfl dX2_run_31 ?_
      refine G.ishr dX2_run_33 ?_
      refine G.iconst (v := 1) (by decide) dX2_run_34 ?_
      refine G.iand dX2_run_35 ?_
      refine G.if_eq (tgt := 161) (by decide) dX2_run_36 (fun c_36 => ?_) (fun c_36 => ?_)
      · have hw : ¬ wm.testBit (es p) = true := (tb_bit (by omega) (by omega)).mp c_36
        have hno : (wm.testBit (es p) && thX σ0 (es p)) = false := by simp at hw; rw [hw]; rfl
        have hdec : nI p + (-1) = nI p - 1 := (Int32.sub_eq_add_neg _ _).symm
        rw [if_pos hno] at hR
        refine G.inc4 (d := -1) (by decide) (by decide) rfl dX2_run_161 ?_
        rw [hdec]
        refine G.goto (tgt := 8) (by decide) dX2_run_164 ?_
        exact ih _ _ _ _ _ _ _ (by omega) rfl hG hP hf hR hI
      · have hw : wm.testBit (es p) = true := by
          by_cases q : wm.testBit (es p) = true
          · exact q
          · exact absurd ((tb_bit (by omega) (by omega)).mpr q) c_36
        refine G.aload_n (k := 0) rfl dX2_run_39 ?_
        refine G.getr (j := 0) hb.1 gci_X2 (by decide) rfl fl_X2_47 dX2_run_40 ?_
        refine G.iload (i := 5) rfl dX2_run_43 ?_
        refine G.callVif (c_X4_isThere hE) rfl (gci_X4).1 ml_X2_55 im_yX4_isThere se_yX4_isThere gcl_X4_isThere (by decide) rfl rfl (Nat.le_of_ble_eq_true rfl) dX2_run_45 ?_
        have eth : (wlB τ (2 * es p) && wlB τ (2 * es p + 1)) = thX σ0 (es p) := thX_F (SvI_tx hb16 hI) (es p)
        rw [eth]
        refine G.if_ne (tgt := 54) (by decide) dX2_run_48 (fun c_48 => ?_) (fun c_48 => ?_)
        · have ht : thX σ0 (es p) = true := bo_n.mp c_48
          have hyes : ¬ (wm.testBit (es p) && thX σ0 (es p)) = false := by rw [hw, ht]; simp
          rw [if_neg hyes] at hR
          have hn := hth (es p) hE ht
          refine G.iconst (v := 2) (by decide) dX2_run_54 ?_
          refine G.iload (i := 5) rfl dX2_run_55 ?_
          refine G.imul dX2_run_57 ?_
          rw [show (2 : Int32) * nI (es p) = nI (2 * es p) from nu_mul 2 _]
          refine G.bipush (v := 30) (by decide) dX2_run_58 ?_
          refine G.imul dX2_run_60 ?_
          rw [show nI (2 * es p) * 30 = nI (60 * es p) by rw [show (30 : Int32) = nI 30 from rfl, nu_mul]; exact congrArg nI (by omega)]
          refine G.ist6 (by decide) rfl dX2_run_61 ?_
          refine G.aload_n (k := 0) rfl dX2_run_63 ?_
          refine G.iload (i := 6) rfl dX2_run_64 ?_
          refine G.ldc ct_X2_63 dX2_run_66 ?_
          refine G.callSif (c_X3_make (n := 60 * es p) (c := 181896) (by decide)) ml_X2_64 ws_yX3_make gcl_X3_make (by decide) rfl rfl (Nat.le_of_ble_eq_true rfl) dX2_run_68 ?_
          refine G.iload (i := 6) rfl dX2_run_71 ?_
          refine G.bipush (v := 30) (by decide) dX2_run_73 ?_
          refine G.iadd dX2_run_75 ?_
          rw [show nI (60 * es p) + 30 = nI (60 * es p + 30) from nI_add _ 30]
          refine G.ldc ct_X2_63 dX2_run_76 ?_
          refine G.callSif (c_X3_make (n := 60 * es p + 30) (c := 181896) (by decide)) ml_X2_64 ws_yX3_make gcl_X3_make (by decide) rfl rfl (Nat.le_of_ble_eq_true rfl) dX2_run_78 ?_
          obtain ⟨V, P, w, W, y⟩ := S
          have hy1 : y = 0 := hy
          subst hy1
          have hP1 : P = [] := hP rfl
          subst hP1
          refine G.callVvf (c_X2_pile hb (n := 0) hI.2.1.2.1.2 (by decide)) hb.1 (gci_X2).1 ml_X2_70 im_yX2_pile se_yX2_pile gcl_X2_pile (by decide) rfl rfl (Nat.le_of_ble_eq_true rfl) dX2_run_81 ?_
          have hI2 := sv_pile (l := (60 * es p, tn_id)) (r := (60 * es p + 30, tn_id)) hI
          have hG2 : uG B ln (V, [((60 * es p, tn_id), (60 * es p + 30, tn_id))], w, W, 0) := ⟨hG.1, hG.2.1, fun y hy2 => by rw [List.mem_singleton.mp hy2]; exact ⟨hn.1, tn_P_id, hn.2, tn_P_id⟩, hG.2.2.2.1, hG.2.2.2.2.1, by show 0 < 8; decide⟩
          refine l1_X2_run hb h3 (R := urun rig B f (V, [((60 * es p, tn_id), (60 * es p + 30, tn_id))], w, W, 0)) (fun τ2 hI3 hf2 hor => ?_) f _ _ hf (by show 1 + f ≤ 601; omega) hG2 rfl hI2
          have hG3 := urun_G (ln := ln) rig f _ hG2
          generalize hU : urun rig B f (V, [((60 * es p, tn_id), (60 * es p + 30, tn_id))], w, W, 0) = U at *
          obtain ⟨⟨V3, P3, w3, W3, y3⟩, f3⟩ := U
          have hy38 : y3 < 8 := hG3.2.2.2.2.2
          dsimp only at hR hor hf2 hI3 hG3
          by_cases hlong : P3 ≠ [] ∧ y3 = 0
          · rw [if_pos hlong] at hR
            obtain ⟨hp3, hy3⟩ := hlong
            subst hy3
            have hpos : 0 < P3.length := List.length_pos_iff.mpr hp3
            have hp601 : P3.length < 2 ^ 31 := by have h9 := urun_len rig B f (V, [((60 * es p, tn_id), (60 * es p + 30, tn_id))], w, W, 0); rw [hU] at h9; have h10 : P3.length ≤ 1 + f := h9; omega
            refine G.aload_n (k := 0) rfl dX2_run_125 ?_
            refine G.geti (j := 5) hb.1 gci_X2 (by decide) rfl fl_X2_25 dX2_run_126 ?_
            rw [hI3.2.1.2.1.2]
            refine G.if_le (tgt := 144) (by decide) dX2_run_129 (fun c_129 => absurd c_129 (nI_nle hpos hp601)) (fun c_129 => ?_)
            refine G.aload_n (k := 0) rfl dX2_run_132 ?_
            refine G.geti (j := 8) hb.1 gci_X2 (by decide) rfl fl_X2_34 dX2_run_133 ?_
            rw [hI3.2.1.2.2.2.2.1]
            refine G.if_ne (tgt := 144) (by decide) dX2_run_136 (fun c_136 => absurd rfl c_136) (fun c_136 => ?_)
            refine G.aload_n (k := 0) rfl dX2_run_139 ?_
            refine G.iconst (v := 4) (by decide) dX2_run_140 ?_
            refine G.put (j := 8) hb.1 gci_X2 gcp_X2 (by decide) rfl rfl rfl rfl fl_X2_34 dX2_run_141 ?_
            have hI4 := sv_why 4 hI3
            refine G.aload_n (k := 0) rfl dX2_run_144 ?_
            refine G.aload_n (k := 0) rfl dX2_run_145 ?_
            refine G.geti (j := 8) hb.1 gci_X2 (by decide) rfl fl_X2_34 dX2_run_146 ?_
            rw [up2_at]
            refine G.if_ne (tgt := 156) (by decide) dX2_run_149 (fun c_149 => ?_) (fun c_149 => absurd c_149 (by decide))
            refine G.iload (i := 5) rfl dX2_run_156 ?_
            refine G.put (j := 9) hb.1 gci_X2 gcp_X2 (by decide) rfl rfl rfl rfl fl_X2_37 dX2_run_158 ?_
            have hI5 := sv_where (x := nI (es p)) hI4
            have hdec : nI p + (-1) = nI p - 1 := (Int32.sub_eq_add_neg _ _).symm
            rw [if_neg (show ¬ (4 : Nat) = 0 by decide)] at hR
            refine G.inc4 (d := -1) (by decide) (by decide) rfl dX2_run_161 ?_
            rw [hdec]
            refine G.goto (tgt := 8) (by decide) dX2_run_164 ?_
            exact ih _ (V3, P3, w3, W3, 4) f3 (nI (es p)) _ _ _ (by omega) rfl ⟨hG3.1, hG3.2.1, hG3.2.2.1, hG3.2.2.2.1, hG3.2.2.2.2.1, by show 4 < 8; decide⟩ (fun e => by cases e) hf2 hR hI5
          · rw [if_neg hlong] at hR
            by_cases hy3 : y3 = 0
            · subst hy3
              have hp3 : P3 = [] := Decidable.not_not.mp (fun h => hlong ⟨h, rfl⟩)
              subst hp3
              refine G.aload_n (k := 0) rfl dX2_run_125 ?_
              refine G.geti (j := 5) hb.1 gci_X2 (by decide) rfl fl_X2_25 dX2_run_126 ?_
              rw [hI3.2.1.2.1.2]
              refine G.if_le (tgt := 144) (by decide) dX2_run_129 (fun c_129 => ?_) (fun c_129 => absurd (show (nI 0 : Int32) ≤ 0 by decide) c_129)
              refine G.aload_n (k := 0) rfl dX2_run_144 ?_
              refine G.aload_n (k := 0) rfl dX2_run_145 ?_
              refine G.geti (j := 8) hb.1 gci_X2 (by decide) rfl fl_X2_34 dX2_run_146 ?_
              rw [hI3.2.1.2.2.2.2.1]
              refine G.if_ne (tgt := 156) (by decide) dX2_run_149 (fun c_149 => absurd rfl c_149) (fun c_149 => ?_)
              refine G.iconst (v := (-1)) (by decide) dX2_run_152 ?_
              refine G.goto (tgt := 158) (by decide) dX2_run_153 ?_
              refine G.put (j := 9) hb.1 gci_X2 gcp_X2 (by decide) rfl rfl rfl rfl fl_X2_37 dX2_run_158 ?_
              have hI5 := sv_where (x := -1) hI3
              have hdec : nI p + (-1) = nI p - 1 := (Int32.sub_eq_add_neg _ _).symm
              rw [if_pos rfl] at hR
              refine G.inc4 (d := -1) (by decide) (by decide) rfl dX2_run_161 ?_
              rw [hdec]
              refine G.goto (tgt := 8) (by decide) dX2_run_164 ?_
              exact ih _ (V3, [], w3, W3, 0) f3 (-1) _ _ _ (by omega) rfl hG3 (fun _ => rfl) hf2 hR hI5
            · by_cases hp3 : P3 = []
              · subst hp3
                refine G.aload_n (k := 0) rfl dX2_run_125 ?_
                refine G.geti (j := 5) hb.1 gci_X2 (by decide) rfl fl_X2_25 dX2_run_126 ?_
                rw [hI3.2.1.2.1.2]
                refine G.if_le (tgt := 144) (by decide) dX2_run_129 (fun c_129 => ?_) (fun c_129 => absurd (show (nI 0 : Int32) ≤ 0 by decide) c_129)
                refine G.aload_n (k := 0) rfl dX2_run_144 ?_
                refine G.aload_n (k := 0) rfl dX2_run_145 ?_
                refine G.geti (j := 8) hb.1 gci_X2 (by decide) rfl fl_X2_34 dX2_run_146 ?_
                rw [hI3.2.1.2.2.2.2.1]
                refine G.if_ne (tgt := 156) (by decide) dX2_run_149 (fun c_149 => ?_) (fun c_149 => absurd c_149 (nI_ne0 (n := y3) (by omega) (by omega)))
                refine G.iload (i := 5) rfl dX2_run_156 ?_
                refine G.put (j := 9) hb.1 gci_X2 gcp_X2 (by decide) rfl rfl rfl rfl fl_X2_37 dX2_run_158 ?_
                have hI5 := sv_where (x := nI (es p)) hI3
                have hdec : nI p + (-1) = nI p - 1 := (Int32.sub_eq_add_neg _ _).symm
                rw [if_neg hy3] at hR
                refine G.inc4 (d := -1) (by decide) (by decide) rfl dX2_run_161 ?_
                rw [hdec]
                refine G.goto (tgt := 8) (by decide) dX2_run_164 ?_
                exact ih _ (V3, _, w3, W3, y3) f3 (nI (es p)) _ _ _ (by omega) rfl hG3 (fun e => absurd e hy3) hf2 hR hI5
              · have hpos : 0 < P3.length := List.length_pos_iff.mpr hp3
                refine G.aload_n (k := 0) rfl dX2_run_125 ?_
                refine G.geti (j := 5) hb.1 gci_X2 (by decide) rfl fl_X2_25 dX2_run_126 ?_
                rw [hI3.2.1.2.1.2]
                refine G.if_le (tgt := 144) (by decide) dX2_run_129 (fun c_129 => ?_) (fun c_129 => ?_)
                · refine G.aload_n (k := 0) rfl dX2_run_144 ?_
                  refine G.aload_n (k := 0) rfl dX2_run_145 ?_
                  refine G.geti (j := 8) hb.1 gci_X2 (by decide) rfl fl_X2_34 dX2_run_146 ?_
                  rw [hI3.2.1.2.2.2.2.1]
                  refine G.if_ne (tgt := 156) (by decide) dX2_run_149 (fun c_149 => ?_) (fun c_149 => absurd c_149 (nI_ne0 (n := y3) (by omega) (by omega)))
                  refine G.iload (i := 5) rfl dX2_run_156 ?_
                  refine G.put (j := 9) hb.1 gci_X2 gcp_X2 (by decide) rfl rfl rfl rfl fl_X2_37 dX2_run_158 ?_
                  have hI5 := sv_where (x := nI (es p)) hI3
                  have hdec : nI p + (-1) = nI p - 1 := (Int32.sub_eq_add_neg _ _).symm
                  rw [if_neg hy3] at hR
                  refine G.inc4 (d := -1) (by decide) (by decide) rfl dX2_run_161 ?_
                  rw [hdec]
                  refine G.goto (tgt := 8) (by decide) dX2_run_164 ?_
                  exact ih _ (V3, _, w3, W3, y3) f3 (nI (es p)) _ _ _ (by omega) rfl hG3 (fun e => absurd e hy3) hf2 hR hI5
                · refine G.aload_n (k := 0) rfl dX2_run_132 ?_
                  refine G.geti (j := 8) hb.1 gci_X2 (by decide) rfl fl_X2_34 dX2_run_133 ?_
                  rw [hI3.2.1.2.2.2.2.1]
                  refine G.if_ne (tgt := 144) (by decide) dX2_run_136 (fun c_136 => ?_) (fun c_136 => absurd c_136 (nI_ne0 (n := y3) (by omega) (by omega)))
                  refine G.aload_n (k := 0) rfl dX2_run_144 ?_
                  refine G.aload_n (k := 0) rfl dX2_run_145 ?_
                  refine G.geti (j := 8) hb.1 gci_X2 (by decide) rfl fl_X2_34 dX2_run_146 ?_
                  rw [hI3.2.1.2.2.2.2.1]
                  refine G.if_ne (tgt := 156) (by decide) dX2_run_149 (fun c_149 => ?_) (fun c_149 => absurd c_149 (nI_ne0 (n := y3) (by omega) (by omega)))
                  refine G.iload (i := 5) rfl dX2_run_156 ?_
                  refine G.put (j := 9) hb.1 gci_X2 gcp_X2 (by decide) rfl rfl rfl rfl fl_X2_37 dX2_run_158 ?_
                  have hI5 := sv_where (x := nI (es p)) hI3
                  have hdec : nI p + (-1) = nI p - 1 := (Int32.sub_eq_add_neg _ _).symm
                  rw [if_neg hy3] at hR
                  refine G.inc4 (d := -1) (by decide) (by decide) rfl dX2_run_161 ?_
                  rw [hdec]
                  refine G.goto (tgt := 8) (by decide) dX2_run_164 ?_
                  exact ih _ (V3, _, w3, W3, y3) f3 (nI (es p)) _ _ _ (by omega) rfl hG3 (fun e => absurd e hy3) hf2 hR hI5
        · have ht : ¬ thX σ0 (es p) = true := bo_0.mp c_48
          have hno : (wm.testBit (es p) && thX σ0 (es p)) = false := by simp at ht; rw [ht]; simp
          refine G.goto (tgt := 161) (by decide) dX2_run_51 ?_
          have hdec : nI p + (-1) = nI p - 1 := (Int32.sub_eq_add_neg _ _).symm
          rw [if_pos hno] at hR
          refine G.inc4 (d := -1) (by decide) (by decide) rfl dX2_run_161 ?_
          rw [hdec]
          refine G.goto (tgt := 8) (by decide) dX2_run_164 ?_
          exact ih _ _ _ _ _ _ _ (by omega) rfl hG hP hf hR hI
    · rw [if_pos hy] at hR
      have hskip : ∀ q, q ≤ p + 1 → useq rig B (fun e => wm.testBit e && thX σ0 e) (lst es q) (S, f, wh) = (S, f, wh) := by
        intro q
        induction q with
        | zero => intro _; rfl
        | succ q ihq => intro hq; rw [lst, useq, if_pos hy]; exact ihq (by omega)
      rw [hskip p (by omega)] at hR
      subst hR
      refine G.iload (i := 4) rfl dX2_run_8 ?_
      refine G.if_lt (tgt := 167) (by decide) dX2_run_10 (fun c_10 => absurd c_10 (nI_pos (by omega))) (fun c_10 => ?_)
      refine G.aload_n (k := 0) rfl dX2_run_13 ?_
      refine G.geti (j := 8) hb.1 gci_X2 (by decide) rfl fl_X2_34 dX2_run_14 ?_
      rw [hI.2.1.2.2.2.2.1]
      refine G.if_ne (tgt := 167) (by decide) dX2_run_17 (fun c_17 => ?_) (fun c_17 => absurd c_17 (nI_ne0 (n := S.2.2.2.2) (by omega) (by omega)))
      exact e_X2_run hb h3 hG hI
set_option maxHeartbeats 4000000 in
set_option maxRecDepth 100000 in
theorem c_X2_run {b wm : Nat} (hb : svA b) {ln B : Nat → Nat} {rig : Bool} {o : Int32} {es td : Nat → Nat} (h3 : tx3 σ ln B) (hth : thOK σ B ln) (hes : ∀ p, p < 4 → es p < 4) (ho : ∀ p, p < 4 → (o >>> ((4 * nI p) &&& 31)) &&& 3 = nI (es p)) (hwm : wm < 16) (htd : ∀ u, u < 6 → σ 11 u = nI (td u)) (htd6 : ∀ u, td u < 64) : GM (XC l D cA ad) mX2_run [.ref b, .int o, .int (nI wm), .int (rgI rig)] σ (g_rv (fun τ => RunP σ τ b B rig (useq rig B (fun e => wm.testBit e && thX σ e) (lst es 4) (((fun _ => none), [], (fun u => if rig = true then 0 else td u), [], 0), 600, -1)))) := by
  refine GM.of (ls := [some (.ref b), some (.int o), some (.int (nI wm)), some (.int (rgI rig)), none, none, none]) (by decide) (Nat.le_of_ble_eq_true rfl) rfl ?_
  refine G.aload_n (k := 0) rfl dX2_run_0 ?_
  refine G.iload_n (k := 3) rfl dX2_run_1 ?_
  refine G.callVv (c_X2_clear hb htd) hb.1 (gci_X2).1 ml_X2_51 im_yX2_clear se_yX2_clear gcl_X2_clear (by decide) rfl rfl (Nat.le_of_ble_eq_true rfl) dX2_run_2 (fun τ hI => ?_)
  refine G.iconst (v := 3) (by decide) dX2_run_5 ?_
  refine G.ist4 (by decide) rfl dX2_run_6 ?_
  exact l_X2_run hb h3 hth hes ho hwm 4 3 _ 600 (-1) τ _ _ (Nat.le_refl _) (by decide) ⟨VG_no B ln, rkd_no B, fun y hy => (by cases hy), fun u => (by show (if rig = true then 0 else td u) < 64; split; decide; exact htd6 u), fun y hy => (by cases hy), by show 0 < 8; decide⟩ (fun _ => rfl) (Nat.le_refl _) rfl hI
end T55

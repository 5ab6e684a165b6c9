/-! ===== lines: b the object, b + 1 the bytes, b + 2 what waits ===== -/
def lnA (b : Nat) : Prop := LX[b]? = some (.inr (0, [some (b + 1), none, none, some (b + 2), none])) ∧ LX[b + 1]? = some (.inl 60) ∧ LX[b + 2]? = some (.inl 62) ∧ 30 ≤ b
theorem lnA_30 : lnA 30 := ⟨rfl, rfl, rfl, by decide⟩
theorem lnA_33 : lnA 33 := ⟨rfl, rfl, rfl, by decide⟩
theorem lnA_36 : lnA 36 := ⟨rfl, rfl, rfl, by decide⟩
theorem lnA_39 : lnA 39 := ⟨rfl, rfl, rfl, by decide⟩
/-- the line holds these bytes -/
def LnH (σ : gS) (b : Nat) (L : List Nat) : Prop := σ b 1 = nI L.length ∧ L.length ≤ 60 ∧ ∀ i x, L[i]? = some x → σ (b + 1) i = nI x
/-- bytes alone are put: what else stays -/
def lnG (σ τ : gS) (b : Nat) : Prop := (∀ k, k ≠ b → k ≠ b + 1 → τ k = σ k) ∧ ∀ i, i ≠ 1 → τ b i = σ b i
theorem lnG_rf (σ : gS) (b : Nat) : lnG σ σ b := ⟨fun _ _ _ => rfl, fun _ _ => rfl⟩
theorem lnG_tr {σ τ υ : gS} {b : Nat} (h1 : lnG σ τ b) (h2 : lnG τ υ b) : lnG σ υ b := ⟨fun k a c => (h2.1 k a c).trans (h1.1 k a c), fun i h => (h2.2 i h).trans (h1.2 i h)⟩
theorem take_app (L M : List Nat) : ((L.take 60) ++ M).take 60 = (L ++ M).take 60 := by
  rw [List.take_append, List.take_append, List.take_take, Nat.min_self, List.length_take]
  congr 2
  omega
/-- what waits: the top first -/
def St (σ : gS) (b : Nat) : List (Nat × Nat) → Prop
  | [] => True
  | q :: s => σ (b + 2) s.length = nI (spot q) ∧ St σ b s
theorem St_congr {σ τ : gS} {b : Nat} : ∀ s : List (Nat × Nat), (∀ i, i < s.length → τ (b + 2) i = σ (b + 2) i) → St σ b s → St τ b s := by
  intro s
  induction s with
  | nil => intro _ _; trivial
  | cons q s ih => intro h h1; exact ⟨by rw [h _ (by simp)]; exact h1.1, ih (fun i hi => h i (by simp; omega)) h1.2⟩
/-- the bytes of what is shown -/
def shB (B : Nat → Nat) (q : Nat × Nat) : List Nat := if kd (B q.1) = 1 then [97 + tn_im q.2 (B q.1 - 97)] else if kd (B q.1) = 2 then tn_by q.2 6 ++ [B q.1] else if kd (B q.1) = 5 then [44] else if kd (B q.1) = 6 then [46, 97 + tn_im q.2 (B (q.1 + 1) - 97)] else [B q.1]
def shK (B : Nat → Nat) (q : Nat × Nat) : List (Nat × Nat) := if kd (B q.1) = 4 then [(q.1 + 1, q.2)] else if kd (B q.1) = 5 then [(q.1 + 1, q.2), (tE B (q.1 + 1), q.2)] else if kd (B q.1) = 6 then [(q.1 + 2, q.2)] else []
def ush (B : Nat → Nat) (V : uV) : Nat → List (Nat × Nat) → List Nat
  | 0, _ => []
  | _ + 1, [] => []
  | r + 1, q :: s => shB B (en B V 241 q) ++ ush B V r (shK B (en B V 241 q) ++ s)
section T41
variable {l : Launch} {D : va_G} {cA : ClassId} {ad : Nat → Nat}
variable {σ : gS}
set_option maxHeartbeats 4000000 in
set_option maxRecDepth 100000 in
theorem c_X0_forget {b : Nat} (hb : lnA b) : GM (XC l D cA ad) mX0_forget [.ref b] σ (g_rv (fun τ => τ = up2 σ b 2 (-1))) := by
  refine GM.of (ls := [some (.ref b)]) (by decide) (Nat.le_of_ble_eq_true rfl) rfl ?_
  refine G.aload_n (k := 0) rfl dX0_forget_0 ?_
  refine G.iconst (v := (-1)) (by decide) dX0_forget_1 ?_
  refine G.put (j := 2) hb.1 gci_X0 gcp_X0 (by decide) rfl rfl rfl rfl fl_X0_19 dX0_forget_2 ?_
  exact G.vret rfl (rfl) dX0_forget_5
set_option maxHeartbeats 4000000 in
set_option maxRecDepth 100000 in
theorem c_X0_isToShow {b : Nat} (hb : lnA b) {x : Int32} : GM (XC l D cA ad) mX0_isToShow [.ref b, .int x] σ (g_ri (fun r τ => (r, τ) = (if σ b 2 = x then (0, σ) else (1, up2 (up2 σ b 2 x) b 1 0)))) := by
  refine GM.of (ls := [some (.ref b), some (.int x)]) (by decide) (Nat.le_of_ble_eq_true rfl) rfl ?_
  refine G.aload_n (k := 0) rfl dX0_isToShow_0 ?_
  refine G.geti (j := 2) hb.1 gci_X0 (by decide) rfl fl_X0_19 dX0_isToShow_1 ?_
  refine G.iload_n (k := 1) rfl dX0_isToShow_4 ?_
  refine G.icmp_ne (tgt := 10) (by decide) dX0_isToShow_5 (fun c_5 => ?_) (fun c_5 => ?_)
  · have h := c_5
    refine G.aload_n (k := 0) rfl dX0_isToShow_10 ?_
    refine G.iload_n (k := 1) rfl dX0_isToShow_11 ?_
    refine G.put (j := 2) hb.1 gci_X0 gcp_X0 (by decide) rfl rfl rfl rfl fl_X0_19 dX0_isToShow_12 ?_
    refine G.aload_n (k := 0) rfl dX0_isToShow_15 ?_
    refine G.iconst (v := 0) (by decide) dX0_isToShow_16 ?_
    refine G.put (j := 1) hb.1 gci_X0 gcp_X0 (by decide) rfl rfl rfl rfl fl_X0_15 dX0_isToShow_17 ?_
    refine G.iconst (v := 1) (by decide) dX0_isToShow_20 ?_
    exact G.zret rfl (by decide) (by rw [if_neg h]) dX0_isToShow_21
  · have h := c_5
    refine G.iconst (v := 0) (by decide) dX0_isToShow_8 ?_
    exact G.zret rfl (by decide) (by rw [if_pos h]) dX0_isToShow_9
def lnT (L : List Nat) (i : Int32) : Int32 := if i = -1 then nI L.length else if inB i L.length = true then nI (L.getD (ix i) 0) else -1
set_option maxHeartbeats 4000000 in
set_option maxRecDepth 100000 in
theorem c_X0_tell {b : Nat} (hb : lnA b) {i : Int32} {L : List Nat} (hL : LnH σ b L) : GM (XC l D cA ad) mX0_tell [.ref b, .int i] σ (g_ri (fun r τ => r = lnT L i ∧ τ = σ)) := by
  refine GM.of (ls := [some (.ref b), some (.int i)]) (by decide) (Nat.le_of_ble_eq_true rfl) rfl ?_
  refine G.iload_n (k := 1) rfl dX0_tell_0 ?_
  refine G.iconst (v := (-1)) (by decide) dX0_tell_1 ?_
  refine G.icmp_ne (tgt := 10) (by decide) dX0_tell_2 (fun c_2 => ?_) (fun c_2 => ?_)
  · have h1 : ¬ i = -1 := c_2
    refine G.iload_n (k := 1) rfl dX0_tell_10 ?_
    refine G.aload_n (k := 0) rfl dX0_tell_11 ?_
    refine G.geti (j := 1) hb.1 gci_X0 (by decide) rfl fl_X0_15 dX0_tell_12 ?_
    rw [hL.1]
    refine G.bipush (v := 60) (by decide) dX0_tell_15 ?_
    refine G.callSif (c_J9_min_7cf53) ml_X0_28 ws_yJ9_min_7cf53 gcl_J9_min_7cf53 (by decide) rfl rfl (Nat.le_of_ble_eq_true rfl) dX0_tell_17 ?_
    have hle := hL.2.1
    rw [show (if (60 : Int32) < nI L.length then 60 else nI L.length) = nI L.length from if_neg (nI_nlt (a := 60) (b := L.length) (by omega) (by decide))]
    refine G.callSNif (c_X6_isOutside) (fun _ h => h.2.2.2.1) ws_yX6_isOutside gcl_X6_isOutside (by decide) rfl rfl (Nat.le_of_ble_eq_true rfl) dX0_tell_20 ?_
    refine G.if_eq (tgt := 30) (by decide) dX0_tell_23 (fun c_23 => ?_) (fun c_23 => ?_)
    · have h2 := ou_f L.length (by omega) c_23
      obtain ⟨j, hj, ej⟩ := inB_of (by omega) h2
      subst ej
      have xj : ix (nI j) = j := ix_nI (by omega)
      have hg : L[j]? = some (L.getD j 0) := by rw [List.getD_eq_getElem?_getD, List.getElem?_eq_getElem hj]; rfl
      refine G.aload_n (k := 0) rfl dX0_tell_30 ?_
      refine G.getr (j := 0) hb.1 gci_X0 (by decide) rfl fl_X0_9 dX0_tell_31 ?_
      refine G.iload_n (k := 1) rfl dX0_tell_34 ?_
      refine G.ialdN (k := j) hb.2.1 rfl (by omega) (by decide) dX0_tell_35 ?_
      rw [hL.2.2 j _ hg]
      have hr : nI (L.getD j 0) = lnT L (nI j) := by rw [lnT, if_neg h1, if_pos h2, xj]
      exact G.iret rfl ⟨hr, rfl⟩ dX0_tell_36
    · have h2 := ou_t L.length (by omega) c_23
      have hr : (-1 : Int32) = lnT L i := by rw [lnT, if_neg h1, if_neg (by rw [h2]; decide)]
      refine G.iconst (v := (-1)) (by decide) dX0_tell_26 ?_
      refine G.goto (tgt := 36) (by decide) dX0_tell_27 ?_
      exact G.iret rfl ⟨hr, rfl⟩ dX0_tell_36
  · have h1 : i = -1 := c_2
    refine G.aload_n (k := 0) rfl dX0_tell_5 ?_
    refine G.geti (j := 1) hb.1 gci_X0 (by decide) rfl fl_X0_15 dX0_tell_6 ?_
    rw [hL.1]
    exact G.iret rfl (⟨by rw [lnT, if_pos h1], rfl⟩) dX0_tell_9
set_option maxHeartbeats 4000000 in
set_option maxRecDepth 100000 in
theorem c_X0_putByte {b : Nat} (hb : lnA b) {x : Nat} {L : List Nat} (hL : LnH σ b L) : GM (XC l D cA ad) mX0_putByte [.ref b, .int (nI x)] σ (g_rv (fun τ => LnH τ b ((L ++ [x]).take 60) ∧ lnG σ τ b)) := by
  refine GM.of (ls := [some (.ref b), some (.int (nI x))]) (by decide) (Nat.le_of_ble_eq_true rfl) rfl ?_
  have hle := hL.2.1
  have hb30 := hb.2.2.2
  refine G.aload_n (k := 0) rfl dX0_putByte_0 ?_
  refine G.geti (j := 1) hb.1 gci_X0 (by decide) rfl fl_X0_15 dX0_putByte_1 ?_
  rw [hL.1]
  refine G.bipush (v := 60) (by decide) dX0_putByte_4 ?_
  refine G.icmp_ge (tgt := 29) (by decide) dX0_putByte_6 (fun c_6 => ?_) (fun c_6 => ?_)
  · have hge : 60 ≤ L.length := by
      rcases Nat.lt_or_ge L.length 60 with q | q
      · exact absurd c_6 (nI_ge (b := 60) q (by decide))
      · exact q
    have hfin : LnH σ b ((L ++ [x]).take 60) ∧ lnG σ σ b := by
      rw [List.take_append_of_le_length (by omega), List.take_of_length_le (by omega)]
      exact ⟨hL, lnG_rf σ b⟩
    exact G.vret rfl (hfin) dX0_putByte_29
  · have hlt : L.length < 60 := by
      rcases Nat.lt_or_ge L.length 60 with q | q
      · exact q
      · exact absurd (nI_le (a := 60) q (by omega)) c_6
    refine G.aload_n (k := 0) rfl dX0_putByte_9 ?_
    refine G.getr (j := 0) hb.1 gci_X0 (by decide) rfl fl_X0_9 dX0_putByte_10 ?_
    refine G.aload_n (k := 0) rfl dX0_putByte_13 ?_
    refine G.geti (j := 1) hb.1 gci_X0 (by decide) rfl fl_X0_15 dX0_putByte_14 ?_
    rw [hL.1]
    refine G.iload_n (k := 1) rfl dX0_putByte_17 ?_
    refine G.iastN (k := L.length) hb.2.1 rfl (by omega) (by decide) dX0_putByte_18 ?_
    refine G.aload_n (k := 0) rfl dX0_putByte_19 ?_
    refine G.dupr dX0_putByte_20 ?_
    refine G.geti (j := 1) hb.1 gci_X0 (by decide) rfl fl_X0_15 dX0_putByte_21 ?_
    rw [up2_ne σ _ _ (show b ≠ b + 1 by omega), hL.1]
    refine G.iconst (v := 1) (by decide) dX0_putByte_24 ?_
    refine G.iadd dX0_putByte_25 ?_
    rw [nI_1]
    refine G.put (j := 1) hb.1 gci_X0 gcp_X0 (by decide) rfl rfl rfl rfl fl_X0_15 dX0_putByte_26 ?_
    have hfin : LnH (up2 (up2 σ (b + 1) L.length (nI x)) b 1 (nI (L.length + 1))) b ((L ++ [x]).take 60) ∧ lnG σ (up2 (up2 σ (b + 1) L.length (nI x)) b 1 (nI (L.length + 1))) b := by
      rw [List.take_of_length_le (by simp; omega)]
      refine ⟨⟨by rw [up2_at]; simp, by simp; omega, fun i y hi => ?_⟩, fun k h1 h2 => ?_, fun i hi => ?_⟩
      · rw [up2_ne _ _ _ (show b + 1 ≠ b by omega), up2_same]
        unfold upd
        by_cases e : i = L.length
        · subst e
          rw [List.getElem?_append_right (Nat.le_refl _)] at hi
          simp at hi
          rw [if_pos rfl, hi]
        · rw [if_neg e]
          by_cases h3 : i < L.length
          · rw [List.getElem?_append_left h3] at hi
            exact hL.2.2 i y hi
          · rw [List.getElem?_eq_none (by simp; omega)] at hi
            cases hi
      · rw [up2_ne _ _ _ h1, up2_ne _ _ _ h2]
      · rw [up2_same]
        unfold upd
        rw [if_neg hi, up2_ne _ _ _ (show b ≠ b + 1 by omega)]
    exact G.vret rfl (hfin) dX0_putByte_29
set_option maxHeartbeats 4000000 in
set_option maxRecDepth 100000 in
theorem l_X0_putTurn {b c : Nat} {x : Int32} {L : List Nat} (hb : lnA b) (hc : tn_P c) : ∀ j n z (τ : gS), n + j = 6 → LnH τ b ((L ++ tn_by c n).take 60) → lnG σ τ b → G (XC l D cA ad) mX0_putTurn (g_rv (fun τ => LnH τ b ((L ++ tn_by c 6).take 60) ∧ lnG σ τ b)) 4 [some (.ref b), some (.int x), some (.int (nI (tn_st c n))), some (.int (nI n)), z] [] τ := by
  intro j
  induction j with
  | zero =>
    intro n z τ hn h1 h2
    have hn : n = 6 := by omega
    subst hn
    refine G.iload_n (k := 3) rfl dX0_putTurn_4 ?_
    refine G.bipush (v := 6) (by decide) dX0_putTurn_5 ?_
    refine G.icmp_ge (tgt := 60) (by decide) dX0_putTurn_7 (fun c_7 => ?_) (fun c_7 => absurd (by decide) c_7)
    exact G.vret rfl (⟨h1, h2⟩) dX0_putTurn_60
  | succ j ih =>
    intro n z τ hn h1 h2
    have hn6 : n < 6 := by omega
    have hP := tn_P_st hc n (by omega)
    have hm8 := tn_im8 (tn_st c n) n
    refine G.iload_n (k := 3) rfl dX0_putTurn_4 ?_
    refine G.bipush (v := 6) (by decide) dX0_putTurn_5 ?_
    refine G.icmp_ge (tgt := 60) (by decide) dX0_putTurn_7 (fun c_7 => absurd c_7 (nI_ge (b := 6) (by omega) (by decide))) (fun c_7 => ?_)
    refine G.iload_n (k := 2) rfl dX0_putTurn_10 ?_
    refine G.iload_n (k := 3) rfl dX0_putTurn_11 ?_
    refine G.callSif (c_X5_image hP.1 hn6) ml_X0_38 ws_yX5_image gcl_X5_image (by decide) rfl rfl (Nat.le_of_ble_eq_true rfl) dX0_putTurn_12 ?_
    refine G.ist4 (by decide) rfl dX0_putTurn_15 ?_
    refine G.iload (i := 4) rfl dX0_putTurn_17 ?_
    refine G.iload_n (k := 3) rfl dX0_putTurn_19 ?_
    refine G.icmp_eq (tgt := 54) (by decide) dX0_putTurn_20 (fun c_20 => ?_) (fun c_20 => ?_)
    · have he : tn_im (tn_st c n) n = n := (nI_eq (by omega) (by omega)).mp c_20
      have e1 : tn_st c (n + 1) = tn_st c n := if_pos he
      have e2 : tn_by c (n + 1) = tn_by c n := if_pos he
      rw [← e1]
      have hgo : LnH τ b ((L ++ tn_by c (n + 1)).take 60) ∧ lnG σ τ b := by rw [e2]; exact ⟨h1, h2⟩
      refine G.inc3 (d := 1) (by decide) (by decide) rfl dX0_putTurn_54 ?_
      refine G.goto (tgt := 4) (by decide) dX0_putTurn_57 ?_
      rw [nI_1]
      exact ih (n + 1) _ _ (by omega) hgo.1 hgo.2
    · have he : ¬ tn_im (tn_st c n) n = n := fun e => c_20 (by rw [e])
      have e1 : tn_st c (n + 1) = tn_cmp (tn_sw n (tn_im (tn_st c n) n)) (tn_st c n) := if_neg he
      have e2 : tn_by c (n + 1) = tn_by c n ++ [33, 97 + n, 97 + tn_im (tn_st c n) n] := if_neg he
      refine G.aload_n (k := 0) rfl dX0_putTurn_23 ?_
      refine G.bipush (v := 33) (by decide) dX0_putTurn_24 ?_
      refine G.callVv (c_X0_putByte hb (x := 33) h1) hb.1 (gci_X0).1 ml_X0_43 im_yX0_putByte se_yX0_putByte gcl_X0_putByte (by decide) rfl rfl (Nat.le_of_ble_eq_true rfl) dX0_putTurn_26 (fun τ1 hq1 => ?_)
      refine G.aload_n (k := 0) rfl dX0_putTurn_29 ?_
      refine G.bipush (v := 97) (by decide) dX0_putTurn_30 ?_
      refine G.iload_n (k := 3) rfl dX0_putTurn_32 ?_
      refine G.iadd dX0_putTurn_33 ?_
      rw [show (97 : Int32) + nI n = nI (97 + n) from nI_add 97 n]
      refine G.callVv (c_X0_putByte hb hq1.1) hb.1 (gci_X0).1 ml_X0_43 im_yX0_putByte se_yX0_putByte gcl_X0_putByte (by decide) rfl rfl (Nat.le_of_ble_eq_true rfl) dX0_putTurn_34 (fun τ2 hq2 => ?_)
      refine G.aload_n (k := 0) rfl dX0_putTurn_37 ?_
      refine G.bipush (v := 97) (by decide) dX0_putTurn_38 ?_
      refine G.iload (i := 4) rfl dX0_putTurn_40 ?_
      refine G.iadd dX0_putTurn_42 ?_
      rw [show (97 : Int32) + nI (tn_im (tn_st c n) n) = nI (97 + tn_im (tn_st c n) n) from nI_add 97 _]
      refine G.callVv (c_X0_putByte hb hq2.1) hb.1 (gci_X0).1 ml_X0_43 im_yX0_putByte se_yX0_putByte gcl_X0_putByte (by decide) rfl rfl (Nat.le_of_ble_eq_true rfl) dX0_putTurn_43 (fun τ3 hq3 => ?_)
      refine G.iload_n (k := 2) rfl dX0_putTurn_46 ?_
      refine G.iload_n (k := 3) rfl dX0_putTurn_47 ?_
      refine G.iload (i := 4) rfl dX0_putTurn_48 ?_
      refine G.callSif (c_X5_swapLast hP hn6 (hP.2.1 n hn6)) ml_X0_47 ws_yX5_swapLast gcl_X5_swapLast (by decide) rfl rfl (Nat.le_of_ble_eq_true rfl) dX0_putTurn_50 ?_
      rw [← e1]
      have hgo : LnH τ3 b ((L ++ tn_by c (n + 1)).take 60) ∧ lnG σ τ3 b := by
        refine ⟨?_, lnG_tr h2 (lnG_tr hq1.2 (lnG_tr hq2.2 hq3.2))⟩
        have := hq3.1
        simp only [take_app, List.append_assoc] at this
        rw [e2]
        simpa [List.append_assoc] using this
      refine G.ist2 (by decide) rfl dX0_putTurn_53 ?_
      refine G.inc3 (d := 1) (by decide) (by decide) rfl dX0_putTurn_54 ?_
      refine G.goto (tgt := 4) (by decide) dX0_putTurn_57 ?_
      rw [nI_1]
      exact ih (n + 1) _ _ (by omega) hgo.1 hgo.2
set_option maxHeartbeats 4000000 in
set_option maxRecDepth 100000 in
theorem c_X0_putTurn {b : Nat} (hb : lnA b) {c : Nat} (hc : tn_P c) {L : List Nat} (hL : LnH σ b L) : GM (XC l D cA ad) mX0_putTurn [.ref b, .int (nI c)] σ (g_rv (fun τ => LnH τ b ((L ++ tn_by c 6).take 60) ∧ lnG σ τ b)) := by
  refine GM.of (ls := [some (.ref b), some (.int (nI c)), none, none, none]) (by decide) (Nat.le_of_ble_eq_true rfl) rfl ?_
  refine G.iload_n (k := 1) rfl dX0_putTurn_0 ?_
  refine G.ist2 (by decide) rfl dX0_putTurn_1 ?_
  refine G.iconst (v := 0) (by decide) dX0_putTurn_2 ?_
  refine G.ist3 (by decide) rfl dX0_putTurn_3 ?_
  exact l_X0_putTurn hb hc 6 0 _ _ rfl (by rw [show tn_by c 0 = [] from rfl, List.append_nil, List.take_of_length_le hL.2.1]; exact hL) (lnG_rf σ b)
set_option maxHeartbeats 4000000 in
set_option maxRecDepth 100000 in
theorem c_X0_await {b : Nat} (hb : lnA b) {n : Nat} {x : Int32} (hn : σ b 4 = nI n) (h62 : n < 62) : GM (XC l D cA ad) mX0_await [.ref b, .int x] σ (g_rv (fun τ => τ = up2 (up2 σ (b + 2) n x) b 4 (nI (n + 1)))) := by
  refine GM.of (ls := [some (.ref b), some (.int x)]) (by decide) (Nat.le_of_ble_eq_true rfl) rfl ?_
  have hb30 := hb.2.2.2
  refine G.aload_n (k := 0) rfl dX0_await_0 ?_
  refine G.geti (j := 4) hb.1 gci_X0 (by decide) rfl fl_X0_25 dX0_await_1 ?_
  rw [hn]
  refine G.aload_n (k := 0) rfl dX0_await_4 ?_
  refine G.getr (j := 3) hb.1 gci_X0 (by decide) rfl fl_X0_22 dX0_await_5 ?_
  refine G.alen (v := 62) hb.2.2.1 (by decide) dX0_await_8 ?_
  refine G.icmp_ge (tgt := 32) (by decide) dX0_await_9 (fun c_9 => absurd c_9 (nI_ge (b := 62) h62 (by decide))) (fun c_9 => ?_)
  refine G.aload_n (k := 0) rfl dX0_await_12 ?_
  refine G.getr (j := 3) hb.1 gci_X0 (by decide) rfl fl_X0_22 dX0_await_13 ?_
  refine G.aload_n (k := 0) rfl dX0_await_16 ?_
  refine G.geti (j := 4) hb.1 gci_X0 (by decide) rfl fl_X0_25 dX0_await_17 ?_
  rw [hn]
  refine G.iload_n (k := 1) rfl dX0_await_20 ?_
  refine G.iastN (k := n) hb.2.2.1 rfl h62 (by decide) dX0_await_21 ?_
  refine G.aload_n (k := 0) rfl dX0_await_22 ?_
  refine G.dupr dX0_await_23 ?_
  refine G.geti (j := 4) hb.1 gci_X0 (by decide) rfl fl_X0_25 dX0_await_24 ?_
  rw [up2_ne σ _ _ (show b ≠ b + 2 by omega), hn]
  refine G.iconst (v := 1) (by decide) dX0_await_27 ?_
  refine G.iadd dX0_await_28 ?_
  rw [nI_1]
  refine G.put (j := 4) hb.1 gci_X0 gcp_X0 (by decide) rfl rfl rfl rfl fl_X0_25 dX0_await_29 ?_
  exact G.vret rfl (rfl) dX0_await_32
/-- what showing may change -/
def lnF (σ τ : gS) (b : Nat) : Prop := (∀ k, k ≠ b → k ≠ b + 1 → k ≠ b + 2 → τ k = σ k) ∧ ∀ i, i ≠ 1 → i ≠ 4 → τ b i = σ b i
theorem lnF_rf (σ : gS) (b : Nat) : lnF σ σ b := ⟨fun _ _ _ _ => rfl, fun _ _ _ => rfl⟩
theorem lnF_tr {σ τ υ : gS} {b : Nat} (h1 : lnF σ τ b) (h2 : lnF τ υ b) : lnF σ υ b := ⟨fun k a c d => (h2.1 k a c d).trans (h1.1 k a c d), fun i h q => (h2.2 i h q).trans (h1.2 i h q)⟩
theorem lnG_F {σ τ : gS} {b : Nat} (h : lnG σ τ b) : lnF σ τ b := ⟨fun k a c _ => h.1 k a c, fun i h1 _ => h.2 i h1⟩
/-- one more waits -/
abbrev aw (σ : gS) (b n : Nat) (x : Int32) : gS := up2 (up2 σ (b + 2) n x) b 4 (nI (n + 1))
theorem aw_F (σ : gS) {b : Nat} (n : Nat) (x : Int32) : lnF σ (aw σ b n x) b := ⟨fun k a c d => by unfold aw; rw [up2_ne _ _ _ a, up2_ne _ _ _ d], fun i h1 h4 => by unfold aw; rw [up2_same]; unfold upd; rw [if_neg h4, up2_ne _ _ _ (show b ≠ b + 2 by omega)]⟩
theorem aw_L {σ : gS} {b n : Nat} {x : Int32} {L : List Nat} (h : LnH σ b L) : LnH (aw σ b n x) b L := by
  have e : aw σ b n x (b + 1) = σ (b + 1) := by unfold aw; rw [up2_ne _ _ _ (show b + 1 ≠ b by omega), up2_ne _ _ _ (show b + 1 ≠ b + 2 by omega)]
  refine ⟨?_, h.2.1, fun i y hi => by rw [e]; exact h.2.2 i y hi⟩
  unfold aw
  rw [up2_same]
  unfold upd
  rw [if_neg (by decide), up2_ne _ _ _ (show b ≠ b + 2 by omega)]
  exact h.1
theorem aw_S {σ : gS} {b : Nat} {q : Nat × Nat} {s : List (Nat × Nat)} (h : St σ b s) : St (aw σ b s.length (nI (spot q))) b (q :: s) ∧ aw σ b s.length (nI (spot q)) b 4 = nI (q :: s).length := by
  have e : aw σ b s.length (nI (spot q)) (b + 2) = upd (σ (b + 2)) s.length (nI (spot q)) := by unfold aw; rw [up2_ne _ _ _ (show b + 2 ≠ b by omega), up2_same]
  refine ⟨⟨by rw [e]; exact if_pos rfl, St_congr s (fun i hi => ?_) h⟩, up2_at _ _ _ _⟩
  rw [e]
  exact if_neg (by omega)
theorem lnG_S {σ τ : gS} {b : Nat} {s : List (Nat × Nat)} (h : lnG σ τ b) (hs : St σ b s ∧ σ b 4 = nI s.length) : St τ b s ∧ τ b 4 = nI s.length := ⟨St_congr s (fun i _ => by rw [h.1 (b + 2) (by omega) (by omega)]) hs.1, by rw [h.2 4 (by decide)]; exact hs.2⟩
theorem lnF_tx {σ τ : gS} {b : Nat} (hb : 30 ≤ b) (h : lnF σ τ b) : txF σ τ := fun k h1 h2 => h.1 k (by omega) (by omega) (by omega)
set_option maxHeartbeats 4000000 in
set_option maxRecDepth 100000 in
theorem c_X0_putTop {b : Nat} (hb : lnA b) {ln B : Nat → Nat} {q : Nat × Nat} {s : List (Nat × Nat)} {L : List Nat} (h3 : tx3 σ ln B) (hn : nd B ln q.1) (hP : tn_P q.2) (h7 : ¬ kd (B q.1) = 7) (hL : LnH σ b L) (hs : St σ b s ∧ σ b 4 = nI s.length) (h60 : s.length ≤ 60) : GM (XC l D cA ad) mX0_putTop [.ref b, .ref 1, .int (nI (spot q))] σ (g_rv (fun τ => LnH τ b ((L ++ shB B q).take 60) ∧ (St τ b (shK B q ++ s) ∧ τ b 4 = nI (shK B q ++ s).length) ∧ lnF σ τ b)) := by
  refine GM.of (ls := [some (.ref b), some (.ref 1), some (.int (nI (spot q))), none, none]) (by decide) (Nat.le_of_ble_eq_true rfl) rfl ?_
  have hlt := nd_lt hn
  have hkd := nd_kd hn
  have hb30 := hb.2.2.2
  obtain ⟨t0, M0, t1, t2⟩ := h3 q.1 hn
  refine G.iload_n (k := 2) rfl dX0_putTop_0 ?_
  refine G.callSif (c_X3_node (by omega) hP.1) ml_X0_64 ws_yX3_node gcl_X3_node (by decide) rfl rfl (Nat.le_of_ble_eq_true rfl) dX0_putTop_1 ?_
  refine G.ist3 (by decide) rfl dX0_putTop_4 ?_
  refine G.iload_n (k := 2) rfl dX0_putTop_5 ?_
  refine G.callSif (c_X3_by (n := q.1) hP.1) ml_X0_70 ws_yX3_by gcl_X3_by (by decide) rfl rfl (Nat.le_of_ble_eq_true rfl) dX0_putTop_6 ?_
  refine G.ist4 (by decide) rfl dX0_putTop_9 ?_
  refine G.aload_n (k := 1) rfl dX0_putTop_11 ?_
  refine G.iload_n (k := 3) rfl dX0_putTop_12 ?_
  refine G.callVif (c_X4_kindAt hlt) rfl (gci_X4).1 ml_X0_73 im_yX4_kindAt se_yX4_kindAt gcl_X4_kindAt (by decide) rfl rfl (Nat.le_of_ble_eq_true rfl) dX0_putTop_13 ?_
  rw [t0.2.2]
  have hI : (nI (kd (B q.1))).toInt = (kd (B q.1) : Int) := nI_toInt (by omega)
  by_cases hc : kd (B q.1) = 1
  · have g1 := kd1_ge hc
    refine G.tableIn (tgt := 56) dX0_putTop_16 (by rw [hI, hc]; decide) (by rw [hI, hc]; decide) (by rw [hI, hc]; rfl) (by decide) ?_
    refine G.aload_n (k := 0) rfl dX0_putTop_56 ?_
    refine G.bipush (v := 97) (by decide) dX0_putTop_57 ?_
    refine G.iload (i := 4) rfl dX0_putTop_59 ?_
    refine G.aload_n (k := 1) rfl dX0_putTop_61 ?_
    refine G.iload_n (k := 3) rfl dX0_putTop_62 ?_
    refine G.callVif (c_X4_nameAt (B := B) hlt t0) rfl (gci_X4).1 ml_X0_76 im_yX4_nameAt se_yX4_nameAt gcl_X4_nameAt (by decide) rfl rfl (Nat.le_of_ble_eq_true rfl) dX0_putTop_63 ?_
    rw [nmv_1 hc]
    refine G.callSif (c_X5_image hP.1 (show B q.1 - 97 < 6 by omega)) ml_X0_38 ws_yX5_image gcl_X5_image (by decide) rfl rfl (Nat.le_of_ble_eq_true rfl) dX0_putTop_66 ?_
    refine G.iadd dX0_putTop_69 ?_
    rw [show (97 : Int32) + nI (tn_im q.2 (B q.1 - 97)) = nI (97 + tn_im q.2 (B q.1 - 97)) from nI_add 97 _]
    refine G.callVv (c_X0_putByte hb hL) hb.1 (gci_X0).1 ml_X0_43 im_yX0_putByte se_yX0_putByte gcl_X0_putByte (by decide) rfl rfl (Nat.le_of_ble_eq_true rfl) dX0_putTop_70 (fun τ hq => ?_)
    refine G.goto (tgt := 188) (by decide) dX0_putTop_73 ?_
    exact G.vret rfl (⟨by rw [shB, if_pos hc]; exact hq.1, by rw [shK, if_neg (by omega), if_neg (by omega), if_neg (by omega)]; exact lnG_S hq.2 hs, lnG_F hq.2⟩) dX0_putTop_188
  by_cases hc : kd (B q.1) = 2
  · refine G.tableIn (tgt := 76) dX0_putTop_16 (by rw [hI, hc]; decide) (by rw [hI, hc]; decide) (by rw [hI, hc]; rfl) (by decide) ?_
    refine G.aload_n (k := 0) rfl dX0_putTop_76 ?_
    refine G.iload (i := 4) rfl dX0_putTop_77 ?_
    refine G.callVv (c_X0_putTurn hb hP hL) hb.1 (gci_X0).1 ml_X0_79 im_yX0_putTurn se_yX0_putTurn gcl_X0_putTurn (by decide) rfl rfl (Nat.le_of_ble_eq_true rfl) dX0_putTop_79 (fun τ hq => ?_)
    refine G.aload_n (k := 0) rfl dX0_putTop_82 ?_
    refine G.aload_n (k := 1) rfl dX0_putTop_83 ?_
    refine G.iload_n (k := 3) rfl dX0_putTop_84 ?_
    refine G.callVif (c_X4_byteAt hlt) rfl (gci_X4).1 ml_X0_82 im_yX4_byteAt se_yX4_byteAt gcl_X4_byteAt (by decide) rfl rfl (Nat.le_of_ble_eq_true rfl) dX0_putTop_85 ?_
    rw [hq.2.1 2 (by omega) (by omega), t0.2.1]
    refine G.callVv (c_X0_putByte hb hq.1) hb.1 (gci_X0).1 ml_X0_43 im_yX0_putByte se_yX0_putByte gcl_X0_putByte (by decide) rfl rfl (Nat.le_of_ble_eq_true rfl) dX0_putTop_88 (fun τ2 hq2 => ?_)
    refine G.goto (tgt := 188) (by decide) dX0_putTop_91 ?_
    exact G.vret rfl (⟨by rw [shB, if_neg (by omega), if_pos hc, ← List.append_assoc, ← take_app]; exact hq2.1, by rw [shK, if_neg (by omega), if_neg (by omega), if_neg (by omega)]; exact lnG_S hq2.2 (lnG_S hq.2 hs), lnG_F (lnG_tr hq.2 hq2.2)⟩) dX0_putTop_188
  by_cases hc : kd (B q.1) = 5
  · refine G.tableIn (tgt := 94) dX0_putTop_16 (by rw [hI, hc]; decide) (by rw [hI, hc]; decide) (by rw [hI, hc]; rfl) (by decide) ?_
    refine G.aload_n (k := 0) rfl dX0_putTop_94 ?_
    refine G.bipush (v := 44) (by decide) dX0_putTop_95 ?_
    refine G.callVv (c_X0_putByte hb (x := 44) hL) hb.1 (gci_X0).1 ml_X0_43 im_yX0_putByte se_yX0_putByte gcl_X0_putByte (by decide) rfl rfl (Nat.le_of_ble_eq_true rfl) dX0_putTop_97 (fun τ hq => ?_)
    refine G.aload_n (k := 0) rfl dX0_putTop_100 ?_
    refine G.aload_n (k := 1) rfl dX0_putTop_101 ?_
    refine G.iload_n (k := 2) rfl dX0_putTop_102 ?_
    obtain ⟨n1, n2, eE, d1, d2⟩ := nd_5 hn hc
    have hE1 := nd_E n1
    have l1 := nd_lt n1
    have M1 := (h3 _ n1).2.1
    have S1 := lnG_S hq.2 hs
    refine G.callVif (c_X4_secondOf (e := tE B (q.1 + 1)) (by omega) (by rw [hq.2.1 6 (by omega) (by omega)]; exact M1.1) (by omega) hP.1) rfl (gci_X4).1 ml_X0_85 im_yX4_secondOf se_yX4_secondOf gcl_X4_secondOf (by decide) rfl rfl (Nat.le_of_ble_eq_true rfl) dX0_putTop_103 ?_
    refine G.callVvf (c_X0_await hb (n := s.length) S1.2 (by omega)) hb.1 (gci_X0).1 ml_X0_51 im_yX0_await se_yX0_await gcl_X0_await (by decide) rfl rfl (Nat.le_of_ble_eq_true rfl) dX0_putTop_106 ?_
    have S2 := aw_S (q := (tE B (q.1 + 1), q.2)) S1.1
    refine G.aload_n (k := 0) rfl dX0_putTop_109 ?_
    refine G.iload_n (k := 2) rfl dX0_putTop_110 ?_
    refine G.iconst (v := 1) (by decide) dX0_putTop_111 ?_
    refine G.callSif (c_X3_further (n := q.1) (c := q.2) (b := 1)) ml_X0_88 ws_yX3_further gcl_X3_further (by decide) rfl rfl (Nat.le_of_ble_eq_true rfl) dX0_putTop_112 ?_
    refine G.callVvf (c_X0_await hb (n := s.length + 1) S2.2 (by omega)) hb.1 (gci_X0).1 ml_X0_51 im_yX0_await se_yX0_await gcl_X0_await (by decide) rfl rfl (Nat.le_of_ble_eq_true rfl) dX0_putTop_115 ?_
    have S3 := aw_S (q := (q.1 + 1, q.2)) S2.1
    refine G.goto (tgt := 188) (by decide) dX0_putTop_118 ?_
    exact G.vret rfl (⟨by rw [shB, if_neg (by omega), if_neg (by omega), if_pos hc]; exact aw_L (aw_L hq.1), by rw [shK, if_neg (by omega), if_pos hc]; exact S3, lnF_tr (lnG_F hq.2) (lnF_tr (aw_F _ _ _) (aw_F _ _ _))⟩) dX0_putTop_188
  by_cases hc : kd (B q.1) = 6
  · refine G.tableIn (tgt := 121) dX0_putTop_16 (by rw [hI, hc]; decide) (by rw [hI, hc]; decide) (by rw [hI, hc]; rfl) (by decide) ?_
    refine G.aload_n (k := 0) rfl dX0_putTop_121 ?_
    refine G.bipush (v := 46) (by decide) dX0_putTop_122 ?_
    refine G.callVv (c_X0_putByte hb (x := 46) hL) hb.1 (gci_X0).1 ml_X0_43 im_yX0_putByte se_yX0_putByte gcl_X0_putByte (by decide) rfl rfl (Nat.le_of_ble_eq_true rfl) dX0_putTop_124 (fun τ hq => ?_)
    refine G.aload_n (k := 0) rfl dX0_putTop_127 ?_
    refine G.bipush (v := 97) (by decide) dX0_putTop_128 ?_
    refine G.iload (i := 4) rfl dX0_putTop_130 ?_
    refine G.aload_n (k := 1) rfl dX0_putTop_132 ?_
    refine G.iload_n (k := 3) rfl dX0_putTop_133 ?_
    refine G.iconst (v := 1) (by decide) dX0_putTop_134 ?_
    obtain ⟨k1, n1, eE, d1⟩ := nd_6 hn hc
    have l1 := nd_lt n1
    have g1 := kd1_ge k1
    have T1 := t1 (Or.inl hc)
    refine G.iadd dX0_putTop_135 ?_
    rw [nI_1]
    refine G.callVif (c_X4_nameAt (B := B) (by omega) ⟨T1.1, by rw [hq.2.1 2 (by omega) (by omega)]; exact T1.2.1, by rw [hq.2.1 3 (by omega) (by omega)]; exact T1.2.2⟩) rfl (gci_X4).1 ml_X0_76 im_yX4_nameAt se_yX4_nameAt gcl_X4_nameAt (by decide) rfl rfl (Nat.le_of_ble_eq_true rfl) dX0_putTop_136 ?_
    rw [nmv_1 k1]
    refine G.callSif (c_X5_image hP.1 (show B (q.1 + 1) - 97 < 6 by omega)) ml_X0_38 ws_yX5_image gcl_X5_image (by decide) rfl rfl (Nat.le_of_ble_eq_true rfl) dX0_putTop_139 ?_
    refine G.iadd dX0_putTop_142 ?_
    rw [show (97 : Int32) + nI (tn_im q.2 (B (q.1 + 1) - 97)) = nI (97 + tn_im q.2 (B (q.1 + 1) - 97)) from nI_add 97 _]
    refine G.callVv (c_X0_putByte hb hq.1) hb.1 (gci_X0).1 ml_X0_43 im_yX0_putByte se_yX0_putByte gcl_X0_putByte (by decide) rfl rfl (Nat.le_of_ble_eq_true rfl) dX0_putTop_143 (fun τ2 hq2 => ?_)
    refine G.aload_n (k := 0) rfl dX0_putTop_146 ?_
    refine G.iload_n (k := 2) rfl dX0_putTop_147 ?_
    refine G.iconst (v := 2) (by decide) dX0_putTop_148 ?_
    refine G.callSif (c_X3_further (n := q.1) (c := q.2) (b := 2)) ml_X0_88 ws_yX3_further gcl_X3_further (by decide) rfl rfl (Nat.le_of_ble_eq_true rfl) dX0_putTop_149 ?_
    have S1 := lnG_S hq2.2 (lnG_S hq.2 hs)
    refine G.callVvf (c_X0_await hb (n := s.length) S1.2 (by omega)) hb.1 (gci_X0).1 ml_X0_51 im_yX0_await se_yX0_await gcl_X0_await (by decide) rfl rfl (Nat.le_of_ble_eq_true rfl) dX0_putTop_152 ?_
    have S2 := aw_S (q := (q.1 + 2, q.2)) S1.1
    refine G.goto (tgt := 188) (by decide) dX0_putTop_155 ?_
    exact G.vret rfl (⟨by rw [shB, if_neg (by omega), if_neg (by omega), if_neg (by omega), if_pos hc]; have h := hq2.1; rw [take_app, List.append_assoc] at h; exact aw_L h, by rw [shK, if_neg (by omega), if_neg (by omega), if_pos hc]; exact S2, lnF_tr (lnG_F (lnG_tr hq.2 hq2.2)) (aw_F _ _ _)⟩) dX0_putTop_188
  by_cases hc : kd (B q.1) = 4
  · refine G.tableIn (tgt := 158) dX0_putTop_16 (by rw [hI, hc]; decide) (by rw [hI, hc]; decide) (by rw [hI, hc]; rfl) (by decide) ?_
    refine G.aload_n (k := 0) rfl dX0_putTop_158 ?_
    refine G.aload_n (k := 1) rfl dX0_putTop_159 ?_
    refine G.iload_n (k := 3) rfl dX0_putTop_160 ?_
    refine G.callVif (c_X4_byteAt hlt) rfl (gci_X4).1 ml_X0_82 im_yX4_byteAt se_yX4_byteAt gcl_X4_byteAt (by decide) rfl rfl (Nat.le_of_ble_eq_true rfl) dX0_putTop_161 ?_
    rw [t0.2.1]
    refine G.callVv (c_X0_putByte hb hL) hb.1 (gci_X0).1 ml_X0_43 im_yX0_putByte se_yX0_putByte gcl_X0_putByte (by decide) rfl rfl (Nat.le_of_ble_eq_true rfl) dX0_putTop_164 (fun τ hq => ?_)
    refine G.aload_n (k := 0) rfl dX0_putTop_167 ?_
    refine G.iload_n (k := 2) rfl dX0_putTop_168 ?_
    refine G.iconst (v := 1) (by decide) dX0_putTop_169 ?_
    refine G.callSif (c_X3_further (n := q.1) (c := q.2) (b := 1)) ml_X0_88 ws_yX3_further gcl_X3_further (by decide) rfl rfl (Nat.le_of_ble_eq_true rfl) dX0_putTop_170 ?_
    have S1 := lnG_S hq.2 hs
    refine G.callVvf (c_X0_await hb (n := s.length) S1.2 (by omega)) hb.1 (gci_X0).1 ml_X0_51 im_yX0_await se_yX0_await gcl_X0_await (by decide) rfl rfl (Nat.le_of_ble_eq_true rfl) dX0_putTop_173 ?_
    have S2 := aw_S (q := (q.1 + 1, q.2)) S1.1
    refine G.goto (tgt := 188) (by decide) dX0_putTop_176 ?_
    exact G.vret rfl (⟨by rw [shB, if_neg (by omega), if_neg (by omega), if_neg (by omega), if_neg (by omega)]; exact aw_L hq.1, by rw [shK, if_pos hc]; exact S2, lnF_tr (lnG_F hq.2) (aw_F _ _ _)⟩) dX0_putTop_188
  have hc : kd (B q.1) = 3 := by omega
  refine G.tableIn (tgt := 179) dX0_putTop_16 (by rw [hI, hc]; decide) (by rw [hI, hc]; decide) (by rw [hI, hc]; rfl) (by decide) ?_
  refine G.aload_n (k := 0) rfl dX0_putTop_179 ?_
  refine G.aload_n (k := 1) rfl dX0_putTop_180 ?_
  refine G.iload_n (k := 3) rfl dX0_putTop_181 ?_
  refine G.callVif (c_X4_byteAt hlt) rfl (gci_X4).1 ml_X0_82 im_yX4_byteAt se_yX4_byteAt gcl_X4_byteAt (by decide) rfl rfl (Nat.le_of_ble_eq_true rfl) dX0_putTop_182 ?_
  rw [t0.2.1]
  refine G.callVv (c_X0_putByte hb hL) hb.1 (gci_X0).1 ml_X0_43 im_yX0_putByte se_yX0_putByte gcl_X0_putByte (by decide) rfl rfl (Nat.le_of_ble_eq_true rfl) dX0_putTop_185 (fun τ hq => ?_)
  exact G.vret rfl (⟨by rw [shB, if_neg (by omega), if_neg (by omega), if_neg (by omega), if_neg (by omega)]; exact hq.1, by rw [shK, if_neg (by omega), if_neg (by omega), if_neg (by omega)]; exact lnG_S hq.2 hs, lnG_F hq.2⟩) dX0_putTop_188
end T41

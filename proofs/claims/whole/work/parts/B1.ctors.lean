/-! ===== the constructors ===== -/
abbrev nX0 : gM := (yX0_init, cX0_init, 1, none, { frames := 1, cells := 2, slots := 122, locals := 60 })
abbrev nX1 : gM := (yX1_init, cX1_init, 1, none, { frames := 1, cells := 3, slots := 248, locals := 60 })
abbrev nX2 : gM := (yX2_init, cX2_init, 2, none, { frames := 1, cells := 5, slots := 1456, locals := 60 })
abbrev nX4 : gM := (yX4_init, cX4_init, 1, none, { frames := 1, cells := 10, slots := 1826, locals := 60 })
abbrev nX6 : gM := (yX6_init, cX6_init, 2, none, { frames := 2, cells := 41, slots := 5635, locals := 100 })
abbrev nX7 : gM := (yX7_init, cX7_init, 2, none, { frames := 1, cells := 28, slots := 7322, locals := 60 })
abbrev nFl : gM := (yJ7_fill_53178, cJ7_fill_53178, 4, none, { frames := 0, cells := 0, slots := 0, locals := 0 })
theorem CW.lsc {X : cX} {M : gM} {A : Nat → Prop} {p : Program} {e : Env} {s : State} {m : MethodId} {args : Array Value} {below : List Frame} {meth : Method} {c : Code} {Z : State → Prop} {pc : Nat} {ls ls2 : List (Option Value)} {st : List Value} {w : va_W} {nc ns : Nat} (h : ls = ls2) (kk : CW X M A p e s m args below meth c Z pc ls2 st w nc ns) : CW X M A p e s m args below meth c Z pc ls st w nc ns := h ▸ kk
theorem df_X0 : ∀ j, j < 5 → defaultValue (tyX0 j) = vp_V [.null, .int 0, .int 0, .null, .int 0] j := by
  intro j hj
  match j, hj with
  | 0, _ => rfl
  | 1, _ => rfl
  | 2, _ => rfl
  | 3, _ => rfl
  | 4, _ => rfl
  | j + 5, hj => omega
theorem df_X1 : ∀ j, j < 4 → defaultValue (tyX1 j) = vp_V [.null, .null, .null, .int 0] j := by
  intro j hj
  match j, hj with
  | 0, _ => rfl
  | 1, _ => rfl
  | 2, _ => rfl
  | 3, _ => rfl
  | j + 4, hj => omega
theorem df_X2 : ∀ j, j < 12 → defaultValue (tyX2 j) = vp_V [.null, .null, .int 0, .null, .null, .int 0, .null, .null, .int 0, .int 0, .int 0, .int 0] j := by
  intro j hj
  match j, hj with
  | 0, _ => rfl
  | 1, _ => rfl
  | 2, _ => rfl
  | 3, _ => rfl
  | 4, _ => rfl
  | 5, _ => rfl
  | 6, _ => rfl
  | 7, _ => rfl
  | 8, _ => rfl
  | 9, _ => rfl
  | 10, _ => rfl
  | 11, _ => rfl
  | j + 12, hj => omega
theorem df_X4 : ∀ j, j < 11 → defaultValue (tyX4 j) = vp_V [.null, .null, .null, .null, .null, .null, .null, .null, .null, .null, .int 0] j := by
  intro j hj
  match j, hj with
  | 0, _ => rfl
  | 1, _ => rfl
  | 2, _ => rfl
  | 3, _ => rfl
  | 4, _ => rfl
  | 5, _ => rfl
  | 6, _ => rfl
  | 7, _ => rfl
  | 8, _ => rfl
  | 9, _ => rfl
  | 10, _ => rfl
  | j + 11, hj => omega
theorem df_X6 : ∀ j, j < 12 → defaultValue (tyX6 j) = vp_V [.null, .null, .null, .null, .int 0, .null, .int 0, .null, .null, .null, .null, .null] j := by
  intro j hj
  match j, hj with
  | 0, _ => rfl
  | 1, _ => rfl
  | 2, _ => rfl
  | 3, _ => rfl
  | 4, _ => rfl
  | 5, _ => rfl
  | 6, _ => rfl
  | 7, _ => rfl
  | 8, _ => rfl
  | 9, _ => rfl
  | 10, _ => rfl
  | 11, _ => rfl
  | j + 12, hj => omega
theorem df_X7 : ∀ j, j < 41 → defaultValue (tyX7 j) = vp_V [.null, .null, .null, .null, .int 0, .null, .null, .null, .null, .null, .null, .null, .null, .int 0, .null, .int 0, .null, .null, .int 0, .null, .null, .null, .null, .int 0, .null, .null, .null, .null, .int 0, .int 0, .int 0, .int 0, .int 0, .int 0, .int 0, .int 0, .null, .null, .null, .null, .null] j := by
  intro j hj
  match j, hj with
  | 0, _ => rfl
  | 1, _ => rfl
  | 2, _ => rfl
  | 3, _ => rfl
  | 4, _ => rfl
  | 5, _ => rfl
  | 6, _ => rfl
  | 7, _ => rfl
  | 8, _ => rfl
  | 9, _ => rfl
  | 10, _ => rfl
  | 11, _ => rfl
  | 12, _ => rfl
  | 13, _ => rfl
  | 14, _ => rfl
  | 15, _ => rfl
  | 16, _ => rfl
  | 17, _ => rfl
  | 18, _ => rfl
  | 19, _ => rfl
  | 20, _ => rfl
  | 21, _ => rfl
  | 22, _ => rfl
  | 23, _ => rfl
  | 24, _ => rfl
  | 25, _ => rfl
  | 26, _ => rfl
  | 27, _ => rfl
  | 28, _ => rfl
  | 29, _ => rfl
  | 30, _ => rfl
  | 31, _ => rfl
  | 32, _ => rfl
  | 33, _ => rfl
  | 34, _ => rfl
  | 35, _ => rfl
  | 36, _ => rfl
  | 37, _ => rfl
  | 38, _ => rfl
  | 39, _ => rfl
  | 40, _ => rfl
  | j + 41, hj => omega
section TB1
variable {X : cX}
set_option maxHeartbeats 4000000 in
set_option maxRecDepth 100000 in
theorem l_fill {A : Nat → Prop} {p : Program} {e : Env} {s : State} {m : MethodId} {args : Array Value} {below : List Frame} {meth : Method} {c : Code} {a n : Nat} {v : Int32} {f : Nat → Int32} (hn : n < 2 ^ 31) (C : c_at X nFl A p s m args meth c) : ∀ j i, i + j = n → CW X nFl A p e s m args below meth c (MQ below (c_Qc X (fun w1 => w1 = [(a, .inl (X.2.2, n, .inl (fun i => if i < n then v else f i)))]) A) args s 0 0 A) 5 [some (.ref a), some (.int v), some (.int (nI i)), some (.int (nI n))] [] [(a, .inl (X.2.2, n, .inl (fun k => if k < i then v else f k)))] 0 0 := by
  intro j
  induction j with
  | zero =>
    intro i hi
    have hi2 : i = n := by omega
    subst hi2
    refine CW.il C (k := 2) rfl dJ7_fill_53178_5 ?_
    refine CW.il C (k := 3) rfl dJ7_fill_53178_6 ?_
    refine CW.icge C (tgt := 20) (by decide) dJ7_fill_53178_7 (fun c_7 => ?_) (fun c_7 => absurd (Int32.le_refl _) c_7)
    exact CW.vret C rfl rfl dJ7_fill_53178_20
  | succ j ih =>
    intro i hi
    refine CW.il C (k := 2) rfl dJ7_fill_53178_5 ?_
    refine CW.il C (k := 3) rfl dJ7_fill_53178_6 ?_
    refine CW.icge C (tgt := 20) (by decide) dJ7_fill_53178_7 (fun c_7 => absurd c_7 (nI_ge (by omega) (by omega))) (fun c_7 => ?_)
    refine CW.al C (k := 0) rfl dJ7_fill_53178_10 ?_
    refine CW.il C (k := 2) rfl dJ7_fill_53178_11 ?_
    refine CW.il C (k := 1) rfl dJ7_fill_53178_12 ?_
    refine CW.iast C 0 rfl (vp_in_nI (by omega) (by omega)) dJ7_fill_53178_13 ?_
    refine CW.inc C (i := 2) (d := 1) rfl (by decide) (by decide) (fun j v h1 h2 => by have hj : j = 1 := (by omega); subst hj; cases h1; rfl) dJ7_fill_53178_14 ?_
    refine CW.goto C (tgt := 5) (by decide) dJ7_fill_53178_17 ?_
    refine CW.chg (w2 := [(a, .inl (X.2.2, n, .inl (fun k => if k < i + 1 then v else f k)))]) ?_ ?_
    · show [(a, _)] = _
      refine congrArg (fun z => [(a, (.inl (X.2.2, n, .inl z) : va_E))]) ?_
      rw [nI_clamp (by omega)]
      funext k
      show (if k = i then v else if k < i then v else f k) = _
      by_cases e1 : k = i
      · rw [if_pos e1, if_pos (by omega)]
      · rw [if_neg e1]
        by_cases e2 : k < i
        · rw [if_pos e2, if_pos (by omega)]
        · rw [if_neg e2, if_neg (by omega)]
    · refine CW.lsc (ls2 := [some (.ref a), some (.int v), some (.int (nI (i + 1))), some (.int (nI n))]) (by rw [← nI_1]; rfl) ?_
      exact ih (i + 1) (by omega)
set_option maxHeartbeats 4000000 in
set_option maxRecDepth 100000 in
theorem c_fill (a n : Nat) (hn : n < 2 ^ 31) {v : Int32} {f : Nat → Int32} : CM X nFl [.ref a, .int v] [(a, .inl (X.2.2, n, .inl f))] 0 0 (fun w1 => w1 = [(a, .inl (X.2.2, n, .inl (fun i => if i < n then v else f i)))]) := by
  refine CM.of (ls := [some (.ref a), some (.int v), none, none]) (by decide) (Nat.le_of_ble_eq_true rfl) rfl ?_
  intro A p e s m args below meth c C hin
  refine CW.iconst C (v := 0) (by decide) dJ7_fill_53178_0 ?_
  refine CW.ist C (k := 2) (by decide) (fun j v h1 h2 => by have hj : j = 1 := (by omega); subst hj; cases h1; rfl) dJ7_fill_53178_1 ?_
  refine CW.lsc (ls2 := [some (.ref a), some (.int v), some (.int 0), none]) rfl ?_
  refine CW.al C (k := 0) rfl dJ7_fill_53178_2 ?_
  refine CW.alen C 0 rfl hn dJ7_fill_53178_3 ?_
  refine CW.ist C (k := 3) (by decide) (fun j v h1 h2 => by have hj : j = 2 := (by omega); subst hj; cases h1; rfl) dJ7_fill_53178_4 ?_
  refine CW.lsc (ls2 := [some (.ref a), some (.int v), some (.int (nI 0)), some (.int (nI n))]) rfl ?_
  refine CW.chg (w2 := [(a, .inl (X.2.2, n, .inl (fun k => if k < 0 then v else f k)))]) ?_ (l_fill hn C n 0 (by omega))
  refine congrArg (fun z => [(a, (.inl (X.2.2, n, .inl z) : va_E))]) ?_
  funext k
  rw [if_neg (Nat.not_lt_zero _)]
set_option maxHeartbeats 4000000 in
set_option maxRecDepth 100000 in
theorem c_X0_init (h0 : Nat) : CM X nX0 [.ref h0] [(h0, .inr (0, [.null, .int 0, .int 0, .null, .int 0]))] 2 122 (fun w1 => ∃ (q7 : Nat) (q25 : Nat), w1 = [(h0, .inr (0, [.ref q7, .int 0, .int (-1), .ref q25, .int 0])), (q7, .inl (X.2.2, 60, .inl (fun _ => 0))), (q25, .inl (X.2.2, 62, .inl (fun _ => 0)))]) := by
  refine CM.of (ls := [some (.ref h0)]) (by decide) (Nat.le_of_ble_eq_true rfl) rfl ?_
  intro A p e s m args below meth c C hin
  refine CW.al C (k := 0) rfl dX0_init_0 ?_
  refine CW.obj C ml_X0_3 (Nat.le_of_ble_eq_true rfl) (Nat.le_of_ble_eq_true rfl) dX0_init_1 ?_
  refine CW.al C (k := 0) rfl dX0_init_4 ?_
  refine CW.bipush C (v := 60) (by decide) dX0_init_5 ?_
  refine CW.na C (N := 60) (by decide) (by decide) (by decide) (Nat.le_of_ble_eq_true rfl) (Nat.le_of_ble_eq_true rfl) dX0_init_7 (fun q7 => ?_)
  refine CW.chg (w2 := [(h0, .inr (0, [.null, .int 0, .int 0, .null, .int 0])), (q7, .inl (X.2.2, 60, .inl (fun _ => 0)))]) rfl ?_
  refine CW.putF C hin 0 rfl gci_X0 gcp_X0 (j := 0) (by decide) rfl rfl rfl rfl (Nat.le_of_ble_eq_true rfl) fl_X0_9 dX0_init_9 ?_
  refine CW.chg (w2 := [(h0, .inr (0, [.ref q7, .int 0, .int 0, .null, .int 0])), (q7, .inl (X.2.2, 60, .inl (fun _ => 0)))]) rfl ?_
  refine CW.al C (k := 0) rfl dX0_init_12 ?_
  refine CW.iconst C (v := 0) (by decide) dX0_init_13 ?_
  refine CW.put C 0 rfl gci_X0 gcp_X0 (j := 1) (by decide) rfl rfl rfl (Nat.le_of_ble_eq_true rfl) fl_X0_15 dX0_init_14 ?_
  refine CW.chg (w2 := [(h0, .inr (0, [.ref q7, .int 0, .int 0, .null, .int 0])), (q7, .inl (X.2.2, 60, .inl (fun _ => 0)))]) rfl ?_
  refine CW.al C (k := 0) rfl dX0_init_17 ?_
  refine CW.iconst C (v := (-1)) (by decide) dX0_init_18 ?_
  refine CW.put C 0 rfl gci_X0 gcp_X0 (j := 2) (by decide) rfl rfl rfl (Nat.le_of_ble_eq_true rfl) fl_X0_19 dX0_init_19 ?_
  refine CW.chg (w2 := [(h0, .inr (0, [.ref q7, .int 0, .int (-1), .null, .int 0])), (q7, .inl (X.2.2, 60, .inl (fun _ => 0)))]) rfl ?_
  refine CW.al C (k := 0) rfl dX0_init_22 ?_
  refine CW.bipush C (v := 62) (by decide) dX0_init_23 ?_
  refine CW.na C (N := 62) (by decide) (by decide) (by decide) (Nat.le_of_ble_eq_true rfl) (Nat.le_of_ble_eq_true rfl) dX0_init_25 (fun q25 => ?_)
  refine CW.chg (w2 := [(h0, .inr (0, [.ref q7, .int 0, .int (-1), .null, .int 0])), (q7, .inl (X.2.2, 60, .inl (fun _ => 0))), (q25, .inl (X.2.2, 62, .inl (fun _ => 0)))]) rfl ?_
  refine CW.putF C hin 0 rfl gci_X0 gcp_X0 (j := 3) (by decide) rfl rfl rfl rfl (Nat.le_of_ble_eq_true rfl) fl_X0_22 dX0_init_27 ?_
  refine CW.chg (w2 := [(h0, .inr (0, [.ref q7, .int 0, .int (-1), .ref q25, .int 0])), (q7, .inl (X.2.2, 60, .inl (fun _ => 0))), (q25, .inl (X.2.2, 62, .inl (fun _ => 0)))]) rfl ?_
  refine CW.al C (k := 0) rfl dX0_init_30 ?_
  refine CW.iconst C (v := 0) (by decide) dX0_init_31 ?_
  refine CW.put C 0 rfl gci_X0 gcp_X0 (j := 4) (by decide) rfl rfl rfl (Nat.le_of_ble_eq_true rfl) fl_X0_25 dX0_init_32 ?_
  refine CW.chg (w2 := [(h0, .inr (0, [.ref q7, .int 0, .int (-1), .ref q25, .int 0])), (q7, .inl (X.2.2, 60, .inl (fun _ => 0))), (q25, .inl (X.2.2, 62, .inl (fun _ => 0)))]) rfl ?_
  exact CW.vret C rfl (⟨q7, q25, rfl⟩) dX0_init_35
set_option maxHeartbeats 4000000 in
set_option maxRecDepth 100000 in
theorem c_X1_init (h0 : Nat) : CM X nX1 [.ref h0] [(h0, .inr (1, [.null, .null, .null, .int 0]))] 3 248 (fun w1 => ∃ (q13 : Nat) (q22 : Nat) (q6 : Nat), w1 = [(h0, .inr (1, [.ref q6, .ref q13, .ref q22, .int 0])), (q13, .inl (X.2.2, 4, .inl (fun _ => 0))), (q22, .inl (X.2.2, 240, .inl (fun _ => 0))), (q6, .inl (X.2.2, 4, .inl (fun i => if i < 4 then -1 else 0)))]) := by
  refine CM.of (ls := [some (.ref h0)]) (by decide) (Nat.le_of_ble_eq_true rfl) rfl ?_
  intro A p e s m args below meth c C hin
  refine CW.al C (k := 0) rfl dX1_init_0 ?_
  refine CW.obj C ml_X1_3 (Nat.le_of_ble_eq_true rfl) (Nat.le_of_ble_eq_true rfl) dX1_init_1 ?_
  refine CW.al C (k := 0) rfl dX1_init_4 ?_
  refine CW.iconst C (v := 4) (by decide) dX1_init_5 ?_
  refine CW.na C (N := 4) (by decide) (by decide) (by decide) (Nat.le_of_ble_eq_true rfl) (Nat.le_of_ble_eq_true rfl) dX1_init_6 (fun q6 => ?_)
  refine CW.chg (w2 := [(h0, .inr (1, [.null, .null, .null, .int 0])), (q6, .inl (X.2.2, 4, .inl (fun _ => 0)))]) rfl ?_
  refine CW.putF C hin 0 rfl gci_X1 gcp_X1 (j := 0) (by decide) rfl rfl rfl rfl (Nat.le_of_ble_eq_true rfl) fl_X1_9 dX1_init_8 ?_
  refine CW.chg (w2 := [(h0, .inr (1, [.ref q6, .null, .null, .int 0])), (q6, .inl (X.2.2, 4, .inl (fun _ => 0)))]) rfl ?_
  refine CW.al C (k := 0) rfl dX1_init_11 ?_
  refine CW.iconst C (v := 4) (by decide) dX1_init_12 ?_
  refine CW.na C (N := 4) (by decide) (by decide) (by decide) (Nat.le_of_ble_eq_true rfl) (Nat.le_of_ble_eq_true rfl) dX1_init_13 (fun q13 => ?_)
  refine CW.chg (w2 := [(h0, .inr (1, [.ref q6, .null, .null, .int 0])), (q6, .inl (X.2.2, 4, .inl (fun _ => 0))), (q13, .inl (X.2.2, 4, .inl (fun _ => 0)))]) rfl ?_
  refine CW.putF C hin 0 rfl gci_X1 gcp_X1 (j := 1) (by decide) rfl rfl rfl rfl (Nat.le_of_ble_eq_true rfl) fl_X1_15 dX1_init_15 ?_
  refine CW.chg (w2 := [(h0, .inr (1, [.ref q6, .ref q13, .null, .int 0])), (q6, .inl (X.2.2, 4, .inl (fun _ => 0))), (q13, .inl (X.2.2, 4, .inl (fun _ => 0)))]) rfl ?_
  refine CW.al C (k := 0) rfl dX1_init_18 ?_
  refine CW.sipush C (v := 240) (by decide) dX1_init_19 ?_
  refine CW.na C (N := 240) (by decide) (by decide) (by decide) (Nat.le_of_ble_eq_true rfl) (Nat.le_of_ble_eq_true rfl) dX1_init_22 (fun q22 => ?_)
  refine CW.chg (w2 := [(h0, .inr (1, [.ref q6, .ref q13, .null, .int 0])), (q6, .inl (X.2.2, 4, .inl (fun _ => 0))), (q13, .inl (X.2.2, 4, .inl (fun _ => 0))), (q22, .inl (X.2.2, 240, .inl (fun _ => 0)))]) rfl ?_
  refine CW.putF C hin 0 rfl gci_X1 gcp_X1 (j := 2) (by decide) rfl rfl rfl rfl (Nat.le_of_ble_eq_true rfl) fl_X1_18 dX1_init_24 ?_
  refine CW.chg (w2 := [(h0, .inr (1, [.ref q6, .ref q13, .ref q22, .int 0])), (q6, .inl (X.2.2, 4, .inl (fun _ => 0))), (q13, .inl (X.2.2, 4, .inl (fun _ => 0))), (q22, .inl (X.2.2, 240, .inl (fun _ => 0)))]) rfl ?_
  refine CW.al C (k := 0) rfl dX1_init_27 ?_
  refine CW.iconst C (v := 0) (by decide) dX1_init_28 ?_
  refine CW.put C 0 rfl gci_X1 gcp_X1 (j := 3) (by decide) rfl rfl rfl (Nat.le_of_ble_eq_true rfl) fl_X1_21 dX1_init_29 ?_
  refine CW.chg (w2 := [(h0, .inr (1, [.ref q6, .ref q13, .ref q22, .int 0])), (q6, .inl (X.2.2, 4, .inl (fun _ => 0))), (q13, .inl (X.2.2, 4, .inl (fun _ => 0))), (q22, .inl (X.2.2, 240, .inl (fun _ => 0)))]) rfl ?_
  refine CW.al C (k := 0) rfl dX1_init_32 ?_
  refine CW.get C 0 (j := 0) (v := .ref q6) rfl gci_X1 (by decide) rfl fl_X1_9 dX1_init_33 ?_
  refine CW.iconst C (v := (-1)) (by decide) dX1_init_36 ?_
  refine CW.stat (n := 2) (as := [.ref q6, .int (-1)]) (st := []) (wr := [(h0, .inr (1, [.ref q6, .ref q13, .ref q22, .int 0])), (q13, .inl (X.2.2, 4, .inl (fun _ => 0))), (q22, .inl (X.2.2, 240, .inl (fun _ => 0)))]) C (c_fill q6 4 (by decide)) ⟨wi_J7, wc_yJ7_fill_53178, ⟨by decide, by decide, by decide +kernel⟩, rfl, rfl⟩ ml_X1_25 ws_yJ7_fill_53178 ⟨by decide, by decide⟩ rfl rfl [1] [0, 2, 3] rfl rfl rfl rfl (by decide) (Nat.le_of_ble_eq_true rfl) (Nat.le_of_ble_eq_true rfl) (Nat.le_of_ble_eq_true rfl) dX1_init_37 (fun w1 hw1 => ?_)
  subst hw1
  refine CW.chg (w2 := [(h0, .inr (1, [.ref q6, .ref q13, .ref q22, .int 0])), (q13, .inl (X.2.2, 4, .inl (fun _ => 0))), (q22, .inl (X.2.2, 240, .inl (fun _ => 0))), (q6, .inl (X.2.2, 4, .inl (fun i => if i < 4 then -1 else 0)))]) rfl ?_
  exact CW.vret C rfl (⟨q13, q22, q6, rfl⟩) dX1_init_40
set_option maxHeartbeats 4000000 in
set_option maxRecDepth 100000 in
theorem c_X2_init (h0 t0 : Nat) : CM X nX2 [.ref h0, .ref t0] [(h0, .inr (2, [.null, .null, .int 0, .null, .null, .int 0, .null, .null, .int 0, .int 0, .int 0, .int 0]))] 5 1456 (fun w1 => ∃ (q7 : Nat) (q21 : Nat) (q30 : Nat) (q44 : Nat) (q52 : Nat), w1 = [(h0, .inr (2, [.ref t0, .ref q7, .int 0, .ref q21, .ref q30, .int 0, .ref q44, .ref q52, .int 0, .int (-1), .int 0, .int 0])), (q7, .inl (X.2.2, 6, .inl (fun _ => 0))), (q21, .inl (X.2.2, 602, .inl (fun _ => 0))), (q30, .inl (X.2.2, 602, .inl (fun _ => 0))), (q44, .inl (X.2.2, 240, .inl (fun _ => 0))), (q52, .inl (X.2.2, 6, .inl (fun _ => 0)))]) := by
  refine CM.of (ls := [some (.ref h0), some (.ref t0)]) (by decide) (Nat.le_of_ble_eq_true rfl) rfl ?_
  intro A p e s m args below meth c C hin
  refine CW.al C (k := 0) rfl dX2_init_0 ?_
  refine CW.obj C ml_X2_3 (Nat.le_of_ble_eq_true rfl) (Nat.le_of_ble_eq_true rfl) dX2_init_1 ?_
  refine CW.al C (k := 0) rfl dX2_init_4 ?_
  refine CW.bipush C (v := 6) (by decide) dX2_init_5 ?_
  refine CW.na C (N := 6) (by decide) (by decide) (by decide) (Nat.le_of_ble_eq_true rfl) (Nat.le_of_ble_eq_true rfl) dX2_init_7 (fun q7 => ?_)
  refine CW.chg (w2 := [(h0, .inr (2, [.null, .null, .int 0, .null, .null, .int 0, .null, .null, .int 0, .int 0, .int 0, .int 0])), (q7, .inl (X.2.2, 6, .inl (fun _ => 0)))]) rfl ?_
  refine CW.putF C hin 0 rfl gci_X2 gcp_X2 (j := 1) (by decide) rfl rfl rfl rfl (Nat.le_of_ble_eq_true rfl) fl_X2_9 dX2_init_9 ?_
  refine CW.chg (w2 := [(h0, .inr (2, [.null, .ref q7, .int 0, .null, .null, .int 0, .null, .null, .int 0, .int 0, .int 0, .int 0])), (q7, .inl (X.2.2, 6, .inl (fun _ => 0)))]) rfl ?_
  refine CW.al C (k := 0) rfl dX2_init_12 ?_
  refine CW.iconst C (v := 0) (by decide) dX2_init_13 ?_
  refine CW.put C 0 rfl gci_X2 gcp_X2 (j := 2) (by decide) rfl rfl rfl (Nat.le_of_ble_eq_true rfl) fl_X2_15 dX2_init_14 ?_
  refine CW.chg (w2 := [(h0, .inr (2, [.null, .ref q7, .int 0, .null, .null, .int 0, .null, .null, .int 0, .int 0, .int 0, .int 0])), (q7, .inl (X.2.2, 6, .inl (fun _ => 0)))]) rfl ?_
  refine CW.al C (k := 0) rfl dX2_init_17 ?_
  refine CW.sipush C (v := 602) (by decide) dX2_init_18 ?_
  refine CW.na C (N := 602) (by decide) (by decide) (by decide) (Nat.le_of_ble_eq_true rfl) (Nat.le_of_ble_eq_true rfl) dX2_init_21 (fun q21 => ?_)
  refine CW.chg (w2 := [(h0, .inr (2, [.null, .ref q7, .int 0, .null, .null, .int 0, .null, .null, .int 0, .int 0, .int 0, .int 0])), (q7, .inl (X.2.2, 6, .inl (fun _ => 0))), (q21, .inl (X.2.2, 602, .inl (fun _ => 0)))]) rfl ?_
  refine CW.putF C hin 0 rfl gci_X2 gcp_X2 (j := 3) (by decide) rfl rfl rfl rfl (Nat.le_of_ble_eq_true rfl) fl_X2_19 dX2_init_23 ?_
  refine CW.chg (w2 := [(h0, .inr (2, [.null, .ref q7, .int 0, .ref q21, .null, .int 0, .null, .null, .int 0, .int 0, .int 0, .int 0])), (q7, .inl (X.2.2, 6, .inl (fun _ => 0))), (q21, .inl (X.2.2, 602, .inl (fun _ => 0)))]) rfl ?_
  refine CW.al C (k := 0) rfl dX2_init_26 ?_
  refine CW.sipush C (v := 602) (by decide) dX2_init_27 ?_
  refine CW.na C (N := 602) (by decide) (by decide) (by decide) (Nat.le_of_ble_eq_true rfl) (Nat.le_of_ble_eq_true rfl) dX2_init_30 (fun q30 => ?_)
  refine CW.chg (w2 := [(h0, .inr (2, [.null, .ref q7, .int 0, .ref q21, .null, .int 0, .null, .null, .int 0, .int 0, .int 0, .int 0])), (q7, .inl (X.2.2, 6, .inl (fun _ => 0))), (q21, .inl (X.2.2, 602, .inl (fun _ => 0))), (q30, .inl (X.2.2, 602, .inl (fun _ => 0)))]) rfl ?_
  refine CW.putF C hin 0 rfl gci_X2 gcp_X2 (j := 4) (by decide) rfl rfl rfl rfl (Nat.le_of_ble_eq_true rfl) fl_X2_22 dX2_init_32 ?_
  refine CW.chg (w2 := [(h0, .inr (2, [.null, .ref q7, .int 0, .ref q21, .ref q30, .int 0, .null, .null, .int 0, .int 0, .int 0, .int 0])), (q7, .inl (X.2.2, 6, .inl (fun _ => 0))), (q21, .inl (X.2.2, 602, .inl (fun _ => 0))), (q30, .inl (X.2.2, 602, .inl (fun _ => 0)))]) rfl ?_
  refine CW.al C (k := 0) rfl dX2_init_35 ?_
  refine CW.iconst C (v := 0) (by decide) dX2_init_36 ?_
  refine CW.put C 0 rfl gci_X2 gcp_X2 (j := 5) (by decide) rfl rfl rfl (Nat.le_of_ble_eq_true rfl) fl_X2_25 dX2_init_37 ?_
  refine CW.chg (w2 := [(h0, .inr (2, [.null, .ref q7, .int 0, .ref q21, .ref q30, .int 0, .null, .null, .int 0, .int 0, .int 0, .int 0])), (q7, .inl (X.2.2, 6, .inl (fun _ => 0))), (q21, .inl (X.2.2, 602, .inl (fun _ => 0))), (q30, .inl (X.2.2, 602, .inl (fun _ => 0)))]) rfl ?_
  refine CW.al C (k := 0) rfl dX2_init_40 ?_
  refine CW.sipush C (v := 240) (by decide) dX2_init_41 ?_
  refine CW.na C (N := 240) (by decide) (by decide) (by decide) (Nat.le_of_ble_eq_true rfl) (Nat.le_of_ble_eq_true rfl) dX2_init_44 (fun q44 => ?_)
  refine CW.chg (w2 := [(h0, .inr (2, [.null, .ref q7, .int 0, .ref q21, .ref q30, .int 0, .null, .null, .int 0, .int 0, .int 0, .int 0])), (q7, .inl (X.2.2, 6, .inl (fun _ => 0))), (q21, .inl (X.2.2, 602, .inl (fun _ => 0))), (q30, .inl (X.2.2, 602, .inl (fun _ => 0))), (q44, .inl (X.2.2, 240, .inl (fun _ => 0)))]) rfl ?_
  refine CW.putF C hin 0 rfl gci_X2 gcp_X2 (j := 6) (by decide) rfl rfl rfl rfl (Nat.le_of_ble_eq_true rfl) fl_X2_28 dX2_init_46 ?_
  refine CW.chg (w2 := [(h0, .inr (2, [.null, .ref q7, .int 0, .ref q21, .ref q30, .int 0, .ref q44, .null, .int 0, .int 0, .int 0, .int 0])), (q7, .inl (X.2.2, 6, .inl (fun _ => 0))), (q21, .inl (X.2.2, 602, .inl (fun _ => 0))), (q30, .inl (X.2.2, 602, .inl (fun _ => 0))), (q44, .inl (X.2.2, 240, .inl (fun _ => 0)))]) rfl ?_
  refine CW.al C (k := 0) rfl dX2_init_49 ?_
  refine CW.bipush C (v := 6) (by decide) dX2_init_50 ?_
  refine CW.na C (N := 6) (by decide) (by decide) (by decide) (Nat.le_of_ble_eq_true rfl) (Nat.le_of_ble_eq_true rfl) dX2_init_52 (fun q52 => ?_)
  refine CW.chg (w2 := [(h0, .inr (2, [.null, .ref q7, .int 0, .ref q21, .ref q30, .int 0, .ref q44, .null, .int 0, .int 0, .int 0, .int 0])), (q7, .inl (X.2.2, 6, .inl (fun _ => 0))), (q21, .inl (X.2.2, 602, .inl (fun _ => 0))), (q30, .inl (X.2.2, 602, .inl (fun _ => 0))), (q44, .inl (X.2.2, 240, .inl (fun _ => 0))), (q52, .inl (X.2.2, 6, .inl (fun _ => 0)))]) rfl ?_
  refine CW.putF C hin 0 rfl gci_X2 gcp_X2 (j := 7) (by decide) rfl rfl rfl rfl (Nat.le_of_ble_eq_true rfl) fl_X2_31 dX2_init_54 ?_
  refine CW.chg (w2 := [(h0, .inr (2, [.null, .ref q7, .int 0, .ref q21, .ref q30, .int 0, .ref q44, .ref q52, .int 0, .int 0, .int 0, .int 0])), (q7, .inl (X.2.2, 6, .inl (fun _ => 0))), (q21, .inl (X.2.2, 602, .inl (fun _ => 0))), (q30, .inl (X.2.2, 602, .inl (fun _ => 0))), (q44, .inl (X.2.2, 240, .inl (fun _ => 0))), (q52, .inl (X.2.2, 6, .inl (fun _ => 0)))]) rfl ?_
  refine CW.al C (k := 0) rfl dX2_init_57 ?_
  refine CW.iconst C (v := 0) (by decide) dX2_init_58 ?_
  refine CW.put C 0 rfl gci_X2 gcp_X2 (j := 8) (by decide) rfl rfl rfl (Nat.le_of_ble_eq_true rfl) fl_X2_34 dX2_init_59 ?_
  refine CW.chg (w2 := [(h0, .inr (2, [.null, .ref q7, .int 0, .ref q21, .ref q30, .int 0, .ref q44, .ref q52, .int 0, .int 0, .int 0, .int 0])), (q7, .inl (X.2.2, 6, .inl (fun _ => 0))), (q21, .inl (X.2.2, 602, .inl (fun _ => 0))), (q30, .inl (X.2.2, 602, .inl (fun _ => 0))), (q44, .inl (X.2.2, 240, .inl (fun _ => 0))), (q52, .inl (X.2.2, 6, .inl (fun _ => 0)))]) rfl ?_
  refine CW.al C (k := 0) rfl dX2_init_62 ?_
  refine CW.iconst C (v := (-1)) (by decide) dX2_init_63 ?_
  refine CW.put C 0 rfl gci_X2 gcp_X2 (j := 9) (by decide) rfl rfl rfl (Nat.le_of_ble_eq_true rfl) fl_X2_37 dX2_init_64 ?_
  refine CW.chg (w2 := [(h0, .inr (2, [.null, .ref q7, .int 0, .ref q21, .ref q30, .int 0, .ref q44, .ref q52, .int 0, .int (-1), .int 0, .int 0])), (q7, .inl (X.2.2, 6, .inl (fun _ => 0))), (q21, .inl (X.2.2, 602, .inl (fun _ => 0))), (q30, .inl (X.2.2, 602, .inl (fun _ => 0))), (q44, .inl (X.2.2, 240, .inl (fun _ => 0))), (q52, .inl (X.2.2, 6, .inl (fun _ => 0)))]) rfl ?_
  refine CW.al C (k := 0) rfl dX2_init_67 ?_
  refine CW.iconst C (v := 0) (by decide) dX2_init_68 ?_
  refine CW.put C 0 rfl gci_X2 gcp_X2 (j := 10) (by decide) rfl rfl rfl (Nat.le_of_ble_eq_true rfl) fl_X2_40 dX2_init_69 ?_
  refine CW.chg (w2 := [(h0, .inr (2, [.null, .ref q7, .int 0, .ref q21, .ref q30, .int 0, .ref q44, .ref q52, .int 0, .int (-1), .int 0, .int 0])), (q7, .inl (X.2.2, 6, .inl (fun _ => 0))), (q21, .inl (X.2.2, 602, .inl (fun _ => 0))), (q30, .inl (X.2.2, 602, .inl (fun _ => 0))), (q44, .inl (X.2.2, 240, .inl (fun _ => 0))), (q52, .inl (X.2.2, 6, .inl (fun _ => 0)))]) rfl ?_
  refine CW.al C (k := 0) rfl dX2_init_72 ?_
  refine CW.iconst C (v := 0) (by decide) dX2_init_73 ?_
  refine CW.put C 0 rfl gci_X2 gcp_X2 (j := 11) (by decide) rfl rfl rfl (Nat.le_of_ble_eq_true rfl) fl_X2_43 dX2_init_74 ?_
  refine CW.chg (w2 := [(h0, .inr (2, [.null, .ref q7, .int 0, .ref q21, .ref q30, .int 0, .ref q44, .ref q52, .int 0, .int (-1), .int 0, .int 0])), (q7, .inl (X.2.2, 6, .inl (fun _ => 0))), (q21, .inl (X.2.2, 602, .inl (fun _ => 0))), (q30, .inl (X.2.2, 602, .inl (fun _ => 0))), (q44, .inl (X.2.2, 240, .inl (fun _ => 0))), (q52, .inl (X.2.2, 6, .inl (fun _ => 0)))]) rfl ?_
  refine CW.al C (k := 0) rfl dX2_init_77 ?_
  refine CW.al C (k := 1) rfl dX2_init_78 ?_
  refine CW.putF C hin 0 rfl gci_X2 gcp_X2 (j := 0) (by decide) rfl rfl rfl rfl (Nat.le_of_ble_eq_true rfl) fl_X2_47 dX2_init_79 ?_
  refine CW.chg (w2 := [(h0, .inr (2, [.ref t0, .ref q7, .int 0, .ref q21, .ref q30, .int 0, .ref q44, .ref q52, .int 0, .int (-1), .int 0, .int 0])), (q7, .inl (X.2.2, 6, .inl (fun _ => 0))), (q21, .inl (X.2.2, 602, .inl (fun _ => 0))), (q30, .inl (X.2.2, 602, .inl (fun _ => 0))), (q44, .inl (X.2.2, 240, .inl (fun _ => 0))), (q52, .inl (X.2.2, 6, .inl (fun _ => 0)))]) rfl ?_
  exact CW.vret C rfl (⟨q7, q21, q30, q44, q52, rfl⟩) dX2_init_82
set_option maxHeartbeats 4000000 in
set_option maxRecDepth 100000 in
theorem c_X4_init (h0 : Nat) : CM X nX4 [.ref h0] [(h0, .inr (3, [.null, .null, .null, .null, .null, .null, .null, .null, .null, .null, .int 0]))] 10 1826 (fun w1 => ∃ (q8 : Nat) (q17 : Nat) (q25 : Nat) (q42 : Nat) (q51 : Nat) (q60 : Nat) (q69 : Nat) (q78 : Nat) (q86 : Nat) (q33 : Nat), w1 = [(h0, .inr (3, [.ref q8, .ref q17, .ref q25, .ref q33, .ref q42, .ref q51, .ref q60, .ref q69, .ref q78, .ref q86, .int 181896])), (q8, .inl (X.2.2, 300, .inl (fun _ => 0))), (q17, .inl (X.2.2, 300, .inl (fun _ => 0))), (q25, .inl (X.2.2, 10, .inl (fun _ => 0))), (q42, .inl (X.2.2, 240, .inl (fun _ => 0))), (q51, .inl (X.2.2, 240, .inl (fun _ => 0))), (q60, .inl (X.2.2, 240, .inl (fun _ => 0))), (q69, .inl (X.2.2, 240, .inl (fun _ => 0))), (q78, .inl (X.2.2, 240, .inl (fun _ => 0))), (q86, .inl (X.2.2, 6, .inl (fun _ => 0))), (q33, .inl (X.2.2, 10, .inl (fun i => if i < 10 then -1 else 0)))]) := by
  refine CM.of (ls := [some (.ref h0)]) (by decide) (Nat.le_of_ble_eq_true rfl) rfl ?_
  intro A p e s m args below meth c C hin
  refine CW.al C (k := 0) rfl dX4_init_0 ?_
  refine CW.obj C ml_X4_3 (Nat.le_of_ble_eq_true rfl) (Nat.le_of_ble_eq_true rfl) dX4_init_1 ?_
  refine CW.al C (k := 0) rfl dX4_init_4 ?_
  refine CW.sipush C (v := 300) (by decide) dX4_init_5 ?_
  refine CW.na C (N := 300) (by decide) (by decide) (by decide) (Nat.le_of_ble_eq_true rfl) (Nat.le_of_ble_eq_true rfl) dX4_init_8 (fun q8 => ?_)
  refine CW.chg (w2 := [(h0, .inr (3, [.null, .null, .null, .null, .null, .null, .null, .null, .null, .null, .int 0])), (q8, .inl (X.2.2, 300, .inl (fun _ => 0)))]) rfl ?_
  refine CW.putF C hin 0 rfl gci_X4 gcp_X4 (j := 0) (by decide) rfl rfl rfl rfl (Nat.le_of_ble_eq_true rfl) fl_X4_9 dX4_init_10 ?_
  refine CW.chg (w2 := [(h0, .inr (3, [.ref q8, .null, .null, .null, .null, .null, .null, .null, .null, .null, .int 0])), (q8, .inl (X.2.2, 300, .inl (fun _ => 0)))]) rfl ?_
  refine CW.al C (k := 0) rfl dX4_init_13 ?_
  refine CW.sipush C (v := 300) (by decide) dX4_init_14 ?_
  refine CW.na C (N := 300) (by decide) (by decide) (by decide) (Nat.le_of_ble_eq_true rfl) (Nat.le_of_ble_eq_true rfl) dX4_init_17 (fun q17 => ?_)
  refine CW.chg (w2 := [(h0, .inr (3, [.ref q8, .null, .null, .null, .null, .null, .null, .null, .null, .null, .int 0])), (q8, .inl (X.2.2, 300, .inl (fun _ => 0))), (q17, .inl (X.2.2, 300, .inl (fun _ => 0)))]) rfl ?_
  refine CW.putF C hin 0 rfl gci_X4 gcp_X4 (j := 1) (by decide) rfl rfl rfl rfl (Nat.le_of_ble_eq_true rfl) fl_X4_15 dX4_init_19 ?_
  refine CW.chg (w2 := [(h0, .inr (3, [.ref q8, .ref q17, .null, .null, .null, .null, .null, .null, .null, .null, .int 0])), (q8, .inl (X.2.2, 300, .inl (fun _ => 0))), (q17, .inl (X.2.2, 300, .inl (fun _ => 0)))]) rfl ?_
  refine CW.al C (k := 0) rfl dX4_init_22 ?_
  refine CW.bipush C (v := 10) (by decide) dX4_init_23 ?_
  refine CW.na C (N := 10) (by decide) (by decide) (by decide) (Nat.le_of_ble_eq_true rfl) (Nat.le_of_ble_eq_true rfl) dX4_init_25 (fun q25 => ?_)
  refine CW.chg (w2 := [(h0, .inr (3, [.ref q8, .ref q17, .null, .null, .null, .null, .null, .null, .null, .null, .int 0])), (q8, .inl (X.2.2, 300, .inl (fun _ => 0))), (q17, .inl (X.2.2, 300, .inl (fun _ => 0))), (q25, .inl (X.2.2, 10, .inl (fun _ => 0)))]) rfl ?_
  refine CW.putF C hin 0 rfl gci_X4 gcp_X4 (j := 2) (by decide) rfl rfl rfl rfl (Nat.le_of_ble_eq_true rfl) fl_X4_18 dX4_init_27 ?_
  refine CW.chg (w2 := [(h0, .inr (3, [.ref q8, .ref q17, .ref q25, .null, .null, .null, .null, .null, .null, .null, .int 0])), (q8, .inl (X.2.2, 300, .inl (fun _ => 0))), (q17, .inl (X.2.2, 300, .inl (fun _ => 0))), (q25, .inl (X.2.2, 10, .inl (fun _ => 0)))]) rfl ?_
  refine CW.al C (k := 0) rfl dX4_init_30 ?_
  refine CW.bipush C (v := 10) (by decide) dX4_init_31 ?_
  refine CW.na C (N := 10) (by decide) (by decide) (by decide) (Nat.le_of_ble_eq_true rfl) (Nat.le_of_ble_eq_true rfl) dX4_init_33 (fun q33 => ?_)
  refine CW.chg (w2 := [(h0, .inr (3, [.ref q8, .ref q17, .ref q25, .null, .null, .null, .null, .null, .null, .null, .int 0])), (q8, .inl (X.2.2, 300, .inl (fun _ => 0))), (q17, .inl (X.2.2, 300, .inl (fun _ => 0))), (q25, .inl (X.2.2, 10, .inl (fun _ => 0))), (q33, .inl (X.2.2, 10, .inl (fun _ => 0)))]) rfl ?_
  refine CW.putF C hin 0 rfl gci_X4 gcp_X4 (j := 3) (by decide) rfl rfl rfl rfl (Nat.le_of_ble_eq_true rfl) fl_X4_21 dX4_init_35 ?_
  refine CW.chg (w2 := [(h0, .inr (3, [.ref q8, .ref q17, .ref q25, .ref q33, .null, .null, .null, .null, .null, .null, .int 0])), (q8, .inl (X.2.2, 300, .inl (fun _ => 0))), (q17, .inl (X.2.2, 300, .inl (fun _ => 0))), (q25, .inl (X.2.2, 10, .inl (fun _ => 0))), (q33, .inl (X.2.2, 10, .inl (fun _ => 0)))]) rfl ?_
  refine CW.al C (k := 0) rfl dX4_init_38 ?_
  refine CW.sipush C (v := 240) (by decide) dX4_init_39 ?_
  refine CW.na C (N := 240) (by decide) (by decide) (by decide) (Nat.le_of_ble_eq_true rfl) (Nat.le_of_ble_eq_true rfl) dX4_init_42 (fun q42 => ?_)
  refine CW.chg (w2 := [(h0, .inr (3, [.ref q8, .ref q17, .ref q25, .ref q33, .null, .null, .null, .null, .null, .null, .int 0])), (q8, .inl (X.2.2, 300, .inl (fun _ => 0))), (q17, .inl (X.2.2, 300, .inl (fun _ => 0))), (q25, .inl (X.2.2, 10, .inl (fun _ => 0))), (q33, .inl (X.2.2, 10, .inl (fun _ => 0))), (q42, .inl (X.2.2, 240, .inl (fun _ => 0)))]) rfl ?_
  refine CW.putF C hin 0 rfl gci_X4 gcp_X4 (j := 4) (by decide) rfl rfl rfl rfl (Nat.le_of_ble_eq_true rfl) fl_X4_24 dX4_init_44 ?_
  refine CW.chg (w2 := [(h0, .inr (3, [.ref q8, .ref q17, .ref q25, .ref q33, .ref q42, .null, .null, .null, .null, .null, .int 0])), (q8, .inl (X.2.2, 300, .inl (fun _ => 0))), (q17, .inl (X.2.2, 300, .inl (fun _ => 0))), (q25, .inl (X.2.2, 10, .inl (fun _ => 0))), (q33, .inl (X.2.2, 10, .inl (fun _ => 0))), (q42, .inl (X.2.2, 240, .inl (fun _ => 0)))]) rfl ?_
  refine CW.al C (k := 0) rfl dX4_init_47 ?_
  refine CW.sipush C (v := 240) (by decide) dX4_init_48 ?_
  refine CW.na C (N := 240) (by decide) (by decide) (by decide) (Nat.le_of_ble_eq_true rfl) (Nat.le_of_ble_eq_true rfl) dX4_init_51 (fun q51 => ?_)
  refine CW.chg (w2 := [(h0, .inr (3, [.ref q8, .ref q17, .ref q25, .ref q33, .ref q42, .null, .null, .null, .null, .null, .int 0])), (q8, .inl (X.2.2, 300, .inl (fun _ => 0))), (q17, .inl (X.2.2, 300, .inl (fun _ => 0))), (q25, .inl (X.2.2, 10, .inl (fun _ => 0))), (q33, .inl (X.2.2, 10, .inl (fun _ => 0))), (q42, .inl (X.2.2, 240, .inl (fun _ => 0))), (q51, .inl (X.2.2, 240, .inl (fun _ => 0)))]) rfl ?_
  refine CW.putF C hin 0 rfl gci_X4 gcp_X4 (j := 5) (by decide) rfl rfl rfl rfl (Nat.le_of_ble_eq_true rfl) fl_X4_27 dX4_init_53 ?_
  refine CW.chg (w2 := [(h0, .inr (3, [.ref q8, .ref q17, .ref q25, .ref q33, .ref q42, .ref q51, .null, .null, .null, .null, .int 0])), (q8, .inl (X.2.2, 300, .inl (fun _ => 0))), (q17, .inl (X.2.2, 300, .inl (fun _ => 0))), (q25, .inl (X.2.2, 10, .inl (fun _ => 0))), (q33, .inl (X.2.2, 10, .inl (fun _ => 0))), (q42, .inl (X.2.2, 240, .inl (fun _ => 0))), (q51, .inl (X.2.2, 240, .inl (fun _ => 0)))]) rfl ?_
  refine CW.al C (k := 0) rfl dX4_init_56 ?_
  refine CW.sipush C (v := 240) (by decide) dX4_init_57 ?_
  refine CW.na C (N := 240) (by decide) (by decide) (by decide) (Nat.le_of_ble_eq_true rfl) (Nat.le_of_ble_eq_true rfl) dX4_init_60 (fun q60 => ?_)
  refine CW.chg (w2 := [(h0, .inr (3, [.ref q8, .ref q17, .ref q25, .ref q33, .ref q42, .ref q51, .null, .null, .null, .null, .int 0])), (q8, .inl (X.2.2, 300, .inl (fun _ => 0))), (q17, .inl (X.2.2, 300, .inl (fun _ => 0))), (q25, .inl (X.2.2, 10, .inl (fun _ => 0))), (q33, .inl (X.2.2, 10, .inl (fun _ => 0))), (q42, .inl (X.2.2, 240, .inl (fun _ => 0))), (q51, .inl (X.2.2, 240, .inl (fun _ => 0))), (q60, .inl (X.2.2, 240, .inl (fun _ => 0)))]) rfl ?_
  refine CW.putF C hin 0 rfl gci_X4 gcp_X4 (j := 6) (by decide) rfl rfl rfl rfl (Nat.le_of_ble_eq_true rfl) fl_X4_30 dX4_init_62 ?_
  refine CW.chg (w2 := [(h0, .inr (3, [.ref q8, .ref q17, .ref q25, .ref q33, .ref q42, .ref q51, .ref q60, .null, .null, .null, .int 0])), (q8, .inl (X.2.2, 300, .inl (fun _ => 0))), (q17, .inl (X.2.2, 300, .inl (fun _ => 0))), (q25, .inl (X.2.2, 10, .inl (fun _ => 0))), (q33, .inl (X.2.2, 10, .inl (fun _ => 0))), (q42, .inl (X.2.2, 240, .inl (fun _ => 0))), (q51, .inl (X.2.2, 240, .inl (fun _ => 0))), (q60, .inl (X.2.2, 240, .inl (fun _ => 0)))]) rfl ?_
  refine CW.al C (k := 0) rfl dX4_init_65 ?_
  refine CW.sipush C (v := 240) (by decide) dX4_init_66 ?_
  refine CW.na C (N := 240) (by decide) (by decide) (by decide) (Nat.le_of_ble_eq_true rfl) (Nat.le_of_ble_eq_true rfl) dX4_init_69 (fun q69 => ?_)
  refine CW.chg (w2 := [(h0, .inr (3, [.ref q8, .ref q17, .ref q25, .ref q33, .ref q42, .ref q51, .ref q60, .null, .null, .null, .int 0])), (q8, .inl (X.2.2, 300, .inl (fun _ => 0))), (q17, .inl (X.2.2, 300, .inl (fun _ => 0))), (q25, .inl (X.2.2, 10, .inl (fun _ => 0))), (q33, .inl (X.2.2, 10, .inl (fun _ => 0))), (q42, .inl (X.2.2, 240, .inl (fun _ => 0))), (q51, .inl (X.2.2, 240, .inl (fun _ => 0))), (q60, .inl (X.2.2, 240, .inl (fun _ => 0))), (q69, .inl (X.2.2, 240, .inl (fun _ => 0)))]) rfl ?_
  refine CW.putF C hin 0 rfl gci_X4 gcp_X4 (j := 7) (by decide) rfl rfl rfl rfl (Nat.le_of_ble_eq_true rfl) fl_X4_33 dX4_init_71 ?_
  refine CW.chg (w2 := [(h0, .inr (3, [.ref q8, .ref q17, .ref q25, .ref q33, .ref q42, .ref q51, .ref q60, .ref q69, .null, .null, .int 0])), (q8, .inl (X.2.2, 300, .inl (fun _ => 0))), (q17, .inl (X.2.2, 300, .inl (fun _ => 0))), (q25, .inl (X.2.2, 10, .inl (fun _ => 0))), (q33, .inl (X.2.2, 10, .inl (fun _ => 0))), (q42, .inl (X.2.2, 240, .inl (fun _ => 0))), (q51, .inl (X.2.2, 240, .inl (fun _ => 0))), (q60, .inl (X.2.2, 240, .inl (fun _ => 0))), (q69, .inl (X.2.2, 240, .inl (fun _ => 0)))]) rfl ?_
  refine CW.al C (k := 0) rfl dX4_init_74 ?_
  refine CW.sipush C (v := 240) (by decide) dX4_init_75 ?_
  refine CW.na C (N := 240) (by decide) (by decide) (by decide) (Nat.le_of_ble_eq_true rfl) (Nat.le_of_ble_eq_true rfl) dX4_init_78 (fun q78 => ?_)
  refine CW.chg (w2 := [(h0, .inr (3, [.ref q8, .ref q17, .ref q25, .ref q33, .ref q42, .ref q51, .ref q60, .ref q69, .null, .null, .int 0])), (q8, .inl (X.2.2, 300, .inl (fun _ => 0))), (q17, .inl (X.2.2, 300, .inl (fun _ => 0))), (q25, .inl (X.2.2, 10, .inl (fun _ => 0))), (q33, .inl (X.2.2, 10, .inl (fun _ => 0))), (q42, .inl (X.2.2, 240, .inl (fun _ => 0))), (q51, .inl (X.2.2, 240, .inl (fun _ => 0))), (q60, .inl (X.2.2, 240, .inl (fun _ => 0))), (q69, .inl (X.2.2, 240, .inl (fun _ => 0))), (q78, .inl (X.2.2, 240, .inl (fun _ => 0)))]) rfl ?_
  refine CW.putF C hin 0 rfl gci_X4 gcp_X4 (j := 8) (by decide) rfl rfl rfl rfl (Nat.le_of_ble_eq_true rfl) fl_X4_36 dX4_init_80 ?_
  refine CW.chg (w2 := [(h0, .inr (3, [.ref q8, .ref q17, .ref q25, .ref q33, .ref q42, .ref q51, .ref q60, .ref q69, .ref q78, .null, .int 0])), (q8, .inl (X.2.2, 300, .inl (fun _ => 0))), (q17, .inl (X.2.2, 300, .inl (fun _ => 0))), (q25, .inl (X.2.2, 10, .inl (fun _ => 0))), (q33, .inl (X.2.2, 10, .inl (fun _ => 0))), (q42, .inl (X.2.2, 240, .inl (fun _ => 0))), (q51, .inl (X.2.2, 240, .inl (fun _ => 0))), (q60, .inl (X.2.2, 240, .inl (fun _ => 0))), (q69, .inl (X.2.2, 240, .inl (fun _ => 0))), (q78, .inl (X.2.2, 240, .inl (fun _ => 0)))]) rfl ?_
  refine CW.al C (k := 0) rfl dX4_init_83 ?_
  refine CW.bipush C (v := 6) (by decide) dX4_init_84 ?_
  refine CW.na C (N := 6) (by decide) (by decide) (by decide) (Nat.le_of_ble_eq_true rfl) (Nat.le_of_ble_eq_true rfl) dX4_init_86 (fun q86 => ?_)
  refine CW.chg (w2 := [(h0, .inr (3, [.ref q8, .ref q17, .ref q25, .ref q33, .ref q42, .ref q51, .ref q60, .ref q69, .ref q78, .null, .int 0])), (q8, .inl (X.2.2, 300, .inl (fun _ => 0))), (q17, .inl (X.2.2, 300, .inl (fun _ => 0))), (q25, .inl (X.2.2, 10, .inl (fun _ => 0))), (q33, .inl (X.2.2, 10, .inl (fun _ => 0))), (q42, .inl (X.2.2, 240, .inl (fun _ => 0))), (q51, .inl (X.2.2, 240, .inl (fun _ => 0))), (q60, .inl (X.2.2, 240, .inl (fun _ => 0))), (q69, .inl (X.2.2, 240, .inl (fun _ => 0))), (q78, .inl (X.2.2, 240, .inl (fun _ => 0))), (q86, .inl (X.2.2, 6, .inl (fun _ => 0)))]) rfl ?_
  refine CW.putF C hin 0 rfl gci_X4 gcp_X4 (j := 9) (by decide) rfl rfl rfl rfl (Nat.le_of_ble_eq_true rfl) fl_X4_39 dX4_init_88 ?_
  refine CW.chg (w2 := [(h0, .inr (3, [.ref q8, .ref q17, .ref q25, .ref q33, .ref q42, .ref q51, .ref q60, .ref q69, .ref q78, .ref q86, .int 0])), (q8, .inl (X.2.2, 300, .inl (fun _ => 0))), (q17, .inl (X.2.2, 300, .inl (fun _ => 0))), (q25, .inl (X.2.2, 10, .inl (fun _ => 0))), (q33, .inl (X.2.2, 10, .inl (fun _ => 0))), (q42, .inl (X.2.2, 240, .inl (fun _ => 0))), (q51, .inl (X.2.2, 240, .inl (fun _ => 0))), (q60, .inl (X.2.2, 240, .inl (fun _ => 0))), (q69, .inl (X.2.2, 240, .inl (fun _ => 0))), (q78, .inl (X.2.2, 240, .inl (fun _ => 0))), (q86, .inl (X.2.2, 6, .inl (fun _ => 0)))]) rfl ?_
  refine CW.al C (k := 0) rfl dX4_init_91 ?_
  refine CW.ldc C ct_X4_44 dX4_init_92 ?_
  refine CW.put C 0 rfl gci_X4 gcp_X4 (j := 10) (by decide) rfl rfl rfl (Nat.le_of_ble_eq_true rfl) fl_X4_45 dX4_init_94 ?_
  refine CW.chg (w2 := [(h0, .inr (3, [.ref q8, .ref q17, .ref q25, .ref q33, .ref q42, .ref q51, .ref q60, .ref q69, .ref q78, .ref q86, .int 181896])), (q8, .inl (X.2.2, 300, .inl (fun _ => 0))), (q17, .inl (X.2.2, 300, .inl (fun _ => 0))), (q25, .inl (X.2.2, 10, .inl (fun _ => 0))), (q33, .inl (X.2.2, 10, .inl (fun _ => 0))), (q42, .inl (X.2.2, 240, .inl (fun _ => 0))), (q51, .inl (X.2.2, 240, .inl (fun _ => 0))), (q60, .inl (X.2.2, 240, .inl (fun _ => 0))), (q69, .inl (X.2.2, 240, .inl (fun _ => 0))), (q78, .inl (X.2.2, 240, .inl (fun _ => 0))), (q86, .inl (X.2.2, 6, .inl (fun _ => 0)))]) rfl ?_
  refine CW.al C (k := 0) rfl dX4_init_97 ?_
  refine CW.get C 0 (j := 3) (v := .ref q33) rfl gci_X4 (by decide) rfl fl_X4_21 dX4_init_98 ?_
  refine CW.iconst C (v := (-1)) (by decide) dX4_init_101 ?_
  refine CW.stat (n := 2) (as := [.ref q33, .int (-1)]) (st := []) (wr := [(h0, .inr (3, [.ref q8, .ref q17, .ref q25, .ref q33, .ref q42, .ref q51, .ref q60, .ref q69, .ref q78, .ref q86, .int 181896])), (q8, .inl (X.2.2, 300, .inl (fun _ => 0))), (q17, .inl (X.2.2, 300, .inl (fun _ => 0))), (q25, .inl (X.2.2, 10, .inl (fun _ => 0))), (q42, .inl (X.2.2, 240, .inl (fun _ => 0))), (q51, .inl (X.2.2, 240, .inl (fun _ => 0))), (q60, .inl (X.2.2, 240, .inl (fun _ => 0))), (q69, .inl (X.2.2, 240, .inl (fun _ => 0))), (q78, .inl (X.2.2, 240, .inl (fun _ => 0))), (q86, .inl (X.2.2, 6, .inl (fun _ => 0)))]) C (c_fill q33 10 (by decide)) ⟨wi_J7, wc_yJ7_fill_53178, ⟨by decide, by decide, by decide +kernel⟩, rfl, rfl⟩ ml_X4_49 ws_yJ7_fill_53178 ⟨by decide, by decide⟩ rfl rfl [4] [0, 1, 2, 3, 5, 6, 7, 8, 9, 10] rfl rfl rfl rfl (by decide) (Nat.le_of_ble_eq_true rfl) (Nat.le_of_ble_eq_true rfl) (Nat.le_of_ble_eq_true rfl) dX4_init_102 (fun w1 hw1 => ?_)
  subst hw1
  refine CW.chg (w2 := [(h0, .inr (3, [.ref q8, .ref q17, .ref q25, .ref q33, .ref q42, .ref q51, .ref q60, .ref q69, .ref q78, .ref q86, .int 181896])), (q8, .inl (X.2.2, 300, .inl (fun _ => 0))), (q17, .inl (X.2.2, 300, .inl (fun _ => 0))), (q25, .inl (X.2.2, 10, .inl (fun _ => 0))), (q42, .inl (X.2.2, 240, .inl (fun _ => 0))), (q51, .inl (X.2.2, 240, .inl (fun _ => 0))), (q60, .inl (X.2.2, 240, .inl (fun _ => 0))), (q69, .inl (X.2.2, 240, .inl (fun _ => 0))), (q78, .inl (X.2.2, 240, .inl (fun _ => 0))), (q86, .inl (X.2.2, 6, .inl (fun _ => 0))), (q33, .inl (X.2.2, 10, .inl (fun i => if i < 10 then -1 else 0)))]) rfl ?_
  exact CW.vret C rfl (⟨q8, q17, q25, q42, q51, q60, q69, q78, q86, q33, rfl⟩) dX4_init_105
set_option maxHeartbeats 4000000 in
set_option maxRecDepth 100000 in
theorem c_X6_init (h0 : Nat) : CM X nX6 [.ref h0] [(h0, .inr (4, [.null, .null, .null, .null, .int 0, .null, .int 0, .null, .null, .null, .null, .null]))] 41 5635 (fun w1 => ∃ (q5 : Nat) (q13_9 : Nat) (q22_9 : Nat) (q6_9 : Nat) (q23 : Nat) (q42 : Nat) (q7_46 : Nat) (q25_46 : Nat) (q53 : Nat) (q7_57 : Nat) (q25_57 : Nat) (q64 : Nat) (q7_68 : Nat) (q25_68 : Nat) (q75 : Nat) (q7_79 : Nat) (q25_79 : Nat) (q85 : Nat) (q8_89 : Nat) (q17_89 : Nat) (q25_89 : Nat) (q42_89 : Nat) (q51_89 : Nat) (q60_89 : Nat) (q69_89 : Nat) (q78_89 : Nat) (q86_89 : Nat) (q33_89 : Nat) (q99 : Nat) (q7_104 : Nat) (q21_104 : Nat) (q30_104 : Nat) (q44_104 : Nat) (q52_104 : Nat) (q111 : Nat) (q7_116 : Nat) (q21_116 : Nat) (q30_116 : Nat) (q44_116 : Nat) (q52_116 : Nat) (q36 : Nat), w1 = [(h0, .inr (4, [.ref q85, .ref q5, .ref q99, .ref q111, .int 0, .ref q23, .int 0, .ref q36, .ref q42, .ref q53, .ref q64, .ref q75])), (q5, .inr (1, [.ref q6_9, .ref q13_9, .ref q22_9, .int 0])), (q13_9, .inl (X.2.2, 4, .inl (fun _ => 0))), (q22_9, .inl (X.2.2, 240, .inl (fun _ => 0))), (q6_9, .inl (X.2.2, 4, .inl (fun i => if i < 4 then -1 else 0))), (q23, .inl (X.2.2, 96, .inl (fun _ => 0))), (q42, .inr (0, [.ref q7_46, .int 0, .int (-1), .ref q25_46, .int 0])), (q7_46, .inl (X.2.2, 60, .inl (fun _ => 0))), (q25_46, .inl (X.2.2, 62, .inl (fun _ => 0))), (q53, .inr (0, [.ref q7_57, .int 0, .int (-1), .ref q25_57, .int 0])), (q7_57, .inl (X.2.2, 60, .inl (fun _ => 0))), (q25_57, .inl (X.2.2, 62, .inl (fun _ => 0))), (q64, .inr (0, [.ref q7_68, .int 0, .int (-1), .ref q25_68, .int 0])), (q7_68, .inl (X.2.2, 60, .inl (fun _ => 0))), (q25_68, .inl (X.2.2, 62, .inl (fun _ => 0))), (q75, .inr (0, [.ref q7_79, .int 0, .int (-1), .ref q25_79, .int 0])), (q7_79, .inl (X.2.2, 60, .inl (fun _ => 0))), (q25_79, .inl (X.2.2, 62, .inl (fun _ => 0))), (q85, .inr (3, [.ref q8_89, .ref q17_89, .ref q25_89, .ref q33_89, .ref q42_89, .ref q51_89, .ref q60_89, .ref q69_89, .ref q78_89, .ref q86_89, .int 181896])), (q8_89, .inl (X.2.2, 300, .inl (fun _ => 0))), (q17_89, .inl (X.2.2, 300, .inl (fun _ => 0))), (q25_89, .inl (X.2.2, 10, .inl (fun _ => 0))), (q42_89, .inl (X.2.2, 240, .inl (fun _ => 0))), (q51_89, .inl (X.2.2, 240, .inl (fun _ => 0))), (q60_89, .inl (X.2.2, 240, .inl (fun _ => 0))), (q69_89, .inl (X.2.2, 240, .inl (fun _ => 0))), (q78_89, .inl (X.2.2, 240, .inl (fun _ => 0))), (q86_89, .inl (X.2.2, 6, .inl (fun _ => 0))), (q33_89, .inl (X.2.2, 10, .inl (fun i => if i < 10 then -1 else 0))), (q99, .inr (2, [.ref q85, .ref q7_104, .int 0, .ref q21_104, .ref q30_104, .int 0, .ref q44_104, .ref q52_104, .int 0, .int (-1), .int 0, .int 0])), (q7_104, .inl (X.2.2, 6, .inl (fun _ => 0))), (q21_104, .inl (X.2.2, 602, .inl (fun _ => 0))), (q30_104, .inl (X.2.2, 602, .inl (fun _ => 0))), (q44_104, .inl (X.2.2, 240, .inl (fun _ => 0))), (q52_104, .inl (X.2.2, 6, .inl (fun _ => 0))), (q111, .inr (2, [.ref q85, .ref q7_116, .int 0, .ref q21_116, .ref q30_116, .int 0, .ref q44_116, .ref q52_116, .int 0, .int (-1), .int 0, .int 0])), (q7_116, .inl (X.2.2, 6, .inl (fun _ => 0))), (q21_116, .inl (X.2.2, 602, .inl (fun _ => 0))), (q30_116, .inl (X.2.2, 602, .inl (fun _ => 0))), (q44_116, .inl (X.2.2, 240, .inl (fun _ => 0))), (q52_116, .inl (X.2.2, 6, .inl (fun _ => 0))), (q36, .inl (X.2.2, 6, .inl (fun i => if i < 6 then -1 else 0)))]) := by
  refine CM.of (ls := [some (.ref h0), none]) (by decide) (Nat.le_of_ble_eq_true rfl) rfl ?_
  intro A p e s m args below meth c C hin
  refine CW.al C (k := 0) rfl dX6_init_0 ?_
  refine CW.obj C ml_X6_3 (Nat.le_of_ble_eq_true rfl) (Nat.le_of_ble_eq_true rfl) dX6_init_1 ?_
  refine CW.al C (k := 0) rfl dX6_init_4 ?_
  refine CW.new C (fs := [.null, .null, .null, .int 0]) gci_X1 gcp_X1 cl_X6_9 in_X1 wi_X1 (df_X1) (Nat.le_of_ble_eq_true rfl) (Nat.le_of_ble_eq_true rfl) dX6_init_5 (fun q5 => ?_)
  refine CW.chg (w2 := [(h0, .inr (4, [.null, .null, .null, .null, .int 0, .null, .int 0, .null, .null, .null, .null, .null])), (q5, .inr (1, [.null, .null, .null, .int 0]))]) rfl ?_
  refine CW.dup C dX6_init_8 ?_
  refine CW.ctor (n := 0) (as := []) (b := q5) (st := [.ref q5, .ref h0]) (wr := [(h0, .inr (4, [.null, .null, .null, .null, .int 0, .null, .int 0, .null, .null, .null, .null, .null]))]) C (c_X1_init q5) ⟨wi_X1, wc_yX1_init, ⟨by decide, by decide, by decide +kernel⟩, rfl, rfl⟩ rfl rfl ml_X6_11 im_yX1_init ⟨by decide, by decide⟩ rfl rfl [1] [0] rfl rfl rfl rfl (by decide) (Nat.le_of_ble_eq_true rfl) (Nat.le_of_ble_eq_true rfl) (Nat.le_of_ble_eq_true rfl) dX6_init_9 (fun w1 hw1 => ?_)
  obtain ⟨q13_9, q22_9, q6_9, rfl⟩ := hw1
  refine CW.chg (w2 := [(h0, .inr (4, [.null, .null, .null, .null, .int 0, .null, .int 0, .null, .null, .null, .null, .null])), (q5, .inr (1, [.ref q6_9, .ref q13_9, .ref q22_9, .int 0])), (q13_9, .inl (X.2.2, 4, .inl (fun _ => 0))), (q22_9, .inl (X.2.2, 240, .inl (fun _ => 0))), (q6_9, .inl (X.2.2, 4, .inl (fun i => if i < 4 then -1 else 0)))]) rfl ?_
  refine CW.putF C hin 0 rfl gci_X6 gcp_X6 (j := 1) (by decide) rfl rfl rfl rfl (Nat.le_of_ble_eq_true rfl) fl_X6_12 dX6_init_12 ?_
  refine CW.chg (w2 := [(h0, .inr (4, [.null, .ref q5, .null, .null, .int 0, .null, .int 0, .null, .null, .null, .null, .null])), (q5, .inr (1, [.ref q6_9, .ref q13_9, .ref q22_9, .int 0])), (q13_9, .inl (X.2.2, 4, .inl (fun _ => 0))), (q22_9, .inl (X.2.2, 240, .inl (fun _ => 0))), (q6_9, .inl (X.2.2, 4, .inl (fun i => if i < 4 then -1 else 0)))]) rfl ?_
  refine CW.al C (k := 0) rfl dX6_init_15 ?_
  refine CW.iconst C (v := 0) (by decide) dX6_init_16 ?_
  refine CW.put C 0 rfl gci_X6 gcp_X6 (j := 4) (by decide) rfl rfl rfl (Nat.le_of_ble_eq_true rfl) fl_X6_16 dX6_init_17 ?_
  refine CW.chg (w2 := [(h0, .inr (4, [.null, .ref q5, .null, .null, .int 0, .null, .int 0, .null, .null, .null, .null, .null])), (q5, .inr (1, [.ref q6_9, .ref q13_9, .ref q22_9, .int 0])), (q13_9, .inl (X.2.2, 4, .inl (fun _ => 0))), (q22_9, .inl (X.2.2, 240, .inl (fun _ => 0))), (q6_9, .inl (X.2.2, 4, .inl (fun i => if i < 4 then -1 else 0)))]) rfl ?_
  refine CW.al C (k := 0) rfl dX6_init_20 ?_
  refine CW.bipush C (v := 96) (by decide) dX6_init_21 ?_
  refine CW.na C (N := 96) (by decide) (by decide) (by decide) (Nat.le_of_ble_eq_true rfl) (Nat.le_of_ble_eq_true rfl) dX6_init_23 (fun q23 => ?_)
  refine CW.chg (w2 := [(h0, .inr (4, [.null, .ref q5, .null, .null, .int 0, .null, .int 0, .null, .null, .null, .null, .null])), (q5, .inr (1, [.ref q6_9, .ref q13_9, .ref q22_9, .int 0])), (q13_9, .inl (X.2.2, 4, .inl (fun _ => 0))), (q22_9, .inl (X.2.2, 240, .inl (fun _ => 0))), (q6_9, .inl (X.2.2, 4, .inl (fun i => if i < 4 then -1 else 0))), (q23, .inl (X.2.2, 96, .inl (fun _ => 0)))]) rfl ?_
  refine CW.putF C hin 0 rfl gci_X6 gcp_X6 (j := 5) (by decide) rfl rfl rfl rfl (Nat.le_of_ble_eq_true rfl) fl_X6_20 dX6_init_25 ?_
  refine CW.chg (w2 := [(h0, .inr (4, [.null, .ref q5, .null, .null, .int 0, .ref q23, .int 0, .null, .null, .null, .null, .null])), (q5, .inr (1, [.ref q6_9, .ref q13_9, .ref q22_9, .int 0])), (q13_9, .inl (X.2.2, 4, .inl (fun _ => 0))), (q22_9, .inl (X.2.2, 240, .inl (fun _ => 0))), (q6_9, .inl (X.2.2, 4, .inl (fun i => if i < 4 then -1 else 0))), (q23, .inl (X.2.2, 96, .inl (fun _ => 0)))]) rfl ?_
  refine CW.al C (k := 0) rfl dX6_init_28 ?_
  refine CW.iconst C (v := 0) (by decide) dX6_init_29 ?_
  refine CW.put C 0 rfl gci_X6 gcp_X6 (j := 6) (by decide) rfl rfl rfl (Nat.le_of_ble_eq_true rfl) fl_X6_24 dX6_init_30 ?_
  refine CW.chg (w2 := [(h0, .inr (4, [.null, .ref q5, .null, .null, .int 0, .ref q23, .int 0, .null, .null, .null, .null, .null])), (q5, .inr (1, [.ref q6_9, .ref q13_9, .ref q22_9, .int 0])), (q13_9, .inl (X.2.2, 4, .inl (fun _ => 0))), (q22_9, .inl (X.2.2, 240, .inl (fun _ => 0))), (q6_9, .inl (X.2.2, 4, .inl (fun i => if i < 4 then -1 else 0))), (q23, .inl (X.2.2, 96, .inl (fun _ => 0)))]) rfl ?_
  refine CW.al C (k := 0) rfl dX6_init_33 ?_
  refine CW.bipush C (v := 6) (by decide) dX6_init_34 ?_
  refine CW.na C (N := 6) (by decide) (by decide) (by decide) (Nat.le_of_ble_eq_true rfl) (Nat.le_of_ble_eq_true rfl) dX6_init_36 (fun q36 => ?_)
  refine CW.chg (w2 := [(h0, .inr (4, [.null, .ref q5, .null, .null, .int 0, .ref q23, .int 0, .null, .null, .null, .null, .null])), (q5, .inr (1, [.ref q6_9, .ref q13_9, .ref q22_9, .int 0])), (q13_9, .inl (X.2.2, 4, .inl (fun _ => 0))), (q22_9, .inl (X.2.2, 240, .inl (fun _ => 0))), (q6_9, .inl (X.2.2, 4, .inl (fun i => if i < 4 then -1 else 0))), (q23, .inl (X.2.2, 96, .inl (fun _ => 0))), (q36, .inl (X.2.2, 6, .inl (fun _ => 0)))]) rfl ?_
  refine CW.putF C hin 0 rfl gci_X6 gcp_X6 (j := 7) (by decide) rfl rfl rfl rfl (Nat.le_of_ble_eq_true rfl) fl_X6_28 dX6_init_38 ?_
  refine CW.chg (w2 := [(h0, .inr (4, [.null, .ref q5, .null, .null, .int 0, .ref q23, .int 0, .ref q36, .null, .null, .null, .null])), (q5, .inr (1, [.ref q6_9, .ref q13_9, .ref q22_9, .int 0])), (q13_9, .inl (X.2.2, 4, .inl (fun _ => 0))), (q22_9, .inl (X.2.2, 240, .inl (fun _ => 0))), (q6_9, .inl (X.2.2, 4, .inl (fun i => if i < 4 then -1 else 0))), (q23, .inl (X.2.2, 96, .inl (fun _ => 0))), (q36, .inl (X.2.2, 6, .inl (fun _ => 0)))]) rfl ?_
  refine CW.al C (k := 0) rfl dX6_init_41 ?_
  refine CW.new C (fs := [.null, .int 0, .int 0, .null, .int 0]) gci_X0 gcp_X0 cl_X6_31 in_X0 wi_X0 (df_X0) (Nat.le_of_ble_eq_true rfl) (Nat.le_of_ble_eq_true rfl) dX6_init_42 (fun q42 => ?_)
  refine CW.chg (w2 := [(h0, .inr (4, [.null, .ref q5, .null, .null, .int 0, .ref q23, .int 0, .ref q36, .null, .null, .null, .null])), (q5, .inr (1, [.ref q6_9, .ref q13_9, .ref q22_9, .int 0])), (q13_9, .inl (X.2.2, 4, .inl (fun _ => 0))), (q22_9, .inl (X.2.2, 240, .inl (fun _ => 0))), (q6_9, .inl (X.2.2, 4, .inl (fun i => if i < 4 then -1 else 0))), (q23, .inl (X.2.2, 96, .inl (fun _ => 0))), (q36, .inl (X.2.2, 6, .inl (fun _ => 0))), (q42, .inr (0, [.null, .int 0, .int 0, .null, .int 0]))]) rfl ?_
  refine CW.dup C dX6_init_45 ?_
  refine CW.ctorN (n := 0) (as := []) (b := q42) (st := [.ref q42, .ref h0]) (wr := [(h0, .inr (4, [.null, .ref q5, .null, .null, .int 0, .ref q23, .int 0, .ref q36, .null, .null, .null, .null])), (q5, .inr (1, [.ref q6_9, .ref q13_9, .ref q22_9, .int 0])), (q13_9, .inl (X.2.2, 4, .inl (fun _ => 0))), (q22_9, .inl (X.2.2, 240, .inl (fun _ => 0))), (q6_9, .inl (X.2.2, 4, .inl (fun i => if i < 4 then -1 else 0))), (q23, .inl (X.2.2, 96, .inl (fun _ => 0))), (q36, .inl (X.2.2, 6, .inl (fun _ => 0)))]) C (c_X0_init q42) ⟨wi_X0, wc_yX0_init, ⟨by decide, by decide, by decide +kernel⟩, rfl, rfl⟩ rfl rfl C.2.2.2.2.2.2.2.1.2 im_yX0_init ⟨by decide, by decide⟩ rfl rfl [7] [0, 1, 2, 3, 4, 5, 6] rfl rfl rfl rfl (by decide) (Nat.le_of_ble_eq_true rfl) (Nat.le_of_ble_eq_true rfl) (Nat.le_of_ble_eq_true rfl) dX6_init_46 (fun w1 hw1 => ?_)
  obtain ⟨q7_46, q25_46, rfl⟩ := hw1
  refine CW.chg (w2 := [(h0, .inr (4, [.null, .ref q5, .null, .null, .int 0, .ref q23, .int 0, .ref q36, .null, .null, .null, .null])), (q5, .inr (1, [.ref q6_9, .ref q13_9, .ref q22_9, .int 0])), (q13_9, .inl (X.2.2, 4, .inl (fun _ => 0))), (q22_9, .inl (X.2.2, 240, .inl (fun _ => 0))), (q6_9, .inl (X.2.2, 4, .inl (fun i => if i < 4 then -1 else 0))), (q23, .inl (X.2.2, 96, .inl (fun _ => 0))), (q36, .inl (X.2.2, 6, .inl (fun _ => 0))), (q42, .inr (0, [.ref q7_46, .int 0, .int (-1), .ref q25_46, .int 0])), (q7_46, .inl (X.2.2, 60, .inl (fun _ => 0))), (q25_46, .inl (X.2.2, 62, .inl (fun _ => 0)))]) rfl ?_
  refine CW.putF C hin 0 rfl gci_X6 gcp_X6 (j := 8) (by decide) rfl rfl rfl rfl (Nat.le_of_ble_eq_true rfl) fl_X6_34 dX6_init_49 ?_
  refine CW.chg (w2 := [(h0, .inr (4, [.null, .ref q5, .null, .null, .int 0, .ref q23, .int 0, .ref q36, .ref q42, .null, .null, .null])), (q5, .inr (1, [.ref q6_9, .ref q13_9, .ref q22_9, .int 0])), (q13_9, .inl (X.2.2, 4, .inl (fun _ => 0))), (q22_9, .inl (X.2.2, 240, .inl (fun _ => 0))), (q6_9, .inl (X.2.2, 4, .inl (fun i => if i < 4 then -1 else 0))), (q23, .inl (X.2.2, 96, .inl (fun _ => 0))), (q36, .inl (X.2.2, 6, .inl (fun _ => 0))), (q42, .inr (0, [.ref q7_46, .int 0, .int (-1), .ref q25_46, .int 0])), (q7_46, .inl (X.2.2, 60, .inl (fun _ => 0))), (q25_46, .inl (X.2.2, 62, .inl (fun _ => 0)))]) rfl ?_
  refine CW.al C (k := 0) rfl dX6_init_52 ?_
  refine CW.new C (fs := [.null, .int 0, .int 0, .null, .int 0]) gci_X0 gcp_X0 cl_X6_31 in_X0 wi_X0 (df_X0) (Nat.le_of_ble_eq_true rfl) (Nat.le_of_ble_eq_true rfl) dX6_init_53 (fun q53 => ?_)
  refine CW.chg (w2 := [(h0, .inr (4, [.null, .ref q5, .null, .null, .int 0, .ref q23, .int 0, .ref q36, .ref q42, .null, .null, .null])), (q5, .inr (1, [.ref q6_9, .ref q13_9, .ref q22_9, .int 0])), (q13_9, .inl (X.2.2, 4, .inl (fun _ => 0))), (q22_9, .inl (X.2.2, 240, .inl (fun _ => 0))), (q6_9, .inl (X.2.2, 4, .inl (fun i => if i < 4 then -1 else 0))), (q23, .inl (X.2.2, 96, .inl (fun _ => 0))), (q36, .inl (X.2.2, 6, .inl (fun _ => 0))), (q42, .inr (0, [.ref q7_46, .int 0, .int (-1), .ref q25_46, .int 0])), (q7_46, .inl (X.2.2, 60, .inl (fun _ => 0))), (q25_46, .inl (X.2.2, 62, .inl (fun _ => 0))), (q53, .inr (0, [.null, .int 0, .int 0, .null, .int 0]))]) rfl ?_
  refine CW.dup C dX6_init_56 ?_
  refine CW.ctorN (n := 0) (as := []) (b := q53) (st := [.ref q53, .ref h0]) (wr := [(h0, .inr (4, [.null, .ref q5, .null, .null, .int 0, .ref q23, .int 0, .ref q36, .ref q42, .null, .null, .null])), (q5, .inr (1, [.ref q6_9, .ref q13_9, .ref q22_9, .int 0])), (q13_9, .inl (X.2.2, 4, .inl (fun _ => 0))), (q22_9, .inl (X.2.2, 240, .inl (fun _ => 0))), (q6_9, .inl (X.2.2, 4, .inl (fun i => if i < 4 then -1 else 0))), (q23, .inl (X.2.2, 96, .inl (fun _ => 0))), (q36, .inl (X.2.2, 6, .inl (fun _ => 0))), (q42, .inr (0, [.ref q7_46, .int 0, .int (-1), .ref q25_46, .int 0])), (q7_46, .inl (X.2.2, 60, .inl (fun _ => 0))), (q25_46, .inl (X.2.2, 62, .inl (fun _ => 0)))]) C (c_X0_init q53) ⟨wi_X0, wc_yX0_init, ⟨by decide, by decide, by decide +kernel⟩, rfl, rfl⟩ rfl rfl C.2.2.2.2.2.2.2.1.2 im_yX0_init ⟨by decide, by decide⟩ rfl rfl [10] [0, 1, 2, 3, 4, 5, 6, 7, 8, 9] rfl rfl rfl rfl (by decide) (Nat.le_of_ble_eq_true rfl) (Nat.le_of_ble_eq_true rfl) (Nat.le_of_ble_eq_true rfl) dX6_init_57 (fun w1 hw1 => ?_)
  obtain ⟨q7_57, q25_57, rfl⟩ := hw1
  refine CW.chg (w2 := [(h0, .inr (4, [.null, .ref q5, .null, .null, .int 0, .ref q23, .int 0, .ref q36, .ref q42, .null, .null, .null])), (q5, .inr (1, [.ref q6_9, .ref q13_9, .ref q22_9, .int 0])), (q13_9, .inl (X.2.2, 4, .inl (fun _ => 0))), (q22_9, .inl (X.2.2, 240, .inl (fun _ => 0))), (q6_9, .inl (X.2.2, 4, .inl (fun i => if i < 4 then -1 else 0))), (q23, .inl (X.2.2, 96, .inl (fun _ => 0))), (q36, .inl (X.2.2, 6, .inl (fun _ => 0))), (q42, .inr (0, [.ref q7_46, .int 0, .int (-1), .ref q25_46, .int 0])), (q7_46, .inl (X.2.2, 60, .inl (fun _ => 0))), (q25_46, .inl (X.2.2, 62, .inl (fun _ => 0))), (q53, .inr (0, [.ref q7_57, .int 0, .int (-1), .ref q25_57, .int 0])), (q7_57, .inl (X.2.2, 60, .inl (fun _ => 0))), (q25_57, .inl (X.2.2, 62, .inl (fun _ => 0)))]) rfl ?_
  refine CW.putF C hin 0 rfl gci_X6 gcp_X6 (j := 9) (by decide) rfl rfl rfl rfl (Nat.le_of_ble_eq_true rfl) fl_X6_38 dX6_init_60 ?_
  refine CW.chg (w2 := [(h0, .inr (4, [.null, .ref q5, .null, .null, .int 0, .ref q23, .int 0, .ref q36, .ref q42, .ref q53, .null, .null])), (q5, .inr (1, [.ref q6_9, .ref q13_9, .ref q22_9, .int 0])), (q13_9, .inl (X.2.2, 4, .inl (fun _ => 0))), (q22_9, .inl (X.2.2, 240, .inl (fun _ => 0))), (q6_9, .inl (X.2.2, 4, .inl (fun i => if i < 4 then -1 else 0))), (q23, .inl (X.2.2, 96, .inl (fun _ => 0))), (q36, .inl (X.2.2, 6, .inl (fun _ => 0))), (q42, .inr (0, [.ref q7_46, .int 0, .int (-1), .ref q25_46, .int 0])), (q7_46, .inl (X.2.2, 60, .inl (fun _ => 0))), (q25_46, .inl (X.2.2, 62, .inl (fun _ => 0))), (q53, .inr (0, [.ref q7_57, .int 0, .int (-1), .ref q25_57, .int 0])), (q7_57, .inl (X.2.2, 60, .inl (fun _ => 0))), (q25_57, .inl (X.2.2, 62, .inl (fun _ => 0)))]) rfl ?_
  refine CW.al C (k := 0) rfl dX6_init_63 ?_
  refine CW.new C (fs := [.null, .int 0, .int 0, .null, .int 0]) gci_X0 gcp_X0 cl_X6_31 in_X0 wi_X0 (df_X0) (Nat.le_of_ble_eq_true rfl) (Nat.le_of_ble_eq_true rfl) dX6_init_64 (fun q64 => ?_)
  refine CW.chg (w2 := [(h0, .inr (4, [.null, .ref q5, .null, .null, .int 0, .ref q23, .int 0, .ref q36, .ref q42, .ref q53, .null, .null])), (q5, .inr (1, [.ref q6_9, .ref q13_9, .ref q22_9, .int 0])), (q13_9, .inl (X.2.2, 4, .inl (fun _ => 0))), (q22_9, .inl (X.2.2, 240, .inl (fun _ => 0))), (q6_9, .inl (X.2.2, 4, .inl (fun i => if i < 4 then -1 else 0))), (q23, .inl (X.2.2, 96, .inl (fun _ => 0))), (q36, .inl (X.2.2, 6, .inl (fun _ => 0))), (q42, .inr (0, [.ref q7_46, .int 0, .int (-1), .ref q25_46, .int 0])), (q7_46, .inl (X.2.2, 60, .inl (fun _ => 0))), (q25_46, .inl (X.2.2, 62, .inl (fun _ => 0))), (q53, .inr (0, [.ref q7_57, .int 0, .int (-1), .ref q25_57, .int 0])), (q7_57, .inl (X.2.2, 60, .inl (fun _ => 0))), (q25_57, .inl (X.2.2, 62, .inl (fun _ => 0))), (q64, .inr (0, [.null, .int 0, .int 0, .null, .int 0]))]) rfl ?_
  refine CW.dup C dX6_init_67 ?_
  refine CW.ctorN (n := 0) (as := []) (b := q64) (st := [.ref q64, .ref h0]) (wr := [(h0, .inr (4, [.null, .ref q5, .null, .null, .int 0, .ref q23, .int 0, .ref q36, .ref q42, .ref q53, .null, .null])), (q5, .inr (1, [.ref q6_9, .ref q13_9, .ref q22_9, .int 0])), (q13_9, .inl (X.2.2, 4, .inl (fun _ => 0))), (q22_9, .inl (X.2.2, 240, .inl (fun _ => 0))), (q6_9, .inl (X.2.2, 4, .inl (fun i => if i < 4 then -1 else 0))), (q23, .inl (X.2.2, 96, .inl (fun _ => 0))), (q36, .inl (X.2.2, 6, .inl (fun _ => 0))), (q42, .inr (0, [.ref q7_46, .int 0, .int (-1), .ref q25_46, .int 0])), (q7_46, .inl (X.2.2, 60, .inl (fun _ => 0))), (q25_46, .inl (X.2.2, 62, .inl (fun _ => 0))), (q53, .inr (0, [.ref q7_57, .int 0, .int (-1), .ref q25_57, .int 0])), (q7_57, .inl (X.2.2, 60, .inl (fun _ => 0))), (q25_57, .inl (X.2.2, 62, .inl (fun _ => 0)))]) C (c_X0_init q64) ⟨wi_X0, wc_yX0_init, ⟨by decide, by decide, by decide +kernel⟩, rfl, rfl⟩ rfl rfl C.2.2.2.2.2.2.2.1.2 im_yX0_init ⟨by decide, by decide⟩ rfl rfl [13] [0, 1, 2, 3, 4, 5, 6, 7, 8, 9, 10, 11, 12] rfl rfl rfl rfl (by decide) (Nat.le_of_ble_eq_true rfl) (Nat.le_of_ble_eq_true rfl) (Nat.le_of_ble_eq_true rfl) dX6_init_68 (fun w1 hw1 => ?_)
  obtain ⟨q7_68, q25_68, rfl⟩ := hw1
  refine CW.chg (w2 := [(h0, .inr (4, [.null, .ref q5, .null, .null, .int 0, .ref q23, .int 0, .ref q36, .ref q42, .ref q53, .null, .null])), (q5, .inr (1, [.ref q6_9, .ref q13_9, .ref q22_9, .int 0])), (q13_9, .inl (X.2.2, 4, .inl (fun _ => 0))), (q22_9, .inl (X.2.2, 240, .inl (fun _ => 0))), (q6_9, .inl (X.2.2, 4, .inl (fun i => if i < 4 then -1 else 0))), (q23, .inl (X.2.2, 96, .inl (fun _ => 0))), (q36, .inl (X.2.2, 6, .inl (fun _ => 0))), (q42, .inr (0, [.ref q7_46, .int 0, .int (-1), .ref q25_46, .int 0])), (q7_46, .inl (X.2.2, 60, .inl (fun _ => 0))), (q25_46, .inl (X.2.2, 62, .inl (fun _ => 0))), (q53, .inr (0, [.ref q7_57, .int 0, .int (-1), .ref q25_57, .int 0])), (q7_57, .inl (X.2.2, 60, .inl (fun _ => 0))), (q25_57, .inl (X.2.2, 62, .inl (fun _ => 0))), (q64, .inr (0, [.ref q7_68, .int 0, .int (-1), .ref q25_68, .int 0])), (q7_68, .inl (X.2.2, 60, .inl (fun _ => 0))), (q25_68, .inl (X.2.2, 62, .inl (fun _ => 0)))]) rfl ?_
  refine CW.putF C hin 0 rfl gci_X6 gcp_X6 (j := 10) (by decide) rfl rfl rfl rfl (Nat.le_of_ble_eq_true rfl) fl_X6_41 dX6_init_71 ?_
  refine CW.chg (w2 := [(h0, .inr (4, [.null, .ref q5, .null, .null, .int 0, .ref q23, .int 0, .ref q36, .ref q42, .ref q53, .ref q64, .null])), (q5, .inr (1, [.ref q6_9, .ref q13_9, .ref q22_9, .int 0])), (q13_9, .inl (X.2.2, 4, .inl (fun _ => 0))), (q22_9, .inl (X.2.2, 240, .inl (fun _ => 0))), (q6_9, .inl (X.2.2, 4, .inl (fun i => if i < 4 then -1 else 0))), (q23, .inl (X.2.2, 96, .inl (fun _ => 0))), (q36, .inl (X.2.2, 6, .inl (fun _ => 0))), (q42, .inr (0, [.ref q7_46, .int 0, .int (-1), .ref q25_46, .int 0])), (q7_46, .inl (X.2.2, 60, .inl (fun _ => 0))), (q25_46, .inl (X.2.2, 62, .inl (fun _ => 0))), (q53, .inr (0, [.ref q7_57, .int 0, .int (-1), .ref q25_57, .int 0])), (q7_57, .inl (X.2.2, 60, .inl (fun _ => 0))), (q25_57, .inl (X.2.2, 62, .inl (fun _ => 0))), (q64, .inr (0, [.ref q7_68, .int 0, .int (-1), .ref q25_68, .int 0])), (q7_68, .inl (X.2.2, 60, .inl (fun _ => 0))), (q25_68, .inl (X.2.2, 62, .inl (fun _ => 0)))]) rfl ?_
  refine CW.al C (k := 0) rfl dX6_init_74 ?_
  refine CW.new C (fs := [.null, .int 0, .int 0, .null, .int 0]) gci_X0 gcp_X0 cl_X6_31 in_X0 wi_X0 (df_X0) (Nat.le_of_ble_eq_true rfl) (Nat.le_of_ble_eq_true rfl) dX6_init_75 (fun q75 => ?_)
  refine CW.chg (w2 := [(h0, .inr (4, [.null, .ref q5, .null, .null, .int 0, .ref q23, .int 0, .ref q36, .ref q42, .ref q53, .ref q64, .null])), (q5, .inr (1, [.ref q6_9, .ref q13_9, .ref q22_9, .int 0])), (q13_9, .inl (X.2.2, 4, .inl (fun _ => 0))), (q22_9, .inl (X.2.2, 240, .inl (fun _ => 0))), (q6_9, .inl (X.2.2, 4, .inl (fun i => if i < 4 then -1 else 0))), (q23, .inl (X.2.2, 96, .inl (fun _ => 0))), (q36, .inl (X.2.2, 6, .inl (fun _ => 0))), (q42, .inr (0, [.ref q7_46, .int 0, .int (-1), .ref q25_46, .int 0])), (q7_46, .inl (X.2.2, 60, .inl (fun _ => 0))), (q25_46, .inl (X.2.2, 62, .inl (fun _ => 0))), (q53, .inr (0, [.ref q7_57, .int 0, .int (-1), .ref q25_57, .int 0])), (q7_57, .inl (X.2.2, 60, .inl (fun _ => 0))), (q25_57, .inl (X.2.2, 62, .inl (fun _ => 0))), (q64, .inr (0, [.ref q7_68, .int 0, .int (-1), .ref q25_68, .int 0])), (q7_68, .inl (X.2.2, 60, .inl (fun _ => 0))), (q25_68, .inl (X.2.2, 62, .inl (fun _ => 0))), (q75, .inr (0, [.null, .int 0, .int 0, .null, .int 0]))]) rfl ?_
  refine CW.dup C dX6_init_78 ?_
  refine CW.ctorN (n := 0) (as := []) (b := q75) (st := [.ref q75, .ref h0]) (wr := [(h0, .inr (4, [.null, .ref q5, .null, .null, .int 0, .ref q23, .int 0, .ref q36, .ref q42, .ref q53, .ref q64, .null])), (q5, .inr (1, [.ref q6_9, .ref q13_9, .ref q22_9, .int 0])), (q13_9, .inl (X.2.2, 4, .inl (fun _ => 0))), (q22_9, .inl (X.2.2, 240, .inl (fun _ => 0))), (q6_9, .inl (X.2.2, 4, .inl (fun i => if i < 4 then -1 else 0))), (q23, .inl (X.2.2, 96, .inl (fun _ => 0))), (q36, .inl (X.2.2, 6, .inl (fun _ => 0))), (q42, .inr (0, [.ref q7_46, .int 0, .int (-1), .ref q25_46, .int 0])), (q7_46, .inl (X.2.2, 60, .inl (fun _ => 0))), (q25_46, .inl (X.2.2, 62, .inl (fun _ => 0))), (q53, .inr (0, [.ref q7_57, .int 0, .int (-1), .ref q25_57, .int 0])), (q7_57, .inl (X.2.2, 60, .inl (fun _ => 0))), (q25_57, .inl (X.2.2, 62, .inl (fun _ => 0))), (q64, .inr (0, [.ref q7_68, .int 0, .int (-1), .ref q25_68, .int 0])), (q7_68, .inl (X.2.2, 60, .inl (fun _ => 0))), (q25_68, .inl (X.2.2, 62, .inl (fun _ => 0)))]) C (c_X0_init q75) ⟨wi_X0, wc_yX0_init, ⟨by decide, by decide, by decide +kernel⟩, rfl, rfl⟩ rfl rfl C.2.2.2.2.2.2.2.1.2 im_yX0_init ⟨by decide, by decide⟩ rfl rfl [16] [0, 1, 2, 3, 4, 5, 6, 7, 8, 9, 10, 11, 12, 13, 14, 15] rfl rfl rfl rfl (by decide) (Nat.le_of_ble_eq_true rfl) (Nat.le_of_ble_eq_true rfl) (Nat.le_of_ble_eq_true rfl) dX6_init_79 (fun w1 hw1 => ?_)
  obtain ⟨q7_79, q25_79, rfl⟩ := hw1
  refine CW.chg (w2 := [(h0, .inr (4, [.null, .ref q5, .null, .null, .int 0, .ref q23, .int 0, .ref q36, .ref q42, .ref q53, .ref q64, .null])), (q5, .inr (1, [.ref q6_9, .ref q13_9, .ref q22_9, .int 0])), (q13_9, .inl (X.2.2, 4, .inl (fun _ => 0))), (q22_9, .inl (X.2.2, 240, .inl (fun _ => 0))), (q6_9, .inl (X.2.2, 4, .inl (fun i => if i < 4 then -1 else 0))), (q23, .inl (X.2.2, 96, .inl (fun _ => 0))), (q36, .inl (X.2.2, 6, .inl (fun _ => 0))), (q42, .inr (0, [.ref q7_46, .int 0, .int (-1), .ref q25_46, .int 0])), (q7_46, .inl (X.2.2, 60, .inl (fun _ => 0))), (q25_46, .inl (X.2.2, 62, .inl (fun _ => 0))), (q53, .inr (0, [.ref q7_57, .int 0, .int (-1), .ref q25_57, .int 0])), (q7_57, .inl (X.2.2, 60, .inl (fun _ => 0))), (q25_57, .inl (X.2.2, 62, .inl (fun _ => 0))), (q64, .inr (0, [.ref q7_68, .int 0, .int (-1), .ref q25_68, .int 0])), (q7_68, .inl (X.2.2, 60, .inl (fun _ => 0))), (q25_68, .inl (X.2.2, 62, .inl (fun _ => 0))), (q75, .inr (0, [.ref q7_79, .int 0, .int (-1), .ref q25_79, .int 0])), (q7_79, .inl (X.2.2, 60, .inl (fun _ => 0))), (q25_79, .inl (X.2.2, 62, .inl (fun _ => 0)))]) rfl ?_
  refine CW.putF C hin 0 rfl gci_X6 gcp_X6 (j := 11) (by decide) rfl rfl rfl rfl (Nat.le_of_ble_eq_true rfl) fl_X6_44 dX6_init_82 ?_
  refine CW.chg (w2 := [(h0, .inr (4, [.null, .ref q5, .null, .null, .int 0, .ref q23, .int 0, .ref q36, .ref q42, .ref q53, .ref q64, .ref q75])), (q5, .inr (1, [.ref q6_9, .ref q13_9, .ref q22_9, .int 0])), (q13_9, .inl (X.2.2, 4, .inl (fun _ => 0))), (q22_9, .inl (X.2.2, 240, .inl (fun _ => 0))), (q6_9, .inl (X.2.2, 4, .inl (fun i => if i < 4 then -1 else 0))), (q23, .inl (X.2.2, 96, .inl (fun _ => 0))), (q36, .inl (X.2.2, 6, .inl (fun _ => 0))), (q42, .inr (0, [.ref q7_46, .int 0, .int (-1), .ref q25_46, .int 0])), (q7_46, .inl (X.2.2, 60, .inl (fun _ => 0))), (q25_46, .inl (X.2.2, 62, .inl (fun _ => 0))), (q53, .inr (0, [.ref q7_57, .int 0, .int (-1), .ref q25_57, .int 0])), (q7_57, .inl (X.2.2, 60, .inl (fun _ => 0))), (q25_57, .inl (X.2.2, 62, .inl (fun _ => 0))), (q64, .inr (0, [.ref q7_68, .int 0, .int (-1), .ref q25_68, .int 0])), (q7_68, .inl (X.2.2, 60, .inl (fun _ => 0))), (q25_68, .inl (X.2.2, 62, .inl (fun _ => 0))), (q75, .inr (0, [.ref q7_79, .int 0, .int (-1), .ref q25_79, .int 0])), (q7_79, .inl (X.2.2, 60, .inl (fun _ => 0))), (q25_79, .inl (X.2.2, 62, .inl (fun _ => 0)))]) rfl ?_
  refine CW.new C (fs := [.null, .null, .null, .null, .null, .null, .null, .null, .null, .null, .int 0]) gci_X4 gcp_X4 cl_X6_47 in_X4 wi_X4 (df_X4) (Nat.le_of_ble_eq_true rfl) (Nat.le_of_ble_eq_true rfl) dX6_init_85 (fun q85 => ?_)
  refine CW.chg (w2 := [(h0, .inr (4, [.null, .ref q5, .null, .null, .int 0, .ref q23, .int 0, .ref q36, .ref q42, .ref q53, .ref q64, .ref q75])), (q5, .inr (1, [.ref q6_9, .ref q13_9, .ref q22_9, .int 0])), (q13_9, .inl (X.2.2, 4, .inl (fun _ => 0))), (q22_9, .inl (X.2.2, 240, .inl (fun _ => 0))), (q6_9, .inl (X.2.2, 4, .inl (fun i => if i < 4 then -1 else 0))), (q23, .inl (X.2.2, 96, .inl (fun _ => 0))), (q36, .inl (X.2.2, 6, .inl (fun _ => 0))), (q42, .inr (0, [.ref q7_46, .int 0, .int (-1), .ref q25_46, .int 0])), (q7_46, .inl (X.2.2, 60, .inl (fun _ => 0))), (q25_46, .inl (X.2.2, 62, .inl (fun _ => 0))), (q53, .inr (0, [.ref q7_57, .int 0, .int (-1), .ref q25_57, .int 0])), (q7_57, .inl (X.2.2, 60, .inl (fun _ => 0))), (q25_57, .inl (X.2.2, 62, .inl (fun _ => 0))), (q64, .inr (0, [.ref q7_68, .int 0, .int (-1), .ref q25_68, .int 0])), (q7_68, .inl (X.2.2, 60, .inl (fun _ => 0))), (q25_68, .inl (X.2.2, 62, .inl (fun _ => 0))), (q75, .inr (0, [.ref q7_79, .int 0, .int (-1), .ref q25_79, .int 0])), (q7_79, .inl (X.2.2, 60, .inl (fun _ => 0))), (q25_79, .inl (X.2.2, 62, .inl (fun _ => 0))), (q85, .inr (3, [.null, .null, .null, .null, .null, .null, .null, .null, .null, .null, .int 0]))]) rfl ?_
  refine CW.dup C dX6_init_88 ?_
  refine CW.ctor (n := 0) (as := []) (b := q85) (st := [.ref q85]) (wr := [(h0, .inr (4, [.null, .ref q5, .null, .null, .int 0, .ref q23, .int 0, .ref q36, .ref q42, .ref q53, .ref q64, .ref q75])), (q5, .inr (1, [.ref q6_9, .ref q13_9, .ref q22_9, .int 0])), (q13_9, .inl (X.2.2, 4, .inl (fun _ => 0))), (q22_9, .inl (X.2.2, 240, .inl (fun _ => 0))), (q6_9, .inl (X.2.2, 4, .inl (fun i => if i < 4 then -1 else 0))), (q23, .inl (X.2.2, 96, .inl (fun _ => 0))), (q36, .inl (X.2.2, 6, .inl (fun _ => 0))), (q42, .inr (0, [.ref q7_46, .int 0, .int (-1), .ref q25_46, .int 0])), (q7_46, .inl (X.2.2, 60, .inl (fun _ => 0))), (q25_46, .inl (X.2.2, 62, .inl (fun _ => 0))), (q53, .inr (0, [.ref q7_57, .int 0, .int (-1), .ref q25_57, .int 0])), (q7_57, .inl (X.2.2, 60, .inl (fun _ => 0))), (q25_57, .inl (X.2.2, 62, .inl (fun _ => 0))), (q64, .inr (0, [.ref q7_68, .int 0, .int (-1), .ref q25_68, .int 0])), (q7_68, .inl (X.2.2, 60, .inl (fun _ => 0))), (q25_68, .inl (X.2.2, 62, .inl (fun _ => 0))), (q75, .inr (0, [.ref q7_79, .int 0, .int (-1), .ref q25_79, .int 0])), (q7_79, .inl (X.2.2, 60, .inl (fun _ => 0))), (q25_79, .inl (X.2.2, 62, .inl (fun _ => 0)))]) C (c_X4_init q85) ⟨wi_X4, wc_yX4_init, ⟨by decide, by decide, by decide +kernel⟩, rfl, rfl⟩ rfl rfl ml_X6_49 im_yX4_init ⟨by decide, by decide⟩ rfl rfl [19] [0, 1, 2, 3, 4, 5, 6, 7, 8, 9, 10, 11, 12, 13, 14, 15, 16, 17, 18] rfl rfl rfl rfl (by decide) (Nat.le_of_ble_eq_true rfl) (Nat.le_of_ble_eq_true rfl) (Nat.le_of_ble_eq_true rfl) dX6_init_89 (fun w1 hw1 => ?_)
  obtain ⟨q8_89, q17_89, q25_89, q42_89, q51_89, q60_89, q69_89, q78_89, q86_89, q33_89, rfl⟩ := hw1
  refine CW.chg (w2 := [(h0, .inr (4, [.null, .ref q5, .null, .null, .int 0, .ref q23, .int 0, .ref q36, .ref q42, .ref q53, .ref q64, .ref q75])), (q5, .inr (1, [.ref q6_9, .ref q13_9, .ref q22_9, .int 0])), (q13_9, .inl (X.2.2, 4, .inl (fun _ => 0))), (q22_9, .inl (X.2.2, 240, .inl (fun _ => 0))), (q6_9, .inl (X.2.2, 4, .inl (fun i => if i < 4 then -1 else 0))), (q23, .inl (X.2.2, 96, .inl (fun _ => 0))), (q36, .inl (X.2.2, 6, .inl (fun _ => 0))), (q42, .inr (0, [.ref q7_46, .int 0, .int (-1), .ref q25_46, .int 0])), (q7_46, .inl (X.2.2, 60, .inl (fun _ => 0))), (q25_46, .inl (X.2.2, 62, .inl (fun _ => 0))), (q53, .inr (0, [.ref q7_57, .int 0, .int (-1), .ref q25_57, .int 0])), (q7_57, .inl (X.2.2, 60, .inl (fun _ => 0))), (q25_57, .inl (X.2.2, 62, .inl (fun _ => 0))), (q64, .inr (0, [.ref q7_68, .int 0, .int (-1), .ref q25_68, .int 0])), (q7_68, .inl (X.2.2, 60, .inl (fun _ => 0))), (q25_68, .inl (X.2.2, 62, .inl (fun _ => 0))), (q75, .inr (0, [.ref q7_79, .int 0, .int (-1), .ref q25_79, .int 0])), (q7_79, .inl (X.2.2, 60, .inl (fun _ => 0))), (q25_79, .inl (X.2.2, 62, .inl (fun _ => 0))), (q85, .inr (3, [.ref q8_89, .ref q17_89, .ref q25_89, .ref q33_89, .ref q42_89, .ref q51_89, .ref q60_89, .ref q69_89, .ref q78_89, .ref q86_89, .int 181896])), (q8_89, .inl (X.2.2, 300, .inl (fun _ => 0))), (q17_89, .inl (X.2.2, 300, .inl (fun _ => 0))), (q25_89, .inl (X.2.2, 10, .inl (fun _ => 0))), (q42_89, .inl (X.2.2, 240, .inl (fun _ => 0))), (q51_89, .inl (X.2.2, 240, .inl (fun _ => 0))), (q60_89, .inl (X.2.2, 240, .inl (fun _ => 0))), (q69_89, .inl (X.2.2, 240, .inl (fun _ => 0))), (q78_89, .inl (X.2.2, 240, .inl (fun _ => 0))), (q86_89, .inl (X.2.2, 6, .inl (fun _ => 0))), (q33_89, .inl (X.2.2, 10, .inl (fun i => if i < 10 then -1 else 0)))]) rfl ?_
  refine CW.ast C (k := 1) (by decide) (fun j v h1 h2 => by have hj : j = 0 := (by omega); subst hj; cases h1; rfl) dX6_init_92 ?_
  refine CW.lsc (ls2 := [some (.ref h0), some (.ref q85)]) rfl ?_
  refine CW.al C (k := 0) rfl dX6_init_93 ?_
  refine CW.al C (k := 1) rfl dX6_init_94 ?_
  refine CW.putF C hin 0 rfl gci_X6 gcp_X6 (j := 0) (by decide) rfl rfl rfl rfl (Nat.le_of_ble_eq_true rfl) fl_X6_50 dX6_init_95 ?_
  refine CW.chg (w2 := [(h0, .inr (4, [.ref q85, .ref q5, .null, .null, .int 0, .ref q23, .int 0, .ref q36, .ref q42, .ref q53, .ref q64, .ref q75])), (q5, .inr (1, [.ref q6_9, .ref q13_9, .ref q22_9, .int 0])), (q13_9, .inl (X.2.2, 4, .inl (fun _ => 0))), (q22_9, .inl (X.2.2, 240, .inl (fun _ => 0))), (q6_9, .inl (X.2.2, 4, .inl (fun i => if i < 4 then -1 else 0))), (q23, .inl (X.2.2, 96, .inl (fun _ => 0))), (q36, .inl (X.2.2, 6, .inl (fun _ => 0))), (q42, .inr (0, [.ref q7_46, .int 0, .int (-1), .ref q25_46, .int 0])), (q7_46, .inl (X.2.2, 60, .inl (fun _ => 0))), (q25_46, .inl (X.2.2, 62, .inl (fun _ => 0))), (q53, .inr (0, [.ref q7_57, .int 0, .int (-1), .ref q25_57, .int 0])), (q7_57, .inl (X.2.2, 60, .inl (fun _ => 0))), (q25_57, .inl (X.2.2, 62, .inl (fun _ => 0))), (q64, .inr (0, [.ref q7_68, .int 0, .int (-1), .ref q25_68, .int 0])), (q7_68, .inl (X.2.2, 60, .inl (fun _ => 0))), (q25_68, .inl (X.2.2, 62, .inl (fun _ => 0))), (q75, .inr (0, [.ref q7_79, .int 0, .int (-1), .ref q25_79, .int 0])), (q7_79, .inl (X.2.2, 60, .inl (fun _ => 0))), (q25_79, .inl (X.2.2, 62, .inl (fun _ => 0))), (q85, .inr (3, [.ref q8_89, .ref q17_89, .ref q25_89, .ref q33_89, .ref q42_89, .ref q51_89, .ref q60_89, .ref q69_89, .ref q78_89, .ref q86_89, .int 181896])), (q8_89, .inl (X.2.2, 300, .inl (fun _ => 0))), (q17_89, .inl (X.2.2, 300, .inl (fun _ => 0))), (q25_89, .inl (X.2.2, 10, .inl (fun _ => 0))), (q42_89, .inl (X.2.2, 240, .inl (fun _ => 0))), (q51_89, .inl (X.2.2, 240, .inl (fun _ => 0))), (q60_89, .inl (X.2.2, 240, .inl (fun _ => 0))), (q69_89, .inl (X.2.2, 240, .inl (fun _ => 0))), (q78_89, .inl (X.2.2, 240, .inl (fun _ => 0))), (q86_89, .inl (X.2.2, 6, .inl (fun _ => 0))), (q33_89, .inl (X.2.2, 10, .inl (fun i => if i < 10 then -1 else 0)))]) rfl ?_
  refine CW.al C (k := 0) rfl dX6_init_98 ?_
  refine CW.new C (fs := [.null, .null, .int 0, .null, .null, .int 0, .null, .null, .int 0, .int 0, .int 0, .int 0]) gci_X2 gcp_X2 cl_X6_54 in_X2 wi_X2 (df_X2) (Nat.le_of_ble_eq_true rfl) (Nat.le_of_ble_eq_true rfl) dX6_init_99 (fun q99 => ?_)
  refine CW.chg (w2 := [(h0, .inr (4, [.ref q85, .ref q5, .null, .null, .int 0, .ref q23, .int 0, .ref q36, .ref q42, .ref q53, .ref q64, .ref q75])), (q5, .inr (1, [.ref q6_9, .ref q13_9, .ref q22_9, .int 0])), (q13_9, .inl (X.2.2, 4, .inl (fun _ => 0))), (q22_9, .inl (X.2.2, 240, .inl (fun _ => 0))), (q6_9, .inl (X.2.2, 4, .inl (fun i => if i < 4 then -1 else 0))), (q23, .inl (X.2.2, 96, .inl (fun _ => 0))), (q36, .inl (X.2.2, 6, .inl (fun _ => 0))), (q42, .inr (0, [.ref q7_46, .int 0, .int (-1), .ref q25_46, .int 0])), (q7_46, .inl (X.2.2, 60, .inl (fun _ => 0))), (q25_46, .inl (X.2.2, 62, .inl (fun _ => 0))), (q53, .inr (0, [.ref q7_57, .int 0, .int (-1), .ref q25_57, .int 0])), (q7_57, .inl (X.2.2, 60, .inl (fun _ => 0))), (q25_57, .inl (X.2.2, 62, .inl (fun _ => 0))), (q64, .inr (0, [.ref q7_68, .int 0, .int (-1), .ref q25_68, .int 0])), (q7_68, .inl (X.2.2, 60, .inl (fun _ => 0))), (q25_68, .inl (X.2.2, 62, .inl (fun _ => 0))), (q75, .inr (0, [.ref q7_79, .int 0, .int (-1), .ref q25_79, .int 0])), (q7_79, .inl (X.2.2, 60, .inl (fun _ => 0))), (q25_79, .inl (X.2.2, 62, .inl (fun _ => 0))), (q85, .inr (3, [.ref q8_89, .ref q17_89, .ref q25_89, .ref q33_89, .ref q42_89, .ref q51_89, .ref q60_89, .ref q69_89, .ref q78_89, .ref q86_89, .int 181896])), (q8_89, .inl (X.2.2, 300, .inl (fun _ => 0))), (q17_89, .inl (X.2.2, 300, .inl (fun _ => 0))), (q25_89, .inl (X.2.2, 10, .inl (fun _ => 0))), (q42_89, .inl (X.2.2, 240, .inl (fun _ => 0))), (q51_89, .inl (X.2.2, 240, .inl (fun _ => 0))), (q60_89, .inl (X.2.2, 240, .inl (fun _ => 0))), (q69_89, .inl (X.2.2, 240, .inl (fun _ => 0))), (q78_89, .inl (X.2.2, 240, .inl (fun _ => 0))), (q86_89, .inl (X.2.2, 6, .inl (fun _ => 0))), (q33_89, .inl (X.2.2, 10, .inl (fun i => if i < 10 then -1 else 0))), (q99, .inr (2, [.null, .null, .int 0, .null, .null, .int 0, .null, .null, .int 0, .int 0, .int 0, .int 0]))]) rfl ?_
  refine CW.dup C dX6_init_102 ?_
  refine CW.al C (k := 1) rfl dX6_init_103 ?_
  refine CW.ctor (n := 1) (as := [.ref q85]) (b := q99) (st := [.ref q99, .ref h0]) (wr := [(h0, .inr (4, [.ref q85, .ref q5, .null, .null, .int 0, .ref q23, .int 0, .ref q36, .ref q42, .ref q53, .ref q64, .ref q75])), (q5, .inr (1, [.ref q6_9, .ref q13_9, .ref q22_9, .int 0])), (q13_9, .inl (X.2.2, 4, .inl (fun _ => 0))), (q22_9, .inl (X.2.2, 240, .inl (fun _ => 0))), (q6_9, .inl (X.2.2, 4, .inl (fun i => if i < 4 then -1 else 0))), (q23, .inl (X.2.2, 96, .inl (fun _ => 0))), (q36, .inl (X.2.2, 6, .inl (fun _ => 0))), (q42, .inr (0, [.ref q7_46, .int 0, .int (-1), .ref q25_46, .int 0])), (q7_46, .inl (X.2.2, 60, .inl (fun _ => 0))), (q25_46, .inl (X.2.2, 62, .inl (fun _ => 0))), (q53, .inr (0, [.ref q7_57, .int 0, .int (-1), .ref q25_57, .int 0])), (q7_57, .inl (X.2.2, 60, .inl (fun _ => 0))), (q25_57, .inl (X.2.2, 62, .inl (fun _ => 0))), (q64, .inr (0, [.ref q7_68, .int 0, .int (-1), .ref q25_68, .int 0])), (q7_68, .inl (X.2.2, 60, .inl (fun _ => 0))), (q25_68, .inl (X.2.2, 62, .inl (fun _ => 0))), (q75, .inr (0, [.ref q7_79, .int 0, .int (-1), .ref q25_79, .int 0])), (q7_79, .inl (X.2.2, 60, .inl (fun _ => 0))), (q25_79, .inl (X.2.2, 62, .inl (fun _ => 0))), (q85, .inr (3, [.ref q8_89, .ref q17_89, .ref q25_89, .ref q33_89, .ref q42_89, .ref q51_89, .ref q60_89, .ref q69_89, .ref q78_89, .ref q86_89, .int 181896])), (q8_89, .inl (X.2.2, 300, .inl (fun _ => 0))), (q17_89, .inl (X.2.2, 300, .inl (fun _ => 0))), (q25_89, .inl (X.2.2, 10, .inl (fun _ => 0))), (q42_89, .inl (X.2.2, 240, .inl (fun _ => 0))), (q51_89, .inl (X.2.2, 240, .inl (fun _ => 0))), (q60_89, .inl (X.2.2, 240, .inl (fun _ => 0))), (q69_89, .inl (X.2.2, 240, .inl (fun _ => 0))), (q78_89, .inl (X.2.2, 240, .inl (fun _ => 0))), (q86_89, .inl (X.2.2, 6, .inl (fun _ => 0))), (q33_89, .inl (X.2.2, 10, .inl (fun i => if i < 10 then -1 else 0)))]) C (c_X2_init q99 q85) ⟨wi_X2, wc_yX2_init, ⟨by decide, by decide, by decide +kernel⟩, rfl, rfl⟩ rfl rfl ml_X6_56 im_yX2_init ⟨by decide, by decide⟩ rfl rfl [30] [0, 1, 2, 3, 4, 5, 6, 7, 8, 9, 10, 11, 12, 13, 14, 15, 16, 17, 18, 19, 20, 21, 22, 23, 24, 25, 26, 27, 28, 29] rfl rfl rfl rfl (by decide) (Nat.le_of_ble_eq_true rfl) (Nat.le_of_ble_eq_true rfl) (Nat.le_of_ble_eq_true rfl) dX6_init_104 (fun w1 hw1 => ?_)
  obtain ⟨q7_104, q21_104, q30_104, q44_104, q52_104, rfl⟩ := hw1
  refine CW.chg (w2 := [(h0, .inr (4, [.ref q85, .ref q5, .null, .null, .int 0, .ref q23, .int 0, .ref q36, .ref q42, .ref q53, .ref q64, .ref q75])), (q5, .inr (1, [.ref q6_9, .ref q13_9, .ref q22_9, .int 0])), (q13_9, .inl (X.2.2, 4, .inl (fun _ => 0))), (q22_9, .inl (X.2.2, 240, .inl (fun _ => 0))), (q6_9, .inl (X.2.2, 4, .inl (fun i => if i < 4 then -1 else 0))), (q23, .inl (X.2.2, 96, .inl (fun _ => 0))), (q36, .inl (X.2.2, 6, .inl (fun _ => 0))), (q42, .inr (0, [.ref q7_46, .int 0, .int (-1), .ref q25_46, .int 0])), (q7_46, .inl (X.2.2, 60, .inl (fun _ => 0))), (q25_46, .inl (X.2.2, 62, .inl (fun _ => 0))), (q53, .inr (0, [.ref q7_57, .int 0, .int (-1), .ref q25_57, .int 0])), (q7_57, .inl (X.2.2, 60, .inl (fun _ => 0))), (q25_57, .inl (X.2.2, 62, .inl (fun _ => 0))), (q64, .inr (0, [.ref q7_68, .int 0, .int (-1), .ref q25_68, .int 0])), (q7_68, .inl (X.2.2, 60, .inl (fun _ => 0))), (q25_68, .inl (X.2.2, 62, .inl (fun _ => 0))), (q75, .inr (0, [.ref q7_79, .int 0, .int (-1), .ref q25_79, .int 0])), (q7_79, .inl (X.2.2, 60, .inl (fun _ => 0))), (q25_79, .inl (X.2.2, 62, .inl (fun _ => 0))), (q85, .inr (3, [.ref q8_89, .ref q17_89, .ref q25_89, .ref q33_89, .ref q42_89, .ref q51_89, .ref q60_89, .ref q69_89, .ref q78_89, .ref q86_89, .int 181896])), (q8_89, .inl (X.2.2, 300, .inl (fun _ => 0))), (q17_89, .inl (X.2.2, 300, .inl (fun _ => 0))), (q25_89, .inl (X.2.2, 10, .inl (fun _ => 0))), (q42_89, .inl (X.2.2, 240, .inl (fun _ => 0))), (q51_89, .inl (X.2.2, 240, .inl (fun _ => 0))), (q60_89, .inl (X.2.2, 240, .inl (fun _ => 0))), (q69_89, .inl (X.2.2, 240, .inl (fun _ => 0))), (q78_89, .inl (X.2.2, 240, .inl (fun _ => 0))), (q86_89, .inl (X.2.2, 6, .inl (fun _ => 0))), (q33_89, .inl (X.2.2, 10, .inl (fun i => if i < 10 then -1 else 0))), (q99, .inr (2, [.ref q85, .ref q7_104, .int 0, .ref q21_104, .ref q30_104, .int 0, .ref q44_104, .ref q52_104, .int 0, .int (-1), .int 0, .int 0])), (q7_104, .inl (X.2.2, 6, .inl (fun _ => 0))), (q21_104, .inl (X.2.2, 602, .inl (fun _ => 0))), (q30_104, .inl (X.2.2, 602, .inl (fun _ => 0))), (q44_104, .inl (X.2.2, 240, .inl (fun _ => 0))), (q52_104, .inl (X.2.2, 6, .inl (fun _ => 0)))]) rfl ?_
  refine CW.putF C hin 0 rfl gci_X6 gcp_X6 (j := 2) (by decide) rfl rfl rfl rfl (Nat.le_of_ble_eq_true rfl) fl_X6_59 dX6_init_107 ?_
  refine CW.chg (w2 := [(h0, .inr (4, [.ref q85, .ref q5, .ref q99, .null, .int 0, .ref q23, .int 0, .ref q36, .ref q42, .ref q53, .ref q64, .ref q75])), (q5, .inr (1, [.ref q6_9, .ref q13_9, .ref q22_9, .int 0])), (q13_9, .inl (X.2.2, 4, .inl (fun _ => 0))), (q22_9, .inl (X.2.2, 240, .inl (fun _ => 0))), (q6_9, .inl (X.2.2, 4, .inl (fun i => if i < 4 then -1 else 0))), (q23, .inl (X.2.2, 96, .inl (fun _ => 0))), (q36, .inl (X.2.2, 6, .inl (fun _ => 0))), (q42, .inr (0, [.ref q7_46, .int 0, .int (-1), .ref q25_46, .int 0])), (q7_46, .inl (X.2.2, 60, .inl (fun _ => 0))), (q25_46, .inl (X.2.2, 62, .inl (fun _ => 0))), (q53, .inr (0, [.ref q7_57, .int 0, .int (-1), .ref q25_57, .int 0])), (q7_57, .inl (X.2.2, 60, .inl (fun _ => 0))), (q25_57, .inl (X.2.2, 62, .inl (fun _ => 0))), (q64, .inr (0, [.ref q7_68, .int 0, .int (-1), .ref q25_68, .int 0])), (q7_68, .inl (X.2.2, 60, .inl (fun _ => 0))), (q25_68, .inl (X.2.2, 62, .inl (fun _ => 0))), (q75, .inr (0, [.ref q7_79, .int 0, .int (-1), .ref q25_79, .int 0])), (q7_79, .inl (X.2.2, 60, .inl (fun _ => 0))), (q25_79, .inl (X.2.2, 62, .inl (fun _ => 0))), (q85, .inr (3, [.ref q8_89, .ref q17_89, .ref q25_89, .ref q33_89, .ref q42_89, .ref q51_89, .ref q60_89, .ref q69_89, .ref q78_89, .ref q86_89, .int 181896])), (q8_89, .inl (X.2.2, 300, .inl (fun _ => 0))), (q17_89, .inl (X.2.2, 300, .inl (fun _ => 0))), (q25_89, .inl (X.2.2, 10, .inl (fun _ => 0))), (q42_89, .inl (X.2.2, 240, .inl (fun _ => 0))), (q51_89, .inl (X.2.2, 240, .inl (fun _ => 0))), (q60_89, .inl (X.2.2, 240, .inl (fun _ => 0))), (q69_89, .inl (X.2.2, 240, .inl (fun _ => 0))), (q78_89, .inl (X.2.2, 240, .inl (fun _ => 0))), (q86_89, .inl (X.2.2, 6, .inl (fun _ => 0))), (q33_89, .inl (X.2.2, 10, .inl (fun i => if i < 10 then -1 else 0))), (q99, .inr (2, [.ref q85, .ref q7_104, .int 0, .ref q21_104, .ref q30_104, .int 0, .ref q44_104, .ref q52_104, .int 0, .int (-1), .int 0, .int 0])), (q7_104, .inl (X.2.2, 6, .inl (fun _ => 0))), (q21_104, .inl (X.2.2, 602, .inl (fun _ => 0))), (q30_104, .inl (X.2.2, 602, .inl (fun _ => 0))), (q44_104, .inl (X.2.2, 240, .inl (fun _ => 0))), (q52_104, .inl (X.2.2, 6, .inl (fun _ => 0)))]) rfl ?_
  refine CW.al C (k := 0) rfl dX6_init_110 ?_
  refine CW.new C (fs := [.null, .null, .int 0, .null, .null, .int 0, .null, .null, .int 0, .int 0, .int 0, .int 0]) gci_X2 gcp_X2 cl_X6_54 in_X2 wi_X2 (df_X2) (Nat.le_of_ble_eq_true rfl) (Nat.le_of_ble_eq_true rfl) dX6_init_111 (fun q111 => ?_)
  refine CW.chg (w2 := [(h0, .inr (4, [.ref q85, .ref q5, .ref q99, .null, .int 0, .ref q23, .int 0, .ref q36, .ref q42, .ref q53, .ref q64, .ref q75])), (q5, .inr (1, [.ref q6_9, .ref q13_9, .ref q22_9, .int 0])), (q13_9, .inl (X.2.2, 4, .inl (fun _ => 0))), (q22_9, .inl (X.2.2, 240, .inl (fun _ => 0))), (q6_9, .inl (X.2.2, 4, .inl (fun i => if i < 4 then -1 else 0))), (q23, .inl (X.2.2, 96, .inl (fun _ => 0))), (q36, .inl (X.2.2, 6, .inl (fun _ => 0))), (q42, .inr (0, [.ref q7_46, .int 0, .int (-1), .ref q25_46, .int 0])), (q7_46, .inl (X.2.2, 60, .inl (fun _ => 0))), (q25_46, .inl (X.2.2, 62, .inl (fun _ => 0))), (q53, .inr (0, [.ref q7_57, .int 0, .int (-1), .ref q25_57, .int 0])), (q7_57, .inl (X.2.2, 60, .inl (fun _ => 0))), (q25_57, .inl (X.2.2, 62, .inl (fun _ => 0))), (q64, .inr (0, [.ref q7_68, .int 0, .int (-1), .ref q25_68, .int 0])), (q7_68, .inl (X.2.2, 60, .inl (fun _ => 0))), (q25_68, .inl (X.2.2, 62, .inl (fun _ => 0))), (q75, .inr (0, [.ref q7_79, .int 0, .int (-1), .ref q25_79, .int 0])), (q7_79, .inl (X.2.2, 60, .inl (fun _ => 0))), (q25_79, .inl (X.2.2, 62, .inl (fun _ => 0))), (q85, .inr (3, [.ref q8_89, .ref q17_89, .ref q25_89, .ref q33_89, .ref q42_89, .ref q51_89, .ref q60_89, .ref q69_89, .ref q78_89, .ref q86_89, .int 181896])), (q8_89, .inl (X.2.2, 300, .inl (fun _ => 0))), (q17_89, .inl (X.2.2, 300, .inl (fun _ => 0))), (q25_89, .inl (X.2.2, 10, .inl (fun _ => 0))), (q42_89, .inl (X.2.2, 240, .inl (fun _ => 0))), (q51_89, .inl (X.2.2, 240, .inl (fun _ => 0))), (q60_89, .inl (X.2.2, 240, .inl (fun _ => 0))), (q69_89, .inl (X.2.2, 240, .inl (fun _ => 0))), (q78_89, .inl (X.2.2, 240, .inl (fun _ => 0))), (q86_89, .inl (X.2.2, 6, .inl (fun _ => 0))), (q33_89, .inl (X.2.2, 10, .inl (fun i => if i < 10 then -1 else 0))), (q99, .inr (2, [.ref q85, .ref q7_104, .int 0, .ref q21_104, .ref q30_104, .int 0, .ref q44_104, .ref q52_104, .int 0, .int (-1), .int 0, .int 0])), (q7_104, .inl (X.2.2, 6, .inl (fun _ => 0))), (q21_104, .inl (X.2.2, 602, .inl (fun _ => 0))), (q30_104, .inl (X.2.2, 602, .inl (fun _ => 0))), (q44_104, .inl (X.2.2, 240, .inl (fun _ => 0))), (q52_104, .inl (X.2.2, 6, .inl (fun _ => 0))), (q111, .inr (2, [.null, .null, .int 0, .null, .null, .int 0, .null, .null, .int 0, .int 0, .int 0, .int 0]))]) rfl ?_
  refine CW.dup C dX6_init_114 ?_
  refine CW.al C (k := 1) rfl dX6_init_115 ?_
  refine CW.ctor (n := 1) (as := [.ref q85]) (b := q111) (st := [.ref q111, .ref h0]) (wr := [(h0, .inr (4, [.ref q85, .ref q5, .ref q99, .null, .int 0, .ref q23, .int 0, .ref q36, .ref q42, .ref q53, .ref q64, .ref q75])), (q5, .inr (1, [.ref q6_9, .ref q13_9, .ref q22_9, .int 0])), (q13_9, .inl (X.2.2, 4, .inl (fun _ => 0))), (q22_9, .inl (X.2.2, 240, .inl (fun _ => 0))), (q6_9, .inl (X.2.2, 4, .inl (fun i => if i < 4 then -1 else 0))), (q23, .inl (X.2.2, 96, .inl (fun _ => 0))), (q36, .inl (X.2.2, 6, .inl (fun _ => 0))), (q42, .inr (0, [.ref q7_46, .int 0, .int (-1), .ref q25_46, .int 0])), (q7_46, .inl (X.2.2, 60, .inl (fun _ => 0))), (q25_46, .inl (X.2.2, 62, .inl (fun _ => 0))), (q53, .inr (0, [.ref q7_57, .int 0, .int (-1), .ref q25_57, .int 0])), (q7_57, .inl (X.2.2, 60, .inl (fun _ => 0))), (q25_57, .inl (X.2.2, 62, .inl (fun _ => 0))), (q64, .inr (0, [.ref q7_68, .int 0, .int (-1), .ref q25_68, .int 0])), (q7_68, .inl (X.2.2, 60, .inl (fun _ => 0))), (q25_68, .inl (X.2.2, 62, .inl (fun _ => 0))), (q75, .inr (0, [.ref q7_79, .int 0, .int (-1), .ref q25_79, .int 0])), (q7_79, .inl (X.2.2, 60, .inl (fun _ => 0))), (q25_79, .inl (X.2.2, 62, .inl (fun _ => 0))), (q85, .inr (3, [.ref q8_89, .ref q17_89, .ref q25_89, .ref q33_89, .ref q42_89, .ref q51_89, .ref q60_89, .ref q69_89, .ref q78_89, .ref q86_89, .int 181896])), (q8_89, .inl (X.2.2, 300, .inl (fun _ => 0))), (q17_89, .inl (X.2.2, 300, .inl (fun _ => 0))), (q25_89, .inl (X.2.2, 10, .inl (fun _ => 0))), (q42_89, .inl (X.2.2, 240, .inl (fun _ => 0))), (q51_89, .inl (X.2.2, 240, .inl (fun _ => 0))), (q60_89, .inl (X.2.2, 240, .inl (fun _ => 0))), (q69_89, .inl (X.2.2, 240, .inl (fun _ => 0))), (q78_89, .inl (X.2.2, 240, .inl (fun _ => 0))), (q86_89, .inl (X.2.2, 6, .inl (fun _ => 0))), (q33_89, .inl (X.2.2, 10, .inl (fun i => if i < 10 then -1 else 0))), (q99, .inr (2, [.ref q85, .ref q7_104, .int 0, .ref q21_104, .ref q30_104, .int 0, .ref q44_104, .ref q52_104, .int 0, .int (-1), .int 0, .int 0])), (q7_104, .inl (X.2.2, 6, .inl (fun _ => 0))), (q21_104, .inl (X.2.2, 602, .inl (fun _ => 0))), (q30_104, .inl (X.2.2, 602, .inl (fun _ => 0))), (q44_104, .inl (X.2.2, 240, .inl (fun _ => 0))), (q52_104, .inl (X.2.2, 6, .inl (fun _ => 0)))]) C (c_X2_init q111 q85) ⟨wi_X2, wc_yX2_init, ⟨by decide, by decide, by decide +kernel⟩, rfl, rfl⟩ rfl rfl ml_X6_56 im_yX2_init ⟨by decide, by decide⟩ rfl rfl [36] [0, 1, 2, 3, 4, 5, 6, 7, 8, 9, 10, 11, 12, 13, 14, 15, 16, 17, 18, 19, 20, 21, 22, 23, 24, 25, 26, 27, 28, 29, 30, 31, 32, 33, 34, 35] rfl rfl rfl rfl (by decide) (Nat.le_of_ble_eq_true rfl) (Nat.le_of_ble_eq_true rfl) (Nat.le_of_ble_eq_true rfl) dX6_init_116 (fun w1 hw1 => ?_)
  obtain ⟨q7_116, q21_116, q30_116, q44_116, q52_116, rfl⟩ := hw1
  refine CW.chg (w2 := [(h0, .inr (4, [.ref q85, .ref q5, .ref q99, .null, .int 0, .ref q23, .int 0, .ref q36, .ref q42, .ref q53, .ref q64, .ref q75])), (q5, .inr (1, [.ref q6_9, .ref q13_9, .ref q22_9, .int 0])), (q13_9, .inl (X.2.2, 4, .inl (fun _ => 0))), (q22_9, .inl (X.2.2, 240, .inl (fun _ => 0))), (q6_9, .inl (X.2.2, 4, .inl (fun i => if i < 4 then -1 else 0))), (q23, .inl (X.2.2, 96, .inl (fun _ => 0))), (q36, .inl (X.2.2, 6, .inl (fun _ => 0))), (q42, .inr (0, [.ref q7_46, .int 0, .int (-1), .ref q25_46, .int 0])), (q7_46, .inl (X.2.2, 60, .inl (fun _ => 0))), (q25_46, .inl (X.2.2, 62, .inl (fun _ => 0))), (q53, .inr (0, [.ref q7_57, .int 0, .int (-1), .ref q25_57, .int 0])), (q7_57, .inl (X.2.2, 60, .inl (fun _ => 0))), (q25_57, .inl (X.2.2, 62, .inl (fun _ => 0))), (q64, .inr (0, [.ref q7_68, .int 0, .int (-1), .ref q25_68, .int 0])), (q7_68, .inl (X.2.2, 60, .inl (fun _ => 0))), (q25_68, .inl (X.2.2, 62, .inl (fun _ => 0))), (q75, .inr (0, [.ref q7_79, .int 0, .int (-1), .ref q25_79, .int 0])), (q7_79, .inl (X.2.2, 60, .inl (fun _ => 0))), (q25_79, .inl (X.2.2, 62, .inl (fun _ => 0))), (q85, .inr (3, [.ref q8_89, .ref q17_89, .ref q25_89, .ref q33_89, .ref q42_89, .ref q51_89, .ref q60_89, .ref q69_89, .ref q78_89, .ref q86_89, .int 181896])), (q8_89, .inl (X.2.2, 300, .inl (fun _ => 0))), (q17_89, .inl (X.2.2, 300, .inl (fun _ => 0))), (q25_89, .inl (X.2.2, 10, .inl (fun _ => 0))), (q42_89, .inl (X.2.2, 240, .inl (fun _ => 0))), (q51_89, .inl (X.2.2, 240, .inl (fun _ => 0))), (q60_89, .inl (X.2.2, 240, .inl (fun _ => 0))), (q69_89, .inl (X.2.2, 240, .inl (fun _ => 0))), (q78_89, .inl (X.2.2, 240, .inl (fun _ => 0))), (q86_89, .inl (X.2.2, 6, .inl (fun _ => 0))), (q33_89, .inl (X.2.2, 10, .inl (fun i => if i < 10 then -1 else 0))), (q99, .inr (2, [.ref q85, .ref q7_104, .int 0, .ref q21_104, .ref q30_104, .int 0, .ref q44_104, .ref q52_104, .int 0, .int (-1), .int 0, .int 0])), (q7_104, .inl (X.2.2, 6, .inl (fun _ => 0))), (q21_104, .inl (X.2.2, 602, .inl (fun _ => 0))), (q30_104, .inl (X.2.2, 602, .inl (fun _ => 0))), (q44_104, .inl (X.2.2, 240, .inl (fun _ => 0))), (q52_104, .inl (X.2.2, 6, .inl (fun _ => 0))), (q111, .inr (2, [.ref q85, .ref q7_116, .int 0, .ref q21_116, .ref q30_116, .int 0, .ref q44_116, .ref q52_116, .int 0, .int (-1), .int 0, .int 0])), (q7_116, .inl (X.2.2, 6, .inl (fun _ => 0))), (q21_116, .inl (X.2.2, 602, .inl (fun _ => 0))), (q30_116, .inl (X.2.2, 602, .inl (fun _ => 0))), (q44_116, .inl (X.2.2, 240, .inl (fun _ => 0))), (q52_116, .inl (X.2.2, 6, .inl (fun _ => 0)))]) rfl ?_
  refine CW.putF C hin 0 rfl gci_X6 gcp_X6 (j := 3) (by decide) rfl rfl rfl rfl (Nat.le_of_ble_eq_true rfl) fl_X6_63 dX6_init_119 ?_
  refine CW.chg (w2 := [(h0, .inr (4, [.ref q85, .ref q5, .ref q99, .ref q111, .int 0, .ref q23, .int 0, .ref q36, .ref q42, .ref q53, .ref q64, .ref q75])), (q5, .inr (1, [.ref q6_9, .ref q13_9, .ref q22_9, .int 0])), (q13_9, .inl (X.2.2, 4, .inl (fun _ => 0))), (q22_9, .inl (X.2.2, 240, .inl (fun _ => 0))), (q6_9, .inl (X.2.2, 4, .inl (fun i => if i < 4 then -1 else 0))), (q23, .inl (X.2.2, 96, .inl (fun _ => 0))), (q36, .inl (X.2.2, 6, .inl (fun _ => 0))), (q42, .inr (0, [.ref q7_46, .int 0, .int (-1), .ref q25_46, .int 0])), (q7_46, .inl (X.2.2, 60, .inl (fun _ => 0))), (q25_46, .inl (X.2.2, 62, .inl (fun _ => 0))), (q53, .inr (0, [.ref q7_57, .int 0, .int (-1), .ref q25_57, .int 0])), (q7_57, .inl (X.2.2, 60, .inl (fun _ => 0))), (q25_57, .inl (X.2.2, 62, .inl (fun _ => 0))), (q64, .inr (0, [.ref q7_68, .int 0, .int (-1), .ref q25_68, .int 0])), (q7_68, .inl (X.2.2, 60, .inl (fun _ => 0))), (q25_68, .inl (X.2.2, 62, .inl (fun _ => 0))), (q75, .inr (0, [.ref q7_79, .int 0, .int (-1), .ref q25_79, .int 0])), (q7_79, .inl (X.2.2, 60, .inl (fun _ => 0))), (q25_79, .inl (X.2.2, 62, .inl (fun _ => 0))), (q85, .inr (3, [.ref q8_89, .ref q17_89, .ref q25_89, .ref q33_89, .ref q42_89, .ref q51_89, .ref q60_89, .ref q69_89, .ref q78_89, .ref q86_89, .int 181896])), (q8_89, .inl (X.2.2, 300, .inl (fun _ => 0))), (q17_89, .inl (X.2.2, 300, .inl (fun _ => 0))), (q25_89, .inl (X.2.2, 10, .inl (fun _ => 0))), (q42_89, .inl (X.2.2, 240, .inl (fun _ => 0))), (q51_89, .inl (X.2.2, 240, .inl (fun _ => 0))), (q60_89, .inl (X.2.2, 240, .inl (fun _ => 0))), (q69_89, .inl (X.2.2, 240, .inl (fun _ => 0))), (q78_89, .inl (X.2.2, 240, .inl (fun _ => 0))), (q86_89, .inl (X.2.2, 6, .inl (fun _ => 0))), (q33_89, .inl (X.2.2, 10, .inl (fun i => if i < 10 then -1 else 0))), (q99, .inr (2, [.ref q85, .ref q7_104, .int 0, .ref q21_104, .ref q30_104, .int 0, .ref q44_104, .ref q52_104, .int 0, .int (-1), .int 0, .int 0])), (q7_104, .inl (X.2.2, 6, .inl (fun _ => 0))), (q21_104, .inl (X.2.2, 602, .inl (fun _ => 0))), (q30_104, .inl (X.2.2, 602, .inl (fun _ => 0))), (q44_104, .inl (X.2.2, 240, .inl (fun _ => 0))), (q52_104, .inl (X.2.2, 6, .inl (fun _ => 0))), (q111, .inr (2, [.ref q85, .ref q7_116, .int 0, .ref q21_116, .ref q30_116, .int 0, .ref q44_116, .ref q52_116, .int 0, .int (-1), .int 0, .int 0])), (q7_116, .inl (X.2.2, 6, .inl (fun _ => 0))), (q21_116, .inl (X.2.2, 602, .inl (fun _ => 0))), (q30_116, .inl (X.2.2, 602, .inl (fun _ => 0))), (q44_116, .inl (X.2.2, 240, .inl (fun _ => 0))), (q52_116, .inl (X.2.2, 6, .inl (fun _ => 0)))]) rfl ?_
  refine CW.al C (k := 0) rfl dX6_init_122 ?_
  refine CW.get C 0 (j := 7) (v := .ref q36) rfl gci_X6 (by decide) rfl fl_X6_28 dX6_init_123 ?_
  refine CW.iconst C (v := (-1)) (by decide) dX6_init_126 ?_
  refine CW.stat (n := 2) (as := [.ref q36, .int (-1)]) (st := []) (wr := [(h0, .inr (4, [.ref q85, .ref q5, .ref q99, .ref q111, .int 0, .ref q23, .int 0, .ref q36, .ref q42, .ref q53, .ref q64, .ref q75])), (q5, .inr (1, [.ref q6_9, .ref q13_9, .ref q22_9, .int 0])), (q13_9, .inl (X.2.2, 4, .inl (fun _ => 0))), (q22_9, .inl (X.2.2, 240, .inl (fun _ => 0))), (q6_9, .inl (X.2.2, 4, .inl (fun i => if i < 4 then -1 else 0))), (q23, .inl (X.2.2, 96, .inl (fun _ => 0))), (q42, .inr (0, [.ref q7_46, .int 0, .int (-1), .ref q25_46, .int 0])), (q7_46, .inl (X.2.2, 60, .inl (fun _ => 0))), (q25_46, .inl (X.2.2, 62, .inl (fun _ => 0))), (q53, .inr (0, [.ref q7_57, .int 0, .int (-1), .ref q25_57, .int 0])), (q7_57, .inl (X.2.2, 60, .inl (fun _ => 0))), (q25_57, .inl (X.2.2, 62, .inl (fun _ => 0))), (q64, .inr (0, [.ref q7_68, .int 0, .int (-1), .ref q25_68, .int 0])), (q7_68, .inl (X.2.2, 60, .inl (fun _ => 0))), (q25_68, .inl (X.2.2, 62, .inl (fun _ => 0))), (q75, .inr (0, [.ref q7_79, .int 0, .int (-1), .ref q25_79, .int 0])), (q7_79, .inl (X.2.2, 60, .inl (fun _ => 0))), (q25_79, .inl (X.2.2, 62, .inl (fun _ => 0))), (q85, .inr (3, [.ref q8_89, .ref q17_89, .ref q25_89, .ref q33_89, .ref q42_89, .ref q51_89, .ref q60_89, .ref q69_89, .ref q78_89, .ref q86_89, .int 181896])), (q8_89, .inl (X.2.2, 300, .inl (fun _ => 0))), (q17_89, .inl (X.2.2, 300, .inl (fun _ => 0))), (q25_89, .inl (X.2.2, 10, .inl (fun _ => 0))), (q42_89, .inl (X.2.2, 240, .inl (fun _ => 0))), (q51_89, .inl (X.2.2, 240, .inl (fun _ => 0))), (q60_89, .inl (X.2.2, 240, .inl (fun _ => 0))), (q69_89, .inl (X.2.2, 240, .inl (fun _ => 0))), (q78_89, .inl (X.2.2, 240, .inl (fun _ => 0))), (q86_89, .inl (X.2.2, 6, .inl (fun _ => 0))), (q33_89, .inl (X.2.2, 10, .inl (fun i => if i < 10 then -1 else 0))), (q99, .inr (2, [.ref q85, .ref q7_104, .int 0, .ref q21_104, .ref q30_104, .int 0, .ref q44_104, .ref q52_104, .int 0, .int (-1), .int 0, .int 0])), (q7_104, .inl (X.2.2, 6, .inl (fun _ => 0))), (q21_104, .inl (X.2.2, 602, .inl (fun _ => 0))), (q30_104, .inl (X.2.2, 602, .inl (fun _ => 0))), (q44_104, .inl (X.2.2, 240, .inl (fun _ => 0))), (q52_104, .inl (X.2.2, 6, .inl (fun _ => 0))), (q111, .inr (2, [.ref q85, .ref q7_116, .int 0, .ref q21_116, .ref q30_116, .int 0, .ref q44_116, .ref q52_116, .int 0, .int (-1), .int 0, .int 0])), (q7_116, .inl (X.2.2, 6, .inl (fun _ => 0))), (q21_116, .inl (X.2.2, 602, .inl (fun _ => 0))), (q30_116, .inl (X.2.2, 602, .inl (fun _ => 0))), (q44_116, .inl (X.2.2, 240, .inl (fun _ => 0))), (q52_116, .inl (X.2.2, 6, .inl (fun _ => 0)))]) C (c_fill q36 6 (by decide)) ⟨wi_J7, wc_yJ7_fill_53178, ⟨by decide, by decide, by decide +kernel⟩, rfl, rfl⟩ ml_X6_66 ws_yJ7_fill_53178 ⟨by decide, by decide⟩ rfl rfl [6] [0, 1, 2, 3, 4, 5, 7, 8, 9, 10, 11, 12, 13, 14, 15, 16, 17, 18, 19, 20, 21, 22, 23, 24, 25, 26, 27, 28, 29, 30, 31, 32, 33, 34, 35, 36, 37, 38, 39, 40, 41] rfl rfl rfl rfl (by decide) (Nat.le_of_ble_eq_true rfl) (Nat.le_of_ble_eq_true rfl) (Nat.le_of_ble_eq_true rfl) dX6_init_127 (fun w1 hw1 => ?_)
  subst hw1
  refine CW.chg (w2 := [(h0, .inr (4, [.ref q85, .ref q5, .ref q99, .ref q111, .int 0, .ref q23, .int 0, .ref q36, .ref q42, .ref q53, .ref q64, .ref q75])), (q5, .inr (1, [.ref q6_9, .ref q13_9, .ref q22_9, .int 0])), (q13_9, .inl (X.2.2, 4, .inl (fun _ => 0))), (q22_9, .inl (X.2.2, 240, .inl (fun _ => 0))), (q6_9, .inl (X.2.2, 4, .inl (fun i => if i < 4 then -1 else 0))), (q23, .inl (X.2.2, 96, .inl (fun _ => 0))), (q42, .inr (0, [.ref q7_46, .int 0, .int (-1), .ref q25_46, .int 0])), (q7_46, .inl (X.2.2, 60, .inl (fun _ => 0))), (q25_46, .inl (X.2.2, 62, .inl (fun _ => 0))), (q53, .inr (0, [.ref q7_57, .int 0, .int (-1), .ref q25_57, .int 0])), (q7_57, .inl (X.2.2, 60, .inl (fun _ => 0))), (q25_57, .inl (X.2.2, 62, .inl (fun _ => 0))), (q64, .inr (0, [.ref q7_68, .int 0, .int (-1), .ref q25_68, .int 0])), (q7_68, .inl (X.2.2, 60, .inl (fun _ => 0))), (q25_68, .inl (X.2.2, 62, .inl (fun _ => 0))), (q75, .inr (0, [.ref q7_79, .int 0, .int (-1), .ref q25_79, .int 0])), (q7_79, .inl (X.2.2, 60, .inl (fun _ => 0))), (q25_79, .inl (X.2.2, 62, .inl (fun _ => 0))), (q85, .inr (3, [.ref q8_89, .ref q17_89, .ref q25_89, .ref q33_89, .ref q42_89, .ref q51_89, .ref q60_89, .ref q69_89, .ref q78_89, .ref q86_89, .int 181896])), (q8_89, .inl (X.2.2, 300, .inl (fun _ => 0))), (q17_89, .inl (X.2.2, 300, .inl (fun _ => 0))), (q25_89, .inl (X.2.2, 10, .inl (fun _ => 0))), (q42_89, .inl (X.2.2, 240, .inl (fun _ => 0))), (q51_89, .inl (X.2.2, 240, .inl (fun _ => 0))), (q60_89, .inl (X.2.2, 240, .inl (fun _ => 0))), (q69_89, .inl (X.2.2, 240, .inl (fun _ => 0))), (q78_89, .inl (X.2.2, 240, .inl (fun _ => 0))), (q86_89, .inl (X.2.2, 6, .inl (fun _ => 0))), (q33_89, .inl (X.2.2, 10, .inl (fun i => if i < 10 then -1 else 0))), (q99, .inr (2, [.ref q85, .ref q7_104, .int 0, .ref q21_104, .ref q30_104, .int 0, .ref q44_104, .ref q52_104, .int 0, .int (-1), .int 0, .int 0])), (q7_104, .inl (X.2.2, 6, .inl (fun _ => 0))), (q21_104, .inl (X.2.2, 602, .inl (fun _ => 0))), (q30_104, .inl (X.2.2, 602, .inl (fun _ => 0))), (q44_104, .inl (X.2.2, 240, .inl (fun _ => 0))), (q52_104, .inl (X.2.2, 6, .inl (fun _ => 0))), (q111, .inr (2, [.ref q85, .ref q7_116, .int 0, .ref q21_116, .ref q30_116, .int 0, .ref q44_116, .ref q52_116, .int 0, .int (-1), .int 0, .int 0])), (q7_116, .inl (X.2.2, 6, .inl (fun _ => 0))), (q21_116, .inl (X.2.2, 602, .inl (fun _ => 0))), (q30_116, .inl (X.2.2, 602, .inl (fun _ => 0))), (q44_116, .inl (X.2.2, 240, .inl (fun _ => 0))), (q52_116, .inl (X.2.2, 6, .inl (fun _ => 0))), (q36, .inl (X.2.2, 6, .inl (fun i => if i < 6 then -1 else 0)))]) rfl ?_
  exact CW.vret C rfl (⟨q5, q13_9, q22_9, q6_9, q23, q42, q7_46, q25_46, q53, q7_57, q25_57, q64, q7_68, q25_68, q75, q7_79, q25_79, q85, q8_89, q17_89, q25_89, q42_89, q51_89, q60_89, q69_89, q78_89, q86_89, q33_89, q99, q7_104, q21_104, q30_104, q44_104, q52_104, q111, q7_116, q21_116, q30_116, q44_116, q52_116, q36, rfl⟩) dX6_init_130
end TB1

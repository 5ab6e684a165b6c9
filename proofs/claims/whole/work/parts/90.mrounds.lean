/-! ===== the model: rounds, what is told ===== -/
def rgI2 (c : Nat) : Nat → Nat → Nat → Option Nat
  | 0, _, _ => none
  | f + 1, seen, a => if seen.testBit a = true then some seen else rgI2 c f (seen ||| 2 ^ a) (tn_im c a)
def rgO (c : Nat) : Nat → Nat → Nat → Nat → Option Nat
  | 0, _, _, many => some many
  | j + 1, n, seen, many => match rgI2 c 8 seen n with
    | none => none
    | some s => rgO c j (n + 1) s (many + (if seen.testBit n = true then 0 else 1))
theorem rg_all : ∀ c ∈ tn_all, rgO c 6 0 (ms_of (fun n => decide (tn_im c n = n))) 0 = some (bc6 (tn_un c tn_id) - tn_mn c 6) ∧ tn_mn c 6 ≤ bc6 (tn_un c tn_id) ∧ ms_of (fun n => decide (tn_im c n = n)) = 63 ^^^ tn_un c tn_id := by decide +kernel
def LnM (σ : gS) (L : List Nat) : Prop := σ 0 15 = nI L.length ∧ L.length ≤ 60 ∧ ∀ i x, L[i]? = some x → σ 13 i = nI x
def lM (σ τ : gS) : Prop := (∀ k, k ≠ 0 → k ≠ 13 → τ k = σ k) ∧ ∀ i, i ≠ 15 → τ 0 i = σ 0 i
theorem lM_rf (σ : gS) : lM σ σ := ⟨fun _ _ _ => rfl, fun _ _ => rfl⟩
theorem lM_tr {σ τ υ : gS} (h1 : lM σ τ) (h2 : lM τ υ) : lM σ υ := ⟨fun k a b => (h2.1 k a b).trans (h1.1 k a b), fun i a => (h2.2 i a).trans (h1.2 i a)⟩
theorem LnM_0 (σ : gS) : LnM (up2 σ 0 15 0) [] := ⟨up2_at _ _ _ _, by simp, fun i x h => by simp at h⟩
theorem lM_0 (σ : gS) : lM σ (up2 σ 0 15 0) := ⟨fun k a _ => up2_ne _ _ _ a, fun i hi => by rw [up2_r, if_neg (fun z => hi z.2)]⟩
theorem pl_j {i : Int32} (h : ¬ noPl i) : i = -1 ∨ ∃ j, j < 60 ∧ i = nI j := by
  by_cases e : i = -1
  · exact Or.inl e
  · refine Or.inr (inB_of (by decide) (decide_eq_true ?_))
    have h1 : ¬ i.toInt < -1 := fun z => h (Or.inl (Int32.lt_iff_toInt_lt.mpr z))
    have h2 : ¬ (60 : Int) ≤ i.toInt := fun z => h (Or.inr (Int32.le_iff_toInt_le.mpr z))
    have h3 : i.toInt ≠ -1 := fun z => e (Int32.toInt_inj.mp z)
    omega
theorem pl_in {i : Int32} {_ : Decidable (-1 ≤ i ∧ i ≤ 59)} : ((if -1 ≤ i ∧ i ≤ 59 then (1 : Int32) else 0) = 0) ↔ noPl i := by
  rw [bo_0]
  have q1 : (-1 ≤ i) ↔ (-1 : Int) ≤ i.toInt := Int32.le_iff_toInt_le
  have q2 : (i ≤ 59) ↔ i.toInt ≤ (59 : Int) := Int32.le_iff_toInt_le
  have q3 : (i < -1) ↔ i.toInt < (-1 : Int) := Int32.lt_iff_toInt_lt
  have q4 : ((60 : Int32) ≤ i) ↔ (60 : Int) ≤ i.toInt := Int32.le_iff_toInt_le
  unfold noPl
  rw [q1, q2, q3, q4]
  omega
def sp_rd (c : Nat) (w : Int32) : Int32 := if w = 0 then nI (tn_or0 c) else if w = 1 then (if tn_mn c 6 % 2 = 0 then 1 else 0) else if w = 2 then nI (bc6 (tn_un c tn_id)) - nI (tn_mn c 6) else nI (63 ^^^ tn_un c tn_id)
theorem sp_rounds_in {ln B : Nat → Nat} {w : Int32} (h : inB w 4 = true) : sp_rounds ln B w = sp_rd (ttA ln B) w := by
  obtain ⟨q, hq, e⟩ := inB_of (by decide) h
  have c4 : q = 0 ∨ q = 1 ∨ q = 2 ∨ q = 3 := by omega
  unfold sp_rounds sp_rd
  rcases c4 with z | z | z | z <;> subst z <;> subst e <;> rfl
theorem sp_rounds_out {ln B : Nat → Nat} {w : Int32} (h : inB w 4 = false) : sp_rounds ln B w = -2 := by
  unfold sp_rounds
  rw [if_neg (fun e => by rw [e] at h; exact absurd h (by decide)), if_neg (fun e => by rw [e] at h; exact absurd h (by decide)), if_neg (fun e => by rw [e] at h; exact absurd h (by decide)), if_neg (fun e => by rw [e] at h; exact absurd h (by decide))]
section T90
variable {l : Launch} {D : va_G} {cA : ClassId} {ad : Nat → Nat}
variable {σ σ0 : gS}
set_option maxHeartbeats 4000000 in
set_option maxRecDepth 100000 in
theorem l_X7_orderNow {c : Nat} (hP : tn_P c) (ht : σ 0 13 = nI c) : ∀ j k, k + j = 6 → 1 ≤ k → (∀ q, 1 ≤ q → q < k → tn_pw c q ≠ tn_id) → G (XM l D cA ad) mX7_orderNow (g_ri (fun r τ => r = nI (tn_or0 c) ∧ τ = σ)) 7 [some (.ref 0), some (.int (nI k)), some (.int (nI (tn_pw c k)))] [] σ := by
  have h6 := tn_or6_all c (tn_in_all hP)
  intro j
  induction j with
  | zero =>
    intro k hj h1 hn
    have hk : k = 6 := by omega
    subst hk
    have n1 : ¬ c = tn_id := by have := hn 1 (by decide) (by decide); rwa [tn_pw1 hP] at this
    have n2 := hn 2 (by decide) (by decide)
    have n3 := hn 3 (by decide) (by decide)
    have n4 := hn 4 (by decide) (by decide)
    have n5 := hn 5 (by decide) (by decide)
    have e6 : tn_pw c 6 = tn_id := by
      rcases h6 with z | z | z | z | z | z
      · exact absurd z n1
      · exact absurd z n2
      · exact absurd z n3
      · exact absurd z n4
      · exact absurd z n5
      · exact z
    refine G.iload_n (k := 2) rfl dX7_orderNow_7 ?_
    refine G.ldc ct_X7_154 dX7_orderNow_8 ?_
    refine G.icmp_eq (tgt := 28) (by decide) dX7_orderNow_10 (fun c_10 => ?_) (fun c_10 => absurd (congrArg nI e6) c_10)
    refine G.iload_n (k := 1) rfl dX7_orderNow_28 ?_
    exact G.iret rfl (⟨by unfold tn_or0; rw [if_neg n1, if_neg n2, if_neg n3, if_neg n4, if_neg n5], rfl⟩) dX7_orderNow_29
  | succ j ih =>
    intro k hj h1 hn
    refine G.iload_n (k := 2) rfl dX7_orderNow_7 ?_
    refine G.ldc ct_X7_154 dX7_orderNow_8 ?_
    refine G.icmp_eq (tgt := 28) (by decide) dX7_orderNow_10 (fun c_10 => ?_) (fun c_10 => ?_)
    · have ek : tn_pw c k = tn_id := (tn_id_eq (tn_P_pw hP k).1).mp c_10
      have hr : nI k = nI (tn_or0 c) := by
        refine congrArg nI ?_
        have n1 : 1 < k → ¬ c = tn_id := fun z => by have := hn 1 (by decide) z; rwa [tn_pw1 hP] at this
        have ck : k = 1 ∨ k = 2 ∨ k = 3 ∨ k = 4 ∨ k = 5 := by omega
        unfold tn_or0
        rcases ck with z | z | z | z | z <;> subst z
        · rw [tn_pw1 hP] at ek; rw [if_pos ek]
        · rw [if_neg (n1 (by decide)), if_pos ek]
        · rw [if_neg (n1 (by decide)), if_neg (hn 2 (by decide) (by decide)), if_pos ek]
        · rw [if_neg (n1 (by decide)), if_neg (hn 2 (by decide) (by decide)), if_neg (hn 3 (by decide) (by decide)), if_pos ek]
        · rw [if_neg (n1 (by decide)), if_neg (hn 2 (by decide) (by decide)), if_neg (hn 3 (by decide) (by decide)), if_neg (hn 4 (by decide) (by decide)), if_pos ek]
      refine G.iload_n (k := 1) rfl dX7_orderNow_28 ?_
      exact G.iret rfl (⟨hr, rfl⟩) dX7_orderNow_29
    · have ek : ¬ tn_pw c k = tn_id := fun e => c_10 (congrArg nI e)
      refine G.aload_n (k := 0) rfl dX7_orderNow_13 ?_
      refine G.geti (j := 13) rfl gci_X7 (by decide) rfl fl_X7_155 dX7_orderNow_14 ?_
      rw [ht]
      refine G.iload_n (k := 2) rfl dX7_orderNow_17 ?_
      refine G.callSif (c_X7_behind hP (tn_P_pw hP k)) ml_X7_161 ws_yX7_behind gcl_X7_behind (by decide) rfl rfl (Nat.le_of_ble_eq_true rfl) dX7_orderNow_18 ?_
      refine G.ist2 (by decide) rfl dX7_orderNow_21 ?_
      refine G.inc1 (d := 1) (by decide) (by decide) rfl dX7_orderNow_22 ?_
      refine G.goto (tgt := 7) (by decide) dX7_orderNow_25 ?_
      rw [nI_1]
      exact ih (k + 1) (by omega) (by omega) (fun q h2 h3 => if e : q = k then (by rw [e]; exact ek) else hn q h2 (by omega))
set_option maxHeartbeats 4000000 in
set_option maxRecDepth 100000 in
theorem c_X7_orderNow {c : Nat} (hP : tn_P c) (ht : σ 0 13 = nI c) : GM (XM l D cA ad) mX7_orderNow [.ref 0] σ (g_ri (fun r τ => r = nI (tn_or0 c) ∧ τ = σ)) := by
  refine GM.of (ls := [some (.ref 0), none, none]) (by decide) (Nat.le_of_ble_eq_true rfl) rfl ?_
  refine G.iconst (v := 1) (by decide) dX7_orderNow_0 ?_
  refine G.ist1 (by decide) rfl dX7_orderNow_1 ?_
  refine G.aload_n (k := 0) rfl dX7_orderNow_2 ?_
  refine G.geti (j := 13) rfl gci_X7 (by decide) rfl fl_X7_155 dX7_orderNow_3 ?_
  rw [ht]
  rw [show nI c = nI (tn_pw c 1) by rw [tn_pw1 hP]]
  refine G.ist2 (by decide) rfl dX7_orderNow_6 ?_
  exact l_X7_orderNow hP ht 5 1 rfl (by decide) (fun q h1 h2 => by omega)
set_option maxHeartbeats 4000000 in
set_option maxRecDepth 100000 in
theorem li_X7_rings {Q : Option Value → gS → Prop} {c : Nat} {m : Int32} {n : Nat} (hP : tn_P c) (ht : σ 0 13 = nI c) : ∀ f seen a s, rgI2 c f seen a = some s → seen < 64 → a < 6 → (∀ a', s < 64 → G (XM l D cA ad) mX7_rings Q 64 [some (.ref 0), some (.int (nI s)), some (.int m), some (.int (nI n)), some (.int (nI a'))] [] σ) → G (XM l D cA ad) mX7_rings Q 34 [some (.ref 0), some (.int (nI seen)), some (.int m), some (.int (nI n)), some (.int (nI a))] [] σ := by
  intro f
  induction f with
  | zero => intro seen a s h; cases h
  | succ f ih =>
    intro seen a s h hs ha K
    rw [rgI2] at h
    refine G.iload_n (k := 1) rfl dX7_rings_34 ?_
    refine G.iload (i := 4) rfl dX7_rings_35 ?_
    refine G.callSif (c_X7_isIn (b := seen) (n := a) (by omega) (by omega)) ml_X7_200 ws_yX7_isIn gcl_X7_isIn (by decide) rfl rfl (Nat.le_of_ble_eq_true rfl) dX7_rings_37 ?_
    refine G.if_ne (tgt := 64) (by decide) dX7_rings_40 (fun c_40 => ?_) (fun c_40 => ?_)
    · have hb := bo_n.mp c_40
      rw [if_pos hb] at h
      cases h
      exact K _ hs
    · have hb := bo_0.mp c_40
      rw [if_neg hb] at h
      refine G.iload_n (k := 1) rfl dX7_rings_43 ?_
      refine G.iconst (v := 1) (by decide) dX7_rings_44 ?_
      refine G.iload (i := 4) rfl dX7_rings_45 ?_
      refine G.ishl dX7_rings_47 ?_
      rw [(sh1_u a ha).1]
      refine G.ior dX7_rings_48 ?_
      rw [nu_or]
      refine G.ist1 (by decide) rfl dX7_rings_49 ?_
      refine G.aload_n (k := 0) rfl dX7_rings_50 ?_
      refine G.geti (j := 13) rfl gci_X7 (by decide) rfl fl_X7_155 dX7_rings_51 ?_
      rw [ht]
      refine G.iload (i := 4) rfl dX7_rings_54 ?_
      refine G.callSif (c_X7_image hP.1 ha) ml_X7_123 ws_yX7_image gcl_X7_image (by decide) rfl rfl (Nat.le_of_ble_eq_true rfl) dX7_rings_56 ?_
      refine G.ist4 (by decide) rfl dX7_rings_59 ?_
      refine G.goto (tgt := 34) (by decide) dX7_rings_61 ?_
      exact ih _ _ s h (Nat.or_lt_two_pow (n := 6) hs (sh1_u a ha).2) (hP.2.1 a ha) K
set_option maxHeartbeats 4000000 in
set_option maxRecDepth 100000 in
theorem l_X7_rings {c R : Nat} (hP : tn_P c) (ht : σ 0 13 = nI c) : ∀ j n seen many z, n + j = 6 → seen < 64 → rgO c j n seen many = some R → G (XM l D cA ad) mX7_rings (g_ri (fun r τ => r = nI R ∧ τ = σ)) 9 [some (.ref 0), some (.int (nI seen)), some (.int (nI many)), some (.int (nI n)), z] [] σ := by
  intro j
  induction j with
  | zero =>
    intro n seen many z hj hs h
    have hn : n = 6 := by omega
    subst hn
    rw [rgO] at h
    cases h
    refine G.iload_n (k := 3) rfl dX7_rings_9 ?_
    refine G.bipush (v := 6) (by decide) dX7_rings_10 ?_
    refine G.icmp_ge (tgt := 70) (by decide) dX7_rings_12 (fun c_12 => ?_) (fun c_12 => absurd (by decide) c_12)
    refine G.iload_n (k := 2) rfl dX7_rings_70 ?_
    exact G.iret rfl (⟨rfl, rfl⟩) dX7_rings_71
  | succ j ih =>
    intro n seen many z hj hs h
    rw [rgO] at h
    cases hi : rgI2 c 8 seen n with
    | none => rw [hi] at h; cases h
    | some s =>
      rw [hi] at h
      refine G.iload_n (k := 3) rfl dX7_rings_9 ?_
      refine G.bipush (v := 6) (by decide) dX7_rings_10 ?_
      refine G.icmp_ge (tgt := 70) (by decide) dX7_rings_12 (fun c_12 => absurd c_12 (nI_ge (b := 6) (by omega) (by decide))) (fun c_12 => ?_)
      refine G.iload_n (k := 2) rfl dX7_rings_15 ?_
      refine G.iload_n (k := 1) rfl dX7_rings_16 ?_
      refine G.iload_n (k := 3) rfl dX7_rings_17 ?_
      refine G.callSif (c_X7_isIn (b := seen) (n := n) (by omega) (by omega)) ml_X7_200 ws_yX7_isIn gcl_X7_isIn (by decide) rfl rfl (Nat.le_of_ble_eq_true rfl) dX7_rings_18 ?_
      refine G.if_eq (tgt := 28) (by decide) dX7_rings_21 (fun c_21 => ?_) (fun c_21 => ?_)
      · have hb := bo_0.mp c_21
        rw [if_neg hb] at h
        refine G.iconst (v := 1) (by decide) dX7_rings_28 ?_
        refine G.iadd dX7_rings_29 ?_
        refine G.ist2 (by decide) rfl dX7_rings_30 ?_
        refine G.iload_n (k := 3) rfl dX7_rings_31 ?_
        refine G.ist4 (by decide) rfl dX7_rings_32 ?_
        refine li_X7_rings hP ht 8 seen n s hi hs (by omega) (fun a' hs2 => ?_)
        refine G.inc3 (d := 1) (by decide) (by decide) rfl dX7_rings_64 ?_
        refine G.goto (tgt := 9) (by decide) dX7_rings_67 ?_
        rw [nI_1]
        first
        | (rw [nI_1]; exact ih (n + 1) s (many + 1) _ (by omega) hs2 h)
        | (rw [Int32.add_zero]; exact ih (n + 1) s (many + 0) _ (by omega) hs2 h)
      · have hb := bo_n.mp c_21
        rw [if_pos hb] at h
        refine G.iconst (v := 0) (by decide) dX7_rings_24 ?_
        refine G.goto (tgt := 29) (by decide) dX7_rings_25 ?_
        refine G.iadd dX7_rings_29 ?_
        refine G.ist2 (by decide) rfl dX7_rings_30 ?_
        refine G.iload_n (k := 3) rfl dX7_rings_31 ?_
        refine G.ist4 (by decide) rfl dX7_rings_32 ?_
        refine li_X7_rings hP ht 8 seen n s hi hs (by omega) (fun a' hs2 => ?_)
        refine G.inc3 (d := 1) (by decide) (by decide) rfl dX7_rings_64 ?_
        refine G.goto (tgt := 9) (by decide) dX7_rings_67 ?_
        rw [nI_1]
        first
        | (rw [nI_1]; exact ih (n + 1) s (many + 1) _ (by omega) hs2 h)
        | (rw [Int32.add_zero]; exact ih (n + 1) s (many + 0) _ (by omega) hs2 h)
set_option maxHeartbeats 4000000 in
set_option maxRecDepth 100000 in
theorem c_X7_rings {c : Nat} (hP : tn_P c) (ht : σ 0 13 = nI c) : GM (XM l D cA ad) mX7_rings [.ref 0] σ (g_ri (fun r τ => r = nI (bc6 (tn_un c tn_id)) - nI (tn_mn c 6) ∧ τ = σ)) := by
  refine GM.of (ls := [some (.ref 0), none, none, none, none]) (by decide) (Nat.le_of_ble_eq_true rfl) rfl ?_
  obtain ⟨g1, g2, g3⟩ := rg_all c (tn_in_all hP)
  refine G.aload_n (k := 0) rfl dX7_rings_0 ?_
  refine G.callVif (c_X7_stays hP ht) rfl (gci_X7).1 ml_X7_197 im_yX7_stays se_yX7_stays gcl_X7_stays (by decide) rfl rfl (Nat.le_of_ble_eq_true rfl) dX7_rings_1 ?_
  refine G.ist1 (by decide) rfl dX7_rings_4 ?_
  refine G.iconst (v := 0) (by decide) dX7_rings_5 ?_
  refine G.ist2 (by decide) rfl dX7_rings_6 ?_
  refine G.iconst (v := 0) (by decide) dX7_rings_7 ?_
  refine G.ist3 (by decide) rfl dX7_rings_8 ?_
  rw [nu_sub g2]
  exact l_X7_rings hP ht 6 0 _ 0 none rfl (ms_lt _) g1
set_option maxHeartbeats 4000000 in
set_option maxRecDepth 100000 in
theorem c_X7_tells {x : Nat} {L : List Nat} (hL : LnM σ L) : GM (XM l D cA ad) mX7_tells [.ref 0, .int (nI x)] σ (g_rv (fun τ => LnM τ ((L ++ [x]).take 60) ∧ lM σ τ)) := by
  refine GM.of (ls := [some (.ref 0), some (.int (nI x))]) (by decide) (Nat.le_of_ble_eq_true rfl) rfl ?_
  have hle := hL.2.1
  refine G.aload_n (k := 0) rfl dX7_tells_0 ?_
  refine G.geti (j := 15) rfl gci_X7 (by decide) rfl fl_X7_204 dX7_tells_1 ?_
  rw [hL.1]
  refine G.bipush (v := 60) (by decide) dX7_tells_4 ?_
  refine G.icmp_ge (tgt := 29) (by decide) dX7_tells_6 (fun c_6 => ?_) (fun c_6 => ?_)
  · have hge : 60 ≤ L.length := by
      rcases Nat.lt_or_ge L.length 60 with q | q
      · exact absurd c_6 (nI_ge (b := 60) q (by decide))
      · exact q
    have hfin : LnM σ ((L ++ [x]).take 60) ∧ lM σ σ := by
      rw [List.take_append_of_le_length (by omega), List.take_of_length_le (by omega)]
      exact ⟨hL, lM_rf σ⟩
    exact G.vret rfl (hfin) dX7_tells_29
  · have hlt : L.length < 60 := by
      rcases Nat.lt_or_ge L.length 60 with q | q
      · exact q
      · exact absurd (nI_le (a := 60) q (by omega)) c_6
    refine G.aload_n (k := 0) rfl dX7_tells_9 ?_
    refine G.getr (j := 14) rfl gci_X7 (by decide) rfl fl_X7_46 dX7_tells_10 ?_
    refine G.aload_n (k := 0) rfl dX7_tells_13 ?_
    refine G.geti (j := 15) rfl gci_X7 (by decide) rfl fl_X7_204 dX7_tells_14 ?_
    rw [hL.1]
    refine G.iload_n (k := 1) rfl dX7_tells_17 ?_
    refine G.iastN (k := L.length) rfl (rfl) (hlt) (by decide) dX7_tells_18 ?_
    refine G.aload_n (k := 0) rfl dX7_tells_19 ?_
    refine G.dupr dX7_tells_20 ?_
    refine G.geti (j := 15) rfl gci_X7 (by decide) rfl fl_X7_204 dX7_tells_21 ?_
    rw [up2_ne _ _ _ (show (0 : Nat) ≠ 13 by decide), hL.1]
    refine G.iconst (v := 1) (by decide) dX7_tells_24 ?_
    refine G.iadd dX7_tells_25 ?_
    rw [nI_1]
    refine G.put (j := 15) rfl gci_X7 gcp_X7 (by decide) rfl rfl rfl rfl fl_X7_204 dX7_tells_26 ?_
    have hfin : LnM (up2 (up2 σ 13 L.length (nI x)) 0 15 (nI (L.length + 1))) ((L ++ [x]).take 60) ∧ lM σ (up2 (up2 σ 13 L.length (nI x)) 0 15 (nI (L.length + 1))) := by
      rw [List.take_of_length_le (by simp; omega)]
      refine ⟨⟨by rw [up2_at]; simp, by simp; omega, fun i y hi => ?_⟩, fun k h1 h2 => ?_, fun i hi => ?_⟩
      · rw [up2_ne _ _ _ (show (13 : Nat) ≠ 0 by decide), up2_same]
        unfold upd
        by_cases e : i = L.length
        · subst e
          rw [List.getElem?_append_right (Nat.le_refl _)] at hi
          simp at hi
          rw [if_pos rfl, hi]
        · rw [if_neg e]
          by_cases h3 : i < L.length
          · rw [List.getElem?_append_left h3] at hi
            exact hL.2.2 i y hi
          · rw [List.getElem?_eq_none (by simp; omega)] at hi
            cases hi
      · rw [up2_ne _ _ _ h1, up2_ne _ _ _ h2]
      · rw [up2_r, if_neg (fun z => hi z.2), up2_ne _ _ _ (by decide)]
    exact G.vret rfl (hfin) dX7_tells_29
set_option maxHeartbeats 4000000 in
set_option maxRecDepth 100000 in
theorem l_X7_tellsTurn {c : Nat} {x : Int32} {L : List Nat} (hc : tn_P c) : ∀ j n z (τ : gS), n + j = 6 → LnM τ ((L ++ tn_by c n).take 60) → lM σ0 τ → G (XM l D cA ad) mX7_tellsTurn (g_ri (fun r τ => r = nI (tn_mn c 6) ∧ LnM τ ((L ++ tn_by c 6).take 60) ∧ lM σ0 τ)) 7 [some (.ref 0), some (.int x), some (.int (nI (tn_st c n))), some (.int (nI (tn_mn c n))), some (.int (nI n)), z] [] τ := by
  intro j
  induction j with
  | zero =>
    intro n z τ hn h1 h2
    have hn : n = 6 := by omega
    subst hn
    refine G.iload (i := 4) rfl dX7_tellsTurn_7 ?_
    refine G.bipush (v := 6) (by decide) dX7_tellsTurn_9 ?_
    refine G.icmp_ge (tgt := 74) (by decide) dX7_tellsTurn_11 (fun c_11 => ?_) (fun c_11 => absurd (by decide) c_11)
    refine G.iload_n (k := 3) rfl dX7_tellsTurn_74 ?_
    exact G.iret rfl (⟨rfl, h1, h2⟩) dX7_tellsTurn_75
  | succ j ih =>
    intro n z τ hn h1 h2
    have hn6 : n < 6 := by omega
    have hP := tn_P_st hc n (by omega)
    have hm8 := tn_im8 (tn_st c n) n
    refine G.iload (i := 4) rfl dX7_tellsTurn_7 ?_
    refine G.bipush (v := 6) (by decide) dX7_tellsTurn_9 ?_
    refine G.icmp_ge (tgt := 74) (by decide) dX7_tellsTurn_11 (fun c_11 => absurd c_11 (nI_ge (b := 6) (by omega) (by decide))) (fun c_11 => ?_)
    refine G.iload_n (k := 2) rfl dX7_tellsTurn_14 ?_
    refine G.iload (i := 4) rfl dX7_tellsTurn_15 ?_
    refine G.callSif (c_X7_image hP.1 hn6) ml_X7_123 ws_yX7_image gcl_X7_image (by decide) rfl rfl (Nat.le_of_ble_eq_true rfl) dX7_tellsTurn_17 ?_
    refine G.ist5 (by decide) rfl dX7_tellsTurn_20 ?_
    refine G.iload (i := 5) rfl dX7_tellsTurn_22 ?_
    refine G.iload (i := 4) rfl dX7_tellsTurn_24 ?_
    refine G.icmp_eq (tgt := 68) (by decide) dX7_tellsTurn_26 (fun c_26 => ?_) (fun c_26 => ?_)
    · have he : tn_im (tn_st c n) n = n := (nI_eq (show tn_im (tn_st c n) n < 2 ^ 31 by omega) (show n < 2 ^ 31 by omega)).mp c_26
      have e1 : tn_st c (n + 1) = tn_st c n := if_pos he
      have e2 : tn_by c (n + 1) = tn_by c n := if_pos he
      have e3 : tn_mn c (n + 1) = tn_mn c n := if_pos he
      rw [← e1, ← e3]
      have hgo : LnM τ ((L ++ tn_by c (n + 1)).take 60) ∧ lM σ0 τ := by rw [e2]; exact ⟨h1, h2⟩
      refine G.inc4 (d := 1) (by decide) (by decide) rfl dX7_tellsTurn_68 ?_
      refine G.goto (tgt := 7) (by decide) dX7_tellsTurn_71 ?_
      rw [nI_1]
      exact ih (n + 1) _ _ (by omega) hgo.1 hgo.2
    · have he : ¬ tn_im (tn_st c n) n = n := fun e => c_26 (by rw [e])
      have e1 : tn_st c (n + 1) = tn_cmp (tn_sw n (tn_im (tn_st c n) n)) (tn_st c n) := if_neg he
      have e2 : tn_by c (n + 1) = tn_by c n ++ [33, 97 + n, 97 + tn_im (tn_st c n) n] := if_neg he
      have e3 : tn_mn c (n + 1) = tn_mn c n + 1 := if_neg he
      refine G.aload_n (k := 0) rfl dX7_tellsTurn_29 ?_
      refine G.bipush (v := 33) (by decide) dX7_tellsTurn_30 ?_
      refine G.callVv (c_X7_tells (x := 33) h1) rfl (gci_X7).1 ml_X7_207 im_yX7_tells se_yX7_tells gcl_X7_tells (by decide) rfl rfl (Nat.le_of_ble_eq_true rfl) dX7_tellsTurn_32 (fun τ1 hq1 => ?_)
      refine G.aload_n (k := 0) rfl dX7_tellsTurn_35 ?_
      refine G.bipush (v := 97) (by decide) dX7_tellsTurn_36 ?_
      refine G.iload (i := 4) rfl dX7_tellsTurn_38 ?_
      refine G.iadd dX7_tellsTurn_40 ?_
      rw [show (97 : Int32) + nI n = nI (97 + n) from nI_add 97 n]
      refine G.callVv (c_X7_tells hq1.1) rfl (gci_X7).1 ml_X7_207 im_yX7_tells se_yX7_tells gcl_X7_tells (by decide) rfl rfl (Nat.le_of_ble_eq_true rfl) dX7_tellsTurn_41 (fun τ2 hq2 => ?_)
      refine G.aload_n (k := 0) rfl dX7_tellsTurn_44 ?_
      refine G.bipush (v := 97) (by decide) dX7_tellsTurn_45 ?_
      refine G.iload (i := 5) rfl dX7_tellsTurn_47 ?_
      refine G.iadd dX7_tellsTurn_49 ?_
      rw [show (97 : Int32) + nI (tn_im (tn_st c n) n) = nI (97 + tn_im (tn_st c n) n) from nI_add 97 _]
      refine G.callVv (c_X7_tells hq2.1) rfl (gci_X7).1 ml_X7_207 im_yX7_tells se_yX7_tells gcl_X7_tells (by decide) rfl rfl (Nat.le_of_ble_eq_true rfl) dX7_tellsTurn_50 (fun τ3 hq3 => ?_)
      refine G.iload (i := 4) rfl dX7_tellsTurn_53 ?_
      refine G.iload (i := 5) rfl dX7_tellsTurn_55 ?_
      refine G.callSif (c_X7_swap hn6 (hP.2.1 n hn6)) ml_X7_158 ws_yX7_swap gcl_X7_swap (by decide) rfl rfl (Nat.le_of_ble_eq_true rfl) dX7_tellsTurn_57 ?_
      refine G.iload_n (k := 2) rfl dX7_tellsTurn_60 ?_
      refine G.callSif (c_X7_behind (tn_P_sw hn6 (hP.2.1 n hn6)) hP) ml_X7_161 ws_yX7_behind gcl_X7_behind (by decide) rfl rfl (Nat.le_of_ble_eq_true rfl) dX7_tellsTurn_61 ?_
      refine G.ist2 (by decide) rfl dX7_tellsTurn_64 ?_
      refine G.inc3 (d := 1) (by decide) (by decide) rfl dX7_tellsTurn_65 ?_
      rw [nI_1, ← e1, ← e3]
      have hgo : LnM τ3 ((L ++ tn_by c (n + 1)).take 60) ∧ lM σ0 τ3 := by
        refine ⟨?_, lM_tr h2 (lM_tr hq1.2 (lM_tr hq2.2 hq3.2))⟩
        have := hq3.1
        simp only [take_app, List.append_assoc] at this
        rw [e2]
        simpa [List.append_assoc] using this
      refine G.inc4 (d := 1) (by decide) (by decide) rfl dX7_tellsTurn_68 ?_
      refine G.goto (tgt := 7) (by decide) dX7_tellsTurn_71 ?_
      rw [nI_1]
      exact ih (n + 1) _ _ (by omega) hgo.1 hgo.2
set_option maxHeartbeats 4000000 in
set_option maxRecDepth 100000 in
theorem c_X7_tellsTurn {c : Nat} (hc : tn_P c) {L : List Nat} (hL : LnM σ L) : GM (XM l D cA ad) mX7_tellsTurn [.ref 0, .int (nI c)] σ (g_ri (fun r τ => r = nI (tn_mn c 6) ∧ LnM τ ((L ++ tn_by c 6).take 60) ∧ lM σ τ)) := by
  refine GM.of (ls := [some (.ref 0), some (.int (nI c)), none, none, none, none]) (by decide) (Nat.le_of_ble_eq_true rfl) rfl ?_
  refine G.iload_n (k := 1) rfl dX7_tellsTurn_0 ?_
  refine G.ist2 (by decide) rfl dX7_tellsTurn_1 ?_
  refine G.iconst (v := 0) (by decide) dX7_tellsTurn_2 ?_
  refine G.ist3 (by decide) rfl dX7_tellsTurn_3 ?_
  refine G.iconst (v := 0) (by decide) dX7_tellsTurn_4 ?_
  refine G.ist4 (by decide) rfl dX7_tellsTurn_5 ?_
  exact l_X7_tellsTurn hc 6 0 _ _ rfl (by rw [show tn_by c 0 = [] from rfl, List.append_nil, List.take_of_length_le hL.2.1]; exact hL) (lM_rf σ)
set_option maxHeartbeats 4000000 in
set_option maxRecDepth 100000 in
theorem c_X7_manySwaps {c : Nat} (hc : tn_P c) (ht : σ 0 13 = nI c) : GM (XM l D cA ad) mX7_manySwaps [.ref 0] σ (g_ri (fun r τ => r = nI (tn_mn c 6) ∧ LnM τ ((tn_by c 6).take 60) ∧ lM σ τ)) := by
  refine GM.of (ls := [some (.ref 0)]) (by decide) (Nat.le_of_ble_eq_true rfl) rfl ?_
  refine G.aload_n (k := 0) rfl dX7_manySwaps_0 ?_
  refine G.iconst (v := 0) (by decide) dX7_manySwaps_1 ?_
  refine G.put (j := 15) rfl gci_X7 gcp_X7 (by decide) rfl rfl rfl rfl fl_X7_204 dX7_manySwaps_2 ?_
  refine G.aload_n (k := 0) rfl dX7_manySwaps_5 ?_
  refine G.aload_n (k := 0) rfl dX7_manySwaps_6 ?_
  refine G.geti (j := 13) rfl gci_X7 (by decide) rfl fl_X7_155 dX7_manySwaps_7 ?_
  rw [up2_r, if_neg (by decide), ht]
  refine G.callVi (c_X7_tellsTurn hc (LnM_0 σ)) rfl (gci_X7).1 ml_X7_211 im_yX7_tellsTurn se_yX7_tellsTurn gcl_X7_tellsTurn (by decide) rfl rfl (Nat.le_of_ble_eq_true rfl) dX7_manySwaps_10 (fun r τ hq => ?_)
  exact G.iret rfl (⟨hq.1, hq.2.1, lM_tr (lM_0 σ) hq.2.2⟩) dX7_manySwaps_13
set_option maxHeartbeats 4000000 in
set_option maxRecDepth 100000 in
theorem c_X7_roundsBy {c : Nat} {w : Int32} (hc : tn_P c) (ht : σ 0 13 = nI c) : GM (XM l D cA ad) mX7_roundsBy [.ref 0, .int w] σ (g_ri (fun r τ => r = sp_rd c w ∧ lM σ τ)) := by
  refine GM.of (ls := [some (.ref 0), some (.int w)]) (by decide) (Nat.le_of_ble_eq_true rfl) rfl ?_
  refine G.iload_n (k := 1) rfl dX7_roundsBy_0 ?_
  refine G.if_ne (tgt := 11) (by decide) dX7_roundsBy_1 (fun c_1 => ?_) (fun c_1 => ?_)
  · have w0 := c_1
    refine G.iload_n (k := 1) rfl dX7_roundsBy_11 ?_
    refine G.iconst (v := 1) (by decide) dX7_roundsBy_12 ?_
    refine G.icmp_ne (tgt := 27) (by decide) dX7_roundsBy_13 (fun c_13 => ?_) (fun c_13 => ?_)
    · have w1 := c_13
      refine G.iload_n (k := 1) rfl dX7_roundsBy_27 ?_
      refine G.iconst (v := 2) (by decide) dX7_roundsBy_28 ?_
      refine G.icmp_ne (tgt := 39) (by decide) dX7_roundsBy_29 (fun c_29 => ?_) (fun c_29 => ?_)
      · have w2 := c_29
        refine G.aload_n (k := 0) rfl dX7_roundsBy_39 ?_
        refine G.callVif (c_X7_stays hc ht) rfl (gci_X7).1 ml_X7_197 im_yX7_stays se_yX7_stays gcl_X7_stays (by decide) rfl rfl (Nat.le_of_ble_eq_true rfl) dX7_roundsBy_40 ?_
        unfold sp_rd
        first
        | (rw [if_pos w0]; exact G.iret rfl ⟨rfl, lM_rf σ⟩ dX7_roundsBy_43)
        | (rw [if_neg w0, if_pos w1]
           refine G.iret rfl ⟨?_, hq.2.2⟩ dX7_roundsBy_43
           by_cases e : tn_mn c 6 % 2 = 0
           · rw [if_pos e, e]; rfl
           · rw [if_neg e, show tn_mn c 6 % 2 = 1 by omega]; rfl)
        | (rw [if_neg w0, if_neg w1, if_pos w2]; exact G.iret rfl ⟨rfl, lM_rf σ⟩ dX7_roundsBy_43)
        | (rw [if_neg w0, if_neg w1, if_neg w2]; exact G.iret rfl ⟨congrArg nI (rg_all c (tn_in_all hc)).2.2, lM_rf σ⟩ dX7_roundsBy_43)
      · have w2 := c_29
        refine G.aload_n (k := 0) rfl dX7_roundsBy_32 ?_
        refine G.callVif (c_X7_rings hc ht) rfl (gci_X7).1 ml_X7_220 im_yX7_rings se_yX7_rings gcl_X7_rings (by decide) rfl rfl (Nat.le_of_ble_eq_true rfl) dX7_roundsBy_33 ?_
        refine G.goto (tgt := 43) (by decide) dX7_roundsBy_36 ?_
        unfold sp_rd
        first
        | (rw [if_pos w0]; exact G.iret rfl ⟨rfl, lM_rf σ⟩ dX7_roundsBy_43)
        | (rw [if_neg w0, if_pos w1]
           refine G.iret rfl ⟨?_, hq.2.2⟩ dX7_roundsBy_43
           by_cases e : tn_mn c 6 % 2 = 0
           · rw [if_pos e, e]; rfl
           · rw [if_neg e, show tn_mn c 6 % 2 = 1 by omega]; rfl)
        | (rw [if_neg w0, if_neg w1, if_pos w2]; exact G.iret rfl ⟨rfl, lM_rf σ⟩ dX7_roundsBy_43)
        | (rw [if_neg w0, if_neg w1, if_neg w2]; exact G.iret rfl ⟨congrArg nI (rg_all c (tn_in_all hc)).2.2, lM_rf σ⟩ dX7_roundsBy_43)
    · have w1 := c_13
      refine G.iconst (v := 1) (by decide) dX7_roundsBy_16 ?_
      refine G.aload_n (k := 0) rfl dX7_roundsBy_17 ?_
      refine G.callVi (c_X7_manySwaps hc ht) rfl (gci_X7).1 ml_X7_217 im_yX7_manySwaps se_yX7_manySwaps gcl_X7_manySwaps (by decide) rfl rfl (Nat.le_of_ble_eq_true rfl) dX7_roundsBy_18 (fun r τ hq => ?_)
      rw [hq.1]
      refine G.iconst (v := 2) (by decide) dX7_roundsBy_21 ?_
      refine G.irem (by decide) dX7_roundsBy_22 ?_
      rw [nu_rem2 (show tn_mn c 6 < 2 ^ 31 by have := tn_mn_le c 6; omega)]
      refine G.isub dX7_roundsBy_23 ?_
      refine G.goto (tgt := 43) (by decide) dX7_roundsBy_24 ?_
      unfold sp_rd
      first
      | (rw [if_pos w0]; exact G.iret rfl ⟨rfl, lM_rf σ⟩ dX7_roundsBy_43)
      | (rw [if_neg w0, if_pos w1]
         refine G.iret rfl ⟨?_, hq.2.2⟩ dX7_roundsBy_43
         by_cases e : tn_mn c 6 % 2 = 0
         · rw [if_pos e, e]; rfl
         · rw [if_neg e, show tn_mn c 6 % 2 = 1 by omega]; rfl)
      | (rw [if_neg w0, if_neg w1, if_pos w2]; exact G.iret rfl ⟨rfl, lM_rf σ⟩ dX7_roundsBy_43)
      | (rw [if_neg w0, if_neg w1, if_neg w2]; exact G.iret rfl ⟨congrArg nI (rg_all c (tn_in_all hc)).2.2, lM_rf σ⟩ dX7_roundsBy_43)
  · have w0 := c_1
    refine G.aload_n (k := 0) rfl dX7_roundsBy_4 ?_
    refine G.callVif (c_X7_orderNow hc ht) rfl (gci_X7).1 ml_X7_214 im_yX7_orderNow se_yX7_orderNow gcl_X7_orderNow (by decide) rfl rfl (Nat.le_of_ble_eq_true rfl) dX7_roundsBy_5 ?_
    refine G.goto (tgt := 43) (by decide) dX7_roundsBy_8 ?_
    unfold sp_rd
    first
    | (rw [if_pos w0]; exact G.iret rfl ⟨rfl, lM_rf σ⟩ dX7_roundsBy_43)
    | (rw [if_neg w0, if_pos w1]
       refine G.iret rfl ⟨?_, hq.2.2⟩ dX7_roundsBy_43
       by_cases e : tn_mn c 6 % 2 = 0
       · rw [if_pos e, e]; rfl
       · rw [if_neg e, show tn_mn c 6 % 2 = 1 by omega]; rfl)
    | (rw [if_neg w0, if_neg w1, if_pos w2]; exact G.iret rfl ⟨rfl, lM_rf σ⟩ dX7_roundsBy_43)
    | (rw [if_neg w0, if_neg w1, if_neg w2]; exact G.iret rfl ⟨congrArg nI (rg_all c (tn_in_all hc)).2.2, lM_rf σ⟩ dX7_roundsBy_43)
set_option maxHeartbeats 4000000 in
set_option maxRecDepth 100000 in
theorem c_X7_toldAt {i : Int32} {L : List Nat} (hi : ¬ noPl i) (hL : LnM σ L) : GM (XM l D cA ad) mX7_toldAt [.ref 0, .int i] σ (g_ri (fun r τ => r = lnT L i ∧ τ = σ)) := by
  refine GM.of (ls := [some (.ref 0), some (.int i)]) (by decide) (Nat.le_of_ble_eq_true rfl) rfl ?_
  have hle := hL.2.1
  refine G.iload_n (k := 1) rfl dX7_toldAt_0 ?_
  refine G.iconst (v := (-1)) (by decide) dX7_toldAt_1 ?_
  refine G.icmp_ne (tgt := 12) (by decide) dX7_toldAt_2 (fun c_2 => ?_) (fun c_2 => ?_)
  · have h1 : ¬ i = -1 := c_2
    obtain ⟨j, hj, ej⟩ := (pl_j hi).resolve_left h1
    subst ej
    have xj : ix (nI j) = j := ix_nI (by omega)
    refine G.iload_n (k := 1) rfl dX7_toldAt_12 ?_
    refine G.aload_n (k := 0) rfl dX7_toldAt_13 ?_
    refine G.geti (j := 15) rfl gci_X7 (by decide) rfl fl_X7_204 dX7_toldAt_14 ?_
    rw [hL.1]
    refine G.icmp_ge (tgt := 29) (by decide) dX7_toldAt_17 (fun c_17 => ?_) (fun c_17 => ?_)
    · have h2 : ¬ inB (nI j) L.length = true := fun e => by
        have := of_decide_eq_true e
        rw [nI_toInt (by omega)] at this
        exact nI_ge (by omega) (by omega) c_17
      have hr : (-1 : Int32) = lnT L (nI j) := by rw [lnT, if_neg h1, if_neg h2]
      refine G.iconst (v := (-1)) (by decide) dX7_toldAt_29 ?_
      first | exact G.iret rfl ⟨hr, rfl⟩ dX7_toldAt_30 | exact G.iret rfl ⟨by rw [lnT, if_pos h1], rfl⟩ dX7_toldAt_30
    · have hjl : j < L.length := by
        rcases Nat.lt_or_ge j L.length with z | z
        · exact z
        · exact absurd (nI_le z (by omega)) c_17
      have h2 : inB (nI j) L.length = true := decide_eq_true (by rw [nI_toInt (by omega)]; omega)
      have hg : L[j]? = some (L.getD j 0) := by rw [List.getD_eq_getElem?_getD, List.getElem?_eq_getElem hjl]; rfl
      refine G.aload_n (k := 0) rfl dX7_toldAt_20 ?_
      refine G.getr (j := 14) rfl gci_X7 (by decide) rfl fl_X7_46 dX7_toldAt_21 ?_
      refine G.iload_n (k := 1) rfl dX7_toldAt_24 ?_
      refine G.ialdN (k := j) rfl (rfl) (hj) (by decide) dX7_toldAt_25 ?_
      rw [hL.2.2 j _ hg]
      have hr : nI (L.getD j 0) = lnT L (nI j) := by rw [lnT, if_neg h1, if_pos h2, xj]
      refine G.goto (tgt := 30) (by decide) dX7_toldAt_26 ?_
      first | exact G.iret rfl ⟨hr, rfl⟩ dX7_toldAt_30 | exact G.iret rfl ⟨by rw [lnT, if_pos h1], rfl⟩ dX7_toldAt_30
  · have h1 : i = -1 := c_2
    refine G.aload_n (k := 0) rfl dX7_toldAt_5 ?_
    refine G.geti (j := 15) rfl gci_X7 (by decide) rfl fl_X7_204 dX7_toldAt_6 ?_
    rw [hL.1]
    refine G.goto (tgt := 30) (by decide) dX7_toldAt_9 ?_
    first | exact G.iret rfl ⟨hr, rfl⟩ dX7_toldAt_30 | exact G.iret rfl ⟨by rw [lnT, if_pos h1], rfl⟩ dX7_toldAt_30
set_option maxHeartbeats 4000000 in
set_option maxRecDepth 100000 in
theorem c_X7_showsBy {c : Nat} {i : Int32} (hi : ¬ noPl i) (hc : tn_P c) (ht : σ 0 13 = nI c) : GM (XM l D cA ad) mX7_showsBy [.ref 0, .int i] σ (g_ri (fun r τ => r = lnT ((tn_by c 6).take 60) i ∧ lM σ τ)) := by
  refine GM.of (ls := [some (.ref 0), some (.int i)]) (by decide) (Nat.le_of_ble_eq_true rfl) rfl ?_
  refine G.aload_n (k := 0) rfl dX7_showsBy_0 ?_
  refine G.iconst (v := 0) (by decide) dX7_showsBy_1 ?_
  refine G.put (j := 15) rfl gci_X7 gcp_X7 (by decide) rfl rfl rfl rfl fl_X7_204 dX7_showsBy_2 ?_
  refine G.aload_n (k := 0) rfl dX7_showsBy_5 ?_
  refine G.aload_n (k := 0) rfl dX7_showsBy_6 ?_
  refine G.geti (j := 13) rfl gci_X7 (by decide) rfl fl_X7_155 dX7_showsBy_7 ?_
  rw [up2_r, if_neg (by decide), ht]
  refine G.callVi (c_X7_tellsTurn hc (LnM_0 σ)) rfl (gci_X7).1 ml_X7_211 im_yX7_tellsTurn se_yX7_tellsTurn gcl_X7_tellsTurn (by decide) rfl rfl (Nat.le_of_ble_eq_true rfl) dX7_showsBy_10 (fun r τ hq => ?_)
  refine G.popi dX7_showsBy_13 ?_
  refine G.aload_n (k := 0) rfl dX7_showsBy_14 ?_
  refine G.iload_n (k := 1) rfl dX7_showsBy_15 ?_
  refine G.callVif (c_X7_toldAt hi hq.2.1) rfl (gci_X7).1 ml_X7_226 im_yX7_toldAt se_yX7_toldAt gcl_X7_toldAt (by decide) rfl rfl (Nat.le_of_ble_eq_true rfl) dX7_showsBy_16 ?_
  exact G.iret rfl (⟨rfl, lM_tr (lM_0 σ) hq.2.2⟩) dX7_showsBy_19
set_option maxHeartbeats 4000000 in
set_option maxRecDepth 100000 in
theorem c_X7_rounds {ln B : Nat → Nat} {w : Int32} (hT : TM σ ln B) : GM (XM l D cA ad) mX7_rounds [.ref 0, .int w] σ (g_ri (fun r τ => r = sp_rounds ln B w ∧ (∀ k, k ≠ 0 → k ≠ 13 → τ k = σ k) ∧ ∀ i, i ≠ 13 → i ≠ 15 → τ 0 i = σ 0 i)) := by
  refine GM.of (ls := [some (.ref 0), some (.int w)]) (by decide) (Nat.le_of_ble_eq_true rfl) rfl ?_
  refine G.aload_n (k := 0) rfl dX7_rounds_0 ?_
  refine G.callVif (c_X7_readsTurn hT) rfl (gci_X7).1 ml_X7_171 im_yX7_readsTurn se_yX7_readsTurn gcl_X7_readsTurn (by decide) rfl rfl (Nat.le_of_ble_eq_true rfl) dX7_rounds_1 ?_
  refine G.popi dX7_rounds_4 ?_
  refine G.iload_n (k := 1) rfl dX7_rounds_5 ?_
  refine G.i2l dX7_rounds_6 ?_
  refine G.lconst (v := 0) (by decide) dX7_rounds_7 ?_
  refine G.ldc2 ct_X7_102 dX7_rounds_8 ?_
  refine G.callSif (c_X7_in (x := w) (a := 0) (b := 3) (by decide) (by decide)) ml_X7_94 ws_yX7_in gcl_X7_in (by decide) rfl rfl (Nat.le_of_ble_eq_true rfl) dX7_rounds_11 ?_
  refine G.if_eq (tgt := 25) (by decide) dX7_rounds_14 (fun c_14 => ?_) (fun c_14 => ?_)
  · have h1 := in_f 3 (by decide) c_14
    refine G.bipush (v := (-2)) (by decide) dX7_rounds_25 ?_
    exact G.iret rfl (by first | (rw [sp_rounds_in h1]; exact ⟨hq.1, fun k h0 h1 => by rw [hq.2.1 k h0 h1, up2_ne _ _ _ h0], fun i h0 h1 => by rw [hq.2.2 i h1, up2_r, if_neg (fun z => h0 z.2)]⟩) | (rw [sp_rounds_out h1]; exact ⟨rfl, fun k h0 _ => up2_ne _ _ _ h0, fun i h0 _ => by rw [up2_r, if_neg (fun z => h0 z.2)]⟩)) dX7_rounds_27
  · have h1 := in_t 3 (by decide) c_14
    refine G.aload_n (k := 0) rfl dX7_rounds_17 ?_
    refine G.iload_n (k := 1) rfl dX7_rounds_18 ?_
    refine G.callVi (c_X7_roundsBy (TM_ttP hT) (up2_at _ _ _ _)) rfl (gci_X7).1 ml_X7_223 im_yX7_roundsBy se_yX7_roundsBy gcl_X7_roundsBy (by decide) rfl rfl (Nat.le_of_ble_eq_true rfl) dX7_rounds_19 (fun r τ hq => ?_)
    refine G.goto (tgt := 27) (by decide) dX7_rounds_22 ?_
    exact G.iret rfl (by first | (rw [sp_rounds_in h1]; exact ⟨hq.1, fun k h0 h1 => by rw [hq.2.1 k h0 h1, up2_ne _ _ _ h0], fun i h0 h1 => by rw [hq.2.2 i h1, up2_r, if_neg (fun z => h0 z.2)]⟩) | (rw [sp_rounds_out h1]; exact ⟨rfl, fun k h0 _ => up2_ne _ _ _ h0, fun i h0 _ => by rw [up2_r, if_neg (fun z => h0 z.2)]⟩)) dX7_rounds_27
set_option maxHeartbeats 4000000 in
set_option maxRecDepth 100000 in
theorem c_X7_shows {ln B : Nat → Nat} {i : Int32} (hT : TM σ ln B) : GM (XM l D cA ad) mX7_shows [.ref 0, .int i] σ (g_ri (fun r τ => r = sp_shows ln B i ∧ (∀ k, k ≠ 0 → k ≠ 13 → τ k = σ k) ∧ ∀ i, i ≠ 13 → i ≠ 15 → τ 0 i = σ 0 i)) := by
  refine GM.of (ls := [some (.ref 0), some (.int i)]) (by decide) (Nat.le_of_ble_eq_true rfl) rfl ?_
  refine G.aload_n (k := 0) rfl dX7_shows_0 ?_
  refine G.callVif (c_X7_readsTurn hT) rfl (gci_X7).1 ml_X7_171 im_yX7_readsTurn se_yX7_readsTurn gcl_X7_readsTurn (by decide) rfl rfl (Nat.le_of_ble_eq_true rfl) dX7_shows_1 ?_
  refine G.popi dX7_shows_4 ?_
  refine G.iload_n (k := 1) rfl dX7_shows_5 ?_
  refine G.i2l dX7_shows_6 ?_
  refine G.ldc2 ct_X7_229 dX7_shows_7 ?_
  refine G.ldc2 ct_X7_231 dX7_shows_10 ?_
  refine G.callSif (c_X7_in (x := i) (a := -1) (b := 59) (by decide) (by decide)) ml_X7_94 ws_yX7_in gcl_X7_in (by decide) rfl rfl (Nat.le_of_ble_eq_true rfl) dX7_shows_13 ?_
  refine G.if_eq (tgt := 27) (by decide) dX7_shows_16 (fun c_16 => ?_) (fun c_16 => ?_)
  · have h1 := pl_in.mp c_16
    refine G.bipush (v := (-2)) (by decide) dX7_shows_27 ?_
    exact G.iret rfl (by unfold sp_shows; first | (rw [if_neg h1]; exact ⟨hq.1, fun k h0 h1 => by rw [hq.2.1 k h0 h1, up2_ne _ _ _ h0], fun i h0 h1 => by rw [hq.2.2 i h1, up2_r, if_neg (fun z => h0 z.2)]⟩) | (rw [if_pos h1]; exact ⟨rfl, fun k h0 _ => up2_ne _ _ _ h0, fun i h0 _ => by rw [up2_r, if_neg (fun z => h0 z.2)]⟩)) dX7_shows_29
  · have h1 : ¬ noPl i := fun e => c_16 (pl_in.mpr e)
    refine G.aload_n (k := 0) rfl dX7_shows_19 ?_
    refine G.iload_n (k := 1) rfl dX7_shows_20 ?_
    refine G.callVi (c_X7_showsBy h1 (TM_ttP hT) (up2_at _ _ _ _)) rfl (gci_X7).1 ml_X7_233 im_yX7_showsBy se_yX7_showsBy gcl_X7_showsBy (by decide) rfl rfl (Nat.le_of_ble_eq_true rfl) dX7_shows_21 (fun r τ hq => ?_)
    refine G.goto (tgt := 29) (by decide) dX7_shows_24 ?_
    exact G.iret rfl (by unfold sp_shows; first | (rw [if_neg h1]; exact ⟨hq.1, fun k h0 h1 => by rw [hq.2.1 k h0 h1, up2_ne _ _ _ h0], fun i h0 h1 => by rw [hq.2.2 i h1, up2_r, if_neg (fun z => h0 z.2)]⟩) | (rw [if_pos h1]; exact ⟨rfl, fun k h0 _ => up2_ne _ _ _ h0, fun i h0 _ => by rw [up2_r, if_neg (fun z => h0 z.2)]⟩)) dX7_shows_29
end T90

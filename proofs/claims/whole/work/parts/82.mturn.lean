/-! ===== the model reads THE TURN ===== -/
theorem up2_ov (σ : gS) (k i : Nat) (x y : Int32) : up2 (up2 σ k i x) k i y = up2 σ k i y := by
  funext k' i'
  unfold up2
  split
  · rename_i h
    rw [if_pos rfl]
    unfold upd
    split <;> rfl
  · rfl
theorem nmM_9 {b : Nat} (hb : b < 256) : ¬ nmM b = -9 ↔ kd b = 1 := by
  unfold nmM
  by_cases e : kd b = 1
  · rw [if_pos e]
    refine ⟨fun _ => e, fun _ z => ?_⟩
    have := nI_pos (show b - 97 < 2 ^ 31 by omega)
    exact this (by rw [z]; decide)
  · rw [if_neg e]; exact ⟨fun z => absurd rfl z, fun z => absurd z e⟩
theorem n97 {b : Nat} (h : kd b = 1) : nI b - 97 = nI (b - 97) := nu_sub (b := 97) (kd1_ge h).1
theorem l97 {b : Nat} (h : kd b = 1) : b - 97 < 6 := by have := kd1_ge h; omega
section T82
variable {l : Launch} {D : va_G} {cA : ClassId} {ad : Nat → Nat}
variable {σ : gS}
set_option maxHeartbeats 4000000 in
set_option maxRecDepth 100000 in
theorem l2_X7_readsTurn {B : Nat → Nat} {n : Nat} (hn : n ≤ 24) (hB : ∀ i, i < n → B (270 + i) < 256 ∧ σ 5 (270 + i) = nI (B (270 + i))) (h1 : fl2 B 270 n 1 n 0 = -1) (hk : ∀ q, q < n → kd (B (270 + q)) = 1) (h2 : n % 2 = 0) : ∀ j k, 2 * (k + j) = n → G (XM l D cA ad) mX7_readsTurn (g_ri (fun r τ => r = fl2 B 270 n 1 n 0 ∧ τ = up2 σ 0 13 (nI (tnT B (m2 B 270 n 1 / 2))))) 58 [some (.ref 0), some (.int (nI n)), some (.int (nI (2 * k)))] [] (up2 σ 0 13 (nI (tnT B k))) := by
  have hm : m2 B 270 n 1 = n := if_pos h1
  intro j
  induction j with
  | zero =>
    intro k hj
    have hk2 : 2 * k = n := by omega
    rw [hk2]
    have hk3 : k = n / 2 := by omega
    refine G.iload_n (k := 2) rfl dX7_readsTurn_58 ?_
    refine G.iload_n (k := 1) rfl dX7_readsTurn_59 ?_
    refine G.icmp_ge (tgt := 109) (by decide) dX7_readsTurn_60 (fun c_60 => ?_) (fun c_60 => absurd (Int32.le_refl _) c_60)
    refine G.iconst (v := (-1)) (by decide) dX7_readsTurn_109 ?_
    exact G.iret rfl (by rw [h1, hm, hk3]; exact ⟨rfl, rfl⟩) dX7_readsTurn_110
  | succ j ih =>
    intro k hj
    have b0 := hB (2 * k) (by omega)
    have b1 := hB (2 * k + 1) (by omega)
    have k0 := hk (2 * k) (by omega)
    have k1 := hk (2 * k + 1) (by omega)
    have hP : tn_P (tnT B k) := tnT_P k (fun q hq => hk q (by omega))
    refine G.iload_n (k := 2) rfl dX7_readsTurn_58 ?_
    refine G.iload_n (k := 1) rfl dX7_readsTurn_59 ?_
    refine G.icmp_ge (tgt := 109) (by decide) dX7_readsTurn_60 (fun c_60 => absurd c_60 (nI_ge (by omega) (by omega))) (fun c_60 => ?_)
    refine G.aload_n (k := 0) rfl dX7_readsTurn_63 ?_
    refine G.aload_n (k := 0) rfl dX7_readsTurn_64 ?_
    refine G.geti (j := 13) rfl gci_X7 (by decide) rfl fl_X7_155 dX7_readsTurn_65 ?_
    rw [up2_at]
    refine G.aload_n (k := 0) rfl dX7_readsTurn_68 ?_
    refine G.getr (j := 5) rfl gci_X7 (by decide) rfl fl_X7_22 dX7_readsTurn_69 ?_
    refine G.sipush (v := 270) (by decide) dX7_readsTurn_72 ?_
    refine G.iload_n (k := 2) rfl dX7_readsTurn_75 ?_
    refine G.iadd dX7_readsTurn_76 ?_
    rw [show (270 : Int32) + nI (2 * k) = nI (270 + 2 * k) from nI_add 270 _]
    refine G.ialdN (k := 270 + 2 * k) rfl (rfl) (by omega) (by decide) dX7_readsTurn_77 ?_
    rw [up2_ne _ _ _ (show (5 : Nat) ≠ 0 by decide), b0.2]
    refine G.bipush (v := 97) (by decide) dX7_readsTurn_78 ?_
    refine G.isub dX7_readsTurn_80 ?_
    rw [n97 k0]
    refine G.aload_n (k := 0) rfl dX7_readsTurn_81 ?_
    refine G.getr (j := 5) rfl gci_X7 (by decide) rfl fl_X7_22 dX7_readsTurn_82 ?_
    refine G.sipush (v := 271) (by decide) dX7_readsTurn_85 ?_
    refine G.iload_n (k := 2) rfl dX7_readsTurn_88 ?_
    refine G.iadd dX7_readsTurn_89 ?_
    rw [show (271 : Int32) + nI (2 * k) = nI (270 + (2 * k + 1)) by rw [show (271 : Int32) = nI 271 from rfl, nI_add]; exact congrArg nI (by omega)]
    refine G.ialdN (k := 270 + (2 * k + 1)) rfl (rfl) (by omega) (by decide) dX7_readsTurn_90 ?_
    rw [up2_ne _ _ _ (show (5 : Nat) ≠ 0 by decide), b1.2]
    refine G.bipush (v := 97) (by decide) dX7_readsTurn_91 ?_
    refine G.isub dX7_readsTurn_93 ?_
    rw [n97 k1]
    refine G.callSif (c_X7_swap (l97 k0) (l97 k1)) ml_X7_158 ws_yX7_swap gcl_X7_swap (by decide) rfl rfl (Nat.le_of_ble_eq_true rfl) dX7_readsTurn_94 ?_
    refine G.callSif (c_X7_behind hP (tn_P_sw (l97 k0) (l97 k1))) ml_X7_161 ws_yX7_behind gcl_X7_behind (by decide) rfl rfl (Nat.le_of_ble_eq_true rfl) dX7_readsTurn_97 ?_
    refine G.put (j := 13) rfl gci_X7 gcp_X7 (by decide) rfl rfl rfl rfl fl_X7_155 dX7_readsTurn_100 ?_
    rw [up2_ov]
    refine G.inc2 (d := 2) (by decide) (by decide) rfl dX7_readsTurn_103 ?_
    refine G.goto (tgt := 58) (by decide) dX7_readsTurn_106 ?_
    rw [show nI (2 * k) + 2 = nI (2 * (k + 1)) by rw [show (2 : Int32) = nI 2 from rfl, nI_add]; exact congrArg nI (by omega)]
    exact ih (k + 1) (by omega)
set_option maxHeartbeats 4000000 in
set_option maxRecDepth 100000 in
theorem l1_X7_readsTurn {B : Nat → Nat} {n : Nat} (hn : n ≤ 24) (hB : ∀ i, i < n → B (270 + i) < 256 ∧ σ 5 (270 + i) = nI (B (270 + i))) : ∀ j i, i + j = n → fl2 B 270 n 1 n 0 = fl2 B 270 n 1 j i → (∀ q, q < i → kd (B (270 + q)) = 1) → G (XM l D cA ad) mX7_readsTurn (g_ri (fun r τ => r = fl2 B 270 n 1 n 0 ∧ τ = up2 σ 0 13 (nI (tnT B (m2 B 270 n 1 / 2))))) 16 [some (.ref 0), some (.int (nI n)), some (.int (nI i))] [] (up2 σ 0 13 (nI tn_id)) := by
  intro j
  induction j with
  | zero =>
    intro i hi hf hq
    have hi2 : i = n := by omega
    subst hi2
    rw [fl2] at hf
    refine G.iload_n (k := 2) rfl dX7_readsTurn_16 ?_
    refine G.iload_n (k := 1) rfl dX7_readsTurn_17 ?_
    refine G.icmp_ge (tgt := 47) (by decide) dX7_readsTurn_18 (fun c_18 => ?_) (fun c_18 => absurd (Int32.le_refl _) c_18)
    refine G.iload_n (k := 1) rfl dX7_readsTurn_47 ?_
    refine G.iconst (v := 2) (by decide) dX7_readsTurn_48 ?_
    refine G.irem (by decide) dX7_readsTurn_49 ?_
    rw [nu_rem2 (show i < 2 ^ 31 by omega)]
    refine G.iconst (v := 1) (by decide) dX7_readsTurn_50 ?_
    refine G.icmp_ne (tgt := 56) (by decide) dX7_readsTurn_51 (fun c_51 => ?_) (fun c_51 => ?_)
    · have h2 : i % 2 = 0 := by
        by_cases z : i % 2 = 0
        · exact z
        · exact absurd (show nI (i % 2) = 1 by rw [show i % 2 = 1 by omega]; rfl) c_51
      rw [if_pos h2] at hf
      refine G.iconst (v := 0) (by decide) dX7_readsTurn_56 ?_
      refine G.ist2 (by decide) rfl dX7_readsTurn_57 ?_
      exact l2_X7_readsTurn hn hB hf hq h2 (i / 2) 0 (by omega)
    · have h2 : ¬ i % 2 = 0 := fun e => by rw [e] at c_51; exact absurd c_51 (by decide)
      rw [if_neg h2] at hf
      have hm : m2 B 270 i 1 = 0 := if_neg (fun e => ne_m1 (show i < 2 ^ 31 by omega) (hf.symm.trans e))
      refine G.iload_n (k := 1) rfl dX7_readsTurn_54 ?_
      exact G.iret rfl (by rw [hm]; exact ⟨hf.symm, rfl⟩) dX7_readsTurn_55
  | succ j ih =>
    intro i hi hf hq
    have b0 := hB i (by omega)
    rw [fl2, show (if i % 2 = 0 then 1 else 1) = 1 by split <;> rfl] at hf
    refine G.iload_n (k := 2) rfl dX7_readsTurn_16 ?_
    refine G.iload_n (k := 1) rfl dX7_readsTurn_17 ?_
    refine G.icmp_ge (tgt := 47) (by decide) dX7_readsTurn_18 (fun c_18 => absurd c_18 (nI_ge (by omega) (by omega))) (fun c_18 => ?_)
    refine G.aload_n (k := 0) rfl dX7_readsTurn_21 ?_
    refine G.getr (j := 5) rfl gci_X7 (by decide) rfl fl_X7_22 dX7_readsTurn_22 ?_
    refine G.sipush (v := 270) (by decide) dX7_readsTurn_25 ?_
    refine G.iload_n (k := 2) rfl dX7_readsTurn_28 ?_
    refine G.iadd dX7_readsTurn_29 ?_
    rw [show (270 : Int32) + nI i = nI (270 + i) from nI_add 270 _]
    refine G.ialdN (k := 270 + i) rfl (rfl) (by omega) (by decide) dX7_readsTurn_30 ?_
    rw [up2_ne _ _ _ (show (5 : Nat) ≠ 0 by decide), b0.2]
    refine G.callSif (c_X7_nameOf b0.1) ml_X7_137 ws_yX7_nameOf gcl_X7_nameOf (by decide) rfl rfl (Nat.le_of_ble_eq_true rfl) dX7_readsTurn_31 ?_
    refine G.bipush (v := (-9)) (by decide) dX7_readsTurn_34 ?_
    refine G.icmp_ne (tgt := 41) (by decide) dX7_readsTurn_36 (fun c_36 => ?_) (fun c_36 => ?_)
    · have hk := (nmM_9 b0.1).mp c_36
      rw [if_pos hk] at hf
      refine G.inc2 (d := 1) (by decide) (by decide) rfl dX7_readsTurn_41 ?_
      refine G.goto (tgt := 16) (by decide) dX7_readsTurn_44 ?_
      rw [nI_1]
      exact ih (i + 1) (by omega) hf (fun q hq2 => if e : q = i then (by rw [e]; exact hk) else hq q (by omega))
    · have hk : ¬ kd (B (270 + i)) = 1 := fun e => (nmM_9 b0.1).mpr e c_36
      rw [if_neg hk] at hf
      have hm : m2 B 270 n 1 = 0 := if_neg (fun e => ne_m1 (show i < 2 ^ 31 by omega) (hf.symm.trans e))
      refine G.iload_n (k := 2) rfl dX7_readsTurn_39 ?_
      exact G.iret rfl (by rw [hm]; exact ⟨hf.symm, rfl⟩) dX7_readsTurn_40
set_option maxHeartbeats 4000000 in
set_option maxRecDepth 100000 in
theorem c_X7_readsTurn {ln B : Nat → Nat} (hT : TM σ ln B) : GM (XM l D cA ad) mX7_readsTurn [.ref 0] σ (g_ri (fun r τ => r = flA ln B 9 ∧ τ = up2 σ 0 13 (nI (ttA ln B)))) := by
  refine GM.of (ls := [some (.ref 0), none, none]) (by decide) (Nat.le_of_ble_eq_true rfl) rfl ?_
  refine G.aload_n (k := 0) rfl dX7_readsTurn_0 ?_
  refine G.getr (j := 6) rfl gci_X7 (by decide) rfl fl_X7_25 dX7_readsTurn_1 ?_
  refine G.bipush (v := 9) (by decide) dX7_readsTurn_4 ?_
  refine G.ialdN (k := 9) rfl (rfl) (by decide) (by decide) dX7_readsTurn_6 ?_
  rw [(hT 9 (by decide)).1]
  refine G.ist1 (by decide) rfl dX7_readsTurn_7 ?_
  refine G.aload_n (k := 0) rfl dX7_readsTurn_8 ?_
  refine G.ldc ct_X7_154 dX7_readsTurn_9 ?_
  refine G.put (j := 13) rfl gci_X7 gcp_X7 (by decide) rfl rfl rfl rfl fl_X7_155 dX7_readsTurn_11 ?_
  refine G.iconst (v := 0) (by decide) dX7_readsTurn_14 ?_
  refine G.ist2 (by decide) rfl dX7_readsTurn_15 ?_
  exact l1_X7_readsTurn (n := ln 9) (hT 9 (by decide)).2.1 (hT 9 (by decide)).2.2 (ln 9) 0 (by omega) rfl (fun q hq => absurd hq (Nat.not_lt_zero _))
end T82

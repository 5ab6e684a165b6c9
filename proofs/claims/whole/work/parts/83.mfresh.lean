/-! ===== the model reads what is told fresh ===== -/
theorem kd2_in : ∀ b, b < 256 → ((80 ≤ nI b ∧ nI b ≤ 85) ↔ kd b = 2) := by decide +kernel
theorem n80 {b : Nat} (h : kd b = 2) : nI b - 80 = nI (b - 80) := nu_sub (b := 80) (kd2_ge h).1
theorem l80 {b : Nat} (h : kd b = 2) : b - 80 < 6 := by have := kd2_ge h; omega
def gvI (σ0 σ : gS) (f : Nat → Nat) : Prop := (∀ k, k ≠ 12 → σ k = σ0 k) ∧ ∀ u, u < 6 → σ 12 u = nI (f u)
theorem tld_0 {B : Nat → Nat} (u : Nat) : tld B 0 u = 0 := rfl
theorem gvI_s {σ0 σ : gS} {B : Nat → Nat} {k : Nat} (h2 : kd (B (240 + (2 * k + 1))) = 2) (h : gvI σ0 σ (tld B k)) : gvI σ0 (up2 σ 12 (B (240 + (2 * k + 1)) - 80) (nI (tld B k (B (240 + (2 * k + 1)) - 80) ||| 2 ^ (B (240 + 2 * k) - 97)))) (tld B (k + 1)) := by
  refine ⟨fun k hk => by rw [up2_ne _ _ _ hk]; exact h.1 k hk, fun u hu => ?_⟩
  rw [up2_same]
  show (if u = B (240 + (2 * k + 1)) - 80 then _ else σ 12 u) = _
  have hg := kd2_ge h2
  rw [tld, show 240 + 2 * k + 1 = 240 + (2 * k + 1) by omega]
  by_cases e : u = B (240 + (2 * k + 1)) - 80
  · rw [if_pos e, if_pos (by omega), ← e]
  · rw [if_neg e, if_neg (by omega)]; exact h.2 u hu
section T83
variable {l : Launch} {D : va_G} {cA : ClassId} {ad : Nat → Nat}
variable {σ σ0 : gS}
set_option maxHeartbeats 4000000 in
set_option maxRecDepth 100000 in
theorem l2_X7_readsFresh {B : Nat → Nat} {n : Nat} (hn : n ≤ 24) (hB : ∀ i, i < n → B (240 + i) < 256 ∧ σ0 5 (240 + i) = nI (B (240 + i))) (h1 : fl2 B 240 n 2 n 0 = -1) (hk : ∀ q, q < n → kd (B (240 + q)) = (if q % 2 = 0 then 1 else 2)) (h2 : n % 2 = 0) : ∀ j k (σ : gS) (y3 : Option Value), 2 * (k + j) = n → gvI σ0 σ (tld B k) → G (XM l D cA ad) mX7_readsFresh (g_ri (fun r τ => r = fl2 B 240 n 2 n 0 ∧ gvI σ0 τ (fun u => tld B (m2 B 240 n 2 / 2) u))) 98 [some (.ref 0), some (.int (nI n)), some (.int (nI (2 * k))), y3] [] σ := by
  have hm : m2 B 240 n 2 = n := if_pos h1
  intro j
  induction j with
  | zero =>
    intro k σ y3 hj hI
    have hk2 : 2 * k = n := by omega
    rw [hk2]
    have hk3 : n / 2 = k := by omega
    refine G.iload_n (k := 2) rfl dX7_readsFresh_98 ?_
    refine G.iload_n (k := 1) rfl dX7_readsFresh_99 ?_
    refine G.icmp_ge (tgt := 145) (by decide) dX7_readsFresh_100 (fun c_100 => ?_) (fun c_100 => absurd (Int32.le_refl _) c_100)
    refine G.iconst (v := (-1)) (by decide) dX7_readsFresh_145 ?_
    exact G.iret rfl (by rw [h1, hm, hk3]; exact ⟨rfl, hI⟩) dX7_readsFresh_146
  | succ j ih =>
    intro k σ y3 hj hI
    have b0 := hB (2 * k) (by omega)
    have b1 := hB (2 * k + 1) (by omega)
    have k0 := hk (2 * k) (by omega)
    have k1 := hk (2 * k + 1) (by omega)
    rw [if_pos (by omega)] at k0
    rw [if_neg (by omega)] at k1
    refine G.iload_n (k := 2) rfl dX7_readsFresh_98 ?_
    refine G.iload_n (k := 1) rfl dX7_readsFresh_99 ?_
    refine G.icmp_ge (tgt := 145) (by decide) dX7_readsFresh_100 (fun c_100 => absurd c_100 (nI_ge (by omega) (by omega))) (fun c_100 => ?_)
    refine G.aload_n (k := 0) rfl dX7_readsFresh_103 ?_
    refine G.getr (j := 12) rfl gci_X7 (by decide) rfl fl_X7_43 dX7_readsFresh_104 ?_
    refine G.aload_n (k := 0) rfl dX7_readsFresh_107 ?_
    refine G.getr (j := 5) rfl gci_X7 (by decide) rfl fl_X7_22 dX7_readsFresh_108 ?_
    refine G.sipush (v := 241) (by decide) dX7_readsFresh_111 ?_
    refine G.iload_n (k := 2) rfl dX7_readsFresh_114 ?_
    refine G.iadd dX7_readsFresh_115 ?_
    rw [show (241 : Int32) + nI (2 * k) = nI (240 + (2 * k + 1)) by rw [show (241 : Int32) = nI 241 from rfl, nI_add]; exact congrArg nI (by omega)]
    refine G.ialdN (k := 240 + (2 * k + 1)) rfl (rfl) (by omega) (by decide) dX7_readsFresh_116 ?_
    rw [hI.1 5 (by decide), b1.2]
    refine G.bipush (v := 80) (by decide) dX7_readsFresh_117 ?_
    refine G.isub dX7_readsFresh_119 ?_
    rw [n80 k1]
    refine G.dup2 dX7_readsFresh_120 ?_
    refine G.ialdN (k := B (240 + (2 * k + 1)) - 80) rfl (rfl) (l80 k1) (by decide) dX7_readsFresh_121 ?_
    rw [hI.2 _ (l80 k1)]
    refine G.iconst (v := 1) (by decide) dX7_readsFresh_122 ?_
    refine G.aload_n (k := 0) rfl dX7_readsFresh_123 ?_
    refine G.getr (j := 5) rfl gci_X7 (by decide) rfl fl_X7_22 dX7_readsFresh_124 ?_
    refine G.sipush (v := 240) (by decide) dX7_readsFresh_127 ?_
    refine G.iload_n (k := 2) rfl dX7_readsFresh_130 ?_
    refine G.iadd dX7_readsFresh_131 ?_
    rw [show (240 : Int32) + nI (2 * k) = nI (240 + 2 * k) from nI_add 240 _]
    refine G.ialdN (k := 240 + 2 * k) rfl (rfl) (by omega) (by decide) dX7_readsFresh_132 ?_
    rw [hI.1 5 (by decide), b0.2]
    refine G.bipush (v := 97) (by decide) dX7_readsFresh_133 ?_
    refine G.isub dX7_readsFresh_135 ?_
    rw [n97 k0]
    refine G.ishl dX7_readsFresh_136 ?_
    rw [(sh1_u _ (l97 k0)).1]
    refine G.ior dX7_readsFresh_137 ?_
    rw [nu_or]
    refine G.iastN (k := B (240 + (2 * k + 1)) - 80) rfl (rfl) (l80 k1) (by decide) dX7_readsFresh_138 ?_
    refine G.inc2 (d := 2) (by decide) (by decide) rfl dX7_readsFresh_139 ?_
    refine G.goto (tgt := 98) (by decide) dX7_readsFresh_142 ?_
    rw [show nI (2 * k) + 2 = nI (2 * (k + 1)) by rw [show (2 : Int32) = nI 2 from rfl, nI_add]; exact congrArg nI (by omega)]
    exact ih (k + 1) _ _ (by omega) (gvI_s k1 hI)
set_option maxHeartbeats 4000000 in
set_option maxRecDepth 100000 in
theorem l1_X7_readsFresh {B : Nat → Nat} {n : Nat} (hn : n ≤ 24) (hB : ∀ i, i < n → B (240 + i) < 256 ∧ σ0 5 (240 + i) = nI (B (240 + i))) (hI : gvI σ0 σ (tld B 0)) : ∀ j i (y3 : Option Value), i + j = n → fl2 B 240 n 2 n 0 = fl2 B 240 n 2 j i → (∀ q, q < i → kd (B (240 + q)) = (if q % 2 = 0 then 1 else 2)) → G (XM l D cA ad) mX7_readsFresh (g_ri (fun r τ => r = fl2 B 240 n 2 n 0 ∧ gvI σ0 τ (fun u => tld B (m2 B 240 n 2 / 2) u))) 31 [some (.ref 0), some (.int (nI n)), some (.int (nI i)), y3] [] σ := by
  intro j
  induction j with
  | zero =>
    intro i y3 hi hf hq
    have hi2 : i = n := by omega
    subst hi2
    rw [fl2] at hf
    refine G.iload_n (k := 2) rfl dX7_readsFresh_31 ?_
    refine G.iload_n (k := 1) rfl dX7_readsFresh_32 ?_
    refine G.icmp_ge (tgt := 87) (by decide) dX7_readsFresh_33 (fun c_33 => ?_) (fun c_33 => absurd (Int32.le_refl _) c_33)
    refine G.iload_n (k := 1) rfl dX7_readsFresh_87 ?_
    refine G.iconst (v := 2) (by decide) dX7_readsFresh_88 ?_
    refine G.irem (by decide) dX7_readsFresh_89 ?_
    rw [nu_rem2 (show i < 2 ^ 31 by omega)]
    refine G.iconst (v := 1) (by decide) dX7_readsFresh_90 ?_
    refine G.icmp_ne (tgt := 96) (by decide) dX7_readsFresh_91 (fun c_91 => ?_) (fun c_91 => ?_)
    · have h2 : i % 2 = 0 := by
        by_cases z : i % 2 = 0
        · exact z
        · exact absurd (show nI (i % 2) = 1 by rw [show i % 2 = 1 by omega]; rfl) c_91
      rw [if_pos h2] at hf
      refine G.iconst (v := 0) (by decide) dX7_readsFresh_96 ?_
      refine G.ist2 (by decide) rfl dX7_readsFresh_97 ?_
      exact l2_X7_readsFresh hn hB hf hq h2 (i / 2) 0 σ _ (by omega) hI
    · have h2 : ¬ i % 2 = 0 := fun e => by rw [e] at c_91; exact absurd c_91 (by decide)
      rw [if_neg h2] at hf
      have hm : m2 B 240 i 2 = 0 := if_neg (fun e => ne_m1 (show i < 2 ^ 31 by omega) (hf.symm.trans e))
      refine G.iload_n (k := 1) rfl dX7_readsFresh_94 ?_
      exact G.iret rfl (by rw [hm]; exact ⟨hf.symm, hI⟩) dX7_readsFresh_95
  | succ j ih =>
    intro i y3 hi hf hq
    have b0 := hB i (by omega)
    rw [fl2] at hf
    refine G.iload_n (k := 2) rfl dX7_readsFresh_31 ?_
    refine G.iload_n (k := 1) rfl dX7_readsFresh_32 ?_
    refine G.icmp_ge (tgt := 87) (by decide) dX7_readsFresh_33 (fun c_33 => absurd c_33 (nI_ge (by omega) (by omega))) (fun c_33 => ?_)
    refine G.aload_n (k := 0) rfl dX7_readsFresh_36 ?_
    refine G.getr (j := 5) rfl gci_X7 (by decide) rfl fl_X7_22 dX7_readsFresh_37 ?_
    refine G.sipush (v := 240) (by decide) dX7_readsFresh_40 ?_
    refine G.iload_n (k := 2) rfl dX7_readsFresh_43 ?_
    refine G.iadd dX7_readsFresh_44 ?_
    rw [show (240 : Int32) + nI i = nI (240 + i) from nI_add 240 _]
    refine G.ialdN (k := 240 + i) rfl (rfl) (by omega) (by decide) dX7_readsFresh_45 ?_
    rw [hI.1 5 (by decide), b0.2]
    refine G.ist3 (by decide) rfl dX7_readsFresh_46 ?_
    refine G.iload_n (k := 2) rfl dX7_readsFresh_47 ?_
    refine G.iconst (v := 2) (by decide) dX7_readsFresh_48 ?_
    refine G.irem (by decide) dX7_readsFresh_49 ?_
    rw [nu_rem2 (show i < 2 ^ 31 by omega)]
    refine G.if_ne (tgt := 65) (by decide) dX7_readsFresh_50 (fun c_50 => ?_) (fun c_50 => ?_)
    · have h2 : ¬ i % 2 = 0 := fun e => c_50 (by rw [e]; rfl)
      rw [if_neg h2] at hf
      refine G.iload_n (k := 3) rfl dX7_readsFresh_65 ?_
      refine G.i2l dX7_readsFresh_66 ?_
      refine G.ldc2 ct_X7_140 dX7_readsFresh_67 ?_
      refine G.ldc2 ct_X7_142 dX7_readsFresh_70 ?_
      refine G.callSif (c_X7_in (x := nI (B (240 + i))) (a := 80) (b := 85) (by decide) (by decide)) ml_X7_94 ws_yX7_in gcl_X7_in (by decide) rfl rfl (Nat.le_of_ble_eq_true rfl) dX7_readsFresh_73 ?_
      refine G.if_ne (tgt := 81) (by decide) dX7_readsFresh_76 (fun c_76 => ?_) (fun c_76 => ?_)
      · have hk := (kd2_in _ b0.1).mp (bo_n.mp c_76)
        rw [if_pos hk] at hf
        refine G.inc2 (d := 1) (by decide) (by decide) rfl dX7_readsFresh_81 ?_
        refine G.goto (tgt := 31) (by decide) dX7_readsFresh_84 ?_
        rw [nI_1]
        exact ih (i + 1) _ (by omega) hf (fun q hq2 => if e : q = i then (by subst e; first | rw [if_pos h2]; exact hk | rw [if_neg h2]; exact hk) else hq q (by omega))
      · have hk : ¬ kd (B (240 + i)) = 2 := fun e => bo_0.mp c_76 ((kd2_in _ b0.1).mpr e)
        rw [if_neg hk] at hf
        have hm : m2 B 240 n 2 = 0 := if_neg (fun e => ne_m1 (show i < 2 ^ 31 by omega) (hf.symm.trans e))
        refine G.iload_n (k := 2) rfl dX7_readsFresh_79 ?_
        exact G.iret rfl (by rw [hm]; exact ⟨hf.symm, hI⟩) dX7_readsFresh_80
    · have h2 : i % 2 = 0 := (nI_eq (show i % 2 < 2 ^ 31 by omega) (show 0 < 2 ^ 31 by decide)).mp c_50
      rw [if_pos h2] at hf
      refine G.iload_n (k := 3) rfl dX7_readsFresh_53 ?_
      refine G.callSif (c_X7_nameOf b0.1) ml_X7_137 ws_yX7_nameOf gcl_X7_nameOf (by decide) rfl rfl (Nat.le_of_ble_eq_true rfl) dX7_readsFresh_54 ?_
      refine G.bipush (v := (-9)) (by decide) dX7_readsFresh_57 ?_
      refine G.icmp_ne (tgt := 81) (by decide) dX7_readsFresh_59 (fun c_59 => ?_) (fun c_59 => ?_)
      · have hk := (nmM_9 b0.1).mp c_59
        rw [if_pos hk] at hf
        refine G.inc2 (d := 1) (by decide) (by decide) rfl dX7_readsFresh_81 ?_
        refine G.goto (tgt := 31) (by decide) dX7_readsFresh_84 ?_
        rw [nI_1]
        exact ih (i + 1) _ (by omega) hf (fun q hq2 => if e : q = i then (by subst e; first | rw [if_pos h2]; exact hk | rw [if_neg h2]; exact hk) else hq q (by omega))
      · have hk : ¬ kd (B (240 + i)) = 1 := fun e => (nmM_9 b0.1).mpr e c_59
        rw [if_neg hk] at hf
        have hm : m2 B 240 n 2 = 0 := if_neg (fun e => ne_m1 (show i < 2 ^ 31 by omega) (hf.symm.trans e))
        refine G.goto (tgt := 79) (by decide) dX7_readsFresh_62 ?_
        refine G.iload_n (k := 2) rfl dX7_readsFresh_79 ?_
        exact G.iret rfl (by rw [hm]; exact ⟨hf.symm, hI⟩) dX7_readsFresh_80
set_option maxHeartbeats 4000000 in
set_option maxRecDepth 100000 in
theorem l0_X7_readsFresh {B : Nat → Nat} {n : Nat} (hn : n ≤ 24) (hB : ∀ i, i < n → B (240 + i) < 256 ∧ σ0 5 (240 + i) = nI (B (240 + i))) : ∀ j i (σ : gS), i + j = 6 → ((∀ k, k ≠ 12 → σ k = σ0 k) ∧ ∀ u, u < i → σ 12 u = 0) → G (XM l D cA ad) mX7_readsFresh (g_ri (fun r τ => r = fl2 B 240 n 2 n 0 ∧ gvI σ0 τ (fun u => tld B (m2 B 240 n 2 / 2) u))) 10 [some (.ref 0), some (.int (nI n)), some (.int (nI i)), none] [] σ := by
  intro j
  induction j with
  | zero =>
    intro i σ hi hI
    have hi2 : i = 6 := by omega
    subst hi2
    refine G.iload_n (k := 2) rfl dX7_readsFresh_10 ?_
    refine G.bipush (v := 6) (by decide) dX7_readsFresh_11 ?_
    refine G.icmp_ge (tgt := 29) (by decide) dX7_readsFresh_13 (fun c_13 => ?_) (fun c_13 => absurd (by decide) c_13)
    refine G.iconst (v := 0) (by decide) dX7_readsFresh_29 ?_
    refine G.ist2 (by decide) rfl dX7_readsFresh_30 ?_
    exact l1_X7_readsFresh hn hB ⟨hI.1, fun u hu => hI.2 u hu⟩ n 0 none (by omega) rfl (fun q hq => absurd hq (Nat.not_lt_zero _))
  | succ j ih =>
    intro i σ hi hI
    refine G.iload_n (k := 2) rfl dX7_readsFresh_10 ?_
    refine G.bipush (v := 6) (by decide) dX7_readsFresh_11 ?_
    refine G.icmp_ge (tgt := 29) (by decide) dX7_readsFresh_13 (fun c_13 => absurd c_13 (nI_ge (b := 6) (by omega) (by decide))) (fun c_13 => ?_)
    refine G.aload_n (k := 0) rfl dX7_readsFresh_16 ?_
    refine G.getr (j := 12) rfl gci_X7 (by decide) rfl fl_X7_43 dX7_readsFresh_17 ?_
    refine G.iload_n (k := 2) rfl dX7_readsFresh_20 ?_
    refine G.iconst (v := 0) (by decide) dX7_readsFresh_21 ?_
    refine G.iastN (k := i) rfl (rfl) (by omega) (by decide) dX7_readsFresh_22 ?_
    refine G.inc2 (d := 1) (by decide) (by decide) rfl dX7_readsFresh_23 ?_
    refine G.goto (tgt := 10) (by decide) dX7_readsFresh_26 ?_
    rw [nI_1]
    refine ih (i + 1) _ (by omega) ⟨fun k hk => by rw [up2_ne _ _ _ hk]; exact hI.1 k hk, fun u hu => ?_⟩
    rw [up2_same]
    show (if u = i then 0 else σ 12 u) = 0
    by_cases e : u = i
    · rw [if_pos e]
    · rw [if_neg e]; exact hI.2 u (by omega)
set_option maxHeartbeats 4000000 in
set_option maxRecDepth 100000 in
theorem c_X7_readsFresh {ln B : Nat → Nat} (hT : TM σ ln B) : GM (XM l D cA ad) mX7_readsFresh [.ref 0] σ (g_ri (fun r τ => r = flA ln B 8 ∧ gvI σ τ (tdA ln B))) := by
  refine GM.of (ls := [some (.ref 0), none, none, none]) (by decide) (Nat.le_of_ble_eq_true rfl) rfl ?_
  refine G.aload_n (k := 0) rfl dX7_readsFresh_0 ?_
  refine G.getr (j := 6) rfl gci_X7 (by decide) rfl fl_X7_25 dX7_readsFresh_1 ?_
  refine G.bipush (v := 8) (by decide) dX7_readsFresh_4 ?_
  refine G.ialdN (k := 8) rfl (rfl) (by decide) (by decide) dX7_readsFresh_6 ?_
  rw [(hT 8 (by decide)).1]
  refine G.ist1 (by decide) rfl dX7_readsFresh_7 ?_
  refine G.iconst (v := 0) (by decide) dX7_readsFresh_8 ?_
  refine G.ist2 (by decide) rfl dX7_readsFresh_9 ?_
  exact l0_X7_readsFresh (n := ln 8) (hT 8 (by decide)).2.1 (hT 8 (by decide)).2.2 6 0 σ (by decide) ⟨fun _ _ => rfl, fun u hu => absurd hu (Nat.not_lt_zero _)⟩
end T83

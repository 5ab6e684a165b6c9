/-! ===== measures of terms ===== -/
def mdel (x n : Nat) : Nat := x &&& (63 ^^^ 2 ^ n)
theorem mdel_j : ∀ x, x < 64 → ∀ n, n < 6 → nI x &&& ((1 : Int32) <<< (nI n &&& 31) ^^^ (-1)) = nI (mdel x n) := by decide +kernel
theorem mdel_lt : ∀ x, x < 64 → ∀ n, n < 6 → mdel x n < 64 := by decide +kernel
theorem mdel_bit : ∀ x, x < 64 → ∀ n, n < 6 → ∀ q, q < 6 → (mdel x n).testBit q = (x.testBit q && !(decide (q = n))) := by decide +kernel
def tsz (B : Nat → Nat) (g : Nat) : Nat := tfo B (fun _ => 1) (fun _ x => x + 1) (fun _ x y => x + 1 + y) (fun _ x => x + 1) (fun _ x => x) 30 g
def tdp (B : Nat → Nat) (g : Nat) : Nat := tfo B (fun _ => 1) (fun _ x => x + 1) (fun _ x y => max (x + 1) (y + 1)) (fun _ x => x + 1) (fun _ x => x) 30 g
def tlo (B : Nat → Nat) (g : Nat) : Nat := tfo B (fun g => if kd (B g) = 1 then 2 ^ (B g - 97) else 0) (fun _ x => x) (fun _ x y => x ||| y) (fun g x => mdel x (B (g + 1) - 97)) (fun g x => tn_ss (tn_sw (B (g + 1) - 97) (B (g + 2) - 97)) x) 30 g
def tuk (B : Nat → Nat) (g : Nat) : Nat := tfo B (fun g => if kd (B g) = 2 then 2 ^ (B g - 80) else 0) (fun _ x => x) (fun _ x y => x ||| y) (fun _ x => x) (fun _ x => x) 30 g
theorem me_b {B ln : Nat → Nat} : ∀ g, nd B ln g → tlo B g < 64 ∧ tuk B g < 64 ∧ tdp B g + g ≤ tE B g ∧ tsz B g + g ≤ tE B g := by
  refine nd_ind (fun g h ih => ?_)
  have hk := nd_kd h
  have hE := nd_E h
  have hc : (kd (B g) = 1 ∨ kd (B g) = 2 ∨ kd (B g) = 3) ∨ kd (B g) = 4 ∨ kd (B g) = 5 ∨ kd (B g) = 6 ∨ kd (B g) = 7 := by omega
  rcases hc with c | c | c | c | c
  · rw [tlo, tuk, tdp, tsz, tf_lf c, tf_lf c, tf_lf c, tf_lf c, nd_leaf c]
    refine ⟨?_, ?_, by omega, by omega⟩
    · split
      · rename_i h1; have := kd1_ge h1; exact Nat.pow_lt_pow_right (show 1 < 2 by decide) (show B g - 97 < 6 by omega)
      · decide
    · split
      · rename_i h1; have := kd2_ge h1; exact Nat.pow_lt_pow_right (show 1 < 2 by decide) (show B g - 80 < 6 by omega)
      · decide
  · obtain ⟨n1, e, d⟩ := nd_4 h c
    have i1 := ih _ n1 (by omega) d
    rw [tlo, tuk, tdp, tsz, tf_4 h c, tf_4 h c, tf_4 h c, tf_4 h c, e]
    exact ⟨i1.1, i1.2.1, by have := i1.2.2.1; unfold tdp at this; omega, by have := i1.2.2.2; unfold tsz at this; omega⟩
  · obtain ⟨n1, n2, e, d1, d2⟩ := nd_5 h c
    have hE1 := nd_E n1
    have i1 := ih _ n1 (by omega) d1
    have i2 := ih _ n2 (by omega) d2
    rw [tlo, tuk, tdp, tsz, tf_5 h c, tf_5 h c, tf_5 h c, tf_5 h c, e]
    refine ⟨Nat.or_lt_two_pow (n := 6) i1.1 i2.1, Nat.or_lt_two_pow (n := 6) i1.2.1 i2.2.1, ?_, ?_⟩
    · have a1 := i1.2.2.1
      have a2 := i2.2.2.1
      have hE2 := nd_E n2
      unfold tdp at a1 a2
      omega
    · have a1 := i1.2.2.2
      have a2 := i2.2.2.2
      unfold tsz at a1 a2
      omega
  · obtain ⟨k1, n1, e, d⟩ := nd_6 h c
    have i1 := ih _ n1 (by omega) d
    have := kd1_ge k1
    rw [tlo, tuk, tdp, tsz, tf_6 h c, tf_6 h c, tf_6 h c, tf_6 h c, e]
    exact ⟨mdel_lt _ i1.1 _ (by omega), i1.2.1, by have := i1.2.2.1; unfold tdp at this; omega, by have := i1.2.2.2; unfold tsz at this; omega⟩
  · obtain ⟨k1, k2, n1, e, d⟩ := nd_7 h c
    have i1 := ih _ n1 (by omega) d
    rw [tlo, tuk, tdp, tsz, tf_7 h c, tf_7 h c, tf_7 h c, tf_7 h c, e]
    exact ⟨ms_lt _, i1.2.1, by have := i1.2.2.1; unfold tdp at this; omega, by have := i1.2.2.2; unfold tsz at this; omega⟩
/-- the five rows of measures at g -/
def set5 (σ : gS) (g : Nat) (a b c d e : Int32) : gS := fun k i => if i = g then (if k = 6 then a else if k = 7 then b else if k = 8 then c else if k = 9 then d else if k = 10 then e else σ k i) else σ k i
theorem s5_id (σ : gS) (g : Nat) : set5 σ g (σ 6 g) (σ 7 g) (σ 8 g) (σ 9 g) (σ 10 g) = σ := by
  funext k i
  unfold set5
  split
  · rename_i h
    subst h
    repeat' split
    all_goals first | rfl | (rename_i h; rw [h])
  · rfl
theorem s5_u6 (σ : gS) (g : Nat) (a b c d e x : Int32) : up2 (set5 σ g a b c d e) 6 g x = set5 σ g x b c d e := by
  funext k i
  unfold up2 upd set5
  by_cases hk : k = 6
  · subst hk
    by_cases hi : i = g <;> simp [hi]
  · by_cases hi : i = g <;> simp [hi, hk]
theorem s5_r6 (σ : gS) (g : Nat) (a b c d e : Int32) : set5 σ g a b c d e 6 g = a := by unfold set5; simp
theorem s5_u7 (σ : gS) (g : Nat) (a b c d e x : Int32) : up2 (set5 σ g a b c d e) 7 g x = set5 σ g a x c d e := by
  funext k i
  unfold up2 upd set5
  by_cases hk : k = 7
  · subst hk
    by_cases hi : i = g <;> simp [hi]
  · by_cases hi : i = g <;> simp [hi, hk]
theorem s5_r7 (σ : gS) (g : Nat) (a b c d e : Int32) : set5 σ g a b c d e 7 g = b := by unfold set5; simp
theorem s5_u8 (σ : gS) (g : Nat) (a b c d e x : Int32) : up2 (set5 σ g a b c d e) 8 g x = set5 σ g a b x d e := by
  funext k i
  unfold up2 upd set5
  by_cases hk : k = 8
  · subst hk
    by_cases hi : i = g <;> simp [hi]
  · by_cases hi : i = g <;> simp [hi, hk]
theorem s5_r8 (σ : gS) (g : Nat) (a b c d e : Int32) : set5 σ g a b c d e 8 g = c := by unfold set5; simp
theorem s5_u9 (σ : gS) (g : Nat) (a b c d e x : Int32) : up2 (set5 σ g a b c d e) 9 g x = set5 σ g a b c x e := by
  funext k i
  unfold up2 upd set5
  by_cases hk : k = 9
  · subst hk
    by_cases hi : i = g <;> simp [hi]
  · by_cases hi : i = g <;> simp [hi, hk]
theorem s5_r9 (σ : gS) (g : Nat) (a b c d e : Int32) : set5 σ g a b c d e 9 g = d := by unfold set5; simp
theorem s5_u10 (σ : gS) (g : Nat) (a b c d e x : Int32) : up2 (set5 σ g a b c d e) 10 g x = set5 σ g a b c d x := by
  funext k i
  unfold up2 upd set5
  by_cases hk : k = 10
  · subst hk
    by_cases hi : i = g <;> simp [hi]
  · by_cases hi : i = g <;> simp [hi, hk]
theorem s5_r10 (σ : gS) (g : Nat) (a b c d e : Int32) : set5 σ g a b c d e 10 g = e := by unfold set5; simp
theorem s5_ne (σ : gS) {g h : Nat} (a b c d e : Int32) (k : Nat) (hh : h ≠ g) : set5 σ g a b c d e k h = σ k h := if_neg hh
theorem s5_row (σ : gS) (g : Nat) (a b c d e : Int32) {k : Nat} (hk : k < 6 ∨ 10 < k) : set5 σ g a b c d e k = σ k := by
  funext i
  unfold set5
  split
  · rw [if_neg (by omega), if_neg (by omega), if_neg (by omega), if_neg (by omega), if_neg (by omega)]
  · rfl
def Me (σ : gS) (B : Nat → Nat) (h : Nat) : Prop := σ 6 h = nI (tE B h) ∧ σ 7 h = nI (tsz B h) ∧ σ 8 h = nI (tdp B h) ∧ σ 9 h = nI (tlo B h) ∧ σ 10 h = nI (tuk B h)
abbrev s5B (σ : gS) (B : Nat → Nat) (g : Nat) : gS := set5 σ g (nI (tE B g)) (nI (tsz B g)) (nI (tdp B g)) (nI (tlo B g)) (nI (tuk B g))
theorem tsz_4 {B ln : Nat → Nat} {g : Nat} (h : nd B ln g) (c : kd (B g) = 4) : tsz B g = tsz B (g + 1) + 1 := tf_4 h c
theorem tsz_5 {B ln : Nat → Nat} {g : Nat} (h : nd B ln g) (c : kd (B g) = 5) : tsz B g = tsz B (g + 1) + 1 + tsz B (tE B (g + 1)) := tf_5 h c
theorem tsz_6 {B ln : Nat → Nat} {g : Nat} (h : nd B ln g) (c : kd (B g) = 6) : tsz B g = tsz B (g + 2) + 1 := tf_6 h c
theorem tsz_7 {B ln : Nat → Nat} {g : Nat} (h : nd B ln g) (c : kd (B g) = 7) : tsz B g = tsz B (g + 3) := tf_7 h c
theorem tdp_4 {B ln : Nat → Nat} {g : Nat} (h : nd B ln g) (c : kd (B g) = 4) : tdp B g = tdp B (g + 1) + 1 := tf_4 h c
theorem tdp_5 {B ln : Nat → Nat} {g : Nat} (h : nd B ln g) (c : kd (B g) = 5) : tdp B g = max (tdp B (g + 1) + 1) (tdp B (tE B (g + 1)) + 1) := tf_5 h c
theorem tdp_6 {B ln : Nat → Nat} {g : Nat} (h : nd B ln g) (c : kd (B g) = 6) : tdp B g = tdp B (g + 2) + 1 := tf_6 h c
theorem tdp_7 {B ln : Nat → Nat} {g : Nat} (h : nd B ln g) (c : kd (B g) = 7) : tdp B g = tdp B (g + 3) := tf_7 h c
theorem tlo_4 {B ln : Nat → Nat} {g : Nat} (h : nd B ln g) (c : kd (B g) = 4) : tlo B g = tlo B (g + 1) := tf_4 h c
theorem tlo_5 {B ln : Nat → Nat} {g : Nat} (h : nd B ln g) (c : kd (B g) = 5) : tlo B g = tlo B (g + 1) ||| tlo B (tE B (g + 1)) := tf_5 h c
theorem tlo_6 {B ln : Nat → Nat} {g : Nat} (h : nd B ln g) (c : kd (B g) = 6) : tlo B g = mdel (tlo B (g + 2)) (B (g + 1) - 97) := tf_6 h c
theorem tlo_7 {B ln : Nat → Nat} {g : Nat} (h : nd B ln g) (c : kd (B g) = 7) : tlo B g = tn_ss (tn_sw (B (g + 1) - 97) (B (g + 2) - 97)) (tlo B (g + 3)) := tf_7 h c
theorem tuk_4 {B ln : Nat → Nat} {g : Nat} (h : nd B ln g) (c : kd (B g) = 4) : tuk B g = tuk B (g + 1) := tf_4 h c
theorem tuk_5 {B ln : Nat → Nat} {g : Nat} (h : nd B ln g) (c : kd (B g) = 5) : tuk B g = tuk B (g + 1) ||| tuk B (tE B (g + 1)) := tf_5 h c
theorem tuk_6 {B ln : Nat → Nat} {g : Nat} (h : nd B ln g) (c : kd (B g) = 6) : tuk B g = tuk B (g + 2) := tf_6 h c
theorem tuk_7 {B ln : Nat → Nat} {g : Nat} (h : nd B ln g) (c : kd (B g) = 7) : tuk B g = tuk B (g + 3) := tf_7 h c
theorem tlo_1 {B : Nat → Nat} {g : Nat} (h : kd (B g) = 1 ∨ kd (B g) = 2 ∨ kd (B g) = 3) : tlo B g = if kd (B g) = 1 then 2 ^ (B g - 97) else 0 := tf_lf h
theorem tuk_1 {B : Nat → Nat} {g : Nat} (h : kd (B g) = 1 ∨ kd (B g) = 2 ∨ kd (B g) = 3) : tuk B g = if kd (B g) = 2 then 2 ^ (B g - 80) else 0 := tf_lf h
section T33
variable {l : Launch} {D : va_G} {cA : ClassId} {ad : Nat → Nat}
variable {σ : gS}
set_option maxHeartbeats 4000000 in
set_option maxRecDepth 100000 in
theorem c_X4_weighOver_n {g h E1 z1 d1 l1 u1 kk : Nat} (hg : g < h) (hh : h < 240) (hk : σ 3 g = nI kk) (hk7 : kk ≤ 7) (m1 : σ 6 h = nI E1) (m2 : σ 7 h = nI z1) (m3 : σ 8 h = nI d1) (m4 : σ 9 h = nI l1) (m5 : σ 10 h = nI u1) (h5 : ¬ kk = 5) : GM (XC l D cA ad) mX4_weighOver [.ref 1, .int (nI g), .int (nI h)] σ (g_rv (fun τ => τ = set5 σ g (nI E1) (nI (z1 + (if kk = 7 then 0 else 1))) (nI (d1 + (if kk = 7 then 0 else 1))) (nI l1) (nI u1))) := by
  refine GM.of (ls := [some (.ref 1), some (.int (nI g)), some (.int (nI h)), none, none]) (by decide) (Nat.le_of_ble_eq_true rfl) rfl ?_
  have hmain : ∀ τ, τ = σ → ∀ a b c d e, G (XC l D cA ad) mX4_weighOver (g_rv (fun τ1 => τ1 = set5 τ g (nI E1) (nI (z1 + (if kk = 7 then 0 else 1))) (nI (d1 + (if kk = 7 then 0 else 1))) (nI l1) (nI u1))) 0 [some (.ref 1), some (.int (nI g)), some (.int (nI h)), none, none] [] (set5 τ g a b c d e) := by
    intro τ eτ a b c d e
    subst eτ
    refine G.iload_n (k := 2) rfl dX4_weighOver_0 ?_
    refine G.sipush (v := 240) (by decide) dX4_weighOver_1 ?_
    refine G.callSNif (c_X6_isOutside) (fun _ h => h.2.2.2.2.2.2) ws_yX6_isOutside gcl_X6_isOutside (by decide) rfl rfl (Nat.le_of_ble_eq_true rfl) dX4_weighOver_4 ?_
    refine G.if_eq (tgt := 11) (by decide) dX4_weighOver_7 (fun c_7 => ?_) (fun c_7 => absurd (bo_n.mp c_7) (fun q => q.elim (fun y => nI_pos (by omega) y) (fun y => nI_ge (b := 240) (by omega) (by decide) y)))
    refine G.aload_n (k := 0) rfl dX4_weighOver_11 ?_
    refine G.getr (j := 1) rfl gci_X4 (by decide) rfl fl_X4_15 dX4_weighOver_12 ?_
    refine G.iload_n (k := 1) rfl dX4_weighOver_15 ?_
    refine G.ialdN (k := g) rfl (rfl) (by omega) (by decide) dX4_weighOver_16 ?_
    rw [s5_row _ _ _ _ _ _ _ (by omega), hk]
    refine G.bipush (v := 7) (by decide) dX4_weighOver_17 ?_
    refine G.icmp_ne (tgt := 26) (by decide) dX4_weighOver_19 (fun c_19 => ?_) (fun c_19 => ?_)
    · have hw : ¬ kk = 7 := fun e => c_19 (by rw [e]; rfl)
      have ho : (1 : Int32) = nI (if kk = 7 then 0 else 1) := by rw [if_neg hw]; rfl
      refine G.iconst (v := 1) (by decide) dX4_weighOver_26 ?_
      refine G.eqi ho ?_
      refine G.ist3 (by decide) rfl dX4_weighOver_27 ?_
      refine G.aload_n (k := 0) rfl dX4_weighOver_28 ?_
      refine G.getr (j := 4) rfl gci_X4 (by decide) rfl fl_X4_24 dX4_weighOver_29 ?_
      refine G.iload_n (k := 1) rfl dX4_weighOver_32 ?_
      refine G.aload_n (k := 0) rfl dX4_weighOver_33 ?_
      refine G.getr (j := 4) rfl gci_X4 (by decide) rfl fl_X4_24 dX4_weighOver_34 ?_
      refine G.iload_n (k := 2) rfl dX4_weighOver_37 ?_
      refine G.ialdN (k := h) rfl (rfl) (by omega) (by decide) dX4_weighOver_38 ?_
      rw [s5_ne _ _ _ _ _ _ 6 (by omega), m1]
      refine G.iastN (k := g) rfl (rfl) (by omega) (by decide) dX4_weighOver_39 ?_
      rw [s5_u6]
      refine G.aload_n (k := 0) rfl dX4_weighOver_40 ?_
      refine G.getr (j := 5) rfl gci_X4 (by decide) rfl fl_X4_27 dX4_weighOver_41 ?_
      refine G.iload_n (k := 1) rfl dX4_weighOver_44 ?_
      refine G.aload_n (k := 0) rfl dX4_weighOver_45 ?_
      refine G.getr (j := 5) rfl gci_X4 (by decide) rfl fl_X4_27 dX4_weighOver_46 ?_
      refine G.iload_n (k := 2) rfl dX4_weighOver_49 ?_
      refine G.ialdN (k := h) rfl (rfl) (by omega) (by decide) dX4_weighOver_50 ?_
      rw [s5_ne _ _ _ _ _ _ 7 (by omega), m2]
      refine G.iload_n (k := 3) rfl dX4_weighOver_51 ?_
      refine G.iadd dX4_weighOver_52 ?_
      rw [nI_add]
      refine G.iastN (k := g) rfl (rfl) (by omega) (by decide) dX4_weighOver_53 ?_
      rw [s5_u7]
      refine G.aload_n (k := 0) rfl dX4_weighOver_54 ?_
      refine G.getr (j := 6) rfl gci_X4 (by decide) rfl fl_X4_30 dX4_weighOver_55 ?_
      refine G.iload_n (k := 1) rfl dX4_weighOver_58 ?_
      refine G.aload_n (k := 0) rfl dX4_weighOver_59 ?_
      refine G.getr (j := 6) rfl gci_X4 (by decide) rfl fl_X4_30 dX4_weighOver_60 ?_
      refine G.iload_n (k := 2) rfl dX4_weighOver_63 ?_
      refine G.ialdN (k := h) rfl (rfl) (by omega) (by decide) dX4_weighOver_64 ?_
      rw [s5_ne _ _ _ _ _ _ 8 (by omega), m3]
      refine G.iload_n (k := 3) rfl dX4_weighOver_65 ?_
      refine G.iadd dX4_weighOver_66 ?_
      rw [nI_add]
      refine G.iastN (k := g) rfl (rfl) (by omega) (by decide) dX4_weighOver_67 ?_
      rw [s5_u8]
      refine G.aload_n (k := 0) rfl dX4_weighOver_68 ?_
      refine G.getr (j := 7) rfl gci_X4 (by decide) rfl fl_X4_33 dX4_weighOver_69 ?_
      refine G.iload_n (k := 1) rfl dX4_weighOver_72 ?_
      refine G.aload_n (k := 0) rfl dX4_weighOver_73 ?_
      refine G.getr (j := 7) rfl gci_X4 (by decide) rfl fl_X4_33 dX4_weighOver_74 ?_
      refine G.iload_n (k := 2) rfl dX4_weighOver_77 ?_
      refine G.ialdN (k := h) rfl (rfl) (by omega) (by decide) dX4_weighOver_78 ?_
      rw [s5_ne _ _ _ _ _ _ 9 (by omega), m4]
      refine G.iastN (k := g) rfl (rfl) (by omega) (by decide) dX4_weighOver_79 ?_
      rw [s5_u9]
      refine G.aload_n (k := 0) rfl dX4_weighOver_80 ?_
      refine G.getr (j := 8) rfl gci_X4 (by decide) rfl fl_X4_36 dX4_weighOver_81 ?_
      refine G.iload_n (k := 1) rfl dX4_weighOver_84 ?_
      refine G.aload_n (k := 0) rfl dX4_weighOver_85 ?_
      refine G.getr (j := 8) rfl gci_X4 (by decide) rfl fl_X4_36 dX4_weighOver_86 ?_
      refine G.iload_n (k := 2) rfl dX4_weighOver_89 ?_
      refine G.ialdN (k := h) rfl (rfl) (by omega) (by decide) dX4_weighOver_90 ?_
      rw [s5_ne _ _ _ _ _ _ 10 (by omega), m5]
      refine G.iastN (k := g) rfl (rfl) (by omega) (by decide) dX4_weighOver_91 ?_
      rw [s5_u10]
      refine G.aload_n (k := 0) rfl dX4_weighOver_92 ?_
      refine G.getr (j := 4) rfl gci_X4 (by decide) rfl fl_X4_24 dX4_weighOver_93 ?_
      refine G.iload_n (k := 2) rfl dX4_weighOver_96 ?_
      refine G.ialdN (k := h) rfl (rfl) (by omega) (by decide) dX4_weighOver_97 ?_
      rw [s5_ne _ _ _ _ _ _ 6 (by omega), m1]
      refine G.ist4 (by decide) rfl dX4_weighOver_98 ?_
      refine G.aload_n (k := 0) rfl dX4_weighOver_100 ?_
      refine G.getr (j := 1) rfl gci_X4 (by decide) rfl fl_X4_15 dX4_weighOver_101 ?_
      refine G.iload_n (k := 1) rfl dX4_weighOver_104 ?_
      refine G.ialdN (k := g) rfl (rfl) (by omega) (by decide) dX4_weighOver_105 ?_
      rw [s5_row _ _ _ _ _ _ _ (by omega), hk]
      refine G.iconst (v := 5) (by decide) dX4_weighOver_106 ?_
      refine G.icmp_ne (tgt := 206) (by decide) dX4_weighOver_107 (fun c_107 => ?_) (fun c_107 => absurd ((nI_eq (by omega) (by decide)).mp c_107) h5)
      exact G.vret rfl (rfl) dX4_weighOver_206
    · have hw : kk = 7 := (nI_eq (by omega) (by decide)).mp c_19
      have ho : (0 : Int32) = nI (if kk = 7 then 0 else 1) := by rw [if_pos hw]; rfl
      refine G.iconst (v := 0) (by decide) dX4_weighOver_22 ?_
      refine G.goto (tgt := 27) (by decide) dX4_weighOver_23 ?_
      refine G.eqi ho ?_
      refine G.ist3 (by decide) rfl dX4_weighOver_27 ?_
      refine G.aload_n (k := 0) rfl dX4_weighOver_28 ?_
      refine G.getr (j := 4) rfl gci_X4 (by decide) rfl fl_X4_24 dX4_weighOver_29 ?_
      refine G.iload_n (k := 1) rfl dX4_weighOver_32 ?_
      refine G.aload_n (k := 0) rfl dX4_weighOver_33 ?_
      refine G.getr (j := 4) rfl gci_X4 (by decide) rfl fl_X4_24 dX4_weighOver_34 ?_
      refine G.iload_n (k := 2) rfl dX4_weighOver_37 ?_
      refine G.ialdN (k := h) rfl (rfl) (by omega) (by decide) dX4_weighOver_38 ?_
      rw [s5_ne _ _ _ _ _ _ 6 (by omega), m1]
      refine G.iastN (k := g) rfl (rfl) (by omega) (by decide) dX4_weighOver_39 ?_
      rw [s5_u6]
      refine G.aload_n (k := 0) rfl dX4_weighOver_40 ?_
      refine G.getr (j := 5) rfl gci_X4 (by decide) rfl fl_X4_27 dX4_weighOver_41 ?_
      refine G.iload_n (k := 1) rfl dX4_weighOver_44 ?_
      refine G.aload_n (k := 0) rfl dX4_weighOver_45 ?_
      refine G.getr (j := 5) rfl gci_X4 (by decide) rfl fl_X4_27 dX4_weighOver_46 ?_
      refine G.iload_n (k := 2) rfl dX4_weighOver_49 ?_
      refine G.ialdN (k := h) rfl (rfl) (by omega) (by decide) dX4_weighOver_50 ?_
      rw [s5_ne _ _ _ _ _ _ 7 (by omega), m2]
      refine G.iload_n (k := 3) rfl dX4_weighOver_51 ?_
      refine G.iadd dX4_weighOver_52 ?_
      rw [nI_add]
      refine G.iastN (k := g) rfl (rfl) (by omega) (by decide) dX4_weighOver_53 ?_
      rw [s5_u7]
      refine G.aload_n (k := 0) rfl dX4_weighOver_54 ?_
      refine G.getr (j := 6) rfl gci_X4 (by decide) rfl fl_X4_30 dX4_weighOver_55 ?_
      refine G.iload_n (k := 1) rfl dX4_weighOver_58 ?_
      refine G.aload_n (k := 0) rfl dX4_weighOver_59 ?_
      refine G.getr (j := 6) rfl gci_X4 (by decide) rfl fl_X4_30 dX4_weighOver_60 ?_
      refine G.iload_n (k := 2) rfl dX4_weighOver_63 ?_
      refine G.ialdN (k := h) rfl (rfl) (by omega) (by decide) dX4_weighOver_64 ?_
      rw [s5_ne _ _ _ _ _ _ 8 (by omega), m3]
      refine G.iload_n (k := 3) rfl dX4_weighOver_65 ?_
      refine G.iadd dX4_weighOver_66 ?_
      rw [nI_add]
      refine G.iastN (k := g) rfl (rfl) (by omega) (by decide) dX4_weighOver_67 ?_
      rw [s5_u8]
      refine G.aload_n (k := 0) rfl dX4_weighOver_68 ?_
      refine G.getr (j := 7) rfl gci_X4 (by decide) rfl fl_X4_33 dX4_weighOver_69 ?_
      refine G.iload_n (k := 1) rfl dX4_weighOver_72 ?_
      refine G.aload_n (k := 0) rfl dX4_weighOver_73 ?_
      refine G.getr (j := 7) rfl gci_X4 (by decide) rfl fl_X4_33 dX4_weighOver_74 ?_
      refine G.iload_n (k := 2) rfl dX4_weighOver_77 ?_
      refine G.ialdN (k := h) rfl (rfl) (by omega) (by decide) dX4_weighOver_78 ?_
      rw [s5_ne _ _ _ _ _ _ 9 (by omega), m4]
      refine G.iastN (k := g) rfl (rfl) (by omega) (by decide) dX4_weighOver_79 ?_
      rw [s5_u9]
      refine G.aload_n (k := 0) rfl dX4_weighOver_80 ?_
      refine G.getr (j := 8) rfl gci_X4 (by decide) rfl fl_X4_36 dX4_weighOver_81 ?_
      refine G.iload_n (k := 1) rfl dX4_weighOver_84 ?_
      refine G.aload_n (k := 0) rfl dX4_weighOver_85 ?_
      refine G.getr (j := 8) rfl gci_X4 (by decide) rfl fl_X4_36 dX4_weighOver_86 ?_
      refine G.iload_n (k := 2) rfl dX4_weighOver_89 ?_
      refine G.ialdN (k := h) rfl (rfl) (by omega) (by decide) dX4_weighOver_90 ?_
      rw [s5_ne _ _ _ _ _ _ 10 (by omega), m5]
      refine G.iastN (k := g) rfl (rfl) (by omega) (by decide) dX4_weighOver_91 ?_
      rw [s5_u10]
      refine G.aload_n (k := 0) rfl dX4_weighOver_92 ?_
      refine G.getr (j := 4) rfl gci_X4 (by decide) rfl fl_X4_24 dX4_weighOver_93 ?_
      refine G.iload_n (k := 2) rfl dX4_weighOver_96 ?_
      refine G.ialdN (k := h) rfl (rfl) (by omega) (by decide) dX4_weighOver_97 ?_
      rw [s5_ne _ _ _ _ _ _ 6 (by omega), m1]
      refine G.ist4 (by decide) rfl dX4_weighOver_98 ?_
      refine G.aload_n (k := 0) rfl dX4_weighOver_100 ?_
      refine G.getr (j := 1) rfl gci_X4 (by decide) rfl fl_X4_15 dX4_weighOver_101 ?_
      refine G.iload_n (k := 1) rfl dX4_weighOver_104 ?_
      refine G.ialdN (k := g) rfl (rfl) (by omega) (by decide) dX4_weighOver_105 ?_
      rw [s5_row _ _ _ _ _ _ _ (by omega), hk]
      refine G.iconst (v := 5) (by decide) dX4_weighOver_106 ?_
      refine G.icmp_ne (tgt := 206) (by decide) dX4_weighOver_107 (fun c_107 => ?_) (fun c_107 => absurd ((nI_eq (by omega) (by decide)).mp c_107) h5)
      exact G.vret rfl (rfl) dX4_weighOver_206
  have h := hmain σ rfl (σ 6 g) (σ 7 g) (σ 8 g) (σ 9 g) (σ 10 g)
  rw [s5_id] at h
  exact h
set_option maxHeartbeats 4000000 in
set_option maxRecDepth 100000 in
theorem c_X4_weighOver_5 {g h E1 z1 d1 l1 u1 kk : Nat} (hg : g < h) (hh : h < 240) (hk : σ 3 g = nI kk) (hk7 : kk ≤ 7) (m1 : σ 6 h = nI E1) (m2 : σ 7 h = nI z1) (m3 : σ 8 h = nI d1) (m4 : σ 9 h = nI l1) (m5 : σ 10 h = nI u1) {E2 z2 d2 l2 u2 : Nat} (h5 : kk = 5) (hE : h < E1) (hE2 : E1 < 240) (hd1 : d1 ≤ 240) (hd2 : d2 ≤ 240) (n1 : σ 6 E1 = nI E2) (n2 : σ 7 E1 = nI z2) (n3 : σ 8 E1 = nI d2) (n4 : σ 9 E1 = nI l2) (n5 : σ 10 E1 = nI u2) : GM (XC l D cA ad) mX4_weighOver [.ref 1, .int (nI g), .int (nI h)] σ (g_rv (fun τ => τ = set5 σ g (nI E2) (nI (z1 + 1 + z2)) (nI (max (d1 + 1) (d2 + 1))) (nI (l1 ||| l2)) (nI (u1 ||| u2)))) := by
  refine GM.of (ls := [some (.ref 1), some (.int (nI g)), some (.int (nI h)), none, none]) (by decide) (Nat.le_of_ble_eq_true rfl) rfl ?_
  have hmain : ∀ τ, τ = σ → ∀ a b c d e, G (XC l D cA ad) mX4_weighOver (g_rv (fun τ1 => τ1 = set5 τ g (nI E2) (nI (z1 + 1 + z2)) (nI (max (d1 + 1) (d2 + 1))) (nI (l1 ||| l2)) (nI (u1 ||| u2)))) 0 [some (.ref 1), some (.int (nI g)), some (.int (nI h)), none, none] [] (set5 τ g a b c d e) := by
    intro τ eτ a b c d e
    subst eτ
    refine G.iload_n (k := 2) rfl dX4_weighOver_0 ?_
    refine G.sipush (v := 240) (by decide) dX4_weighOver_1 ?_
    refine G.callSNif (c_X6_isOutside) (fun _ h => h.2.2.2.2.2.2) ws_yX6_isOutside gcl_X6_isOutside (by decide) rfl rfl (Nat.le_of_ble_eq_true rfl) dX4_weighOver_4 ?_
    refine G.if_eq (tgt := 11) (by decide) dX4_weighOver_7 (fun c_7 => ?_) (fun c_7 => absurd (bo_n.mp c_7) (fun q => q.elim (fun y => nI_pos (by omega) y) (fun y => nI_ge (b := 240) (by omega) (by decide) y)))
    refine G.aload_n (k := 0) rfl dX4_weighOver_11 ?_
    refine G.getr (j := 1) rfl gci_X4 (by decide) rfl fl_X4_15 dX4_weighOver_12 ?_
    refine G.iload_n (k := 1) rfl dX4_weighOver_15 ?_
    refine G.ialdN (k := g) rfl (rfl) (by omega) (by decide) dX4_weighOver_16 ?_
    rw [s5_row _ _ _ _ _ _ _ (by omega), hk]
    refine G.bipush (v := 7) (by decide) dX4_weighOver_17 ?_
    refine G.icmp_ne (tgt := 26) (by decide) dX4_weighOver_19 (fun c_19 => ?_) (fun c_19 => absurd ((nI_eq (by omega) (by decide)).mp c_19) (fun e : kk = 7 => by omega))
    refine G.iconst (v := 1) (by decide) dX4_weighOver_26 ?_
    refine G.ist3 (by decide) rfl dX4_weighOver_27 ?_
    refine G.aload_n (k := 0) rfl dX4_weighOver_28 ?_
    refine G.getr (j := 4) rfl gci_X4 (by decide) rfl fl_X4_24 dX4_weighOver_29 ?_
    refine G.iload_n (k := 1) rfl dX4_weighOver_32 ?_
    refine G.aload_n (k := 0) rfl dX4_weighOver_33 ?_
    refine G.getr (j := 4) rfl gci_X4 (by decide) rfl fl_X4_24 dX4_weighOver_34 ?_
    refine G.iload_n (k := 2) rfl dX4_weighOver_37 ?_
    refine G.ialdN (k := h) rfl (rfl) (by omega) (by decide) dX4_weighOver_38 ?_
    rw [s5_ne _ _ _ _ _ _ 6 (by omega), m1]
    refine G.iastN (k := g) rfl (rfl) (by omega) (by decide) dX4_weighOver_39 ?_
    rw [s5_u6]
    refine G.aload_n (k := 0) rfl dX4_weighOver_40 ?_
    refine G.getr (j := 5) rfl gci_X4 (by decide) rfl fl_X4_27 dX4_weighOver_41 ?_
    refine G.iload_n (k := 1) rfl dX4_weighOver_44 ?_
    refine G.aload_n (k := 0) rfl dX4_weighOver_45 ?_
    refine G.getr (j := 5) rfl gci_X4 (by decide) rfl fl_X4_27 dX4_weighOver_46 ?_
    refine G.iload_n (k := 2) rfl dX4_weighOver_49 ?_
    refine G.ialdN (k := h) rfl (rfl) (by omega) (by decide) dX4_weighOver_50 ?_
    rw [s5_ne _ _ _ _ _ _ 7 (by omega), m2]
    refine G.iload_n (k := 3) rfl dX4_weighOver_51 ?_
    refine G.iadd dX4_weighOver_52 ?_
    rw [show nI z1 + 1 = nI (z1 + 1) from nI_1 z1]
    refine G.iastN (k := g) rfl (rfl) (by omega) (by decide) dX4_weighOver_53 ?_
    rw [s5_u7]
    refine G.aload_n (k := 0) rfl dX4_weighOver_54 ?_
    refine G.getr (j := 6) rfl gci_X4 (by decide) rfl fl_X4_30 dX4_weighOver_55 ?_
    refine G.iload_n (k := 1) rfl dX4_weighOver_58 ?_
    refine G.aload_n (k := 0) rfl dX4_weighOver_59 ?_
    refine G.getr (j := 6) rfl gci_X4 (by decide) rfl fl_X4_30 dX4_weighOver_60 ?_
    refine G.iload_n (k := 2) rfl dX4_weighOver_63 ?_
    refine G.ialdN (k := h) rfl (rfl) (by omega) (by decide) dX4_weighOver_64 ?_
    rw [s5_ne _ _ _ _ _ _ 8 (by omega), m3]
    refine G.iload_n (k := 3) rfl dX4_weighOver_65 ?_
    refine G.iadd dX4_weighOver_66 ?_
    rw [show nI d1 + 1 = nI (d1 + 1) from nI_1 d1]
    refine G.iastN (k := g) rfl (rfl) (by omega) (by decide) dX4_weighOver_67 ?_
    rw [s5_u8]
    refine G.aload_n (k := 0) rfl dX4_weighOver_68 ?_
    refine G.getr (j := 7) rfl gci_X4 (by decide) rfl fl_X4_33 dX4_weighOver_69 ?_
    refine G.iload_n (k := 1) rfl dX4_weighOver_72 ?_
    refine G.aload_n (k := 0) rfl dX4_weighOver_73 ?_
    refine G.getr (j := 7) rfl gci_X4 (by decide) rfl fl_X4_33 dX4_weighOver_74 ?_
    refine G.iload_n (k := 2) rfl dX4_weighOver_77 ?_
    refine G.ialdN (k := h) rfl (rfl) (by omega) (by decide) dX4_weighOver_78 ?_
    rw [s5_ne _ _ _ _ _ _ 9 (by omega), m4]
    refine G.iastN (k := g) rfl (rfl) (by omega) (by decide) dX4_weighOver_79 ?_
    rw [s5_u9]
    refine G.aload_n (k := 0) rfl dX4_weighOver_80 ?_
    refine G.getr (j := 8) rfl gci_X4 (by decide) rfl fl_X4_36 dX4_weighOver_81 ?_
    refine G.iload_n (k := 1) rfl dX4_weighOver_84 ?_
    refine G.aload_n (k := 0) rfl dX4_weighOver_85 ?_
    refine G.getr (j := 8) rfl gci_X4 (by decide) rfl fl_X4_36 dX4_weighOver_86 ?_
    refine G.iload_n (k := 2) rfl dX4_weighOver_89 ?_
    refine G.ialdN (k := h) rfl (rfl) (by omega) (by decide) dX4_weighOver_90 ?_
    rw [s5_ne _ _ _ _ _ _ 10 (by omega), m5]
    refine G.iastN (k := g) rfl (rfl) (by omega) (by decide) dX4_weighOver_91 ?_
    rw [s5_u10]
    refine G.aload_n (k := 0) rfl dX4_weighOver_92 ?_
    refine G.getr (j := 4) rfl gci_X4 (by decide) rfl fl_X4_24 dX4_weighOver_93 ?_
    refine G.iload_n (k := 2) rfl dX4_weighOver_96 ?_
    refine G.ialdN (k := h) rfl (rfl) (by omega) (by decide) dX4_weighOver_97 ?_
    rw [s5_ne _ _ _ _ _ _ 6 (by omega), m1]
    refine G.ist4 (by decide) rfl dX4_weighOver_98 ?_
    refine G.aload_n (k := 0) rfl dX4_weighOver_100 ?_
    refine G.getr (j := 1) rfl gci_X4 (by decide) rfl fl_X4_15 dX4_weighOver_101 ?_
    refine G.iload_n (k := 1) rfl dX4_weighOver_104 ?_
    refine G.ialdN (k := g) rfl (rfl) (by omega) (by decide) dX4_weighOver_105 ?_
    rw [s5_row _ _ _ _ _ _ _ (by omega), hk]
    refine G.iconst (v := 5) (by decide) dX4_weighOver_106 ?_
    refine G.icmp_ne (tgt := 206) (by decide) dX4_weighOver_107 (fun c_107 => absurd (show nI kk = 5 by rw [h5]; rfl) c_107) (fun c_107 => ?_)
    refine G.iload (i := 4) rfl dX4_weighOver_110 ?_
    refine G.sipush (v := 240) (by decide) dX4_weighOver_112 ?_
    refine G.callSNif (c_X6_isOutside) (fun _ h => h.2.2.2.2.2.2) ws_yX6_isOutside gcl_X6_isOutside (by decide) rfl rfl (Nat.le_of_ble_eq_true rfl) dX4_weighOver_115 ?_
    refine G.if_ne (tgt := 206) (by decide) dX4_weighOver_118 (fun c_118 => absurd (bo_n.mp c_118) (fun q => q.elim (fun y => nI_pos (by omega) y) (fun y => nI_ge (b := 240) (by omega) (by decide) y))) (fun c_118 => ?_)
    refine G.aload_n (k := 0) rfl dX4_weighOver_121 ?_
    refine G.getr (j := 4) rfl gci_X4 (by decide) rfl fl_X4_24 dX4_weighOver_122 ?_
    refine G.iload_n (k := 1) rfl dX4_weighOver_125 ?_
    refine G.aload_n (k := 0) rfl dX4_weighOver_126 ?_
    refine G.getr (j := 4) rfl gci_X4 (by decide) rfl fl_X4_24 dX4_weighOver_127 ?_
    refine G.iload (i := 4) rfl dX4_weighOver_130 ?_
    refine G.ialdN (k := E1) rfl (rfl) (by omega) (by decide) dX4_weighOver_132 ?_
    rw [s5_ne _ _ _ _ _ _ 6 (by omega), n1]
    refine G.iastN (k := g) rfl (rfl) (by omega) (by decide) dX4_weighOver_133 ?_
    rw [s5_u6]
    refine G.aload_n (k := 0) rfl dX4_weighOver_134 ?_
    refine G.getr (j := 5) rfl gci_X4 (by decide) rfl fl_X4_27 dX4_weighOver_135 ?_
    refine G.iload_n (k := 1) rfl dX4_weighOver_138 ?_
    refine G.dup2 dX4_weighOver_139 ?_
    refine G.ialdN (k := g) rfl (rfl) (by omega) (by decide) dX4_weighOver_140 ?_
    rw [s5_r7]
    refine G.aload_n (k := 0) rfl dX4_weighOver_141 ?_
    refine G.getr (j := 5) rfl gci_X4 (by decide) rfl fl_X4_27 dX4_weighOver_142 ?_
    refine G.iload (i := 4) rfl dX4_weighOver_145 ?_
    refine G.ialdN (k := E1) rfl (rfl) (by omega) (by decide) dX4_weighOver_147 ?_
    rw [s5_ne _ _ _ _ _ _ 7 (by omega), n2]
    refine G.iadd dX4_weighOver_148 ?_
    rw [nI_add]
    refine G.iastN (k := g) rfl (rfl) (by omega) (by decide) dX4_weighOver_149 ?_
    rw [s5_u7]
    refine G.aload_n (k := 0) rfl dX4_weighOver_150 ?_
    refine G.getr (j := 6) rfl gci_X4 (by decide) rfl fl_X4_30 dX4_weighOver_151 ?_
    refine G.iload_n (k := 1) rfl dX4_weighOver_154 ?_
    refine G.aload_n (k := 0) rfl dX4_weighOver_155 ?_
    refine G.getr (j := 6) rfl gci_X4 (by decide) rfl fl_X4_30 dX4_weighOver_156 ?_
    refine G.iload_n (k := 1) rfl dX4_weighOver_159 ?_
    refine G.ialdN (k := g) rfl (rfl) (by omega) (by decide) dX4_weighOver_160 ?_
    rw [s5_r8]
    refine G.aload_n (k := 0) rfl dX4_weighOver_161 ?_
    refine G.getr (j := 6) rfl gci_X4 (by decide) rfl fl_X4_30 dX4_weighOver_162 ?_
    refine G.iload (i := 4) rfl dX4_weighOver_165 ?_
    refine G.ialdN (k := E1) rfl (rfl) (by omega) (by decide) dX4_weighOver_167 ?_
    rw [s5_ne _ _ _ _ _ _ 8 (by omega), n3]
    refine G.iconst (v := 1) (by decide) dX4_weighOver_168 ?_
    refine G.iadd dX4_weighOver_169 ?_
    rw [nI_1]
    refine G.callSif (c_J9_max_7cf53) ml_X4_124 ws_yJ9_max_7cf53 gcl_J9_max_7cf53 (by decide) rfl rfl (Nat.le_of_ble_eq_true rfl) dX4_weighOver_170 ?_
    rw [show (if nI (d1 + 1) < nI (d2 + 1) then nI (d2 + 1) else nI (d1 + 1)) = nI (max (d1 + 1) (d2 + 1)) by
      by_cases q : d1 + 1 < d2 + 1
      · rw [if_pos (nI_lt q (by omega)), Nat.max_eq_right (by omega)]
      · rw [if_neg (nI_nlt (by omega) (by omega)), Nat.max_eq_left (by omega)]]
    refine G.iastN (k := g) rfl (rfl) (by omega) (by decide) dX4_weighOver_173 ?_
    rw [s5_u8]
    refine G.aload_n (k := 0) rfl dX4_weighOver_174 ?_
    refine G.getr (j := 7) rfl gci_X4 (by decide) rfl fl_X4_33 dX4_weighOver_175 ?_
    refine G.iload_n (k := 1) rfl dX4_weighOver_178 ?_
    refine G.dup2 dX4_weighOver_179 ?_
    refine G.ialdN (k := g) rfl (rfl) (by omega) (by decide) dX4_weighOver_180 ?_
    rw [s5_r9]
    refine G.aload_n (k := 0) rfl dX4_weighOver_181 ?_
    refine G.getr (j := 7) rfl gci_X4 (by decide) rfl fl_X4_33 dX4_weighOver_182 ?_
    refine G.iload (i := 4) rfl dX4_weighOver_185 ?_
    refine G.ialdN (k := E1) rfl (rfl) (by omega) (by decide) dX4_weighOver_187 ?_
    rw [s5_ne _ _ _ _ _ _ 9 (by omega), n4]
    refine G.ior dX4_weighOver_188 ?_
    rw [nu_or]
    refine G.iastN (k := g) rfl (rfl) (by omega) (by decide) dX4_weighOver_189 ?_
    rw [s5_u9]
    refine G.aload_n (k := 0) rfl dX4_weighOver_190 ?_
    refine G.getr (j := 8) rfl gci_X4 (by decide) rfl fl_X4_36 dX4_weighOver_191 ?_
    refine G.iload_n (k := 1) rfl dX4_weighOver_194 ?_
    refine G.dup2 dX4_weighOver_195 ?_
    refine G.ialdN (k := g) rfl (rfl) (by omega) (by decide) dX4_weighOver_196 ?_
    rw [s5_r10]
    refine G.aload_n (k := 0) rfl dX4_weighOver_197 ?_
    refine G.getr (j := 8) rfl gci_X4 (by decide) rfl fl_X4_36 dX4_weighOver_198 ?_
    refine G.iload (i := 4) rfl dX4_weighOver_201 ?_
    refine G.ialdN (k := E1) rfl (rfl) (by omega) (by decide) dX4_weighOver_203 ?_
    rw [s5_ne _ _ _ _ _ _ 10 (by omega), n5]
    refine G.ior dX4_weighOver_204 ?_
    rw [nu_or]
    refine G.iastN (k := g) rfl (rfl) (by omega) (by decide) dX4_weighOver_205 ?_
    rw [s5_u10]
    exact G.vret rfl (rfl) dX4_weighOver_206
  have h := hmain σ rfl (σ 6 g) (σ 7 g) (σ 8 g) (σ 9 g) (σ 10 g)
  rw [s5_id] at h
  exact h
set_option maxHeartbeats 4000000 in
set_option maxRecDepth 100000 in
theorem c_X4_weigh {B ln : Nat → Nat} {g : Nat} (hg : g < 240) (tg : tok σ B g) (hn : nd B ln g ∨ kd (B g) = 1) (hM : ∀ h, nd B ln h → g < h → h / 30 = g / 30 → Me σ B h) (ht : ∀ h, g < h → h < 30 * (g / 30) + ln (g / 30) → tok σ B h) : GM (XC l D cA ad) mX4_weigh [.ref 1, .int (nI g)] σ (g_rv (fun τ => τ = s5B σ B g)) := by
  refine GM.of (ls := [some (.ref 1), some (.int (nI g)), none]) (by decide) (Nat.le_of_ble_eq_true rfl) rfl ?_
  refine G.aload_n (k := 0) rfl dX4_weigh_0 ?_
  refine G.getr (j := 1) rfl gci_X4 (by decide) rfl fl_X4_15 dX4_weigh_1 ?_
  refine G.iload_n (k := 1) rfl dX4_weigh_4 ?_
  refine G.ialdN (k := g) rfl (rfl) (by omega) (by decide) dX4_weigh_5 ?_
  rw [tg.2.2]
  have hI : (nI (kd (B g))).toInt = (kd (B g) : Int) := nI_toInt (by have := kd_le (B g); omega)
  by_cases hlf : kd (B g) = 1 ∨ kd (B g) = 2 ∨ kd (B g) = 3
  · refine G.tableOut (tgt := 125) dX4_weigh_6 (Or.inl (by rw [hI]; omega)) (by decide) ?_
    have hfin : set5 σ g (nI (g + 1)) 1 1 (nI (tlo B g)) (nI (tuk B g)) = s5B σ B g := by
      unfold s5B
      rw [nd_leaf hlf, tsz, tdp, tf_lf hlf, tf_lf hlf]; rfl
    have hmain : ∀ τ, τ = σ → ∀ a b c d e, G (XC l D cA ad) mX4_weigh (g_rv (fun τ1 => τ1 = s5B τ B g)) 125 [some (.ref 1), some (.int (nI g)), none] [] (set5 τ g a b c d e) := by
      intro τ eτ a b c d e
      subst eτ
      refine G.aload_n (k := 0) rfl dX4_weigh_125 ?_
      refine G.getr (j := 4) rfl gci_X4 (by decide) rfl fl_X4_24 dX4_weigh_126 ?_
      refine G.iload_n (k := 1) rfl dX4_weigh_129 ?_
      refine G.iload_n (k := 1) rfl dX4_weigh_130 ?_
      refine G.iconst (v := 1) (by decide) dX4_weigh_131 ?_
      refine G.iadd dX4_weigh_132 ?_
      rw [nI_1]
      refine G.iastN (k := g) rfl (rfl) (by omega) (by decide) dX4_weigh_133 ?_
      rw [s5_u6]
      refine G.aload_n (k := 0) rfl dX4_weigh_134 ?_
      refine G.getr (j := 5) rfl gci_X4 (by decide) rfl fl_X4_27 dX4_weigh_135 ?_
      refine G.iload_n (k := 1) rfl dX4_weigh_138 ?_
      refine G.iconst (v := 1) (by decide) dX4_weigh_139 ?_
      refine G.iastN (k := g) rfl (rfl) (by omega) (by decide) dX4_weigh_140 ?_
      rw [s5_u7]
      refine G.aload_n (k := 0) rfl dX4_weigh_141 ?_
      refine G.getr (j := 6) rfl gci_X4 (by decide) rfl fl_X4_30 dX4_weigh_142 ?_
      refine G.iload_n (k := 1) rfl dX4_weigh_145 ?_
      refine G.iconst (v := 1) (by decide) dX4_weigh_146 ?_
      refine G.iastN (k := g) rfl (rfl) (by omega) (by decide) dX4_weigh_147 ?_
      rw [s5_u8]
      refine G.aload_n (k := 0) rfl dX4_weigh_148 ?_
      refine G.getr (j := 7) rfl gci_X4 (by decide) rfl fl_X4_33 dX4_weigh_149 ?_
      refine G.iload_n (k := 1) rfl dX4_weigh_152 ?_
      refine G.aload_n (k := 0) rfl dX4_weigh_153 ?_
      refine G.getr (j := 1) rfl gci_X4 (by decide) rfl fl_X4_15 dX4_weigh_154 ?_
      refine G.iload_n (k := 1) rfl dX4_weigh_157 ?_
      refine G.ialdN (k := g) rfl (rfl) (by omega) (by decide) dX4_weigh_158 ?_
      rw [s5_row _ _ _ _ _ _ _ (by omega), tg.2.2]
      refine G.iconst (v := 1) (by decide) dX4_weigh_159 ?_
      refine G.icmp_ne (tgt := 177) (by decide) dX4_weigh_160 (fun c_160 => ?_) (fun c_160 => ?_)
      · have hn : ¬ kd (B g) = 1 := fun e => c_160 (by rw [e]; rfl)
        have hlo : (0 : Int32) = nI (tlo B g) := by rw [tlo, tf_lf hlf, if_neg hn]; rfl
        refine G.iconst (v := 0) (by decide) dX4_weigh_177 ?_
        rw [hlo]
        refine G.iastN (k := g) rfl (rfl) (by omega) (by decide) dX4_weigh_178 ?_
        rw [s5_u9]
        refine G.aload_n (k := 0) rfl dX4_weigh_179 ?_
        refine G.getr (j := 8) rfl gci_X4 (by decide) rfl fl_X4_36 dX4_weigh_180 ?_
        refine G.iload_n (k := 1) rfl dX4_weigh_183 ?_
        refine G.aload_n (k := 0) rfl dX4_weigh_184 ?_
        refine G.getr (j := 1) rfl gci_X4 (by decide) rfl fl_X4_15 dX4_weigh_185 ?_
        refine G.iload_n (k := 1) rfl dX4_weigh_188 ?_
        refine G.ialdN (k := g) rfl (rfl) (by omega) (by decide) dX4_weigh_189 ?_
        rw [s5_row _ _ _ _ _ _ _ (by omega), tg.2.2]
        refine G.iconst (v := 2) (by decide) dX4_weigh_190 ?_
        refine G.icmp_ne (tgt := 208) (by decide) dX4_weigh_191 (fun c_191 => ?_) (fun c_191 => ?_)
        · have hu : ¬ kd (B g) = 2 := fun e => c_191 (by rw [e]; rfl)
          have huk : (0 : Int32) = nI (tuk B g) := by rw [tuk, tf_lf hlf, if_neg hu]; rfl
          refine G.iconst (v := 0) (by decide) dX4_weigh_208 ?_
          rw [huk]
          refine G.iastN (k := g) rfl (rfl) (by omega) (by decide) dX4_weigh_209 ?_
          rw [s5_u10]
          exact G.vret rfl (hfin) dX4_weigh_210
        · have hu : kd (B g) = 2 := (kd7 (by decide)).mp c_191
          have hgu := kd2_ge hu
          have huk : (1 : Int32) <<< (nI (B g - 80) &&& 31) = nI (tuk B g) := by rw [tuk, tf_lf hlf, if_pos hu, show ((1 : Int32) <<< (nI (B g - 80) &&& 31)) = nI 1 <<< (nI (B g - 80) &&& 31) from rfl, nu_shl 1 (by omega), Nat.one_mul]
          refine G.iconst (v := 1) (by decide) dX4_weigh_194 ?_
          refine G.aload_n (k := 0) rfl dX4_weigh_195 ?_
          refine G.getr (j := 0) rfl gci_X4 (by decide) rfl fl_X4_9 dX4_weigh_196 ?_
          refine G.iload_n (k := 1) rfl dX4_weigh_199 ?_
          refine G.ialdN (k := g) rfl (rfl) (by omega) (by decide) dX4_weigh_200 ?_
          rw [s5_row _ _ _ _ _ _ _ (by omega), tg.2.1]
          refine G.bipush (v := 80) (by decide) dX4_weigh_201 ?_
          refine G.isub dX4_weigh_203 ?_
          rw [show (80 : Int32) = nI 80 from rfl, nu_sub hgu.1]
          refine G.ishl dX4_weigh_204 ?_
          refine G.goto (tgt := 209) (by decide) dX4_weigh_205 ?_
          rw [huk]
          refine G.iastN (k := g) rfl (rfl) (by omega) (by decide) dX4_weigh_209 ?_
          rw [s5_u10]
          exact G.vret rfl (hfin) dX4_weigh_210
      · have hn : kd (B g) = 1 := (kd7 (by decide)).mp c_160
        have hge := kd1_ge hn
        have hlo : (1 : Int32) <<< (nI (B g - 97) &&& 31) = nI (tlo B g) := by rw [tlo, tf_lf hlf, if_pos hn, show ((1 : Int32) <<< (nI (B g - 97) &&& 31)) = nI 1 <<< (nI (B g - 97) &&& 31) from rfl, nu_shl 1 (by omega), Nat.one_mul]
        refine G.iconst (v := 1) (by decide) dX4_weigh_163 ?_
        refine G.aload_n (k := 0) rfl dX4_weigh_164 ?_
        refine G.getr (j := 0) rfl gci_X4 (by decide) rfl fl_X4_9 dX4_weigh_165 ?_
        refine G.iload_n (k := 1) rfl dX4_weigh_168 ?_
        refine G.ialdN (k := g) rfl (rfl) (by omega) (by decide) dX4_weigh_169 ?_
        rw [s5_row _ _ _ _ _ _ _ (by omega), tg.2.1]
        refine G.bipush (v := 97) (by decide) dX4_weigh_170 ?_
        refine G.isub dX4_weigh_172 ?_
        rw [show (97 : Int32) = nI 97 from rfl, nu_sub hge.1]
        refine G.ishl dX4_weigh_173 ?_
        refine G.goto (tgt := 178) (by decide) dX4_weigh_174 ?_
        rw [hlo]
        refine G.iastN (k := g) rfl (rfl) (by omega) (by decide) dX4_weigh_178 ?_
        rw [s5_u9]
        refine G.aload_n (k := 0) rfl dX4_weigh_179 ?_
        refine G.getr (j := 8) rfl gci_X4 (by decide) rfl fl_X4_36 dX4_weigh_180 ?_
        refine G.iload_n (k := 1) rfl dX4_weigh_183 ?_
        refine G.aload_n (k := 0) rfl dX4_weigh_184 ?_
        refine G.getr (j := 1) rfl gci_X4 (by decide) rfl fl_X4_15 dX4_weigh_185 ?_
        refine G.iload_n (k := 1) rfl dX4_weigh_188 ?_
        refine G.ialdN (k := g) rfl (rfl) (by omega) (by decide) dX4_weigh_189 ?_
        rw [s5_row _ _ _ _ _ _ _ (by omega), tg.2.2]
        refine G.iconst (v := 2) (by decide) dX4_weigh_190 ?_
        refine G.icmp_ne (tgt := 208) (by decide) dX4_weigh_191 (fun c_191 => ?_) (fun c_191 => ?_)
        · have hu : ¬ kd (B g) = 2 := fun e => c_191 (by rw [e]; rfl)
          have huk : (0 : Int32) = nI (tuk B g) := by rw [tuk, tf_lf hlf, if_neg hu]; rfl
          refine G.iconst (v := 0) (by decide) dX4_weigh_208 ?_
          rw [huk]
          refine G.iastN (k := g) rfl (rfl) (by omega) (by decide) dX4_weigh_209 ?_
          rw [s5_u10]
          exact G.vret rfl (hfin) dX4_weigh_210
        · have hu : kd (B g) = 2 := (kd7 (by decide)).mp c_191
          have hgu := kd2_ge hu
          have huk : (1 : Int32) <<< (nI (B g - 80) &&& 31) = nI (tuk B g) := by rw [tuk, tf_lf hlf, if_pos hu, show ((1 : Int32) <<< (nI (B g - 80) &&& 31)) = nI 1 <<< (nI (B g - 80) &&& 31) from rfl, nu_shl 1 (by omega), Nat.one_mul]
          refine G.iconst (v := 1) (by decide) dX4_weigh_194 ?_
          refine G.aload_n (k := 0) rfl dX4_weigh_195 ?_
          refine G.getr (j := 0) rfl gci_X4 (by decide) rfl fl_X4_9 dX4_weigh_196 ?_
          refine G.iload_n (k := 1) rfl dX4_weigh_199 ?_
          refine G.ialdN (k := g) rfl (rfl) (by omega) (by decide) dX4_weigh_200 ?_
          rw [s5_row _ _ _ _ _ _ _ (by omega), tg.2.1]
          refine G.bipush (v := 80) (by decide) dX4_weigh_201 ?_
          refine G.isub dX4_weigh_203 ?_
          rw [show (80 : Int32) = nI 80 from rfl, nu_sub hgu.1]
          refine G.ishl dX4_weigh_204 ?_
          refine G.goto (tgt := 209) (by decide) dX4_weigh_205 ?_
          rw [huk]
          refine G.iastN (k := g) rfl (rfl) (by omega) (by decide) dX4_weigh_209 ?_
          rw [s5_u10]
          exact G.vret rfl (hfin) dX4_weigh_210
    have h := hmain σ rfl (σ 6 g) (σ 7 g) (σ 8 g) (σ 9 g) (σ 10 g)
    rw [s5_id] at h
    exact h
  have hn : nd B ln g := hn.resolve_right (fun e => hlf (Or.inl e))
  have hkd := nd_kd hn
  by_cases hc : kd (B g) = 4
  · obtain ⟨n1, eE, dd⟩ := nd_4 hn hc
    have M := hM _ n1 (by omega) dd
    have l1 := nd_lt n1
    refine G.tableIn (tgt := 36) dX4_weigh_6 (by rw [hI, hc]; decide) (by rw [hI, hc]; decide) (by rw [hI, hc]; rfl) (by decide) ?_
    refine G.aload_n (k := 0) rfl dX4_weigh_36 ?_
    refine G.iload_n (k := 1) rfl dX4_weigh_37 ?_
    refine G.iload_n (k := 1) rfl dX4_weigh_38 ?_
    refine G.iconst (v := 1) (by decide) dX4_weigh_39 ?_
    refine G.iadd dX4_weigh_40 ?_
    rw [nI_1]
    refine G.callVvf (c_X4_weighOver_n (kk := kd (B g)) (by omega) l1 tg.2.2 (by omega) M.1 M.2.1 M.2.2.1 M.2.2.2.1 M.2.2.2.2 (by omega)) rfl (gci_X4).1 ml_X4_117 im_yX4_weighOver se_yX4_weighOver gcl_X4_weighOver (by decide) rfl rfl (Nat.le_of_ble_eq_true rfl) dX4_weigh_41 ?_
    refine G.goto (tgt := 210) (by decide) dX4_weigh_44 ?_
    exact G.vret rfl (by unfold s5B; rw [eE, tsz_4 hn hc, tdp_4 hn hc, tlo_4 hn hc, tuk_4 hn hc, if_neg (by omega)]) dX4_weigh_210
  by_cases hc : kd (B g) = 5
  · obtain ⟨n1, n2, eE, dd, d2⟩ := nd_5 hn hc
    have hE1 := nd_E n1
    have M := hM _ n1 (by omega) dd
    have N := hM _ n2 (by omega) d2
    have l1 := nd_lt n1
    have l2 := nd_lt n2
    have b1 := me_b _ n1
    have b2 := me_b _ n2
    have hE2 := nd_E n2
    refine G.tableIn (tgt := 36) dX4_weigh_6 (by rw [hI, hc]; decide) (by rw [hI, hc]; decide) (by rw [hI, hc]; rfl) (by decide) ?_
    refine G.aload_n (k := 0) rfl dX4_weigh_36 ?_
    refine G.iload_n (k := 1) rfl dX4_weigh_37 ?_
    refine G.iload_n (k := 1) rfl dX4_weigh_38 ?_
    refine G.iconst (v := 1) (by decide) dX4_weigh_39 ?_
    refine G.iadd dX4_weigh_40 ?_
    rw [nI_1]
    refine G.callVvf (c_X4_weighOver_5 (kk := kd (B g)) (by omega) l1 tg.2.2 (by omega) M.1 M.2.1 M.2.2.1 M.2.2.2.1 M.2.2.2.2 hc hE1.1 l2 (by omega) (by omega) N.1 N.2.1 N.2.2.1 N.2.2.2.1 N.2.2.2.2) rfl (gci_X4).1 ml_X4_117 im_yX4_weighOver se_yX4_weighOver gcl_X4_weighOver (by decide) rfl rfl (Nat.le_of_ble_eq_true rfl) dX4_weigh_41 ?_
    refine G.goto (tgt := 210) (by decide) dX4_weigh_44 ?_
    exact G.vret rfl (by unfold s5B; rw [eE, tsz_5 hn hc, tdp_5 hn hc, tlo_5 hn hc, tuk_5 hn hc]) dX4_weigh_210
  by_cases hc : kd (B g) = 6
  · obtain ⟨k1, n1, eE, dd⟩ := nd_6 hn hc
    have M := hM _ n1 (by omega) dd
    have l1 := nd_lt n1
    have b1 := me_b _ n1
    have hge := kd1_ge k1
    have t1 := ht (g + 1) (by omega) (by have hE := (nd_E n1).2.1; rw [dd] at hE; have := (nd_E n1).1; omega)
    refine G.tableIn (tgt := 47) dX4_weigh_6 (by rw [hI, hc]; decide) (by rw [hI, hc]; decide) (by rw [hI, hc]; rfl) (by decide) ?_
    refine G.aload_n (k := 0) rfl dX4_weigh_47 ?_
    refine G.iload_n (k := 1) rfl dX4_weigh_48 ?_
    refine G.iload_n (k := 1) rfl dX4_weigh_49 ?_
    refine G.iconst (v := 2) (by decide) dX4_weigh_50 ?_
    refine G.iadd dX4_weigh_51 ?_
    rw [show nI g + 2 = nI (g + 2) from nI_add g 2]
    refine G.callVvf (c_X4_weighOver_n (kk := kd (B g)) (by omega) l1 tg.2.2 (by omega) M.1 M.2.1 M.2.2.1 M.2.2.2.1 M.2.2.2.2 (by omega)) rfl (gci_X4).1 ml_X4_117 im_yX4_weighOver se_yX4_weighOver gcl_X4_weighOver (by decide) rfl rfl (Nat.le_of_ble_eq_true rfl) dX4_weigh_52 ?_
    refine G.aload_n (k := 0) rfl dX4_weigh_55 ?_
    refine G.getr (j := 7) rfl gci_X4 (by decide) rfl fl_X4_33 dX4_weigh_56 ?_
    refine G.iload_n (k := 1) rfl dX4_weigh_59 ?_
    refine G.dup2 dX4_weigh_60 ?_
    refine G.ialdN (k := g) rfl (rfl) (by omega) (by decide) dX4_weigh_61 ?_
    rw [s5_r9]
    refine G.iconst (v := 1) (by decide) dX4_weigh_62 ?_
    refine G.aload_n (k := 0) rfl dX4_weigh_63 ?_
    refine G.iload_n (k := 1) rfl dX4_weigh_64 ?_
    refine G.iconst (v := 1) (by decide) dX4_weigh_65 ?_
    refine G.iadd dX4_weigh_66 ?_
    rw [nI_1]
    refine G.callVif (c_X4_nameAt (B := B) (by omega) ⟨t1.1, by rw [s5_row _ _ _ _ _ _ _ (by omega)]; exact t1.2.1, by rw [s5_row _ _ _ _ _ _ _ (by omega)]; exact t1.2.2⟩) rfl (gci_X4).1 ml_X4_84 im_yX4_nameAt se_yX4_nameAt gcl_X4_nameAt (by decide) rfl rfl (Nat.le_of_ble_eq_true rfl) dX4_weigh_67 ?_
    rw [nmv_1 k1]
    refine G.ishl dX4_weigh_70 ?_
    refine G.iconst (v := (-1)) (by decide) dX4_weigh_71 ?_
    refine G.ixor dX4_weigh_72 ?_
    refine G.iand dX4_weigh_73 ?_
    rw [mdel_j _ b1.1 _ (by omega)]
    refine G.iastN (k := g) rfl (rfl) (by omega) (by decide) dX4_weigh_74 ?_
    rw [s5_u9]
    refine G.goto (tgt := 210) (by decide) dX4_weigh_75 ?_
    exact G.vret rfl (by unfold s5B; rw [eE, tsz_6 hn hc, tdp_6 hn hc, tlo_6 hn hc, tuk_6 hn hc, if_neg (by omega)]) dX4_weigh_210
  have hc : kd (B g) = 7 := by omega
  obtain ⟨k1, k2, n1, eE, dd⟩ := nd_7 hn hc
  have M := hM _ n1 (by omega) dd
  have l1 := nd_lt n1
  have b1 := me_b _ n1
  have hge := kd1_ge k1
  have hge2 := kd1_ge k2
  have t1 := ht (g + 1) (by omega) (by have hE := (nd_E n1).2.1; rw [dd] at hE; have := (nd_E n1).1; omega)
  have t2 := ht (g + 2) (by omega) (by have hE := (nd_E n1).2.1; rw [dd] at hE; have := (nd_E n1).1; omega)
  refine G.tableIn (tgt := 78) dX4_weigh_6 (by rw [hI, hc]; decide) (by rw [hI, hc]; decide) (by rw [hI, hc]; rfl) (by decide) ?_
  refine G.aload_n (k := 0) rfl dX4_weigh_78 ?_
  refine G.iload_n (k := 1) rfl dX4_weigh_79 ?_
  refine G.iload_n (k := 1) rfl dX4_weigh_80 ?_
  refine G.iconst (v := 3) (by decide) dX4_weigh_81 ?_
  refine G.iadd dX4_weigh_82 ?_
  rw [show nI g + 3 = nI (g + 3) from nI_add g 3]
  refine G.callVvf (c_X4_weighOver_n (kk := kd (B g)) (by omega) l1 tg.2.2 (by omega) M.1 M.2.1 M.2.2.1 M.2.2.2.1 M.2.2.2.2 (by omega)) rfl (gci_X4).1 ml_X4_117 im_yX4_weighOver se_yX4_weighOver gcl_X4_weighOver (by decide) rfl rfl (Nat.le_of_ble_eq_true rfl) dX4_weigh_83 ?_
  refine G.ldc ct_X4_44 dX4_weigh_86 ?_
  refine G.aload_n (k := 0) rfl dX4_weigh_88 ?_
  refine G.iload_n (k := 1) rfl dX4_weigh_89 ?_
  refine G.iconst (v := 1) (by decide) dX4_weigh_90 ?_
  refine G.iadd dX4_weigh_91 ?_
  rw [nI_1]
  refine G.callVif (c_X4_nameAt (B := B) (by omega) ⟨t1.1, by rw [s5_row _ _ _ _ _ _ _ (by omega)]; exact t1.2.1, by rw [s5_row _ _ _ _ _ _ _ (by omega)]; exact t1.2.2⟩) rfl (gci_X4).1 ml_X4_84 im_yX4_nameAt se_yX4_nameAt gcl_X4_nameAt (by decide) rfl rfl (Nat.le_of_ble_eq_true rfl) dX4_weigh_92 ?_
  rw [nmv_1 k1]
  refine G.aload_n (k := 0) rfl dX4_weigh_95 ?_
  refine G.iload_n (k := 1) rfl dX4_weigh_96 ?_
  refine G.iconst (v := 2) (by decide) dX4_weigh_97 ?_
  refine G.iadd dX4_weigh_98 ?_
  rw [show nI g + 2 = nI (g + 2) from nI_add g 2]
  refine G.callVif (c_X4_nameAt (B := B) (by omega) ⟨t2.1, by rw [s5_row _ _ _ _ _ _ _ (by omega)]; exact t2.2.1, by rw [s5_row _ _ _ _ _ _ _ (by omega)]; exact t2.2.2⟩) rfl (gci_X4).1 ml_X4_84 im_yX4_nameAt se_yX4_nameAt gcl_X4_nameAt (by decide) rfl rfl (Nat.le_of_ble_eq_true rfl) dX4_weigh_99 ?_
  rw [nmv_1 k2]
  refine G.callSif (c_X5_swapFirst (c := tn_id) tn_P_id (show B (g + 1) - 97 < 6 by omega) (show B (g + 2) - 97 < 6 by omega)) ml_X4_87 ws_yX5_swapFirst gcl_X5_swapFirst (by decide) rfl rfl (Nat.le_of_ble_eq_true rfl) dX4_weigh_102 ?_
  refine G.ist2 (by decide) rfl dX4_weigh_105 ?_
  refine G.aload_n (k := 0) rfl dX4_weigh_106 ?_
  refine G.getr (j := 7) rfl gci_X4 (by decide) rfl fl_X4_33 dX4_weigh_107 ?_
  refine G.iload_n (k := 1) rfl dX4_weigh_110 ?_
  refine G.iload_n (k := 2) rfl dX4_weigh_111 ?_
  refine G.aload_n (k := 0) rfl dX4_weigh_112 ?_
  refine G.getr (j := 7) rfl gci_X4 (by decide) rfl fl_X4_33 dX4_weigh_113 ?_
  refine G.iload_n (k := 1) rfl dX4_weigh_116 ?_
  refine G.ialdN (k := g) rfl (rfl) (by omega) (by decide) dX4_weigh_117 ?_
  rw [s5_r9]
  refine G.callSif (c_X5_sources (tn_P_cmp tn_P_id (tn_P_sw (by omega) (by omega))).1 (show tlo B (g + 3) < 2 ^ 31 by omega)) ml_X4_121 ws_yX5_sources gcl_X5_sources (by decide) rfl rfl (Nat.le_of_ble_eq_true rfl) dX4_weigh_118 ?_
  rw [tn_id_cmp (tn_P_sw (by omega) (by omega))]
  refine G.iastN (k := g) rfl (rfl) (by omega) (by decide) dX4_weigh_121 ?_
  rw [s5_u9]
  refine G.goto (tgt := 210) (by decide) dX4_weigh_122 ?_
  exact G.vret rfl (by unfold s5B; rw [eE, tsz_7 hn hc, tdp_7 hn hc, tlo_7 hn hc, tuk_7 hn hc, if_pos hc]; rfl) dX4_weigh_210
end T33

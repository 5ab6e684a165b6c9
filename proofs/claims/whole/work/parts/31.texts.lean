/-! ===== texts of the class: rows 2 bytes, 3 kinds, 4 lengths, 5 faults, 6 ends, 7 sizes, 8 depths, 9 loose names, 10 unknowns, 11 told fresh; the turn at 1 10 ===== -/
def tok (σ : gS) (B : Nat → Nat) (g : Nat) : Prop := B g < 256 ∧ σ 2 g = nI (B g) ∧ σ 3 g = nI (kd (B g))
theorem kd7 {b : Nat} {k : Nat} (hk : k < 2 ^ 31) : (nI (kd b) = nI k) ↔ kd b = k := nI_eq (by have := kd_le b; omega) hk
def tcap (t : Nat) : Nat := if t < 8 then 30 else 24
def wlX (σ : gS) (t : Nat) : Prop := 0 < σ 4 t ∧ σ 5 t = -1
def nmv (b : Nat) : Nat := if kd b = 1 then b - 97 else 0
theorem nmv_lt : ∀ b, b < 256 → nmv b < 6 := by decide +kernel
theorem nmv_1 {b : Nat} (h : kd b = 1) : nmv b = b - 97 := if_pos h
theorem kd1_ge {b : Nat} (h : kd b = 1) : 97 ≤ b ∧ b ≤ 102 := by
  unfold kd at h
  repeat' split at h
  all_goals first | omega | assumption
theorem kd2_ge {b : Nat} (h : kd b = 2) : 80 ≤ b ∧ b ≤ 85 := by
  unfold kd at h
  repeat' split at h
  all_goals first | omega | assumption
/-- the fault of a term's text -/
def flg (B : Nat → Nat) (s n : Nat) : Nat → Nat → Int32
  | 0, _ => if n = 0 ∨ scn B s n = some (0, 0) then -1 else nI n
  | j + 1, i => if scn B s (i + 1) = none then nI i else flg B s n j (i + 1)
def flT (B : Nat → Nat) (s n : Nat) : Int32 := flg B s n n 0
/-- the fault of a text of twos -/
def fl2 (B : Nat → Nat) (s n sec : Nat) : Nat → Nat → Int32
  | 0, _ => if n % 2 = 0 then -1 else nI n
  | j + 1, i => if kd (B (s + i)) = (if i % 2 = 0 then 1 else sec) then fl2 B s n sec j (i + 1) else nI i
theorem nu_rem2 {i : Nat} (h : i < 2 ^ 31) : nI i - nI i / 2 * 2 = nI (i % 2) := by
  apply Int32.toInt_inj.mp
  rw [rem_toInt, nI_toInt h, nI_toInt (by omega), show (2 : Int32).toInt = 2 from by decide, Int.tmod_eq_emod_of_nonneg (by omega)]
  omega
/-- what FRESH tells, by its first k twos -/
def tld (B : Nat → Nat) : Nat → Nat → Nat
  | 0, _ => 0
  | k + 1, u => if B (240 + 2 * k + 1) = 80 + u then tld B k u ||| 2 ^ (B (240 + 2 * k) - 97) else tld B k u
/-- THE TURN, by its first k swaps -/
def tnT (B : Nat → Nat) : Nat → Nat
  | 0 => tn_id
  | k + 1 => tn_cmp (tnT B k) (tn_sw (B (270 + 2 * k) - 97) (B (270 + 2 * k + 1) - 97))
def sumN (f : Nat → Nat) : Nat → Nat
  | 0 => 0
  | k + 1 => sumN f k + f k
section T31
variable {l : Launch} {D : va_G} {cA : ClassId} {ad : Nat → Nat}
variable {σ : gS}
set_option maxHeartbeats 4000000 in
set_option maxRecDepth 100000 in
theorem c_X4_kindOf {b : Nat} (hb : b < 256) : GM (XC l D cA ad) mX4_kindOf [.int (nI b)] σ (g_ri (fun r τ => r = nI (kd b) ∧ τ = σ)) := by
  refine GM.of (ls := [some (.int (nI b))]) (by decide) (Nat.le_of_ble_eq_true rfl) rfl ?_
  refine G.iload_n (k := 0) rfl dX4_kindOf_0 ?_
  refine G.bipush (v := 97) (by decide) dX4_kindOf_1 ?_
  refine G.icmp_lt (tgt := 14) (by decide) dX4_kindOf_3 (fun c_3 => ?_) (fun c_3 => ?_)
  · have n1 : ¬ (97 ≤ b ∧ b ≤ 102) := fun h => by
      have := (nI_ltI (by omega) (by decide)).mp (show nI b < nI 97 from c_3)
      omega
    refine G.iload_n (k := 0) rfl dX4_kindOf_14 ?_
    refine G.bipush (v := 80) (by decide) dX4_kindOf_15 ?_
    refine G.icmp_lt (tgt := 28) (by decide) dX4_kindOf_17 (fun c_17 => ?_) (fun c_17 => ?_)
    · have n2 : ¬ (80 ≤ b ∧ b ≤ 85) := fun h => by
        have := (nI_ltI (by omega) (by decide)).mp (show nI b < nI 80 from c_17)
        omega
      refine G.iload_n (k := 0) rfl dX4_kindOf_28 ?_
      refine G.bipush (v := 48) (by decide) dX4_kindOf_29 ?_
      refine G.icmp_lt (tgt := 42) (by decide) dX4_kindOf_31 (fun c_31 => ?_) (fun c_31 => ?_)
      · have n3 : ¬ (48 ≤ b ∧ b ≤ 52) := fun h => by
          have := (nI_ltI (by omega) (by decide)).mp (show nI b < nI 48 from c_31)
          omega
        refine G.iload_n (k := 0) rfl dX4_kindOf_42 ?_
        have hI : (nI b).toInt = (b : Int) := nI_toInt (by omega)
        by_cases e1 : b = 33
        · subst e1
          refine G.lookup (tgt := 91) dX4_kindOf_43 (by decide +kernel) rfl (by decide +kernel) ?_
          refine G.bipush (v := 7) (by decide) dX4_kindOf_91 ?_
          exact G.iret rfl ⟨rfl, rfl⟩ dX4_kindOf_93
        by_cases e2 : b = 42
        · subst e2
          refine G.lookup (tgt := 84) dX4_kindOf_43 (by decide +kernel) rfl (by decide +kernel) ?_
          refine G.iconst (v := 3) (by decide) dX4_kindOf_84 ?_
          exact G.iret rfl ⟨rfl, rfl⟩ dX4_kindOf_85
        by_cases e3 : b = 44
        · subst e3
          refine G.lookup (tgt := 86) dX4_kindOf_43 (by decide +kernel) rfl (by decide +kernel) ?_
          refine G.iconst (v := 5) (by decide) dX4_kindOf_86 ?_
          exact G.iret rfl ⟨rfl, rfl⟩ dX4_kindOf_87
        by_cases e4 : b = 46
        · subst e4
          refine G.lookup (tgt := 88) dX4_kindOf_43 (by decide +kernel) rfl (by decide +kernel) ?_
          refine G.bipush (v := 6) (by decide) dX4_kindOf_88 ?_
          exact G.iret rfl ⟨rfl, rfl⟩ dX4_kindOf_90
        have hr : kd b = 0 := by unfold kd; rw [if_neg n1, if_neg n2, if_neg e2, if_neg n3, if_neg e3, if_neg e4, if_neg e1]
        refine G.lookup (off := 51) (tgt := 94) dX4_kindOf_43 (by decide +kernel) (by rw [hI]; simp only [Op.lookupswitch.offset]; repeat' (first | rfl | (rw [if_neg (by omega)]) | (simp; omega))) (by decide +kernel) ?_
        refine G.iconst (v := 0) (by decide) dX4_kindOf_94 ?_
        exact G.iret rfl ⟨by rw [hr]; rfl, rfl⟩ dX4_kindOf_95
      · have m1 : 48 ≤ b := by
          rcases Nat.lt_or_ge b 48 with q | q
          · exact absurd (show nI b < nI 48 from nI_lt q (by decide)) c_31
          · exact q
        refine G.iload_n (k := 0) rfl dX4_kindOf_34 ?_
        refine G.bipush (v := 52) (by decide) dX4_kindOf_35 ?_
        refine G.icmp_gt (tgt := 42) (by decide) dX4_kindOf_37 (fun c_37 => ?_) (fun c_37 => ?_)
        · have n3 : ¬ (48 ≤ b ∧ b ≤ 52) := fun h => by
            have := (nI_ltI (by decide) (by omega)).mp (show nI 52 < nI b from c_37)
            omega
          refine G.iload_n (k := 0) rfl dX4_kindOf_42 ?_
          have hI : (nI b).toInt = (b : Int) := nI_toInt (by omega)
          by_cases e1 : b = 33
          · subst e1
            refine G.lookup (tgt := 91) dX4_kindOf_43 (by decide +kernel) rfl (by decide +kernel) ?_
            refine G.bipush (v := 7) (by decide) dX4_kindOf_91 ?_
            exact G.iret rfl ⟨rfl, rfl⟩ dX4_kindOf_93
          by_cases e2 : b = 42
          · subst e2
            refine G.lookup (tgt := 84) dX4_kindOf_43 (by decide +kernel) rfl (by decide +kernel) ?_
            refine G.iconst (v := 3) (by decide) dX4_kindOf_84 ?_
            exact G.iret rfl ⟨rfl, rfl⟩ dX4_kindOf_85
          by_cases e3 : b = 44
          · subst e3
            refine G.lookup (tgt := 86) dX4_kindOf_43 (by decide +kernel) rfl (by decide +kernel) ?_
            refine G.iconst (v := 5) (by decide) dX4_kindOf_86 ?_
            exact G.iret rfl ⟨rfl, rfl⟩ dX4_kindOf_87
          by_cases e4 : b = 46
          · subst e4
            refine G.lookup (tgt := 88) dX4_kindOf_43 (by decide +kernel) rfl (by decide +kernel) ?_
            refine G.bipush (v := 6) (by decide) dX4_kindOf_88 ?_
            exact G.iret rfl ⟨rfl, rfl⟩ dX4_kindOf_90
          have hr : kd b = 0 := by unfold kd; rw [if_neg n1, if_neg n2, if_neg e2, if_neg n3, if_neg e3, if_neg e4, if_neg e1]
          refine G.lookup (off := 51) (tgt := 94) dX4_kindOf_43 (by decide +kernel) (by rw [hI]; simp only [Op.lookupswitch.offset]; repeat' (first | rfl | (rw [if_neg (by omega)]) | (simp; omega))) (by decide +kernel) ?_
          refine G.iconst (v := 0) (by decide) dX4_kindOf_94 ?_
          exact G.iret rfl ⟨by rw [hr]; rfl, rfl⟩ dX4_kindOf_95
        · have m2 : b ≤ 52 := by
            rcases Nat.lt_or_ge 52 b with q | q
            · exact absurd (show nI 52 < nI b from nI_lt q (by omega)) c_37
            · exact q
          have hr : kd b = 4 := by unfold kd; rw [if_neg n1, if_neg n2, if_neg (by omega), if_pos ⟨m1, m2⟩]
          refine G.iconst (v := 4) (by decide) dX4_kindOf_40 ?_
          exact G.iret rfl (⟨by rw [hr]; rfl, rfl⟩) dX4_kindOf_41
    · have m1 : 80 ≤ b := by
        rcases Nat.lt_or_ge b 80 with q | q
        · exact absurd (show nI b < nI 80 from nI_lt q (by decide)) c_17
        · exact q
      refine G.iload_n (k := 0) rfl dX4_kindOf_20 ?_
      refine G.bipush (v := 85) (by decide) dX4_kindOf_21 ?_
      refine G.icmp_gt (tgt := 28) (by decide) dX4_kindOf_23 (fun c_23 => ?_) (fun c_23 => ?_)
      · have n2 : ¬ (80 ≤ b ∧ b ≤ 85) := fun h => by
          have := (nI_ltI (by decide) (by omega)).mp (show nI 85 < nI b from c_23)
          omega
        refine G.iload_n (k := 0) rfl dX4_kindOf_28 ?_
        refine G.bipush (v := 48) (by decide) dX4_kindOf_29 ?_
        refine G.icmp_lt (tgt := 42) (by decide) dX4_kindOf_31 (fun c_31 => ?_) (fun c_31 => ?_)
        · have n3 : ¬ (48 ≤ b ∧ b ≤ 52) := fun h => by
            have := (nI_ltI (by omega) (by decide)).mp (show nI b < nI 48 from c_31)
            omega
          refine G.iload_n (k := 0) rfl dX4_kindOf_42 ?_
          have hI : (nI b).toInt = (b : Int) := nI_toInt (by omega)
          by_cases e1 : b = 33
          · subst e1
            refine G.lookup (tgt := 91) dX4_kindOf_43 (by decide +kernel) rfl (by decide +kernel) ?_
            refine G.bipush (v := 7) (by decide) dX4_kindOf_91 ?_
            exact G.iret rfl ⟨rfl, rfl⟩ dX4_kindOf_93
          by_cases e2 : b = 42
          · subst e2
            refine G.lookup (tgt := 84) dX4_kindOf_43 (by decide +kernel) rfl (by decide +kernel) ?_
            refine G.iconst (v := 3) (by decide) dX4_kindOf_84 ?_
            exact G.iret rfl ⟨rfl, rfl⟩ dX4_kindOf_85
          by_cases e3 : b = 44
          · subst e3
            refine G.lookup (tgt := 86) dX4_kindOf_43 (by decide +kernel) rfl (by decide +kernel) ?_
            refine G.iconst (v := 5) (by decide) dX4_kindOf_86 ?_
            exact G.iret rfl ⟨rfl, rfl⟩ dX4_kindOf_87
          by_cases e4 : b = 46
          · subst e4
            refine G.lookup (tgt := 88) dX4_kindOf_43 (by decide +kernel) rfl (by decide +kernel) ?_
            refine G.bipush (v := 6) (by decide) dX4_kindOf_88 ?_
            exact G.iret rfl ⟨rfl, rfl⟩ dX4_kindOf_90
          have hr : kd b = 0 := by unfold kd; rw [if_neg n1, if_neg n2, if_neg e2, if_neg n3, if_neg e3, if_neg e4, if_neg e1]
          refine G.lookup (off := 51) (tgt := 94) dX4_kindOf_43 (by decide +kernel) (by rw [hI]; simp only [Op.lookupswitch.offset]; repeat' (first | rfl | (rw [if_neg (by omega)]) | (simp; omega))) (by decide +kernel) ?_
          refine G.iconst (v := 0) (by decide) dX4_kindOf_94 ?_
          exact G.iret rfl ⟨by rw [hr]; rfl, rfl⟩ dX4_kindOf_95
        · have m1 : 48 ≤ b := by
            rcases Nat.lt_or_ge b 48 with q | q
            · exact absurd (show nI b < nI 48 from nI_lt q (by decide)) c_31
            · exact q
          refine G.iload_n (k := 0) rfl dX4_kindOf_34 ?_
          refine G.bipush (v := 52) (by decide) dX4_kindOf_35 ?_
          refine G.icmp_gt (tgt := 42) (by decide) dX4_kindOf_37 (fun c_37 => ?_) (fun c_37 => ?_)
          · have n3 : ¬ (48 ≤ b ∧ b ≤ 52) := fun h => by
              have := (nI_ltI (by decide) (by omega)).mp (show nI 52 < nI b from c_37)
              omega
            refine G.iload_n (k := 0) rfl dX4_kindOf_42 ?_
            have hI : (nI b).toInt = (b : Int) := nI_toInt (by omega)
            by_cases e1 : b = 33
            · subst e1
              refine G.lookup (tgt := 91) dX4_kindOf_43 (by decide +kernel) rfl (by decide +kernel) ?_
              refine G.bipush (v := 7) (by decide) dX4_kindOf_91 ?_
              exact G.iret rfl ⟨rfl, rfl⟩ dX4_kindOf_93
            by_cases e2 : b = 42
            · subst e2
              refine G.lookup (tgt := 84) dX4_kindOf_43 (by decide +kernel) rfl (by decide +kernel) ?_
              refine G.iconst (v := 3) (by decide) dX4_kindOf_84 ?_
              exact G.iret rfl ⟨rfl, rfl⟩ dX4_kindOf_85
            by_cases e3 : b = 44
            · subst e3
              refine G.lookup (tgt := 86) dX4_kindOf_43 (by decide +kernel) rfl (by decide +kernel) ?_
              refine G.iconst (v := 5) (by decide) dX4_kindOf_86 ?_
              exact G.iret rfl ⟨rfl, rfl⟩ dX4_kindOf_87
            by_cases e4 : b = 46
            · subst e4
              refine G.lookup (tgt := 88) dX4_kindOf_43 (by decide +kernel) rfl (by decide +kernel) ?_
              refine G.bipush (v := 6) (by decide) dX4_kindOf_88 ?_
              exact G.iret rfl ⟨rfl, rfl⟩ dX4_kindOf_90
            have hr : kd b = 0 := by unfold kd; rw [if_neg n1, if_neg n2, if_neg e2, if_neg n3, if_neg e3, if_neg e4, if_neg e1]
            refine G.lookup (off := 51) (tgt := 94) dX4_kindOf_43 (by decide +kernel) (by rw [hI]; simp only [Op.lookupswitch.offset]; repeat' (first | rfl | (rw [if_neg (by omega)]) | (simp; omega))) (by decide +kernel) ?_
            refine G.iconst (v := 0) (by decide) dX4_kindOf_94 ?_
            exact G.iret rfl ⟨by rw [hr]; rfl, rfl⟩ dX4_kindOf_95
          · have m2 : b ≤ 52 := by
              rcases Nat.lt_or_ge 52 b with q | q
              · exact absurd (show nI 52 < nI b from nI_lt q (by omega)) c_37
              · exact q
            have hr : kd b = 4 := by unfold kd; rw [if_neg n1, if_neg n2, if_neg (by omega), if_pos ⟨m1, m2⟩]
            refine G.iconst (v := 4) (by decide) dX4_kindOf_40 ?_
            exact G.iret rfl (⟨by rw [hr]; rfl, rfl⟩) dX4_kindOf_41
      · have m2 : b ≤ 85 := by
          rcases Nat.lt_or_ge 85 b with q | q
          · exact absurd (show nI 85 < nI b from nI_lt q (by omega)) c_23
          · exact q
        have hr : kd b = 2 := by unfold kd; rw [if_neg n1, if_pos ⟨m1, m2⟩]
        refine G.iconst (v := 2) (by decide) dX4_kindOf_26 ?_
        exact G.iret rfl (⟨by rw [hr]; rfl, rfl⟩) dX4_kindOf_27
  · have m1 : 97 ≤ b := by
      rcases Nat.lt_or_ge b 97 with q | q
      · exact absurd (show nI b < nI 97 from nI_lt q (by decide)) c_3
      · exact q
    refine G.iload_n (k := 0) rfl dX4_kindOf_6 ?_
    refine G.bipush (v := 102) (by decide) dX4_kindOf_7 ?_
    refine G.icmp_gt (tgt := 14) (by decide) dX4_kindOf_9 (fun c_9 => ?_) (fun c_9 => ?_)
    · have n1 : ¬ (97 ≤ b ∧ b ≤ 102) := fun h => by
        have := (nI_ltI (by decide) (by omega)).mp (show nI 102 < nI b from c_9)
        omega
      refine G.iload_n (k := 0) rfl dX4_kindOf_14 ?_
      refine G.bipush (v := 80) (by decide) dX4_kindOf_15 ?_
      refine G.icmp_lt (tgt := 28) (by decide) dX4_kindOf_17 (fun c_17 => ?_) (fun c_17 => ?_)
      · have n2 : ¬ (80 ≤ b ∧ b ≤ 85) := fun h => by
          have := (nI_ltI (by omega) (by decide)).mp (show nI b < nI 80 from c_17)
          omega
        refine G.iload_n (k := 0) rfl dX4_kindOf_28 ?_
        refine G.bipush (v := 48) (by decide) dX4_kindOf_29 ?_
        refine G.icmp_lt (tgt := 42) (by decide) dX4_kindOf_31 (fun c_31 => ?_) (fun c_31 => ?_)
        · have n3 : ¬ (48 ≤ b ∧ b ≤ 52) := fun h => by
            have := (nI_ltI (by omega) (by decide)).mp (show nI b < nI 48 from c_31)
            omega
          refine G.iload_n (k := 0) rfl dX4_kindOf_42 ?_
          have hI : (nI b).toInt = (b : Int) := nI_toInt (by omega)
          by_cases e1 : b = 33
          · subst e1
            refine G.lookup (tgt := 91) dX4_kindOf_43 (by decide +kernel) rfl (by decide +kernel) ?_
            refine G.bipush (v := 7) (by decide) dX4_kindOf_91 ?_
            exact G.iret rfl ⟨rfl, rfl⟩ dX4_kindOf_93
          by_cases e2 : b = 42
          · subst e2
            refine G.lookup (tgt := 84) dX4_kindOf_43 (by decide +kernel) rfl (by decide +kernel) ?_
            refine G.iconst (v := 3) (by decide) dX4_kindOf_84 ?_
            exact G.iret rfl ⟨rfl, rfl⟩ dX4_kindOf_85
          by_cases e3 : b = 44
          · subst e3
            refine G.lookup (tgt := 86) dX4_kindOf_43 (by decide +kernel) rfl (by decide +kernel) ?_
            refine G.iconst (v := 5) (by decide) dX4_kindOf_86 ?_
            exact G.iret rfl ⟨rfl, rfl⟩ dX4_kindOf_87
          by_cases e4 : b = 46
          · subst e4
            refine G.lookup (tgt := 88) dX4_kindOf_43 (by decide +kernel) rfl (by decide +kernel) ?_
            refine G.bipush (v := 6) (by decide) dX4_kindOf_88 ?_
            exact G.iret rfl ⟨rfl, rfl⟩ dX4_kindOf_90
          have hr : kd b = 0 := by unfold kd; rw [if_neg n1, if_neg n2, if_neg e2, if_neg n3, if_neg e3, if_neg e4, if_neg e1]
          refine G.lookup (off := 51) (tgt := 94) dX4_kindOf_43 (by decide +kernel) (by rw [hI]; simp only [Op.lookupswitch.offset]; repeat' (first | rfl | (rw [if_neg (by omega)]) | (simp; omega))) (by decide +kernel) ?_
          refine G.iconst (v := 0) (by decide) dX4_kindOf_94 ?_
          exact G.iret rfl ⟨by rw [hr]; rfl, rfl⟩ dX4_kindOf_95
        · have m1 : 48 ≤ b := by
            rcases Nat.lt_or_ge b 48 with q | q
            · exact absurd (show nI b < nI 48 from nI_lt q (by decide)) c_31
            · exact q
          refine G.iload_n (k := 0) rfl dX4_kindOf_34 ?_
          refine G.bipush (v := 52) (by decide) dX4_kindOf_35 ?_
          refine G.icmp_gt (tgt := 42) (by decide) dX4_kindOf_37 (fun c_37 => ?_) (fun c_37 => ?_)
          · have n3 : ¬ (48 ≤ b ∧ b ≤ 52) := fun h => by
              have := (nI_ltI (by decide) (by omega)).mp (show nI 52 < nI b from c_37)
              omega
            refine G.iload_n (k := 0) rfl dX4_kindOf_42 ?_
            have hI : (nI b).toInt = (b : Int) := nI_toInt (by omega)
            by_cases e1 : b = 33
            · subst e1
              refine G.lookup (tgt := 91) dX4_kindOf_43 (by decide +kernel) rfl (by decide +kernel) ?_
              refine G.bipush (v := 7) (by decide) dX4_kindOf_91 ?_
              exact G.iret rfl ⟨rfl, rfl⟩ dX4_kindOf_93
            by_cases e2 : b = 42
            · subst e2
              refine G.lookup (tgt := 84) dX4_kindOf_43 (by decide +kernel) rfl (by decide +kernel) ?_
              refine G.iconst (v := 3) (by decide) dX4_kindOf_84 ?_
              exact G.iret rfl ⟨rfl, rfl⟩ dX4_kindOf_85
            by_cases e3 : b = 44
            · subst e3
              refine G.lookup (tgt := 86) dX4_kindOf_43 (by decide +kernel) rfl (by decide +kernel) ?_
              refine G.iconst (v := 5) (by decide) dX4_kindOf_86 ?_
              exact G.iret rfl ⟨rfl, rfl⟩ dX4_kindOf_87
            by_cases e4 : b = 46
            · subst e4
              refine G.lookup (tgt := 88) dX4_kindOf_43 (by decide +kernel) rfl (by decide +kernel) ?_
              refine G.bipush (v := 6) (by decide) dX4_kindOf_88 ?_
              exact G.iret rfl ⟨rfl, rfl⟩ dX4_kindOf_90
            have hr : kd b = 0 := by unfold kd; rw [if_neg n1, if_neg n2, if_neg e2, if_neg n3, if_neg e3, if_neg e4, if_neg e1]
            refine G.lookup (off := 51) (tgt := 94) dX4_kindOf_43 (by decide +kernel) (by rw [hI]; simp only [Op.lookupswitch.offset]; repeat' (first | rfl | (rw [if_neg (by omega)]) | (simp; omega))) (by decide +kernel) ?_
            refine G.iconst (v := 0) (by decide) dX4_kindOf_94 ?_
            exact G.iret rfl ⟨by rw [hr]; rfl, rfl⟩ dX4_kindOf_95
          · have m2 : b ≤ 52 := by
              rcases Nat.lt_or_ge 52 b with q | q
              · exact absurd (show nI 52 < nI b from nI_lt q (by omega)) c_37
              · exact q
            have hr : kd b = 4 := by unfold kd; rw [if_neg n1, if_neg n2, if_neg (by omega), if_pos ⟨m1, m2⟩]
            refine G.iconst (v := 4) (by decide) dX4_kindOf_40 ?_
            exact G.iret rfl (⟨by rw [hr]; rfl, rfl⟩) dX4_kindOf_41
      · have m1 : 80 ≤ b := by
          rcases Nat.lt_or_ge b 80 with q | q
          · exact absurd (show nI b < nI 80 from nI_lt q (by decide)) c_17
          · exact q
        refine G.iload_n (k := 0) rfl dX4_kindOf_20 ?_
        refine G.bipush (v := 85) (by decide) dX4_kindOf_21 ?_
        refine G.icmp_gt (tgt := 28) (by decide) dX4_kindOf_23 (fun c_23 => ?_) (fun c_23 => ?_)
        · have n2 : ¬ (80 ≤ b ∧ b ≤ 85) := fun h => by
            have := (nI_ltI (by decide) (by omega)).mp (show nI 85 < nI b from c_23)
            omega
          refine G.iload_n (k := 0) rfl dX4_kindOf_28 ?_
          refine G.bipush (v := 48) (by decide) dX4_kindOf_29 ?_
          refine G.icmp_lt (tgt := 42) (by decide) dX4_kindOf_31 (fun c_31 => ?_) (fun c_31 => ?_)
          · have n3 : ¬ (48 ≤ b ∧ b ≤ 52) := fun h => by
              have := (nI_ltI (by omega) (by decide)).mp (show nI b < nI 48 from c_31)
              omega
            refine G.iload_n (k := 0) rfl dX4_kindOf_42 ?_
            have hI : (nI b).toInt = (b : Int) := nI_toInt (by omega)
            by_cases e1 : b = 33
            · subst e1
              refine G.lookup (tgt := 91) dX4_kindOf_43 (by decide +kernel) rfl (by decide +kernel) ?_
              refine G.bipush (v := 7) (by decide) dX4_kindOf_91 ?_
              exact G.iret rfl ⟨rfl, rfl⟩ dX4_kindOf_93
            by_cases e2 : b = 42
            · subst e2
              refine G.lookup (tgt := 84) dX4_kindOf_43 (by decide +kernel) rfl (by decide +kernel) ?_
              refine G.iconst (v := 3) (by decide) dX4_kindOf_84 ?_
              exact G.iret rfl ⟨rfl, rfl⟩ dX4_kindOf_85
            by_cases e3 : b = 44
            · subst e3
              refine G.lookup (tgt := 86) dX4_kindOf_43 (by decide +kernel) rfl (by decide +kernel) ?_
              refine G.iconst (v := 5) (by decide) dX4_kindOf_86 ?_
              exact G.iret rfl ⟨rfl, rfl⟩ dX4_kindOf_87
            by_cases e4 : b = 46
            · subst e4
              refine G.lookup (tgt := 88) dX4_kindOf_43 (by decide +kernel) rfl (by decide +kernel) ?_
              refine G.bipush (v := 6) (by decide) dX4_kindOf_88 ?_
              exact G.iret rfl ⟨rfl, rfl⟩ dX4_kindOf_90
            have hr : kd b = 0 := by unfold kd; rw [if_neg n1, if_neg n2, if_neg e2, if_neg n3, if_neg e3, if_neg e4, if_neg e1]
            refine G.lookup (off := 51) (tgt := 94) dX4_kindOf_43 (by decide +kernel) (by rw [hI]; simp only [Op.lookupswitch.offset]; repeat' (first | rfl | (rw [if_neg (by omega)]) | (simp; omega))) (by decide +kernel) ?_
            refine G.iconst (v := 0) (by decide) dX4_kindOf_94 ?_
            exact G.iret rfl ⟨by rw [hr]; rfl, rfl⟩ dX4_kindOf_95
          · have m1 : 48 ≤ b := by
              rcases Nat.lt_or_ge b 48 with q | q
              · exact absurd (show nI b < nI 48 from nI_lt q (by decide)) c_31
              · exact q
            refine G.iload_n (k := 0) rfl dX4_kindOf_34 ?_
            refine G.bipush (v := 52) (by decide) dX4_kindOf_35 ?_
            refine G.icmp_gt (tgt := 42) (by decide) dX4_kindOf_37 (fun c_37 => ?_) (fun c_37 => ?_)
            · have n3 : ¬ (48 ≤ b ∧ b ≤ 52) := fun h => by
                have := (nI_ltI (by decide) (by omega)).mp (show nI 52 < nI b from c_37)
                omega
              refine G.iload_n (k := 0) rfl dX4_kindOf_42 ?_
              have hI : (nI b).toInt = (b : Int) := nI_toInt (by omega)
              by_cases e1 : b = 33
              · subst e1
                refine G.lookup (tgt := 91) dX4_kindOf_43 (by decide +kernel) rfl (by decide +kernel) ?_
                refine G.bipush (v := 7) (by decide) dX4_kindOf_91 ?_
                exact G.iret rfl ⟨rfl, rfl⟩ dX4_kindOf_93
              by_cases e2 : b = 42
              · subst e2
                refine G.lookup (tgt := 84) dX4_kindOf_43 (by decide +kernel) rfl (by decide +kernel) ?_
                refine G.iconst (v := 3) (by decide) dX4_kindOf_84 ?_
                exact G.iret rfl ⟨rfl, rfl⟩ dX4_kindOf_85
              by_cases e3 : b = 44
              · subst e3
                refine G.lookup (tgt := 86) dX4_kindOf_43 (by decide +kernel) rfl (by decide +kernel) ?_
                refine G.iconst (v := 5) (by decide) dX4_kindOf_86 ?_
                exact G.iret rfl ⟨rfl, rfl⟩ dX4_kindOf_87
              by_cases e4 : b = 46
              · subst e4
                refine G.lookup (tgt := 88) dX4_kindOf_43 (by decide +kernel) rfl (by decide +kernel) ?_
                refine G.bipush (v := 6) (by decide) dX4_kindOf_88 ?_
                exact G.iret rfl ⟨rfl, rfl⟩ dX4_kindOf_90
              have hr : kd b = 0 := by unfold kd; rw [if_neg n1, if_neg n2, if_neg e2, if_neg n3, if_neg e3, if_neg e4, if_neg e1]
              refine G.lookup (off := 51) (tgt := 94) dX4_kindOf_43 (by decide +kernel) (by rw [hI]; simp only [Op.lookupswitch.offset]; repeat' (first | rfl | (rw [if_neg (by omega)]) | (simp; omega))) (by decide +kernel) ?_
              refine G.iconst (v := 0) (by decide) dX4_kindOf_94 ?_
              exact G.iret rfl ⟨by rw [hr]; rfl, rfl⟩ dX4_kindOf_95
            · have m2 : b ≤ 52 := by
                rcases Nat.lt_or_ge 52 b with q | q
                · exact absurd (show nI 52 < nI b from nI_lt q (by omega)) c_37
                · exact q
              have hr : kd b = 4 := by unfold kd; rw [if_neg n1, if_neg n2, if_neg (by omega), if_pos ⟨m1, m2⟩]
              refine G.iconst (v := 4) (by decide) dX4_kindOf_40 ?_
              exact G.iret rfl (⟨by rw [hr]; rfl, rfl⟩) dX4_kindOf_41
        · have m2 : b ≤ 85 := by
            rcases Nat.lt_or_ge 85 b with q | q
            · exact absurd (show nI 85 < nI b from nI_lt q (by omega)) c_23
            · exact q
          have hr : kd b = 2 := by unfold kd; rw [if_neg n1, if_pos ⟨m1, m2⟩]
          refine G.iconst (v := 2) (by decide) dX4_kindOf_26 ?_
          exact G.iret rfl (⟨by rw [hr]; rfl, rfl⟩) dX4_kindOf_27
    · have m2 : b ≤ 102 := by
        rcases Nat.lt_or_ge 102 b with q | q
        · exact absurd (show nI 102 < nI b from nI_lt q (by omega)) c_9
        · exact q
      have hr : kd b = 1 := if_pos ⟨m1, m2⟩
      refine G.iconst (v := 1) (by decide) dX4_kindOf_12 ?_
      exact G.iret rfl (⟨by rw [hr]; rfl, rfl⟩) dX4_kindOf_13
theorem nu_30 (s : Nat) : nI s * 30 = nI (30 * s) := by rw [Nat.mul_comm]; exact nu_mul s 30
theorem nu_30' (s : Nat) : (30 : Int32) * nI s = nI (30 * s) := nu_mul 30 s
set_option maxHeartbeats 4000000 in
set_option maxRecDepth 100000 in
theorem c_X4_append {t n b : Nat} (ht : t < 10) (hn : n ≤ tcap t) (hl : σ 4 t = nI n) (hb : b < 256) : GM (XC l D cA ad) mX4_append [.ref 1, .int (nI t), .int (nI b)] σ (g_ri (fun r τ => (r, τ) = (if n < tcap t then (1, up2 (up2 (up2 σ 2 (30 * t + n) (nI b)) 3 (30 * t + n) (nI (kd b))) 4 t (nI (n + 1))) else (0, σ)))) := by
  refine GM.of (ls := [some (.ref 1), some (.int (nI t)), some (.int (nI b)), none]) (by decide) (Nat.le_of_ble_eq_true rfl) rfl ?_
  refine G.aload_n (k := 0) rfl dX4_append_0 ?_
  refine G.getr (j := 2) rfl gci_X4 (by decide) rfl fl_X4_18 dX4_append_1 ?_
  refine G.iload_n (k := 1) rfl dX4_append_4 ?_
  refine G.ialdN (k := t) rfl (rfl) (ht) (by decide) dX4_append_5 ?_
  rw [hl]
  refine G.ist3 (by decide) rfl dX4_append_6 ?_
  refine G.iload_n (k := 3) rfl dX4_append_7 ?_
  refine G.iload_n (k := 1) rfl dX4_append_8 ?_
  refine G.bipush (v := 8) (by decide) dX4_append_9 ?_
  refine G.icmp_ge (tgt := 19) (by decide) dX4_append_11 (fun c_11 => ?_) (fun c_11 => ?_)
  · have hc : tcap t = 24 := if_neg (fun h => nI_ge (b := 8) h (by decide) c_11)
    refine G.bipush (v := 24) (by decide) dX4_append_19 ?_
    refine G.icmp_lt (tgt := 26) (by decide) dX4_append_21 (fun c_21 => ?_) (fun c_21 => ?_)
    · have hlt : n < tcap t := by
        rw [hc]
        exact (nI_ltI (by omega) (by decide)).mp c_21
      refine G.aload_n (k := 0) rfl dX4_append_26 ?_
      refine G.getr (j := 0) rfl gci_X4 (by decide) rfl fl_X4_9 dX4_append_27 ?_
      refine G.iload_n (k := 1) rfl dX4_append_30 ?_
      refine G.bipush (v := 30) (by decide) dX4_append_31 ?_
      refine G.imul dX4_append_33 ?_
      refine G.iload_n (k := 3) rfl dX4_append_34 ?_
      refine G.iadd dX4_append_35 ?_
      rw [nu_30, nI_add]
      have h30 : tcap t ≤ 30 := by omega
      refine G.iload_n (k := 2) rfl dX4_append_36 ?_
      refine G.iastN (k := 30 * t + n) rfl (rfl) (by omega) (by decide) dX4_append_37 ?_
      refine G.aload_n (k := 0) rfl dX4_append_38 ?_
      refine G.getr (j := 1) rfl gci_X4 (by decide) rfl fl_X4_15 dX4_append_39 ?_
      refine G.iload_n (k := 1) rfl dX4_append_42 ?_
      refine G.bipush (v := 30) (by decide) dX4_append_43 ?_
      refine G.imul dX4_append_45 ?_
      refine G.iload_n (k := 3) rfl dX4_append_46 ?_
      refine G.iadd dX4_append_47 ?_
      rw [nu_30, nI_add]
      refine G.iload_n (k := 2) rfl dX4_append_48 ?_
      refine G.callSif (c_X4_kindOf hb) ml_X4_55 ws_yX4_kindOf gcl_X4_kindOf (by decide) rfl rfl (Nat.le_of_ble_eq_true rfl) dX4_append_49 ?_
      refine G.iastN (k := 30 * t + n) rfl (rfl) (by omega) (by decide) dX4_append_52 ?_
      refine G.aload_n (k := 0) rfl dX4_append_53 ?_
      refine G.getr (j := 2) rfl gci_X4 (by decide) rfl fl_X4_18 dX4_append_54 ?_
      refine G.iload_n (k := 1) rfl dX4_append_57 ?_
      refine G.iload_n (k := 3) rfl dX4_append_58 ?_
      refine G.iconst (v := 1) (by decide) dX4_append_59 ?_
      refine G.iadd dX4_append_60 ?_
      rw [nI_1]
      refine G.iastN (k := t) rfl (rfl) (ht) (by decide) dX4_append_61 ?_
      refine G.iconst (v := 1) (by decide) dX4_append_62 ?_
      exact G.zret rfl (by decide) (by rw [if_pos hlt]) dX4_append_63
    · have hlt : ¬ n < tcap t := by
        rw [hc]
        intro h
        exact c_21 (nI_lt h (by decide))
      refine G.iconst (v := 0) (by decide) dX4_append_24 ?_
      exact G.zret rfl (by decide) (by rw [if_neg hlt]) dX4_append_25
  · have hc : tcap t = 30 := if_pos (by
      rcases Nat.lt_or_ge t 8 with q | q
      · exact q
      · exact absurd (nI_le (a := 8) q (by omega)) c_11)
    refine G.bipush (v := 30) (by decide) dX4_append_14 ?_
    refine G.goto (tgt := 21) (by decide) dX4_append_16 ?_
    refine G.icmp_lt (tgt := 26) (by decide) dX4_append_21 (fun c_21 => ?_) (fun c_21 => ?_)
    · have hlt : n < tcap t := by
        rw [hc]
        exact (nI_ltI (by omega) (by decide)).mp c_21
      refine G.aload_n (k := 0) rfl dX4_append_26 ?_
      refine G.getr (j := 0) rfl gci_X4 (by decide) rfl fl_X4_9 dX4_append_27 ?_
      refine G.iload_n (k := 1) rfl dX4_append_30 ?_
      refine G.bipush (v := 30) (by decide) dX4_append_31 ?_
      refine G.imul dX4_append_33 ?_
      refine G.iload_n (k := 3) rfl dX4_append_34 ?_
      refine G.iadd dX4_append_35 ?_
      rw [nu_30, nI_add]
      have h30 : tcap t ≤ 30 := by omega
      refine G.iload_n (k := 2) rfl dX4_append_36 ?_
      refine G.iastN (k := 30 * t + n) rfl (rfl) (by omega) (by decide) dX4_append_37 ?_
      refine G.aload_n (k := 0) rfl dX4_append_38 ?_
      refine G.getr (j := 1) rfl gci_X4 (by decide) rfl fl_X4_15 dX4_append_39 ?_
      refine G.iload_n (k := 1) rfl dX4_append_42 ?_
      refine G.bipush (v := 30) (by decide) dX4_append_43 ?_
      refine G.imul dX4_append_45 ?_
      refine G.iload_n (k := 3) rfl dX4_append_46 ?_
      refine G.iadd dX4_append_47 ?_
      rw [nu_30, nI_add]
      refine G.iload_n (k := 2) rfl dX4_append_48 ?_
      refine G.callSif (c_X4_kindOf hb) ml_X4_55 ws_yX4_kindOf gcl_X4_kindOf (by decide) rfl rfl (Nat.le_of_ble_eq_true rfl) dX4_append_49 ?_
      refine G.iastN (k := 30 * t + n) rfl (rfl) (by omega) (by decide) dX4_append_52 ?_
      refine G.aload_n (k := 0) rfl dX4_append_53 ?_
      refine G.getr (j := 2) rfl gci_X4 (by decide) rfl fl_X4_18 dX4_append_54 ?_
      refine G.iload_n (k := 1) rfl dX4_append_57 ?_
      refine G.iload_n (k := 3) rfl dX4_append_58 ?_
      refine G.iconst (v := 1) (by decide) dX4_append_59 ?_
      refine G.iadd dX4_append_60 ?_
      rw [nI_1]
      refine G.iastN (k := t) rfl (rfl) (ht) (by decide) dX4_append_61 ?_
      refine G.iconst (v := 1) (by decide) dX4_append_62 ?_
      exact G.zret rfl (by decide) (by rw [if_pos hlt]) dX4_append_63
    · have hlt : ¬ n < tcap t := by
        rw [hc]
        intro h
        exact c_21 (nI_lt h (by decide))
      refine G.iconst (v := 0) (by decide) dX4_append_24 ?_
      exact G.zret rfl (by decide) (by rw [if_neg hlt]) dX4_append_25
set_option maxHeartbeats 4000000 in
set_option maxRecDepth 100000 in
theorem c_X4_shorten {t : Nat} {v : Int32} (ht : t < 10) : GM (XC l D cA ad) mX4_shorten [.ref 1, .int (nI t), .int v] σ (g_rv (fun τ => τ = up2 σ 4 t v)) := by
  refine GM.of (ls := [some (.ref 1), some (.int (nI t)), some (.int v)]) (by decide) (Nat.le_of_ble_eq_true rfl) rfl ?_
  refine G.aload_n (k := 0) rfl dX4_shorten_0 ?_
  refine G.getr (j := 2) rfl gci_X4 (by decide) rfl fl_X4_18 dX4_shorten_1 ?_
  refine G.iload_n (k := 1) rfl dX4_shorten_4 ?_
  refine G.iload_n (k := 2) rfl dX4_shorten_5 ?_
  refine G.iastN (k := t) rfl (rfl) (ht) (by decide) dX4_shorten_6 ?_
  exact G.vret rfl (rfl) dX4_shorten_7
set_option maxHeartbeats 4000000 in
set_option maxRecDepth 100000 in
theorem c_X4_lengthOf {t : Nat} (ht : t < 10) : GM (XC l D cA ad) mX4_lengthOf [.ref 1, .int (nI t)] σ (g_ri (fun r τ => r = σ 4 t ∧ τ = σ)) := by
  refine GM.of (ls := [some (.ref 1), some (.int (nI t))]) (by decide) (Nat.le_of_ble_eq_true rfl) rfl ?_
  refine G.aload_n (k := 0) rfl dX4_lengthOf_0 ?_
  refine G.getr (j := 2) rfl gci_X4 (by decide) rfl fl_X4_18 dX4_lengthOf_1 ?_
  refine G.iload_n (k := 1) rfl dX4_lengthOf_4 ?_
  refine G.ialdN (k := t) rfl (rfl) (ht) (by decide) dX4_lengthOf_5 ?_
  exact G.iret rfl (⟨rfl, rfl⟩) dX4_lengthOf_6
set_option maxHeartbeats 4000000 in
set_option maxRecDepth 100000 in
theorem c_X4_faultOf {t : Nat} (ht : t < 10) : GM (XC l D cA ad) mX4_faultOf [.ref 1, .int (nI t)] σ (g_ri (fun r τ => r = σ 5 t ∧ τ = σ)) := by
  refine GM.of (ls := [some (.ref 1), some (.int (nI t))]) (by decide) (Nat.le_of_ble_eq_true rfl) rfl ?_
  refine G.aload_n (k := 0) rfl dX4_faultOf_0 ?_
  refine G.getr (j := 3) rfl gci_X4 (by decide) rfl fl_X4_21 dX4_faultOf_1 ?_
  refine G.iload_n (k := 1) rfl dX4_faultOf_4 ?_
  refine G.ialdN (k := t) rfl (rfl) (ht) (by decide) dX4_faultOf_5 ?_
  exact G.iret rfl (⟨rfl, rfl⟩) dX4_faultOf_6
def wlB (σ : gS) (t : Nat) : Bool := decide (0 < σ 4 t ∧ σ 5 t = -1)
set_option maxHeartbeats 4000000 in
set_option maxRecDepth 100000 in
theorem c_X4_isWell {t : Nat} (ht : t < 10) : GM (XC l D cA ad) mX4_isWell [.ref 1, .int (nI t)] σ (g_ri (fun r τ => r = (if wlB σ t = true then 1 else 0) ∧ τ = σ)) := by
  refine GM.of (ls := [some (.ref 1), some (.int (nI t))]) (by decide) (Nat.le_of_ble_eq_true rfl) rfl ?_
  refine G.aload_n (k := 0) rfl dX4_isWell_0 ?_
  refine G.getr (j := 2) rfl gci_X4 (by decide) rfl fl_X4_18 dX4_isWell_1 ?_
  refine G.iload_n (k := 1) rfl dX4_isWell_4 ?_
  refine G.ialdN (k := t) rfl (rfl) (ht) (by decide) dX4_isWell_5 ?_
  refine G.if_le (tgt := 23) (by decide) dX4_isWell_6 (fun c_6 => ?_) (fun c_6 => ?_)
  · have hr : (0 : Int32) = if wlB σ t = true then 1 else 0 := (if_neg (fun h => by
      rw [wlB, decide_eq_true_eq] at h
      exact absurd h.1 (Int32.not_lt.mpr c_6))).symm
    refine G.iconst (v := 0) (by decide) dX4_isWell_23 ?_
    exact G.zret rfl (by decide) ⟨hr, rfl⟩ dX4_isWell_24
  · have h1 : 0 < σ 4 t := Int32.not_le.mp c_6
    refine G.aload_n (k := 0) rfl dX4_isWell_9 ?_
    refine G.getr (j := 3) rfl gci_X4 (by decide) rfl fl_X4_21 dX4_isWell_10 ?_
    refine G.iload_n (k := 1) rfl dX4_isWell_13 ?_
    refine G.ialdN (k := t) rfl (rfl) (ht) (by decide) dX4_isWell_14 ?_
    refine G.iconst (v := (-1)) (by decide) dX4_isWell_15 ?_
    refine G.icmp_ne (tgt := 23) (by decide) dX4_isWell_16 (fun c_16 => ?_) (fun c_16 => ?_)
    · have hr : (0 : Int32) = if wlB σ t = true then 1 else 0 := (if_neg (fun h => by
        rw [wlB, decide_eq_true_eq] at h
        exact c_16 h.2)).symm
      refine G.iconst (v := 0) (by decide) dX4_isWell_23 ?_
      exact G.zret rfl (by decide) ⟨hr, rfl⟩ dX4_isWell_24
    · have hr : (1 : Int32) = if wlB σ t = true then 1 else 0 := (if_pos (by
        rw [wlB, decide_eq_true_eq]
        exact ⟨h1, c_16⟩)).symm
      refine G.iconst (v := 1) (by decide) dX4_isWell_19 ?_
      refine G.goto (tgt := 24) (by decide) dX4_isWell_20 ?_
      exact G.zret rfl (by decide) ⟨hr, rfl⟩ dX4_isWell_24
set_option maxHeartbeats 4000000 in
set_option maxRecDepth 100000 in
theorem c_X4_isThere {e : Nat} (he : e < 4) : GM (XC l D cA ad) mX4_isThere [.ref 1, .int (nI e)] σ (g_ri (fun r τ => r = (if (wlB σ (2 * e) && wlB σ (2 * e + 1)) = true then 1 else 0) ∧ τ = σ)) := by
  refine GM.of (ls := [some (.ref 1), some (.int (nI e))]) (by decide) (Nat.le_of_ble_eq_true rfl) rfl ?_
  refine G.aload_n (k := 0) rfl dX4_isThere_0 ?_
  refine G.iconst (v := 2) (by decide) dX4_isThere_1 ?_
  refine G.iload_n (k := 1) rfl dX4_isThere_2 ?_
  refine G.imul dX4_isThere_3 ?_
  rw [show (2 : Int32) * nI e = nI (2 * e) from nu_mul 2 e]
  refine G.callVif (c_X4_isWell (by omega)) rfl (gci_X4).1 ml_X4_59 im_yX4_isWell se_yX4_isWell gcl_X4_isWell (by decide) rfl rfl (Nat.le_of_ble_eq_true rfl) dX4_isThere_4 ?_
  refine G.if_eq (tgt := 26) (by decide) dX4_isThere_7 (fun c_7 => ?_) (fun c_7 => ?_)
  · have hr : (0 : Int32) = if (wlB σ (2 * e) && wlB σ (2 * e + 1)) = true then 1 else 0 := (if_neg (by simp [bo_0.mp c_7])).symm
    refine G.iconst (v := 0) (by decide) dX4_isThere_26 ?_
    exact G.zret rfl (by decide) ⟨hr, rfl⟩ dX4_isThere_27
  · have h1 := bo_n.mp c_7
    refine G.aload_n (k := 0) rfl dX4_isThere_10 ?_
    refine G.iconst (v := 2) (by decide) dX4_isThere_11 ?_
    refine G.iload_n (k := 1) rfl dX4_isThere_12 ?_
    refine G.imul dX4_isThere_13 ?_
    refine G.iconst (v := 1) (by decide) dX4_isThere_14 ?_
    refine G.iadd dX4_isThere_15 ?_
    rw [show (2 : Int32) * nI e = nI (2 * e) from nu_mul 2 e, nI_1]
    refine G.callVif (c_X4_isWell (by omega)) rfl (gci_X4).1 ml_X4_59 im_yX4_isWell se_yX4_isWell gcl_X4_isWell (by decide) rfl rfl (Nat.le_of_ble_eq_true rfl) dX4_isThere_16 ?_
    refine G.if_eq (tgt := 26) (by decide) dX4_isThere_19 (fun c_19 => ?_) (fun c_19 => ?_)
    · have hr : (0 : Int32) = if (wlB σ (2 * e) && wlB σ (2 * e + 1)) = true then 1 else 0 := (if_neg (by simp [bo_0.mp c_19])).symm
      refine G.iconst (v := 0) (by decide) dX4_isThere_26 ?_
      exact G.zret rfl (by decide) ⟨hr, rfl⟩ dX4_isThere_27
    · have hr : (1 : Int32) = if (wlB σ (2 * e) && wlB σ (2 * e + 1)) = true then 1 else 0 := (if_pos (by simp [h1, bo_n.mp c_19])).symm
      refine G.iconst (v := 1) (by decide) dX4_isThere_22 ?_
      refine G.goto (tgt := 27) (by decide) dX4_isThere_23 ?_
      exact G.zret rfl (by decide) ⟨hr, rfl⟩ dX4_isThere_27
set_option maxHeartbeats 4000000 in
set_option maxRecDepth 100000 in
theorem l_X4_allBytes {f : Nat → Nat} (hf : ∀ t, t < 10 → σ 4 t = nI (f t)) : ∀ j q, q + j = 10 → G (XC l D cA ad) mX4_allBytes (g_ri (fun r τ => r = nI (sumN f 10) ∧ τ = σ)) 4 [some (.ref 1), some (.int (nI (sumN f q))), some (.int (nI q))] [] σ := by
  intro j
  induction j with
  | zero =>
    intro q hq
    have hq : q = 10 := by omega
    subst hq
    refine G.iload_n (k := 2) rfl dX4_allBytes_4 ?_
    refine G.bipush (v := 10) (by decide) dX4_allBytes_5 ?_
    refine G.icmp_ge (tgt := 25) (by decide) dX4_allBytes_7 (fun c_7 => ?_) (fun c_7 => absurd (by decide) c_7)
    refine G.iload_n (k := 1) rfl dX4_allBytes_25 ?_
    exact G.iret rfl (⟨rfl, rfl⟩) dX4_allBytes_26
  | succ j ih =>
    intro q hq
    refine G.iload_n (k := 2) rfl dX4_allBytes_4 ?_
    refine G.bipush (v := 10) (by decide) dX4_allBytes_5 ?_
    refine G.icmp_ge (tgt := 25) (by decide) dX4_allBytes_7 (fun c_7 => absurd c_7 (nI_ge (b := 10) (by omega) (by decide))) (fun c_7 => ?_)
    refine G.iload_n (k := 1) rfl dX4_allBytes_10 ?_
    refine G.aload_n (k := 0) rfl dX4_allBytes_11 ?_
    refine G.getr (j := 2) rfl gci_X4 (by decide) rfl fl_X4_18 dX4_allBytes_12 ?_
    refine G.iload_n (k := 2) rfl dX4_allBytes_15 ?_
    refine G.ialdN (k := q) rfl (rfl) (by omega) (by decide) dX4_allBytes_16 ?_
    rw [hf q (by omega)]
    refine G.iadd dX4_allBytes_17 ?_
    rw [nI_add]
    refine G.ist1 (by decide) rfl dX4_allBytes_18 ?_
    refine G.inc2 (d := 1) (by decide) (by decide) rfl dX4_allBytes_19 ?_
    refine G.goto (tgt := 4) (by decide) dX4_allBytes_22 ?_
    rw [nI_1]
    exact ih (q + 1) (by omega)
set_option maxHeartbeats 4000000 in
set_option maxRecDepth 100000 in
theorem c_X4_allBytes {f : Nat → Nat} (hf : ∀ t, t < 10 → σ 4 t = nI (f t)) : GM (XC l D cA ad) mX4_allBytes [.ref 1] σ (g_ri (fun r τ => r = nI (sumN f 10) ∧ τ = σ)) := by
  refine GM.of (ls := [some (.ref 1), none, none]) (by decide) (Nat.le_of_ble_eq_true rfl) rfl ?_
  refine G.iconst (v := 0) (by decide) dX4_allBytes_0 ?_
  refine G.ist1 (by decide) rfl dX4_allBytes_1 ?_
  refine G.iconst (v := 0) (by decide) dX4_allBytes_2 ?_
  refine G.ist2 (by decide) rfl dX4_allBytes_3 ?_
  exact l_X4_allBytes hf 10 0 rfl
set_option maxHeartbeats 4000000 in
set_option maxRecDepth 100000 in
theorem c_X4_measureOf {t : Nat} {w : Int32} (ht : t < 8) (hw : w = 0 ∨ w = 1 ∨ w = 2 ∨ w = 3) : GM (XC l D cA ad) mX4_measureOf [.ref 1, .int (nI t), .int w] σ (g_ri (fun r τ => r = (if w = 0 then σ 7 (30 * t) else if w = 1 then σ 8 (30 * t) else if w = 2 then σ 9 (30 * t) else σ 10 (30 * t)) ∧ τ = σ)) := by
  refine GM.of (ls := [some (.ref 1), some (.int (nI t)), some (.int w), none]) (by decide) (Nat.le_of_ble_eq_true rfl) rfl ?_
  refine G.iload_n (k := 1) rfl dX4_measureOf_0 ?_
  refine G.bipush (v := 30) (by decide) dX4_measureOf_1 ?_
  refine G.imul dX4_measureOf_3 ?_
  refine G.ist3 (by decide) rfl dX4_measureOf_4 ?_
  refine G.iload_n (k := 2) rfl dX4_measureOf_5 ?_
  rw [nu_30]
  rcases hw with e | e | e | e
  · subst e
    refine G.tableIn (tgt := 32) dX4_measureOf_6 (by decide) (by decide) rfl (by decide) ?_
    refine G.aload_n (k := 0) rfl dX4_measureOf_32 ?_
    refine G.getr (j := 5) rfl gci_X4 (by decide) rfl fl_X4_27 dX4_measureOf_33 ?_
    refine G.iload_n (k := 3) rfl dX4_measureOf_36 ?_
    refine G.ialdN (k := 30 * t) rfl (rfl) (by omega) (by decide) dX4_measureOf_37 ?_
    exact G.iret rfl (⟨rfl, rfl⟩) dX4_measureOf_38
  · subst e
    refine G.tableIn (tgt := 39) dX4_measureOf_6 (by decide) (by decide) rfl (by decide) ?_
    refine G.aload_n (k := 0) rfl dX4_measureOf_39 ?_
    refine G.getr (j := 6) rfl gci_X4 (by decide) rfl fl_X4_30 dX4_measureOf_40 ?_
    refine G.iload_n (k := 3) rfl dX4_measureOf_43 ?_
    refine G.ialdN (k := 30 * t) rfl (rfl) (by omega) (by decide) dX4_measureOf_44 ?_
    exact G.iret rfl (⟨rfl, rfl⟩) dX4_measureOf_45
  · subst e
    refine G.tableIn (tgt := 46) dX4_measureOf_6 (by decide) (by decide) rfl (by decide) ?_
    refine G.aload_n (k := 0) rfl dX4_measureOf_46 ?_
    refine G.getr (j := 7) rfl gci_X4 (by decide) rfl fl_X4_33 dX4_measureOf_47 ?_
    refine G.iload_n (k := 3) rfl dX4_measureOf_50 ?_
    refine G.ialdN (k := 30 * t) rfl (rfl) (by omega) (by decide) dX4_measureOf_51 ?_
    exact G.iret rfl (⟨rfl, rfl⟩) dX4_measureOf_52
  · subst e
    refine G.tableOut (tgt := 53) dX4_measureOf_6 (by decide) (by decide) ?_
    refine G.aload_n (k := 0) rfl dX4_measureOf_53 ?_
    refine G.getr (j := 8) rfl gci_X4 (by decide) rfl fl_X4_36 dX4_measureOf_54 ?_
    refine G.iload_n (k := 3) rfl dX4_measureOf_57 ?_
    refine G.ialdN (k := 30 * t) rfl (rfl) (by omega) (by decide) dX4_measureOf_58 ?_
    exact G.iret rfl (⟨rfl, rfl⟩) dX4_measureOf_59
set_option maxHeartbeats 4000000 in
set_option maxRecDepth 100000 in
theorem c_X4_kindAt {g : Nat} (hg : g < 240) : GM (XC l D cA ad) mX4_kindAt [.ref 1, .int (nI g)] σ (g_ri (fun r τ => r = σ 3 g ∧ τ = σ)) := by
  refine GM.of (ls := [some (.ref 1), some (.int (nI g))]) (by decide) (Nat.le_of_ble_eq_true rfl) rfl ?_
  refine G.iload_n (k := 1) rfl dX4_kindAt_0 ?_
  refine G.if_lt (tgt := 11) (by decide) dX4_kindAt_1 (fun c_1 => absurd c_1 (nI_pos (by omega))) (fun c_1 => ?_)
  refine G.iload_n (k := 1) rfl dX4_kindAt_4 ?_
  refine G.sipush (v := 240) (by decide) dX4_kindAt_5 ?_
  refine G.icmp_lt (tgt := 15) (by decide) dX4_kindAt_8 (fun c_8 => ?_) (fun c_8 => absurd (nI_lt (b := 240) hg (by decide)) c_8)
  refine G.aload_n (k := 0) rfl dX4_kindAt_15 ?_
  refine G.getr (j := 1) rfl gci_X4 (by decide) rfl fl_X4_15 dX4_kindAt_16 ?_
  refine G.iload_n (k := 1) rfl dX4_kindAt_19 ?_
  refine G.ialdN (k := g) rfl (rfl) (by omega) (by decide) dX4_kindAt_20 ?_
  exact G.iret rfl (⟨rfl, rfl⟩) dX4_kindAt_21
set_option maxHeartbeats 4000000 in
set_option maxRecDepth 100000 in
theorem c_X4_byteAt {g : Nat} (hg : g < 240) : GM (XC l D cA ad) mX4_byteAt [.ref 1, .int (nI g)] σ (g_ri (fun r τ => r = σ 2 g ∧ τ = σ)) := by
  refine GM.of (ls := [some (.ref 1), some (.int (nI g))]) (by decide) (Nat.le_of_ble_eq_true rfl) rfl ?_
  refine G.iload_n (k := 1) rfl dX4_byteAt_0 ?_
  refine G.if_lt (tgt := 11) (by decide) dX4_byteAt_1 (fun c_1 => absurd c_1 (nI_pos (by omega))) (fun c_1 => ?_)
  refine G.iload_n (k := 1) rfl dX4_byteAt_4 ?_
  refine G.sipush (v := 240) (by decide) dX4_byteAt_5 ?_
  refine G.icmp_lt (tgt := 15) (by decide) dX4_byteAt_8 (fun c_8 => ?_) (fun c_8 => absurd (nI_lt (b := 240) hg (by decide)) c_8)
  refine G.aload_n (k := 0) rfl dX4_byteAt_15 ?_
  refine G.getr (j := 0) rfl gci_X4 (by decide) rfl fl_X4_9 dX4_byteAt_16 ?_
  refine G.iload_n (k := 1) rfl dX4_byteAt_19 ?_
  refine G.ialdN (k := g) rfl (rfl) (by omega) (by decide) dX4_byteAt_20 ?_
  exact G.iret rfl (⟨rfl, rfl⟩) dX4_byteAt_21
set_option maxHeartbeats 4000000 in
set_option maxRecDepth 100000 in
theorem c_X4_unknownsFrom {g : Nat} (hg : g < 240) : GM (XC l D cA ad) mX4_unknownsFrom [.ref 1, .int (nI g)] σ (g_ri (fun r τ => r = σ 10 g ∧ τ = σ)) := by
  refine GM.of (ls := [some (.ref 1), some (.int (nI g))]) (by decide) (Nat.le_of_ble_eq_true rfl) rfl ?_
  refine G.iload_n (k := 1) rfl dX4_unknownsFrom_0 ?_
  refine G.if_lt (tgt := 11) (by decide) dX4_unknownsFrom_1 (fun c_1 => absurd c_1 (nI_pos (by omega))) (fun c_1 => ?_)
  refine G.iload_n (k := 1) rfl dX4_unknownsFrom_4 ?_
  refine G.sipush (v := 240) (by decide) dX4_unknownsFrom_5 ?_
  refine G.icmp_lt (tgt := 15) (by decide) dX4_unknownsFrom_8 (fun c_8 => ?_) (fun c_8 => absurd (nI_lt (b := 240) hg (by decide)) c_8)
  refine G.aload_n (k := 0) rfl dX4_unknownsFrom_15 ?_
  refine G.getr (j := 8) rfl gci_X4 (by decide) rfl fl_X4_36 dX4_unknownsFrom_16 ?_
  refine G.iload_n (k := 1) rfl dX4_unknownsFrom_19 ?_
  refine G.ialdN (k := g) rfl (rfl) (by omega) (by decide) dX4_unknownsFrom_20 ?_
  exact G.iret rfl (⟨rfl, rfl⟩) dX4_unknownsFrom_21
set_option maxHeartbeats 4000000 in
set_option maxRecDepth 100000 in
theorem c_X4_nameAt {g : Nat} {B : Nat → Nat} (hg : g < 240) (ht : tok σ B g) : GM (XC l D cA ad) mX4_nameAt [.ref 1, .int (nI g)] σ (g_ri (fun r τ => r = nI (nmv (B g)) ∧ τ = σ)) := by
  refine GM.of (ls := [some (.ref 1), some (.int (nI g))]) (by decide) (Nat.le_of_ble_eq_true rfl) rfl ?_
  refine G.iload_n (k := 1) rfl dX4_nameAt_0 ?_
  refine G.if_lt (tgt := 21) (by decide) dX4_nameAt_1 (fun c_1 => absurd c_1 (nI_pos (by omega))) (fun c_1 => ?_)
  refine G.iload_n (k := 1) rfl dX4_nameAt_4 ?_
  refine G.sipush (v := 240) (by decide) dX4_nameAt_5 ?_
  refine G.icmp_ge (tgt := 21) (by decide) dX4_nameAt_8 (fun c_8 => absurd c_8 (nI_ge (b := 240) hg (by decide))) (fun c_8 => ?_)
  refine G.aload_n (k := 0) rfl dX4_nameAt_11 ?_
  refine G.getr (j := 1) rfl gci_X4 (by decide) rfl fl_X4_15 dX4_nameAt_12 ?_
  refine G.iload_n (k := 1) rfl dX4_nameAt_15 ?_
  refine G.ialdN (k := g) rfl (rfl) (by omega) (by decide) dX4_nameAt_16 ?_
  rw [ht.2.2]
  refine G.iconst (v := 1) (by decide) dX4_nameAt_17 ?_
  refine G.icmp_eq (tgt := 25) (by decide) dX4_nameAt_18 (fun c_18 => ?_) (fun c_18 => ?_)
  · have hk : kd (B g) = 1 := (kd7 (by decide)).mp c_18
    have hge := kd1_ge hk
    refine G.aload_n (k := 0) rfl dX4_nameAt_25 ?_
    refine G.getr (j := 0) rfl gci_X4 (by decide) rfl fl_X4_9 dX4_nameAt_26 ?_
    refine G.iload_n (k := 1) rfl dX4_nameAt_29 ?_
    refine G.ialdN (k := g) rfl (rfl) (by omega) (by decide) dX4_nameAt_30 ?_
    rw [ht.2.1]
    refine G.bipush (v := 97) (by decide) dX4_nameAt_31 ?_
    refine G.isub dX4_nameAt_33 ?_
    exact G.iret rfl ⟨by first | (rw [show (97 : Int32) = nI 97 from rfl, nu_sub hge.1]; rw [nmv_1 hk]) | (unfold nmv; rw [if_neg hk]; rfl), rfl⟩ dX4_nameAt_34
  · have hk : ¬ kd (B g) = 1 := fun e => c_18 (by rw [e]; rfl)
    refine G.iconst (v := 0) (by decide) dX4_nameAt_21 ?_
    refine G.goto (tgt := 34) (by decide) dX4_nameAt_22 ?_
    exact G.iret rfl ⟨by first | (rw [show (97 : Int32) = nI 97 from rfl, nu_sub hge.1]; rw [nmv_1 hk]) | (unfold nmv; rw [if_neg hk]; rfl), rfl⟩ dX4_nameAt_34
set_option maxHeartbeats 4000000 in
set_option maxRecDepth 100000 in
theorem c_X4_unknownAt {g : Nat} {B : Nat → Nat} (hg : g < 240) (ht : tok σ B g) : GM (XC l D cA ad) mX4_unknownAt [.ref 1, .int (nI g)] σ (g_ri (fun r τ => r = (if kd (B g) = 2 then nI (B g - 80) else -1) ∧ τ = σ)) := by
  refine GM.of (ls := [some (.ref 1), some (.int (nI g))]) (by decide) (Nat.le_of_ble_eq_true rfl) rfl ?_
  refine G.iload_n (k := 1) rfl dX4_unknownAt_0 ?_
  refine G.if_lt (tgt := 21) (by decide) dX4_unknownAt_1 (fun c_1 => absurd c_1 (nI_pos (by omega))) (fun c_1 => ?_)
  refine G.iload_n (k := 1) rfl dX4_unknownAt_4 ?_
  refine G.sipush (v := 240) (by decide) dX4_unknownAt_5 ?_
  refine G.icmp_ge (tgt := 21) (by decide) dX4_unknownAt_8 (fun c_8 => absurd c_8 (nI_ge (b := 240) hg (by decide))) (fun c_8 => ?_)
  refine G.aload_n (k := 0) rfl dX4_unknownAt_11 ?_
  refine G.getr (j := 1) rfl gci_X4 (by decide) rfl fl_X4_15 dX4_unknownAt_12 ?_
  refine G.iload_n (k := 1) rfl dX4_unknownAt_15 ?_
  refine G.ialdN (k := g) rfl (rfl) (by omega) (by decide) dX4_unknownAt_16 ?_
  rw [ht.2.2]
  refine G.iconst (v := 2) (by decide) dX4_unknownAt_17 ?_
  refine G.icmp_eq (tgt := 25) (by decide) dX4_unknownAt_18 (fun c_18 => ?_) (fun c_18 => ?_)
  · have hk : kd (B g) = 2 := (kd7 (by decide)).mp c_18
    have hge := kd2_ge hk
    refine G.aload_n (k := 0) rfl dX4_unknownAt_25 ?_
    refine G.getr (j := 0) rfl gci_X4 (by decide) rfl fl_X4_9 dX4_unknownAt_26 ?_
    refine G.iload_n (k := 1) rfl dX4_unknownAt_29 ?_
    refine G.ialdN (k := g) rfl (rfl) (by omega) (by decide) dX4_unknownAt_30 ?_
    rw [ht.2.1]
    refine G.bipush (v := 80) (by decide) dX4_unknownAt_31 ?_
    refine G.isub dX4_unknownAt_33 ?_
    exact G.iret rfl ⟨by first | (rw [show (80 : Int32) = nI 80 from rfl, nu_sub hge.1]; rw [if_pos hk]) | (rw [if_neg hk]), rfl⟩ dX4_unknownAt_34
  · have hk : ¬ kd (B g) = 2 := fun e => c_18 (by rw [e]; rfl)
    refine G.iconst (v := (-1)) (by decide) dX4_unknownAt_21 ?_
    refine G.goto (tgt := 34) (by decide) dX4_unknownAt_22 ?_
    exact G.iret rfl ⟨by first | (rw [show (80 : Int32) = nI 80 from rfl, nu_sub hge.1]; rw [if_pos hk]) | (rw [if_neg hk]), rfl⟩ dX4_unknownAt_34
set_option maxHeartbeats 4000000 in
set_option maxRecDepth 100000 in
theorem c_X4_firstLength {g e : Nat} (hg : g + 1 < 240) (he : σ 6 (g + 1) = nI e) (hge : g + 1 ≤ e) : GM (XC l D cA ad) mX4_firstLength [.ref 1, .int (nI g)] σ (g_ri (fun r τ => r = nI (e - g - 1) ∧ τ = σ)) := by
  refine GM.of (ls := [some (.ref 1), some (.int (nI g))]) (by decide) (Nat.le_of_ble_eq_true rfl) rfl ?_
  refine G.iload_n (k := 1) rfl dX4_firstLength_0 ?_
  refine G.if_lt (tgt := 13) (by decide) dX4_firstLength_1 (fun c_1 => absurd c_1 (nI_pos (by omega))) (fun c_1 => ?_)
  refine G.iload_n (k := 1) rfl dX4_firstLength_4 ?_
  refine G.iconst (v := 1) (by decide) dX4_firstLength_5 ?_
  refine G.iadd dX4_firstLength_6 ?_
  rw [nI_1]
  refine G.sipush (v := 240) (by decide) dX4_firstLength_7 ?_
  refine G.icmp_lt (tgt := 17) (by decide) dX4_firstLength_10 (fun c_10 => ?_) (fun c_10 => absurd (nI_lt (b := 240) hg (by decide)) c_10)
  refine G.aload_n (k := 0) rfl dX4_firstLength_17 ?_
  refine G.getr (j := 4) rfl gci_X4 (by decide) rfl fl_X4_24 dX4_firstLength_18 ?_
  refine G.iload_n (k := 1) rfl dX4_firstLength_21 ?_
  refine G.iconst (v := 1) (by decide) dX4_firstLength_22 ?_
  refine G.iadd dX4_firstLength_23 ?_
  rw [nI_1]
  refine G.ialdN (k := g + 1) rfl (rfl) (by omega) (by decide) dX4_firstLength_24 ?_
  rw [he]
  refine G.iload_n (k := 1) rfl dX4_firstLength_25 ?_
  refine G.isub dX4_firstLength_26 ?_
  refine G.iconst (v := 1) (by decide) dX4_firstLength_27 ?_
  refine G.isub dX4_firstLength_28 ?_
  exact G.iret rfl (⟨by rw [nu_sub (by omega), show (1 : Int32) = nI 1 from rfl, nu_sub (by omega)], rfl⟩) dX4_firstLength_29
set_option maxHeartbeats 4000000 in
set_option maxRecDepth 100000 in
theorem c_X4_secondOf {g e c : Nat} (hg : g + 1 < 240) (he : σ 6 (g + 1) = nI e) (hge : g + 1 ≤ e) (hc : c < 262144) : GM (XC l D cA ad) mX4_secondOf [.ref 1, .int (nI (g * 262144 + c))] σ (g_ri (fun r τ => r = nI (e * 262144 + c) ∧ τ = σ)) := by
  refine GM.of (ls := [some (.ref 1), some (.int (nI (g * 262144 + c)))]) (by decide) (Nat.le_of_ble_eq_true rfl) rfl ?_
  refine G.iload_n (k := 1) rfl dX4_secondOf_0 ?_
  refine G.iconst (v := 1) (by decide) dX4_secondOf_1 ?_
  refine G.aload_n (k := 0) rfl dX4_secondOf_2 ?_
  refine G.iload_n (k := 1) rfl dX4_secondOf_3 ?_
  refine G.callSif (c_X3_node (by omega) hc) ml_X4_63 ws_yX3_node gcl_X3_node (by decide) rfl rfl (Nat.le_of_ble_eq_true rfl) dX4_secondOf_4 ?_
  refine G.callVif (c_X4_firstLength hg he hge) rfl (gci_X4).1 ml_X4_68 im_yX4_firstLength se_yX4_firstLength gcl_X4_firstLength (by decide) rfl rfl (Nat.le_of_ble_eq_true rfl) dX4_secondOf_7 ?_
  refine G.iadd dX4_secondOf_10 ?_
  rw [show (1 : Int32) + nI (e - g - 1) = nI (e - g) by rw [show (1 : Int32) = nI 1 from rfl, nI_add]; exact congrArg nI (by omega)]
  refine G.callSif (c_X3_further) ml_X4_71 ws_yX3_further gcl_X3_further (by decide) rfl rfl (Nat.le_of_ble_eq_true rfl) dX4_secondOf_11 ?_
  exact G.iret rfl (⟨by rw [show g + (e - g) = e by omega], rfl⟩) dX4_secondOf_14
set_option maxHeartbeats 4000000 in
set_option maxRecDepth 100000 in
theorem c_X4_toldFreshIn {u : Nat} (hu : u < 6) : GM (XC l D cA ad) mX4_toldFreshIn [.ref 1, .int (nI u)] σ (g_ri (fun r τ => r = σ 11 u ∧ τ = σ)) := by
  refine GM.of (ls := [some (.ref 1), some (.int (nI u))]) (by decide) (Nat.le_of_ble_eq_true rfl) rfl ?_
  refine G.aload_n (k := 0) rfl dX4_toldFreshIn_0 ?_
  refine G.getr (j := 9) rfl gci_X4 (by decide) rfl fl_X4_39 dX4_toldFreshIn_1 ?_
  refine G.iload_n (k := 1) rfl dX4_toldFreshIn_4 ?_
  refine G.ialdN (k := u) rfl (rfl) (hu) (by decide) dX4_toldFreshIn_5 ?_
  exact G.iret rfl (⟨rfl, rfl⟩) dX4_toldFreshIn_6
end T31

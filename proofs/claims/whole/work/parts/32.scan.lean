theorem nu_dec {n : Nat} (h : 0 < n) : nI n + (-1) = nI (n - 1) := by
  obtain ⟨m, rfl⟩ : ∃ m, n = m + 1 := ⟨n - 1, by omega⟩
  rw [Nat.add_sub_cancel, ← nI_1 m, Int32.add_assoc, show (1 : Int32) + -1 = 0 from rfl, Int32.add_zero]
theorem G.eqi {X : gX} {M : gM} {Q : Option Value → gS → Prop} {pc : Nat} {ls : List (Option Value)} {st : List Value} {σ : gS} {x y : Int32} (h : x = y) (k : G X M Q pc ls (.int y :: st) σ) : G X M Q pc ls (.int x :: st) σ := h ▸ k
section T32
variable {l : Launch} {D : va_G} {cA : ClassId} {ad : Nat → Nat}
variable {σ : gS}
theorem scn_s {B : Nat → Nat} {s i nm op : Nat} (h : scn B s i = some (nm, op)) : scn B s (i + 1) = sstep (kd (B (s + i))) nm op := by
  show (scn B s i).bind _ = _
  rw [h]
  rfl
set_option maxHeartbeats 4000000 in
set_option maxRecDepth 100000 in
theorem l_X4_faultOfTerm {B : Nat → Nat} {t n : Nat} (ht : t < 8) (hn : n ≤ 30) (hl : σ 4 t = nI n) (hB : ∀ i, i < n → tok σ B (30 * t + i)) : ∀ j i nm op z, i + j = n → scn B (30 * t) i = some (nm, op) → nm ≤ 2 → op ≤ i + 1 → flg B (30 * t) n j i = flT B (30 * t) n → G (XC l D cA ad) mX4_faultOfTerm (g_ri (fun r τ => r = flT B (30 * t) n ∧ τ = σ)) 15 [some (.ref 1), some (.int (nI t)), some (.int (nI n)), some (.int (nI nm)), some (.int (nI op)), some (.int (nI i)), z] [] σ := by
  intro j
  induction j with
  | zero =>
    intro i nm op z hi hs hnm hop hfl
    have hi : i = n := by omega
    subst hi
    refine G.iload (i := 5) rfl dX4_faultOfTerm_15 ?_
    refine G.iload_n (k := 2) rfl dX4_faultOfTerm_17 ?_
    refine G.icmp_ge (tgt := 118) (by decide) dX4_faultOfTerm_18 (fun c_18 => ?_) (fun c_18 => absurd (nI_le (Nat.le_refl _) (by omega)) c_18)
    refine G.iload_n (k := 2) rfl dX4_faultOfTerm_118 ?_
    refine G.if_eq (tgt := 127) (by decide) dX4_faultOfTerm_119 (fun c_119 => ?_) (fun c_119 => ?_)
    · have hr : (-1 : Int32) = flT B (30 * t) i := by
        rw [← hfl, flg, if_pos (Or.inl ((nI_eq (by omega) (by decide)).mp (show nI i = nI 0 from c_119)))]
      refine G.iconst (v := (-1)) (by decide) dX4_faultOfTerm_127 ?_
      refine G.goto (tgt := 132) (by decide) dX4_faultOfTerm_128 ?_
      exact G.iret rfl ⟨hr, rfl⟩ dX4_faultOfTerm_132
    · have h0 : ¬ i = 0 := fun e => c_119 (by rw [e]; rfl)
      refine G.iload (i := 4) rfl dX4_faultOfTerm_122 ?_
      refine G.if_ne (tgt := 131) (by decide) dX4_faultOfTerm_124 (fun c_124 => ?_) (fun c_124 => ?_)
      · have ho : ¬ op = 0 := fun e => c_124 (by rw [e]; rfl)
        have hr : nI i = flT B (30 * t) i := by
          rw [← hfl, flg, if_neg]
          intro h
          rcases h with h | h
          · exact h0 h
          · rw [hs] at h; simp at h; exact ho h.2
        refine G.iload_n (k := 2) rfl dX4_faultOfTerm_131 ?_
        exact G.iret rfl ⟨hr, rfl⟩ dX4_faultOfTerm_132
      · have ho : op = 0 := (nI_eq (by omega) (by decide)).mp (show nI op = nI 0 from c_124)
        have hz : nm = 0 := by
          rcases Nat.eq_zero_or_pos nm with q | q
          · exact q
          · have := scn_nm _ _ _ hs q; omega
        have hr : (-1 : Int32) = flT B (30 * t) i := by
          rw [← hfl, flg, if_pos (Or.inr (by rw [hs, ho, hz]))]
        refine G.iconst (v := (-1)) (by decide) dX4_faultOfTerm_127 ?_
        refine G.goto (tgt := 132) (by decide) dX4_faultOfTerm_128 ?_
        exact G.iret rfl ⟨hr, rfl⟩ dX4_faultOfTerm_132
  | succ j ih =>
    intro i nm op z hi hs hnm hop hfl
    have hss := scn_s hs
    have hk7 := kd_le (B (30 * t + i))
    refine G.iload (i := 5) rfl dX4_faultOfTerm_15 ?_
    refine G.iload_n (k := 2) rfl dX4_faultOfTerm_17 ?_
    refine G.icmp_ge (tgt := 118) (by decide) dX4_faultOfTerm_18 (fun c_18 => absurd c_18 (nI_ge (by omega) (by omega))) (fun c_18 => ?_)
    refine G.aload_n (k := 0) rfl dX4_faultOfTerm_21 ?_
    refine G.getr (j := 1) rfl gci_X4 (by decide) rfl fl_X4_15 dX4_faultOfTerm_22 ?_
    refine G.iload_n (k := 1) rfl dX4_faultOfTerm_25 ?_
    refine G.bipush (v := 30) (by decide) dX4_faultOfTerm_26 ?_
    refine G.imul dX4_faultOfTerm_28 ?_
    refine G.iload (i := 5) rfl dX4_faultOfTerm_29 ?_
    rw [nu_30]
    refine G.iadd dX4_faultOfTerm_31 ?_
    rw [nI_add]
    refine G.ialdN (k := 30 * t + i) rfl (rfl) (by omega) (by decide) dX4_faultOfTerm_32 ?_
    rw [(hB i (by omega)).2.2]
    refine G.ist6 (by decide) rfl dX4_faultOfTerm_33 ?_
    refine G.iload_n (k := 3) rfl dX4_faultOfTerm_35 ?_
    refine G.if_le (tgt := 54) (by decide) dX4_faultOfTerm_36 (fun c_36 => ?_) (fun c_36 => ?_)
    · have h0 : nm = 0 := by
        rcases Nat.eq_zero_or_pos nm with q | q
        · exact q
        · exact absurd c_36 (nI_nle q (by omega))
      subst h0
      refine G.iload (i := 4) rfl dX4_faultOfTerm_54 ?_
      refine G.if_eq (tgt := 64) (by decide) dX4_faultOfTerm_56 (fun c_56 => ?_) (fun c_56 => ?_)
      · have ho : op = 0 := (nI_eq (by omega) (by decide)).mp (show nI op = nI 0 from c_56)
        have hr : nI i = flT B (30 * t) n := by
          rw [← hfl, flg, if_pos]
          rw [hss]; simp only [sstep]; rw [if_neg (by omega), if_pos (Or.inl ho)]
        refine G.iload (i := 5) rfl dX4_faultOfTerm_64 ?_
        exact G.iret rfl (⟨hr, rfl⟩) dX4_faultOfTerm_66
      · have ho : ¬ op = 0 := fun e => c_56 (by rw [e]; rfl)
        refine G.iload (i := 6) rfl dX4_faultOfTerm_59 ?_
        refine G.if_ne (tgt := 67) (by decide) dX4_faultOfTerm_61 (fun c_61 => ?_) (fun c_61 => ?_)
        · have hk0 : ¬ kd (B (30 * t + i)) = 0 := fun e => c_61 (by rw [e]; rfl)
          have hs1 : sstep (kd (B (30 * t + i))) 0 op = if kd (B (30 * t + i)) = 5 then some (0, op + 1) else if kd (B (30 * t + i)) = 6 then some (1, op) else if kd (B (30 * t + i)) = 7 then some (2, op) else if kd (B (30 * t + i)) = 4 then some (0, op) else some (0, op - 1) := by
            simp only [sstep]
            rw [if_neg (by omega), if_neg (by omega)]
          rw [hs1] at hss
          refine G.iload (i := 6) rfl dX4_faultOfTerm_67 ?_
          refine G.iconst (v := 5) (by decide) dX4_faultOfTerm_69 ?_
          refine G.icmp_ne (tgt := 79) (by decide) dX4_faultOfTerm_70 (fun c_70 => ?_) (fun c_70 => ?_)
          · have n5 : ¬ kd (B (30 * t + i)) = 5 := fun e => c_70 (by rw [e]; rfl)
            refine G.iload (i := 6) rfl dX4_faultOfTerm_79 ?_
            refine G.bipush (v := 6) (by decide) dX4_faultOfTerm_81 ?_
            refine G.icmp_ne (tgt := 91) (by decide) dX4_faultOfTerm_83 (fun c_83 => ?_) (fun c_83 => ?_)
            · have n6 : ¬ kd (B (30 * t + i)) = 6 := fun e => c_83 (by rw [e]; rfl)
              refine G.iload (i := 6) rfl dX4_faultOfTerm_91 ?_
              refine G.bipush (v := 7) (by decide) dX4_faultOfTerm_93 ?_
              refine G.icmp_ne (tgt := 103) (by decide) dX4_faultOfTerm_95 (fun c_95 => ?_) (fun c_95 => ?_)
              · have n7 : ¬ kd (B (30 * t + i)) = 7 := fun e => c_95 (by rw [e]; rfl)
                refine G.iload (i := 6) rfl dX4_faultOfTerm_103 ?_
                refine G.iconst (v := 4) (by decide) dX4_faultOfTerm_105 ?_
                refine G.icmp_eq (tgt := 112) (by decide) dX4_faultOfTerm_106 (fun c_106 => ?_) (fun c_106 => ?_)
                · have hk : kd (B (30 * t + i)) = 4 := (kd7 (by decide)).mp c_106
                  have hs2 : scn B (30 * t) (i + 1) = some (0, op) := by rw [hss, if_neg n5, if_neg n6, if_neg n7, if_pos hk]
                  refine G.inc5 (d := 1) (by decide) (by decide) rfl dX4_faultOfTerm_112 ?_
                  refine G.goto (tgt := 15) (by decide) dX4_faultOfTerm_115 ?_
                  rw [nI_1]
                  have q := fun z => ih (i + 1) _ _ z (by omega) hs2 (by omega) (by omega) (by rw [← hfl, flg, if_neg (by rw [hs2]; exact fun h => by cases h)])
                  exact q _
                · have n4 : ¬ kd (B (30 * t + i)) = 4 := fun e => c_106 (by rw [e]; rfl)
                  have hs2 : scn B (30 * t) (i + 1) = some (0, op - 1) := by rw [hss, if_neg n5, if_neg n6, if_neg n7, if_neg n4]
                  refine G.inc4 (d := -1) (by decide) (by decide) rfl dX4_faultOfTerm_109 ?_
                  rw [nu_dec (show 0 < op by omega)]
                  refine G.inc5 (d := 1) (by decide) (by decide) rfl dX4_faultOfTerm_112 ?_
                  refine G.goto (tgt := 15) (by decide) dX4_faultOfTerm_115 ?_
                  rw [nI_1]
                  have q := fun z => ih (i + 1) _ _ z (by omega) hs2 (by omega) (by omega) (by rw [← hfl, flg, if_neg (by rw [hs2]; exact fun h => by cases h)])
                  exact q _
              · have hk : kd (B (30 * t + i)) = 7 := (kd7 (by decide)).mp c_95
                have hs2 : scn B (30 * t) (i + 1) = some (2, op) := by rw [hss, if_neg n5, if_neg n6, if_pos hk]
                refine G.iconst (v := 2) (by decide) dX4_faultOfTerm_98 ?_
                refine G.ist3 (by decide) rfl dX4_faultOfTerm_99 ?_
                refine G.goto (tgt := 112) (by decide) dX4_faultOfTerm_100 ?_
                refine G.inc5 (d := 1) (by decide) (by decide) rfl dX4_faultOfTerm_112 ?_
                refine G.goto (tgt := 15) (by decide) dX4_faultOfTerm_115 ?_
                rw [nI_1]
                have q := fun z => ih (i + 1) _ _ z (by omega) hs2 (by omega) (by omega) (by rw [← hfl, flg, if_neg (by rw [hs2]; exact fun h => by cases h)])
                exact q _
            · have hk : kd (B (30 * t + i)) = 6 := (kd7 (by decide)).mp c_83
              have hs2 : scn B (30 * t) (i + 1) = some (1, op) := by rw [hss, if_neg n5, if_pos hk]
              refine G.iconst (v := 1) (by decide) dX4_faultOfTerm_86 ?_
              refine G.ist3 (by decide) rfl dX4_faultOfTerm_87 ?_
              refine G.goto (tgt := 112) (by decide) dX4_faultOfTerm_88 ?_
              refine G.inc5 (d := 1) (by decide) (by decide) rfl dX4_faultOfTerm_112 ?_
              refine G.goto (tgt := 15) (by decide) dX4_faultOfTerm_115 ?_
              rw [nI_1]
              have q := fun z => ih (i + 1) _ _ z (by omega) hs2 (by omega) (by omega) (by rw [← hfl, flg, if_neg (by rw [hs2]; exact fun h => by cases h)])
              exact q _
          · have hk : kd (B (30 * t + i)) = 5 := (kd7 (by decide)).mp c_70
            have hs2 : scn B (30 * t) (i + 1) = some (0, op + 1) := by rw [hss, if_pos hk]
            refine G.inc4 (d := 1) (by decide) (by decide) rfl dX4_faultOfTerm_73 ?_
            rw [nI_1]
            refine G.goto (tgt := 112) (by decide) dX4_faultOfTerm_76 ?_
            refine G.inc5 (d := 1) (by decide) (by decide) rfl dX4_faultOfTerm_112 ?_
            refine G.goto (tgt := 15) (by decide) dX4_faultOfTerm_115 ?_
            rw [nI_1]
            have q := fun z => ih (i + 1) _ _ z (by omega) hs2 (by omega) (by omega) (by rw [← hfl, flg, if_neg (by rw [hs2]; exact fun h => by cases h)])
            exact q _
        · have hk0 : kd (B (30 * t + i)) = 0 := (kd7 (by decide)).mp (show nI (kd (B (30 * t + i))) = nI 0 from c_61)
          have hr : nI i = flT B (30 * t) n := by
            rw [← hfl, flg, if_pos]
            rw [hss]; simp only [sstep]; rw [if_neg (by omega), if_pos (Or.inr hk0)]
          refine G.iload (i := 5) rfl dX4_faultOfTerm_64 ?_
          exact G.iret rfl (⟨hr, rfl⟩) dX4_faultOfTerm_66
    · have h0 : 0 < nm := by
        rcases Nat.eq_zero_or_pos nm with q | q
        · rw [q] at c_36; exact absurd (by decide) c_36
        · exact q
      refine G.iload (i := 6) rfl dX4_faultOfTerm_39 ?_
      refine G.iconst (v := 1) (by decide) dX4_faultOfTerm_41 ?_
      refine G.icmp_eq (tgt := 48) (by decide) dX4_faultOfTerm_42 (fun c_42 => ?_) (fun c_42 => ?_)
      · have hk : kd (B (30 * t + i)) = 1 := (kd7 (by decide)).mp c_42
        have hs2 : scn B (30 * t) (i + 1) = some (nm - 1, op) := by rw [hss]; simp only [sstep]; rw [if_pos h0, if_pos hk]
        refine G.inc3 (d := -1) (by decide) (by decide) rfl dX4_faultOfTerm_48 ?_
        rw [nu_dec h0]
        refine G.goto (tgt := 112) (by decide) dX4_faultOfTerm_51 ?_
        refine G.inc5 (d := 1) (by decide) (by decide) rfl dX4_faultOfTerm_112 ?_
        refine G.goto (tgt := 15) (by decide) dX4_faultOfTerm_115 ?_
        rw [nI_1]
        have q := fun z => ih (i + 1) _ _ z (by omega) hs2 (by omega) (by omega) (by rw [← hfl, flg, if_neg (by rw [hs2]; exact fun h => by cases h)])
        exact q _
      · have hk : ¬ kd (B (30 * t + i)) = 1 := fun e => c_42 (by rw [e]; rfl)
        have hr : nI i = flT B (30 * t) n := by
          rw [← hfl, flg, if_pos]
          rw [hss]; simp only [sstep]; rw [if_pos h0, if_neg hk]
        refine G.iload (i := 5) rfl dX4_faultOfTerm_45 ?_
        exact G.iret rfl (⟨hr, rfl⟩) dX4_faultOfTerm_47
set_option maxHeartbeats 4000000 in
set_option maxRecDepth 100000 in
theorem c_X4_faultOfTerm {B : Nat → Nat} {t n : Nat} (ht : t < 8) (hn : n ≤ 30) (hl : σ 4 t = nI n) (hB : ∀ i, i < n → tok σ B (30 * t + i)) : GM (XC l D cA ad) mX4_faultOfTerm [.ref 1, .int (nI t)] σ (g_ri (fun r τ => r = flT B (30 * t) n ∧ τ = σ)) := by
  refine GM.of (ls := [some (.ref 1), some (.int (nI t)), none, none, none, none, none]) (by decide) (Nat.le_of_ble_eq_true rfl) rfl ?_
  refine G.aload_n (k := 0) rfl dX4_faultOfTerm_0 ?_
  refine G.getr (j := 2) rfl gci_X4 (by decide) rfl fl_X4_18 dX4_faultOfTerm_1 ?_
  refine G.iload_n (k := 1) rfl dX4_faultOfTerm_4 ?_
  refine G.ialdN (k := t) rfl (rfl) (by omega) (by decide) dX4_faultOfTerm_5 ?_
  rw [hl]
  refine G.ist2 (by decide) rfl dX4_faultOfTerm_6 ?_
  refine G.iconst (v := 0) (by decide) dX4_faultOfTerm_7 ?_
  refine G.ist3 (by decide) rfl dX4_faultOfTerm_8 ?_
  refine G.iconst (v := 1) (by decide) dX4_faultOfTerm_9 ?_
  refine G.ist4 (by decide) rfl dX4_faultOfTerm_10 ?_
  refine G.iconst (v := 0) (by decide) dX4_faultOfTerm_12 ?_
  refine G.ist5 (by decide) rfl dX4_faultOfTerm_13 ?_
  exact l_X4_faultOfTerm ht hn hl hB n 0 0 1 _ (by omega) rfl (by omega) (by omega) rfl
set_option maxHeartbeats 4000000 in
set_option maxRecDepth 100000 in
theorem l_X4_faultOfTwos {B : Nat → Nat} {t n sec : Nat} (ht : t < 10) (hn : n ≤ 30) (hsec : sec ≤ 7) (hl : σ 4 t = nI n) (hB : ∀ i, i < n → tok σ B (30 * t + i)) : ∀ j i, i + j = n → fl2 B (30 * t) n sec j i = fl2 B (30 * t) n sec n 0 → G (XC l D cA ad) mX4_faultOfTwos (g_ri (fun r τ => r = fl2 B (30 * t) n sec n 0 ∧ τ = σ)) 10 [some (.ref 1), some (.int (nI t)), some (.int (nI sec)), some (.int (nI n)), some (.int (nI i))] [] σ := by
  intro j
  induction j with
  | zero =>
    intro i hi hfl
    have hi : i = n := by omega
    subst hi
    refine G.iload (i := 4) rfl dX4_faultOfTwos_10 ?_
    refine G.iload_n (k := 3) rfl dX4_faultOfTwos_12 ?_
    refine G.icmp_ge (tgt := 52) (by decide) dX4_faultOfTwos_13 (fun c_13 => ?_) (fun c_13 => absurd (nI_le (Nat.le_refl _) (by omega)) c_13)
    refine G.iload_n (k := 3) rfl dX4_faultOfTwos_52 ?_
    refine G.iconst (v := 2) (by decide) dX4_faultOfTwos_53 ?_
    refine G.irem (by decide) dX4_faultOfTwos_54 ?_
    rw [nu_rem2 (by omega)]
    refine G.if_ne (tgt := 62) (by decide) dX4_faultOfTwos_55 (fun c_55 => ?_) (fun c_55 => ?_)
    · have hr : nI i = fl2 B (30 * t) i sec i 0 := by
        rw [← hfl, fl2, if_neg (fun e => c_55 (by rw [e]; rfl))]
      refine G.iload_n (k := 3) rfl dX4_faultOfTwos_62 ?_
      exact G.iret rfl ⟨hr, rfl⟩ dX4_faultOfTwos_63
    · have hr : (-1 : Int32) = fl2 B (30 * t) i sec i 0 := by
        rw [← hfl, fl2, if_pos ((nI_eq (by omega) (by decide)).mp (show nI (i % 2) = nI 0 from c_55))]
      refine G.iconst (v := (-1)) (by decide) dX4_faultOfTwos_58 ?_
      refine G.goto (tgt := 63) (by decide) dX4_faultOfTwos_59 ?_
      exact G.iret rfl ⟨hr, rfl⟩ dX4_faultOfTwos_63
  | succ j ih =>
    intro i hi hfl
    refine G.iload (i := 4) rfl dX4_faultOfTwos_10 ?_
    refine G.iload_n (k := 3) rfl dX4_faultOfTwos_12 ?_
    refine G.icmp_ge (tgt := 52) (by decide) dX4_faultOfTwos_13 (fun c_13 => absurd c_13 (nI_ge (by omega) (by omega))) (fun c_13 => ?_)
    refine G.aload_n (k := 0) rfl dX4_faultOfTwos_16 ?_
    refine G.getr (j := 1) rfl gci_X4 (by decide) rfl fl_X4_15 dX4_faultOfTwos_17 ?_
    refine G.iload_n (k := 1) rfl dX4_faultOfTwos_20 ?_
    refine G.bipush (v := 30) (by decide) dX4_faultOfTwos_21 ?_
    refine G.imul dX4_faultOfTwos_23 ?_
    refine G.iload (i := 4) rfl dX4_faultOfTwos_24 ?_
    rw [nu_30]
    refine G.iadd dX4_faultOfTwos_26 ?_
    rw [nI_add]
    refine G.ialdN (k := 30 * t + i) rfl (rfl) (by omega) (by decide) dX4_faultOfTwos_27 ?_
    rw [(hB i (by omega)).2.2]
    refine G.iload (i := 4) rfl dX4_faultOfTwos_28 ?_
    refine G.iconst (v := 2) (by decide) dX4_faultOfTwos_30 ?_
    refine G.irem (by decide) dX4_faultOfTwos_31 ?_
    rw [nu_rem2 (by omega)]
    refine G.if_ne (tgt := 39) (by decide) dX4_faultOfTwos_32 (fun c_32 => ?_) (fun c_32 => ?_)
    · have hw : (if i % 2 = 0 then 1 else sec) = sec := if_neg (fun e => c_32 (by rw [e]; rfl))
      refine G.iload_n (k := 2) rfl dX4_faultOfTwos_39 ?_
      refine G.icmp_eq (tgt := 46) (by decide) dX4_faultOfTwos_40 (fun c_40 => ?_) (fun c_40 => ?_)
      · have hk : kd (B (30 * t + i)) = (if i % 2 = 0 then 1 else sec) := by rw [hw]; exact (kd7 (by omega)).mp c_40
        refine G.inc4 (d := 1) (by decide) (by decide) rfl dX4_faultOfTwos_46 ?_
        refine G.goto (tgt := 10) (by decide) dX4_faultOfTwos_49 ?_
        rw [nI_1]
        exact ih (i + 1) (by omega) (by rw [← hfl, fl2, if_pos hk])
      · have hk : ¬ kd (B (30 * t + i)) = (if i % 2 = 0 then 1 else sec) := by rw [hw]; exact fun e => c_40 (by rw [e]; try rfl)
        refine G.iload (i := 4) rfl dX4_faultOfTwos_43 ?_
        exact G.iret rfl (⟨by rw [← hfl, fl2, if_neg hk], rfl⟩) dX4_faultOfTwos_45
    · have hw : (if i % 2 = 0 then 1 else sec) = 1 := if_pos ((nI_eq (by omega) (by decide)).mp (show nI (i % 2) = nI 0 from c_32))
      refine G.iconst (v := 1) (by decide) dX4_faultOfTwos_35 ?_
      refine G.goto (tgt := 40) (by decide) dX4_faultOfTwos_36 ?_
      refine G.icmp_eq (tgt := 46) (by decide) dX4_faultOfTwos_40 (fun c_40 => ?_) (fun c_40 => ?_)
      · have hk : kd (B (30 * t + i)) = (if i % 2 = 0 then 1 else sec) := by rw [hw]; exact (kd7 (by omega)).mp c_40
        refine G.inc4 (d := 1) (by decide) (by decide) rfl dX4_faultOfTwos_46 ?_
        refine G.goto (tgt := 10) (by decide) dX4_faultOfTwos_49 ?_
        rw [nI_1]
        exact ih (i + 1) (by omega) (by rw [← hfl, fl2, if_pos hk])
      · have hk : ¬ kd (B (30 * t + i)) = (if i % 2 = 0 then 1 else sec) := by rw [hw]; exact fun e => c_40 (by rw [e]; try rfl)
        refine G.iload (i := 4) rfl dX4_faultOfTwos_43 ?_
        exact G.iret rfl (⟨by rw [← hfl, fl2, if_neg hk], rfl⟩) dX4_faultOfTwos_45
set_option maxHeartbeats 4000000 in
set_option maxRecDepth 100000 in
theorem c_X4_faultOfTwos {B : Nat → Nat} {t n sec : Nat} (ht : t < 10) (hn : n ≤ 30) (hsec : sec ≤ 7) (hl : σ 4 t = nI n) (hB : ∀ i, i < n → tok σ B (30 * t + i)) : GM (XC l D cA ad) mX4_faultOfTwos [.ref 1, .int (nI t), .int (nI sec)] σ (g_ri (fun r τ => r = fl2 B (30 * t) n sec n 0 ∧ τ = σ)) := by
  refine GM.of (ls := [some (.ref 1), some (.int (nI t)), some (.int (nI sec)), none, none]) (by decide) (Nat.le_of_ble_eq_true rfl) rfl ?_
  refine G.aload_n (k := 0) rfl dX4_faultOfTwos_0 ?_
  refine G.getr (j := 2) rfl gci_X4 (by decide) rfl fl_X4_18 dX4_faultOfTwos_1 ?_
  refine G.iload_n (k := 1) rfl dX4_faultOfTwos_4 ?_
  refine G.ialdN (k := t) rfl (rfl) (by omega) (by decide) dX4_faultOfTwos_5 ?_
  rw [hl]
  refine G.ist3 (by decide) rfl dX4_faultOfTwos_6 ?_
  refine G.iconst (v := 0) (by decide) dX4_faultOfTwos_7 ?_
  refine G.ist4 (by decide) rfl dX4_faultOfTwos_8 ?_
  exact l_X4_faultOfTwos ht hn hsec hl hB n 0 (by omega) rfl
/-- a well text of twos: its kinds -/
theorem fl2_well {B : Nat → Nat} {s n sec : Nat} (hs : n < 2 ^ 31) : ∀ j i, i + j = n → fl2 B s n sec j i = -1 → n % 2 = 0 ∧ ∀ q, i ≤ q → q < n → kd (B (s + q)) = (if q % 2 = 0 then 1 else sec) := by
  have hne : ∀ q : Nat, q < 2 ^ 31 → ¬ nI q = -1 := fun q hq e => nI_pos hq (by rw [e]; decide)
  intro j
  induction j with
  | zero =>
    intro i hi h
    rw [fl2] at h
    by_cases h2 : n % 2 = 0
    · exact ⟨h2, fun q h3 h4 => by omega⟩
    · rw [if_neg h2] at h; exact absurd h (hne n hs)
  | succ j ih =>
    intro i hi h
    rw [fl2] at h
    by_cases h2 : kd (B (s + i)) = (if i % 2 = 0 then 1 else sec)
    · rw [if_pos h2] at h
      obtain ⟨h3, h4⟩ := ih (i + 1) (by omega) h
      refine ⟨h3, fun q h5 h6 => ?_⟩
      rcases Nat.lt_or_ge i q with h7 | h7
      · exact h4 q (by omega) h6
      · rw [show q = i by omega]; exact h2
    · rw [if_neg h2] at h; exact absurd h (hne i (by omega))
theorem tld_lt {B : Nat → Nat} : ∀ k u, (∀ q, q < k → kd (B (240 + 2 * q)) = 1) → tld B k u < 64 := by
  intro k
  induction k with
  | zero => intro u _; show 0 < 64; decide
  | succ k ih =>
    intro u h
    have h1 := ih u (fun q hq => h q (by omega))
    have h2 := kd1_ge (h k (by omega))
    rw [tld]
    split
    · exact Nat.or_lt_two_pow (n := 6) h1 (Nat.pow_lt_pow_right (by decide) (by omega))
    · exact h1
theorem tnT_P {B : Nat → Nat} : ∀ k, (∀ q, q < 2 * k → kd (B (270 + q)) = 1) → tn_P (tnT B k) := by
  intro k
  induction k with
  | zero => intro _; exact tn_P_id
  | succ k ih =>
    intro h
    have h1 := ih (fun q hq => h q (by omega))
    have h2 := kd1_ge (h (2 * k) (by omega))
    have h3 := kd1_ge (h (2 * k + 1) (by omega))
    rw [show 270 + (2 * k + 1) = 270 + 2 * k + 1 by omega] at h3
    exact tn_P_cmp h1 (tn_P_sw (by omega) (by omega))
set_option maxHeartbeats 4000000 in
set_option maxRecDepth 100000 in
theorem l_X4_findToldFresh {B : Nat → Nat} {m : Nat} (hm : m ≤ 24) (h2 : m % 2 = 0) (hB : ∀ i, i < m → tok σ B (240 + i)) (hk : ∀ i, i < m → kd (B (240 + i)) = (if i % 2 = 0 then 1 else 2)) : ∀ j i (f : Nat → Int32) z, i + 2 * j = m → i % 2 = 0 → (∀ u, u < 6 → f u = nI (tld B (i / 2) u)) → G (XC l D cA ad) mX4_findToldFresh (g_rv (fun τ => ∃ f : Nat → Int32, τ = upA σ 11 f ∧ ∀ u, u < 6 → f u = nI (tld B (m / 2) u))) 35 [some (.ref 1), some (.int 240), some (.int (nI m)), some (.int (nI i)), z] [] (upA σ 11 f) := by
  intro j
  induction j with
  | zero =>
    intro i f z hi hi2 hf
    have hi : i = m := by omega
    subst hi
    refine G.iload_n (k := 3) rfl dX4_findToldFresh_35 ?_
    refine G.iconst (v := 1) (by decide) dX4_findToldFresh_36 ?_
    refine G.iadd dX4_findToldFresh_37 ?_
    rw [nI_1]
    refine G.iload_n (k := 2) rfl dX4_findToldFresh_38 ?_
    refine G.icmp_ge (tgt := 96) (by decide) dX4_findToldFresh_39 (fun c_39 => ?_) (fun c_39 => absurd (nI_le (show i ≤ i + 1 by omega) (by omega)) c_39)
    exact G.vret rfl (⟨f, rfl, hf⟩) dX4_findToldFresh_96
  | succ j ih =>
    intro i f z hi hi2 hf
    have k0 := hk i (by omega)
    rw [if_pos hi2] at k0
    have k1 := hk (i + 1) (by omega)
    rw [if_neg (by omega)] at k1
    have g0 := kd1_ge k0
    have g1 := kd2_ge k1
    have b0 := hB i (by omega)
    have b1 := hB (i + 1) (by omega)
    obtain ⟨u, hu⟩ : ∃ u, u = B (240 + (i + 1)) - 80 := ⟨_, rfl⟩
    have e2 : upA σ 11 f 2 = σ 2 := upA_ne σ f (by decide)
    refine G.iload_n (k := 3) rfl dX4_findToldFresh_35 ?_
    refine G.iconst (v := 1) (by decide) dX4_findToldFresh_36 ?_
    refine G.iadd dX4_findToldFresh_37 ?_
    rw [nI_1]
    refine G.iload_n (k := 2) rfl dX4_findToldFresh_38 ?_
    refine G.icmp_ge (tgt := 96) (by decide) dX4_findToldFresh_39 (fun c_39 => absurd c_39 (nI_ge (by omega) (by omega))) (fun c_39 => ?_)
    refine G.aload_n (k := 0) rfl dX4_findToldFresh_42 ?_
    refine G.getr (j := 0) rfl gci_X4 (by decide) rfl fl_X4_9 dX4_findToldFresh_43 ?_
    refine G.iload_n (k := 1) rfl dX4_findToldFresh_46 ?_
    refine G.iload_n (k := 3) rfl dX4_findToldFresh_47 ?_
    refine G.iadd dX4_findToldFresh_48 ?_
    rw [show (240 : Int32) + nI i = nI (240 + i) from nI_add 240 i]
    refine G.iconst (v := 1) (by decide) dX4_findToldFresh_49 ?_
    refine G.iadd dX4_findToldFresh_50 ?_
    rw [nI_1]
    refine G.ialdN (k := 240 + (i + 1)) rfl (rfl) (by omega) (by decide) dX4_findToldFresh_51 ?_
    rw [e2, b1.2.1]
    refine G.bipush (v := 80) (by decide) dX4_findToldFresh_52 ?_
    refine G.isub dX4_findToldFresh_54 ?_
    rw [show (80 : Int32) = nI 80 from rfl, nu_sub g1.1, ← hu]
    refine G.ist4 (by decide) rfl dX4_findToldFresh_55 ?_
    refine G.iload (i := 4) rfl dX4_findToldFresh_57 ?_
    refine G.bipush (v := 6) (by decide) dX4_findToldFresh_59 ?_
    refine G.callSNif (c_X6_isOutside) (fun _ h => h.2.2.2.2.2.2) ws_yX6_isOutside gcl_X6_isOutside (by decide) rfl rfl (Nat.le_of_ble_eq_true rfl) dX4_findToldFresh_61 ?_
    refine G.if_ne (tgt := 90) (by decide) dX4_findToldFresh_64 (fun c_64 => absurd (bo_n.mp c_64) (fun q => q.elim (fun y => nI_pos (by omega) y) (fun y => nI_ge (b := 6) (by omega) (by decide) y))) (fun c_64 => ?_)
    refine G.aload_n (k := 0) rfl dX4_findToldFresh_67 ?_
    refine G.getr (j := 9) rfl gci_X4 (by decide) rfl fl_X4_39 dX4_findToldFresh_68 ?_
    refine G.iload (i := 4) rfl dX4_findToldFresh_71 ?_
    refine G.dup2 dX4_findToldFresh_73 ?_
    refine G.ialdN (k := u) rfl (rfl) (by omega) (by decide) dX4_findToldFresh_74 ?_
    rw [upA_same, hf u (by omega)]
    refine G.iconst (v := 1) (by decide) dX4_findToldFresh_75 ?_
    refine G.aload_n (k := 0) rfl dX4_findToldFresh_76 ?_
    refine G.getr (j := 0) rfl gci_X4 (by decide) rfl fl_X4_9 dX4_findToldFresh_77 ?_
    refine G.iload_n (k := 1) rfl dX4_findToldFresh_80 ?_
    refine G.iload_n (k := 3) rfl dX4_findToldFresh_81 ?_
    refine G.iadd dX4_findToldFresh_82 ?_
    rw [show (240 : Int32) + nI i = nI (240 + i) from nI_add 240 i]
    refine G.ialdN (k := 240 + i) rfl (rfl) (by omega) (by decide) dX4_findToldFresh_83 ?_
    rw [e2, b0.2.1]
    refine G.bipush (v := 97) (by decide) dX4_findToldFresh_84 ?_
    refine G.isub dX4_findToldFresh_86 ?_
    rw [show (97 : Int32) = nI 97 from rfl, nu_sub g0.1]
    refine G.ishl dX4_findToldFresh_87 ?_
    refine G.ior dX4_findToldFresh_88 ?_
    rw [show ((1 : Int32) <<< (nI (B (240 + i) - 97) &&& 31)) = nI 1 <<< (nI (B (240 + i) - 97) &&& 31) from rfl, nu_shl 1 (by omega), nu_or, Nat.one_mul]
    refine G.iastN (k := u) rfl (rfl) (by omega) (by decide) dX4_findToldFresh_89 ?_
    rw [up2_eq, upA_same, upA_upA]
    refine G.inc3 (d := 2) (by decide) (by decide) rfl dX4_findToldFresh_90 ?_
    refine G.goto (tgt := 35) (by decide) dX4_findToldFresh_93 ?_
    rw [show nI i + 2 = nI (i + 2) from nI_add i 2]
    refine ih (i + 2) _ _ (by omega) (by omega) (fun v hv => ?_)
    rw [show (i + 2) / 2 = i / 2 + 1 by omega, tld, show 240 + 2 * (i / 2) = 240 + i by omega, show 240 + i + 1 = 240 + (i + 1) by omega]
    unfold upd
    by_cases hvu : v = u
    · rw [if_pos hvu, if_pos (by omega), hvu]
    · rw [if_neg hvu, if_neg (by omega)]
      exact hf v hv
set_option maxHeartbeats 4000000 in
set_option maxRecDepth 100000 in
theorem c_X4_findToldFresh {B : Nat → Nat} {n m : Nat} (hn : n ≤ 24) (hl : σ 4 8 = nI n) (hm : m = if wlB σ 8 = true then n else 0) (h2 : m % 2 = 0) (hB : ∀ i, i < m → tok σ B (240 + i)) (hk : ∀ i, i < m → kd (B (240 + i)) = (if i % 2 = 0 then 1 else 2)) : GM (XC l D cA ad) mX4_findToldFresh [.ref 1] σ (g_rv (fun τ => ∃ f : Nat → Int32, τ = upA σ 11 f ∧ ∀ u, u < 6 → f u = nI (tld B (m / 2) u))) := by
  refine GM.of (ls := [some (.ref 1), none, none, none, none]) (by decide) (Nat.le_of_ble_eq_true rfl) rfl ?_
  refine G.aload_n (k := 0) rfl dX4_findToldFresh_0 ?_
  refine G.getr (j := 9) rfl gci_X4 (by decide) rfl fl_X4_39 dX4_findToldFresh_1 ?_
  refine G.iconst (v := 0) (by decide) dX4_findToldFresh_4 ?_
  refine G.callSvf (c_J7_fill_53178 (n := 6) rfl (by decide)) ml_X4_49 ws_yJ7_fill_53178 gcl_J7_fill_53178 (by decide) rfl rfl (Nat.le_of_ble_eq_true rfl) dX4_findToldFresh_5 ?_
  refine G.sipush (v := 240) (by decide) dX4_findToldFresh_8 ?_
  refine G.ist1 (by decide) rfl dX4_findToldFresh_11 ?_
  have ew : wlB (flr σ 11 0 6 0) 8 = wlB σ 8 := by unfold wlB flr; rw [upA_ne _ _ (by decide), upA_ne _ _ (by decide)]
  have el : flr σ 11 0 6 0 4 = σ 4 := upA_ne _ _ (by decide)
  have hmn : m ≤ n := by rw [hm]; split <;> omega
  refine G.aload_n (k := 0) rfl dX4_findToldFresh_12 ?_
  refine G.bipush (v := 8) (by decide) dX4_findToldFresh_13 ?_
  refine G.callVif (c_X4_isWell (t := 8) (by decide)) rfl (gci_X4).1 ml_X4_59 im_yX4_isWell se_yX4_isWell gcl_X4_isWell (by decide) rfl rfl (Nat.le_of_ble_eq_true rfl) dX4_findToldFresh_15 ?_
  rw [ew]
  refine G.if_eq (tgt := 31) (by decide) dX4_findToldFresh_18 (fun c_18 => ?_) (fun c_18 => ?_)
  · have em : (0 : Int32) = nI m := by rw [hm, if_neg (bo_0.mp c_18)]; rfl
    refine G.iconst (v := 0) (by decide) dX4_findToldFresh_31 ?_
    refine G.eqi em ?_
    refine G.ist2 (by decide) rfl dX4_findToldFresh_32 ?_
    refine G.iconst (v := 0) (by decide) dX4_findToldFresh_33 ?_
    refine G.ist3 (by decide) rfl dX4_findToldFresh_34 ?_
    exact l_X4_findToldFresh (by omega) h2 hB hk (m / 2) 0 _ _ (by omega) rfl (fun u hu => by rw [if_pos (by omega)]; rfl)
  · have em : nI n = nI m := by rw [hm, if_pos (bo_n.mp c_18)]
    refine G.aload_n (k := 0) rfl dX4_findToldFresh_21 ?_
    refine G.getr (j := 2) rfl gci_X4 (by decide) rfl fl_X4_18 dX4_findToldFresh_22 ?_
    refine G.bipush (v := 8) (by decide) dX4_findToldFresh_25 ?_
    refine G.ialdN (k := 8) rfl (rfl) (by omega) (by decide) dX4_findToldFresh_27 ?_
    rw [el, hl]
    refine G.goto (tgt := 32) (by decide) dX4_findToldFresh_28 ?_
    refine G.eqi em ?_
    refine G.ist2 (by decide) rfl dX4_findToldFresh_32 ?_
    refine G.iconst (v := 0) (by decide) dX4_findToldFresh_33 ?_
    refine G.ist3 (by decide) rfl dX4_findToldFresh_34 ?_
    exact l_X4_findToldFresh (by omega) h2 hB hk (m / 2) 0 _ _ (by omega) rfl (fun u hu => by rw [if_pos (by omega)]; rfl)
theorem up2_up2 (σ : gS) (k i : Nat) (x y : Int32) : up2 (up2 σ k i x) k i y = up2 σ k i y := by
  funext a b
  unfold up2 upd
  by_cases h : a = k
  · subst h
    simp only [if_true]
    by_cases h2 : b = i
    · rw [if_pos h2, if_pos h2]
    · rw [if_neg h2, if_neg h2, if_neg h2]
  · rw [if_neg h, if_neg h, if_neg h]
theorem up2_at (σ : gS) (k i : Nat) (x : Int32) : up2 σ k i x k i = x := by rw [up2_same]; exact if_pos rfl
set_option maxHeartbeats 4000000 in
set_option maxRecDepth 100000 in
theorem l_X4_findTheTurn {B : Nat → Nat} {m : Nat} (hm : m ≤ 24) (h2 : m % 2 = 0) (hB : ∀ i, i < m → tok σ B (270 + i)) (hk : ∀ i, i < m → kd (B (270 + i)) = 1) : ∀ j i, i + 2 * j = m → i % 2 = 0 → G (XC l D cA ad) mX4_findTheTurn (g_rv (fun τ => τ = up2 σ 1 10 (nI (tnT B (m / 2))))) 33 [some (.ref 1), some (.int 270), some (.int (nI m)), some (.int (nI i))] [] (up2 σ 1 10 (nI (tnT B (i / 2)))) := by
  intro j
  induction j with
  | zero =>
    intro i hi hi2
    have hi : i = m := by omega
    subst hi
    refine G.iload_n (k := 3) rfl dX4_findTheTurn_33 ?_
    refine G.iconst (v := 1) (by decide) dX4_findTheTurn_34 ?_
    refine G.iadd dX4_findTheTurn_35 ?_
    rw [nI_1]
    refine G.iload_n (k := 2) rfl dX4_findTheTurn_36 ?_
    refine G.icmp_ge (tgt := 81) (by decide) dX4_findTheTurn_37 (fun c_37 => ?_) (fun c_37 => absurd (nI_le (show i ≤ i + 1 by omega) (by omega)) c_37)
    exact G.vret rfl (rfl) dX4_findTheTurn_81
  | succ j ih =>
    intro i hi hi2
    have g0 := kd1_ge (hk i (by omega))
    have g1 := kd1_ge (hk (i + 1) (by omega))
    have b0 := hB i (by omega)
    have b1 := hB (i + 1) (by omega)
    have hP := tnT_P (B := B) (i / 2) (fun q hq => hk q (by omega))
    have e2 : ∀ x, up2 σ 1 10 x 2 = σ 2 := fun x => up2_ne σ 10 x (by decide)
    refine G.iload_n (k := 3) rfl dX4_findTheTurn_33 ?_
    refine G.iconst (v := 1) (by decide) dX4_findTheTurn_34 ?_
    refine G.iadd dX4_findTheTurn_35 ?_
    rw [nI_1]
    refine G.iload_n (k := 2) rfl dX4_findTheTurn_36 ?_
    refine G.icmp_ge (tgt := 81) (by decide) dX4_findTheTurn_37 (fun c_37 => absurd c_37 (nI_ge (by omega) (by omega))) (fun c_37 => ?_)
    refine G.aload_n (k := 0) rfl dX4_findTheTurn_40 ?_
    refine G.aload_n (k := 0) rfl dX4_findTheTurn_41 ?_
    refine G.geti (j := 10) rfl gci_X4 (by decide) rfl fl_X4_45 dX4_findTheTurn_42 ?_
    rw [up2_at]
    refine G.aload_n (k := 0) rfl dX4_findTheTurn_45 ?_
    refine G.getr (j := 0) rfl gci_X4 (by decide) rfl fl_X4_9 dX4_findTheTurn_46 ?_
    refine G.iload_n (k := 1) rfl dX4_findTheTurn_49 ?_
    refine G.iload_n (k := 3) rfl dX4_findTheTurn_50 ?_
    refine G.iadd dX4_findTheTurn_51 ?_
    rw [show (270 : Int32) + nI i = nI (270 + i) from nI_add 270 i]
    refine G.ialdN (k := 270 + i) rfl (rfl) (by omega) (by decide) dX4_findTheTurn_52 ?_
    rw [e2, b0.2.1]
    refine G.bipush (v := 97) (by decide) dX4_findTheTurn_53 ?_
    refine G.isub dX4_findTheTurn_55 ?_
    rw [show (97 : Int32) = nI 97 from rfl, nu_sub g0.1]
    refine G.aload_n (k := 0) rfl dX4_findTheTurn_56 ?_
    refine G.getr (j := 0) rfl gci_X4 (by decide) rfl fl_X4_9 dX4_findTheTurn_57 ?_
    refine G.iload_n (k := 1) rfl dX4_findTheTurn_60 ?_
    refine G.iload_n (k := 3) rfl dX4_findTheTurn_61 ?_
    refine G.iadd dX4_findTheTurn_62 ?_
    rw [show (270 : Int32) + nI i = nI (270 + i) from nI_add 270 i]
    refine G.iconst (v := 1) (by decide) dX4_findTheTurn_63 ?_
    refine G.iadd dX4_findTheTurn_64 ?_
    rw [nI_1]
    refine G.ialdN (k := 270 + (i + 1)) rfl (rfl) (by omega) (by decide) dX4_findTheTurn_65 ?_
    rw [e2, b1.2.1]
    refine G.bipush (v := 97) (by decide) dX4_findTheTurn_66 ?_
    refine G.isub dX4_findTheTurn_68 ?_
    rw [show (97 : Int32) = nI 97 from rfl, nu_sub g1.1]
    refine G.callSif (c_X5_swapFirst hP (by omega) (by omega)) ml_X4_87 ws_yX5_swapFirst gcl_X5_swapFirst (by decide) rfl rfl (Nat.le_of_ble_eq_true rfl) dX4_findTheTurn_69 ?_
    refine G.put (j := 10) rfl gci_X4 gcp_X4 (by decide) rfl rfl rfl rfl fl_X4_45 dX4_findTheTurn_72 ?_
    rw [up2_up2]
    refine G.inc3 (d := 2) (by decide) (by decide) rfl dX4_findTheTurn_75 ?_
    refine G.goto (tgt := 33) (by decide) dX4_findTheTurn_78 ?_
    rw [show nI i + 2 = nI (i + 2) from nI_add i 2]
    have h := ih (i + 2) (by omega) (by omega)
    rw [show (i + 2) / 2 = i / 2 + 1 by omega, tnT, show 270 + 2 * (i / 2) = 270 + i by omega, show 270 + i + 1 = 270 + (i + 1) by omega] at h
    exact h
set_option maxHeartbeats 4000000 in
set_option maxRecDepth 100000 in
theorem c_X4_findTheTurn {B : Nat → Nat} {n m : Nat} (hn : n ≤ 24) (hl : σ 4 9 = nI n) (hm : m = if wlB σ 9 = true then n else 0) (h2 : m % 2 = 0) (hB : ∀ i, i < m → tok σ B (270 + i)) (hk : ∀ i, i < m → kd (B (270 + i)) = 1) : GM (XC l D cA ad) mX4_findTheTurn [.ref 1] σ (g_rv (fun τ => τ = up2 σ 1 10 (nI (tnT B (m / 2))))) := by
  refine GM.of (ls := [some (.ref 1), none, none, none]) (by decide) (Nat.le_of_ble_eq_true rfl) rfl ?_
  refine G.aload_n (k := 0) rfl dX4_findTheTurn_0 ?_
  refine G.ldc ct_X4_44 dX4_findTheTurn_1 ?_
  refine G.put (j := 10) rfl gci_X4 gcp_X4 (by decide) rfl rfl rfl rfl fl_X4_45 dX4_findTheTurn_3 ?_
  refine G.sipush (v := 270) (by decide) dX4_findTheTurn_6 ?_
  refine G.ist1 (by decide) rfl dX4_findTheTurn_9 ?_
  have ew : wlB (up2 σ 1 10 181896) 9 = wlB σ 9 := by unfold wlB; rw [up2_ne _ _ _ (by decide), up2_ne _ _ _ (by decide)]
  have el : up2 σ 1 10 181896 4 = σ 4 := up2_ne _ _ _ (by decide)
  have hmn : m ≤ n := by rw [hm]; split <;> omega
  refine G.aload_n (k := 0) rfl dX4_findTheTurn_10 ?_
  refine G.bipush (v := 9) (by decide) dX4_findTheTurn_11 ?_
  refine G.callVif (c_X4_isWell (t := 9) (by decide)) rfl (gci_X4).1 ml_X4_59 im_yX4_isWell se_yX4_isWell gcl_X4_isWell (by decide) rfl rfl (Nat.le_of_ble_eq_true rfl) dX4_findTheTurn_13 ?_
  rw [ew]
  refine G.if_eq (tgt := 29) (by decide) dX4_findTheTurn_16 (fun c_16 => ?_) (fun c_16 => ?_)
  · have em : (0 : Int32) = nI m := by rw [hm, if_neg (bo_0.mp c_16)]; rfl
    refine G.iconst (v := 0) (by decide) dX4_findTheTurn_29 ?_
    refine G.eqi em ?_
    refine G.ist2 (by decide) rfl dX4_findTheTurn_30 ?_
    refine G.iconst (v := 0) (by decide) dX4_findTheTurn_31 ?_
    refine G.ist3 (by decide) rfl dX4_findTheTurn_32 ?_
    exact l_X4_findTheTurn (by omega) h2 hB hk (m / 2) 0 (by omega) rfl
  · have em : nI n = nI m := by rw [hm, if_pos (bo_n.mp c_16)]
    refine G.aload_n (k := 0) rfl dX4_findTheTurn_19 ?_
    refine G.getr (j := 2) rfl gci_X4 (by decide) rfl fl_X4_18 dX4_findTheTurn_20 ?_
    refine G.bipush (v := 9) (by decide) dX4_findTheTurn_23 ?_
    refine G.ialdN (k := 9) rfl (rfl) (by omega) (by decide) dX4_findTheTurn_25 ?_
    rw [el, hl]
    refine G.goto (tgt := 30) (by decide) dX4_findTheTurn_26 ?_
    refine G.eqi em ?_
    refine G.ist2 (by decide) rfl dX4_findTheTurn_30 ?_
    refine G.iconst (v := 0) (by decide) dX4_findTheTurn_31 ?_
    refine G.ist3 (by decide) rfl dX4_findTheTurn_32 ?_
    exact l_X4_findTheTurn (by omega) h2 hB hk (m / 2) 0 (by omega) rfl
end T32

/-! ===== the model: an equation is solved; fresh names ===== -/
def sF (σ τ : gS) : Prop := (∀ k, k ≠ 0 → (k < 16 ∨ k = 18 ∨ k = 19 ∨ 27 < k) → τ k = σ k) ∧ ∀ i, (i < 28 ∨ 35 < i) → τ 0 i = σ 0 i
theorem sF_rf (σ : gS) : sF σ σ := ⟨fun _ _ _ => rfl, fun _ _ => rfl⟩
theorem sF_tr {σ τ υ : gS} (h1 : sF σ τ) (h2 : sF τ υ) : sF σ υ := ⟨fun k a b => (h2.1 k a b).trans (h1.1 k a b), fun i a => (h2.2 i a).trans (h1.2 i a)⟩
theorem uF_s {σ τ : gS} (h : uF σ τ) : sF σ τ := ⟨fun k a b => h.1 k a b, fun i a => h.2 i (by omega) (by omega) (by omega)⟩
theorem eF_s {σ τ : gS} (h : eF σ τ) : sF σ τ := ⟨fun k a _ => h.1 k a, fun i a => h.2 i (by omega) (by omega)⟩
theorem up_s (σ : gS) {i : Nat} (hi : 28 ≤ i ∧ i ≤ 35) (x : Int32) : sF σ (up2 σ 0 i x) := ⟨fun k a _ => up2_ne _ _ _ a, fun j hj => by rw [up2_r, if_neg (fun z => by omega)]⟩
theorem sF_P {σ τ : gS} {B : Nat → Nat} {g : Nat} (h : sF σ τ) (hP : PrM σ B g) : PrM τ B g := PrM_F (fun k a b => h.1 k (by omega) (by omega)) hP
theorem ustep_len {rig : Bool} {B : Nat → Nat} {S : uS} {x : (Nat × Nat) × (Nat × Nat)} {P : uP} (h : S.2.1 = x :: P) : (ustep rig B S).2.1.length ≤ P.length + 2 := by
  rw [ustep, h]; exact uat_len
theorem ustep_W {rig : Bool} {B : Nat → Nat} {S : uS} : (ustep rig B S).2.2.2.1.length ≤ S.2.2.2.1.length + 1 := by
  rw [ustep]
  split
  · exact Nat.le_succ _
  · unfold uat
    split
    · exact Nat.le_succ _
    · split
      · rw [(ugive_w (rig := rig)).2]; exact Nat.le_succ _
      · split
        · rw [(ugive_w (rig := rig)).2]; exact Nat.le_succ _
        · split
          · rw [usplit_eq]
            show (gD B _ _ ++ S.2.2.2.1).length ≤ _
            rw [List.length_append]
            unfold gD
            split <;> simp <;> omega
          · exact Nat.le_succ _
def UM0 (σ : gS) (B td : Nat → Nat) (S : uS) : Prop := VM σ B S.1 ∧ (∀ u, u < 6 → ∃ n, σ 27 u = nI n ∧ n < 64 ∧ S.2.2.1 u = td u ||| n) ∧ WkM σ B S.2.2.2.1
theorem UM_0 {σ : gS} {B td : Nat → Nat} {S : uS} (h : UM σ B td S) : UM0 σ B td S := ⟨h.1, h.2.2.1, h.2.2.2⟩
/-- how a solving stands in the model -/
def ZM (σ : gS) (B ln td : Nat → Nat) (S : uS) (f : Nat) : Prop := UM σ B td S ∧ uG B ln S ∧ f ≤ 600 ∧ S.2.1.length + f ≤ 601 ∧ S.2.2.2.1.length + f ≤ 600 ∧ σ 0 32 = nI S.2.2.2.2 ∧ σ 0 34 = nI (600 - f)
/-- what is found behind one equation -/
def wfin (y : uS) : Nat := if y.2.1 ≠ [] ∧ y.2.2.2.2 = 0 then 4 else y.2.2.2.2
def solP (σ0 τ : gS) (B ln td : Nat → Nat) (e : Nat) (y : uS × Nat) : Prop := UM τ B td y.1 ∧ τ 0 32 = nI (wfin y.1) ∧ τ 0 33 = (if wfin y.1 = 0 then -1 else nI e) ∧ τ 0 34 = nI (600 - y.2) ∧ y.2 ≤ 600 ∧ y.1.2.2.2.1.length + y.2 ≤ 600 ∧ sF σ0 τ
section T98
variable {l : Launch} {D : va_G} {cA : ClassId} {ad : Nat → Nat}
variable {σ σ0 : gS}
set_option maxHeartbeats 4000000 in
set_option maxRecDepth 100000 in
theorem x_X7_solves {ln B td : Nat → Nat} {e : Nat} (hN : ∀ g, nd B ln g → PrM σ0 B g) {R : uS × Nat} {y2 y3 y4 y5 : Option Value} {S : uS} {f : Nat} (hZ : ZM σ B ln td S f) (h33 : σ 0 33 = (if S.2.2.2.2 = 0 then -1 else nI e)) (hF : sF σ0 σ) (hp : S.2.1 = [] ∨ S.2.2.2.2 ≠ 0) (hR : R = (S, f)) : G (XM l D cA ad) mX7_solves (g_rv (fun τ => solP σ0 τ B ln td e R)) 24 [some (.ref 0), some (.int (nI e)), y2, y3, y4, y5] [] σ := by
  have hl : σ 0 28 = nI S.2.1.length := hZ.1.2.1.2
  have hwf : wfin S = S.2.2.2.2 := by
    unfold wfin
    rw [if_neg]
    rintro ⟨h1, h2⟩
    rcases hp with z | z
    · exact h1 z
    · exact z h2
  have hfin : solP σ0 σ B ln td e R := by
    rw [hR]
    exact ⟨hZ.1, by rw [hwf]; exact hZ.2.2.2.2.2.1, by rw [hwf]; exact h33, hZ.2.2.2.2.2.2, hZ.2.2.1, hZ.2.2.2.2.1, hF⟩
  have h8 := hZ.2.1.2.2.2.2.2
  rcases hp with z | z
  · rw [z] at hl
    refine G.aload_n (k := 0) rfl dX7_solves_24 ?_
    refine G.geti (j := 28) rfl gci_X7 (by decide) rfl fl_X7_287 dX7_solves_25 ?_
    rw [hl]
    refine G.if_le (tgt := 177) (by decide) dX7_solves_28 (fun c_28 => ?_) (fun c_28 => absurd (by decide) c_28)
    exact G.vret rfl (hfin) dX7_solves_177
  · have z := z
    refine G.aload_n (k := 0) rfl dX7_solves_24 ?_
    refine G.geti (j := 28) rfl gci_X7 (by decide) rfl fl_X7_287 dX7_solves_25 ?_
    rw [hl]
    refine G.if_le (tgt := 177) (by decide) dX7_solves_28 (fun c_28 => ?_) (fun c_28 => ?_)
    · exact G.vret rfl (hfin) dX7_solves_177
    · refine G.aload_n (k := 0) rfl dX7_solves_31 ?_
      refine G.geti (j := 32) rfl gci_X7 (by decide) rfl fl_X7_335 dX7_solves_32 ?_
      rw [hZ.2.2.2.2.2.1]
      refine G.if_ne (tgt := 177) (by decide) dX7_solves_35 (fun c_35 => ?_) (fun c_35 => absurd ((nI_eq (show S.2.2.2.2 < 2 ^ 31 by omega) (show 0 < 2 ^ 31 by decide)).mp c_35) z)
      exact G.vret rfl (hfin) dX7_solves_177
set_option maxHeartbeats 4000000 in
set_option maxRecDepth 100000 in
theorem f_X7_solves {ln B td : Nat → Nat} {e : Nat} (hN : ∀ g, nd B ln g → PrM σ0 B g) {R : uS × Nat} {y2 y3 y4 y5 : Option Value} {S : uS} (hZ : ZM σ B ln td S 0) (hF : sF σ0 σ) (hp : S.2.1 ≠ []) (h0 : S.2.2.2.2 = 0) (hR : R = (S, 0)) : G (XM l D cA ad) mX7_solves (g_rv (fun τ => solP σ0 τ B ln td e R)) 24 [some (.ref 0), some (.int (nI e)), y2, y3, y4, y5] [] σ := by
  have hl : σ 0 28 = nI S.2.1.length := hZ.1.2.1.2
  have hlp : 0 < S.2.1.length := List.length_pos_iff.mpr hp
  have hle := hZ.2.2.2.1
  have h32 : σ 0 32 = 0 := by rw [hZ.2.2.2.2.2.1, h0]; rfl
  have h34 : σ 0 34 = 600 := by rw [hZ.2.2.2.2.2.2]; rfl
  have hwf : wfin S = 4 := if_pos ⟨hp, h0⟩
  have hfin : solP σ0 (up2 (up2 σ 0 32 4) 0 33 (nI e)) B ln td e R := by
    rw [hR]
    have r : ∀ i, i ≠ 32 → i ≠ 33 → up2 (up2 σ 0 32 4) 0 33 (nI e) 0 i = σ 0 i := fun i h1 h2 => by rw [up2_r, if_neg (fun z => h2 z.2), up2_r, if_neg (fun z => h1 z.2)]
    refine ⟨UM_F (fun k a b _ _ => by rw [up2_ne _ _ _ (by omega), up2_ne _ _ _ (by omega)]) (r 28 (by decide) (by decide)) (r 35 (by decide) (by decide)) hZ.1, ?_, ?_, by rw [r 34 (by decide) (by decide)]; exact hZ.2.2.2.2.2.2, Nat.zero_le _, hZ.2.2.2.2.1, sF_tr hF (sF_tr (up_s _ (by decide) _) (up_s _ (by decide) _))⟩
    · rw [up2_r, if_neg (by decide), up2_at, hwf]; rfl
    · rw [up2_at, hwf, if_neg (by decide)]
  refine G.aload_n (k := 0) rfl dX7_solves_24 ?_
  refine G.geti (j := 28) rfl gci_X7 (by decide) rfl fl_X7_287 dX7_solves_25 ?_
  rw [hl]
  refine G.if_le (tgt := 177) (by decide) dX7_solves_28 (fun c_28 => absurd c_28 (nI_nle (by omega) (by omega))) (fun c_28 => ?_)
  refine G.aload_n (k := 0) rfl dX7_solves_31 ?_
  refine G.geti (j := 32) rfl gci_X7 (by decide) rfl fl_X7_335 dX7_solves_32 ?_
  rw [h32]
  refine G.if_ne (tgt := 177) (by decide) dX7_solves_35 (fun c_35 => absurd rfl c_35) (fun c_35 => ?_)
  refine G.aload_n (k := 0) rfl dX7_solves_38 ?_
  refine G.geti (j := 34) rfl gci_X7 (by decide) rfl fl_X7_338 dX7_solves_39 ?_
  rw [h34]
  refine G.sipush (v := 600) (by decide) dX7_solves_42 ?_
  refine G.icmp_ne (tgt := 56) (by decide) dX7_solves_45 (fun c_45 => absurd rfl c_45) (fun c_45 => ?_)
  refine G.aload_n (k := 0) rfl dX7_solves_48 ?_
  refine G.iconst (v := 4) (by decide) dX7_solves_49 ?_
  refine G.put (j := 32) rfl gci_X7 gcp_X7 (by decide) rfl rfl rfl rfl fl_X7_335 dX7_solves_50 ?_
  refine G.goto (tgt := 158) (by decide) dX7_solves_53 ?_
  refine G.aload_n (k := 0) rfl dX7_solves_158 ?_
  refine G.aload_n (k := 0) rfl dX7_solves_159 ?_
  refine G.geti (j := 32) rfl gci_X7 (by decide) rfl fl_X7_335 dX7_solves_160 ?_
  rw [up2_at]
  refine G.if_ne (tgt := 170) (by decide) dX7_solves_163 (fun c_163 => ?_) (fun c_163 => absurd c_163 (by decide))
  refine G.iload_n (k := 1) rfl dX7_solves_170 ?_
  refine G.put (j := 33) rfl gci_X7 gcp_X7 (by decide) rfl rfl rfl rfl fl_X7_345 dX7_solves_171 ?_
  refine G.goto (tgt := 24) (by decide) dX7_solves_174 ?_
  refine G.aload_n (k := 0) rfl dX7_solves_24 ?_
  refine G.geti (j := 28) rfl gci_X7 (by decide) rfl fl_X7_287 dX7_solves_25 ?_
  rw [up2_r, if_neg (by decide), up2_r, if_neg (by decide), hl]
  refine G.if_le (tgt := 177) (by decide) dX7_solves_28 (fun c_28 => absurd c_28 (nI_nle (by omega) (by omega))) (fun c_28 => ?_)
  refine G.aload_n (k := 0) rfl dX7_solves_31 ?_
  refine G.geti (j := 32) rfl gci_X7 (by decide) rfl fl_X7_335 dX7_solves_32 ?_
  rw [up2_r, if_neg (by decide), up2_at]
  refine G.if_ne (tgt := 177) (by decide) dX7_solves_35 (fun c_35 => ?_) (fun c_35 => absurd c_35 (by decide))
  exact G.vret rfl (hfin) dX7_solves_177
set_option maxHeartbeats 4000000 in
set_option maxRecDepth 100000 in
theorem l_X7_solves {ln B td : Nat → Nat} {e : Nat} (hN : ∀ g, nd B ln g → PrM σ0 B g) {R : uS × Nat} : ∀ f S (τ : gS) (y2 y3 y4 y5 : Option Value), ZM τ B ln td S f → τ 0 33 = (if S.2.2.2.2 = 0 then -1 else nI e) → sF σ0 τ → R = urun false B f S → G (XM l D cA ad) mX7_solves (g_rv (fun τ => solP σ0 τ B ln td e R)) 24 [some (.ref 0), some (.int (nI e)), y2, y3, y4, y5] [] τ := by
  intro f
  induction f with
  | zero =>
    intro S τ y2 y3 y4 y5 hZ h33 hF hR
    by_cases hp : S.2.1 = [] ∨ S.2.2.2.2 ≠ 0
    · exact x_X7_solves hN hZ h33 hF hp hR
    · exact f_X7_solves hN hZ hF (fun z => hp (Or.inl z)) (Decidable.byContradiction (fun z => hp (Or.inr z))) hR
  | succ f ih =>
    intro S τ y2 y3 y4 y5 hZ h33 hF hR
    by_cases hp : S.2.1 = [] ∨ S.2.2.2.2 ≠ 0
    · exact x_X7_solves hN hZ h33 hF hp (by rw [hR, urun, if_pos hp])
    · have h0 : S.2.2.2.2 = 0 := Decidable.byContradiction (fun z => hp (Or.inr z))
      cases hSP : S.2.1 with
      | nil => exact absurd (Or.inl hSP) hp
      | cons x P =>
        have hG := hZ.2.1
        have hS := hZ.1.2.1
        rw [hSP] at hS
        have hll := hZ.2.2.2.1
        rw [hSP] at hll
        have hl2 : (x :: P).length = P.length + 1 := rfl
        have hWl := hZ.2.2.2.2.1
        have hl : τ 0 28 = nI (P.length + 1) := hS.2
        have h32 : τ 0 32 = 0 := by rw [hZ.2.2.2.2.2.1, h0]; rfl
        have h34 := hZ.2.2.2.2.2.2
        have hf6 := hZ.2.2.1
        have hx : pG B ln x := hG.2.2.1 x (by rw [hSP]; exact List.mem_cons_self)
        have hG2 := ustep_G (ln := ln) false hG
        have hG8 := hG2.2.2.2.2.2
        have hsl := ustep_len (rig := false) (B := B) hSP
        have hsW := ustep_W (rig := false) (B := B) (S := S)
        obtain ⟨a, ha⟩ : ∃ a, en B S.1 241 x.1 = a := ⟨_, rfl⟩
        obtain ⟨b, hb⟩ : ∃ b, en B S.1 241 x.2 = b := ⟨_, rfl⟩
        have hna := en_nd hG.1 241 x.1 hx.1 hx.2.1
        have hnb := en_nd hG.1 241 x.2 hx.2.2.1 hx.2.2.2
        have hea := rkd_end hG.1 hG.2.1 hx.1 (f := 241) (by decide)
        have heb := rkd_end hG.1 hG.2.1 hx.2.2.1 (f := 241) (by decide)
        rw [ha] at hna hea
        rw [hb] at hnb heb
        have hus : ustep false B S = uat false B S P a b := by
          rw [ustep, hSP]
          show uat false B S P (en B S.1 241 x.1) (en B S.1 241 x.2) = _
          rw [ha, hb]
        refine G.aload_n (k := 0) rfl dX7_solves_24 ?_
        refine G.geti (j := 28) rfl gci_X7 (by decide) rfl fl_X7_287 dX7_solves_25 ?_
        rw [hl]
        refine G.if_le (tgt := 177) (by decide) dX7_solves_28 (fun c_28 => absurd c_28 (nI_nle (by omega) (by omega))) (fun c_28 => ?_)
        refine G.aload_n (k := 0) rfl dX7_solves_31 ?_
        refine G.geti (j := 32) rfl gci_X7 (by decide) rfl fl_X7_335 dX7_solves_32 ?_
        rw [h32]
        refine G.if_ne (tgt := 177) (by decide) dX7_solves_35 (fun c_35 => absurd rfl c_35) (fun c_35 => ?_)
        refine G.aload_n (k := 0) rfl dX7_solves_38 ?_
        refine G.geti (j := 34) rfl gci_X7 (by decide) rfl fl_X7_338 dX7_solves_39 ?_
        rw [h34]
        refine G.sipush (v := 600) (by decide) dX7_solves_42 ?_
        refine G.icmp_ne (tgt := 56) (by decide) dX7_solves_45 (fun c_45 => ?_) (fun c_45 => absurd ((nI_eq (show 600 - (f + 1) < 2 ^ 31 by omega) (show 600 < 2 ^ 31 by decide)).mp c_45) (by omega))
        refine G.aload_n (k := 0) rfl dX7_solves_56 ?_
        refine G.dupr dX7_solves_57 ?_
        refine G.geti (j := 34) rfl gci_X7 (by decide) rfl fl_X7_338 dX7_solves_58 ?_
        rw [h34]
        refine G.iconst (v := 1) (by decide) dX7_solves_61 ?_
        refine G.iadd dX7_solves_62 ?_
        rw [show nI (600 - (f + 1)) + 1 = nI (600 - f) by rw [nI_1]; exact congrArg nI (by omega)]
        refine G.put (j := 34) rfl gci_X7 gcp_X7 (by decide) rfl rfl rfl rfl fl_X7_338 dX7_solves_63 ?_
        refine G.aload_n (k := 0) rfl dX7_solves_66 ?_
        refine G.dupr dX7_solves_67 ?_
        refine G.geti (j := 28) rfl gci_X7 (by decide) rfl fl_X7_287 dX7_solves_68 ?_
        rw [up2_r, if_neg (by decide), hl]
        refine G.iconst (v := 1) (by decide) dX7_solves_71 ?_
        refine G.isub dX7_solves_72 ?_
        rw [nI_pred]
        refine G.put (j := 28) rfl gci_X7 gcp_X7 (by decide) rfl rfl rfl rfl fl_X7_287 dX7_solves_73 ?_
        generalize hτ1 : up2 (up2 τ 0 34 (nI (600 - f))) 0 28 (nI P.length) = τ1
        have r1 : ∀ k, k ≠ 0 → τ1 k = τ k := fun k hk => by rw [← hτ1, up2_ne _ _ _ hk, up2_ne _ _ _ hk]
        have r2 : ∀ i, i ≠ 28 → i ≠ 34 → τ1 0 i = τ 0 i := fun i hi hj => by rw [← hτ1, up2_r, if_neg (fun z => hi z.2), up2_r, if_neg (fun z => hj z.2)]
        have r4 : τ1 0 28 = nI P.length := by rw [← hτ1]; exact up2_at _ _ _ _
        have r5 : τ1 0 34 = nI (600 - f) := by rw [← hτ1, up2_r, if_neg (by decide), up2_at]
        have hF1 : sF σ0 τ1 := sF_tr hF ⟨fun k a _ => r1 k a, fun i h => r2 i (by omega) (by omega)⟩
        have hS1 : PkM τ1 B P := ⟨PlM_congr P (fun k i h1 h2 _ => by rw [r1 k (by omega)]) hS.1.2.2.2.2, r4⟩
        have hv1 : VM τ1 B S.1 := VM_F (r1 16 (by decide)) (r1 17 (by decide)) hZ.1.1
        refine G.aload_n (k := 0) rfl dX7_solves_76 ?_
        refine G.getr (j := 26) rfl gci_X7 (by decide) rfl fl_X7_73 dX7_solves_77 ?_
        refine G.aload_n (k := 0) rfl dX7_solves_80 ?_
        refine G.geti (j := 28) rfl gci_X7 (by decide) rfl fl_X7_287 dX7_solves_81 ?_
        rw [r4]
        refine G.ialdN (k := P.length) rfl (rfl) (by omega) (by decide) dX7_solves_84 ?_
        rw [r1 22 (by decide), hS.1.2.2.1]
        refine G.ist2 (by decide) rfl dX7_solves_85 ?_
        refine G.aload_n (k := 0) rfl dX7_solves_86 ?_
        refine G.getr (j := 27) rfl gci_X7 (by decide) rfl fl_X7_76 dX7_solves_87 ?_
        refine G.aload_n (k := 0) rfl dX7_solves_90 ?_
        refine G.geti (j := 28) rfl gci_X7 (by decide) rfl fl_X7_287 dX7_solves_91 ?_
        rw [r4]
        refine G.ialdN (k := P.length) rfl (rfl) (by omega) (by decide) dX7_solves_94 ?_
        rw [r1 23 (by decide), hS.1.2.2.2.1]
        refine G.ist3 (by decide) rfl dX7_solves_95 ?_
        refine G.aload_n (k := 0) rfl dX7_solves_96 ?_
        refine G.aload_n (k := 0) rfl dX7_solves_97 ?_
        refine G.getr (j := 24) rfl gci_X7 (by decide) rfl fl_X7_67 dX7_solves_98 ?_
        refine G.aload_n (k := 0) rfl dX7_solves_101 ?_
        refine G.geti (j := 28) rfl gci_X7 (by decide) rfl fl_X7_287 dX7_solves_102 ?_
        rw [r4]
        refine G.ialdN (k := P.length) rfl (rfl) (by omega) (by decide) dX7_solves_105 ?_
        rw [r1 20 (by decide), hS.1.1]
        refine G.aload_n (k := 0) rfl dX7_solves_106 ?_
        refine G.getr (j := 25) rfl gci_X7 (by decide) rfl fl_X7_70 dX7_solves_107 ?_
        refine G.aload_n (k := 0) rfl dX7_solves_110 ?_
        refine G.geti (j := 28) rfl gci_X7 (by decide) rfl fl_X7_287 dX7_solves_111 ?_
        rw [r4]
        refine G.ialdN (k := P.length) rfl (rfl) (by omega) (by decide) dX7_solves_114 ?_
        rw [r1 21 (by decide), hS.1.2.1]
        refine G.iconst (v := 1) (by decide) dX7_solves_115 ?_
        refine G.callVv (c_X7_enters (V := S.1) (q := x.1) (fun g hg => sF_P hF1 (hN g hg)) hG.1 hG.2.1 (Or.inr ⟨rfl, hv1⟩) hx.1 hx.2.1) rfl (gci_X7).1 ml_X7_303 im_yX7_enters se_yX7_enters gcl_X7_enters (by decide) rfl rfl (Nat.le_of_ble_eq_true rfl) dX7_solves_116 (fun τ2 hq2 => ?_)
        refine G.aload_n (k := 0) rfl dX7_solves_119 ?_
        refine G.geti (j := 29) rfl gci_X7 (by decide) rfl fl_X7_290 dX7_solves_120 ?_
        rw [hq2.1, ha]
        refine G.ist4 (by decide) rfl dX7_solves_123 ?_
        refine G.aload_n (k := 0) rfl dX7_solves_125 ?_
        refine G.geti (j := 30) rfl gci_X7 (by decide) rfl fl_X7_293 dX7_solves_126 ?_
        rw [hq2.2.1, ha]
        refine G.ist5 (by decide) rfl dX7_solves_129 ?_
        refine G.aload_n (k := 0) rfl dX7_solves_131 ?_
        refine G.iload_n (k := 2) rfl dX7_solves_132 ?_
        refine G.iload_n (k := 3) rfl dX7_solves_133 ?_
        refine G.iconst (v := 1) (by decide) dX7_solves_134 ?_
        refine G.callVv (c_X7_enters (V := S.1) (q := x.2) (fun g hg => sF_P (sF_tr hF1 (eF_s hq2.2.2)) (hN g hg)) hG.1 hG.2.1 (Or.inr ⟨rfl, VM_F (hq2.2.2.1 16 (by decide)) (hq2.2.2.1 17 (by decide)) hv1⟩) hx.2.2.1 hx.2.2.2) rfl (gci_X7).1 ml_X7_303 im_yX7_enters se_yX7_enters gcl_X7_enters (by decide) rfl rfl (Nat.le_of_ble_eq_true rfl) dX7_solves_135 (fun τ3 hq3 => ?_)
        refine G.aload_n (k := 0) rfl dX7_solves_138 ?_
        refine G.aload_n (k := 0) rfl dX7_solves_139 ?_
        refine G.iload (i := 4) rfl dX7_solves_140 ?_
        refine G.iload (i := 5) rfl dX7_solves_142 ?_
        refine G.aload_n (k := 0) rfl dX7_solves_144 ?_
        refine G.geti (j := 29) rfl gci_X7 (by decide) rfl fl_X7_290 dX7_solves_145 ?_
        rw [hq3.1, hb]
        refine G.aload_n (k := 0) rfl dX7_solves_148 ?_
        refine G.geti (j := 30) rfl gci_X7 (by decide) rfl fl_X7_293 dX7_solves_149 ?_
        rw [hq3.2.1, hb]
        have hF3 : sF σ0 τ3 := sF_tr hF1 (sF_tr (eF_s hq2.2.2) (eF_s hq3.2.2))
        have q3 : ∀ k, k ≠ 0 → τ3 k = τ1 k := fun k hk => by rw [hq3.2.2.1 k hk, hq2.2.2.1 k hk]
        have q30 : ∀ i, i ≠ 29 → i ≠ 30 → τ3 0 i = τ1 0 i := fun i h1 h2 => by rw [hq3.2.2.2 i h1 h2, hq2.2.2.2 i h1 h2]
        have hU3 : UM τ3 B td (S.1, P, S.2.2.1, S.2.2.2.1, S.2.2.2.2) := ⟨VM_F (q3 16 (by decide)) (q3 17 (by decide)) hv1, PkM_F (fun k a b => q3 k (by omega)) (q30 28 (by decide) (by decide)) hS1, fun u hu => by rw [q3 27 (by decide), r1 27 (by decide)]; exact hZ.1.2.2.1 u hu, WkM_F (fun k a b => by rw [q3 k (by omega), r1 k (by omega)]) (by rw [q30 35 (by decide) (by decide), r2 35 (by decide) (by decide)]) hZ.1.2.2.2⟩
        refine G.callVi (c_X7_step (fun g hg => sF_P hF3 (hN g hg)) hG.1 hU3 h0 hna hnb hea heb (by omega) (by omega)) rfl (gci_X7).1 ml_X7_341 im_yX7_step se_yX7_step gcl_X7_step (by decide) rfl rfl (Nat.le_of_ble_eq_true rfl) dX7_solves_152 (fun r4 τ4 hq4 => ?_)
        rw [hq4.1, ← hus]
        have hU4 : UM τ4 B td (ustep false B S) := by rw [hus]; exact hq4.2.1
        have hF4 : sF σ0 τ4 := sF_tr hF3 (uF_s hq4.2.2)
        refine G.put (j := 32) rfl gci_X7 gcp_X7 (by decide) rfl rfl rfl rfl fl_X7_335 dX7_solves_155 ?_
        refine G.aload_n (k := 0) rfl dX7_solves_158 ?_
        refine G.aload_n (k := 0) rfl dX7_solves_159 ?_
        refine G.geti (j := 32) rfl gci_X7 (by decide) rfl fl_X7_335 dX7_solves_160 ?_
        rw [up2_at]
        refine G.if_ne (tgt := 170) (by decide) dX7_solves_163 (fun c_163 => ?_) (fun c_163 => ?_)
        · have hwy : ¬ (ustep false B S).2.2.2.2 = 0 := fun z => c_163 (by rw [z]; rfl)
          have hxx : nI e = (if (ustep false B S).2.2.2.2 = 0 then -1 else nI e) := by rw [if_neg hwy]
          refine G.iload_n (k := 1) rfl dX7_solves_170 ?_
          refine G.put (j := 33) rfl gci_X7 gcp_X7 (by decide) rfl rfl rfl rfl fl_X7_345 dX7_solves_171 ?_
          refine G.goto (tgt := 24) (by decide) dX7_solves_174 ?_
          have r6 : ∀ xx i, i ≠ 32 → i ≠ 33 → up2 (up2 τ4 0 32 (nI (ustep false B S).2.2.2.2)) 0 33 xx 0 i = τ4 0 i := fun xx i h1 h2 => by rw [up2_r, if_neg (fun z => h2 z.2), up2_r, if_neg (fun z => h1 z.2)]
          exact ih (ustep false B S) _ _ _ _ _ ⟨UM_F (fun k a b _ _ => by rw [up2_ne _ _ _ (by omega), up2_ne _ _ _ (by omega)]) (r6 _ 28 (by decide) (by decide)) (r6 _ 35 (by decide) (by decide)) hU4, hG2, by omega, by omega, by omega, by rw [up2_r, if_neg (by decide), up2_at], by rw [r6 _ 34 (by decide) (by decide), hq4.2.2.2 34 (by decide) (by decide) (by decide), q30 34 (by decide) (by decide), r5]⟩ (by rw [up2_at]; exact hxx) (sF_tr hF4 (sF_tr (up_s _ (by decide) _) (up_s _ (by decide) _))) (by rw [hR, urun, if_neg (fun z => z.elim (fun z => by rw [hSP] at z; cases z) (fun z => z h0))])
        · have hwy : (ustep false B S).2.2.2.2 = 0 := (nI_eq (show (ustep false B S).2.2.2.2 < 2 ^ 31 by omega) (show 0 < 2 ^ 31 by decide)).mp c_163
          have hxx : (-1 : Int32) = (if (ustep false B S).2.2.2.2 = 0 then -1 else nI e) := by rw [if_pos hwy]
          refine G.iconst (v := (-1)) (by decide) dX7_solves_166 ?_
          refine G.goto (tgt := 171) (by decide) dX7_solves_167 ?_
          refine G.put (j := 33) rfl gci_X7 gcp_X7 (by decide) rfl rfl rfl rfl fl_X7_345 dX7_solves_171 ?_
          refine G.goto (tgt := 24) (by decide) dX7_solves_174 ?_
          have r6 : ∀ xx i, i ≠ 32 → i ≠ 33 → up2 (up2 τ4 0 32 (nI (ustep false B S).2.2.2.2)) 0 33 xx 0 i = τ4 0 i := fun xx i h1 h2 => by rw [up2_r, if_neg (fun z => h2 z.2), up2_r, if_neg (fun z => h1 z.2)]
          exact ih (ustep false B S) _ _ _ _ _ ⟨UM_F (fun k a b _ _ => by rw [up2_ne _ _ _ (by omega), up2_ne _ _ _ (by omega)]) (r6 _ 28 (by decide) (by decide)) (r6 _ 35 (by decide) (by decide)) hU4, hG2, by omega, by omega, by omega, by rw [up2_r, if_neg (by decide), up2_at], by rw [r6 _ 34 (by decide) (by decide), hq4.2.2.2 34 (by decide) (by decide) (by decide), q30 34 (by decide) (by decide), r5]⟩ (by rw [up2_at]; exact hxx) (sF_tr hF4 (sF_tr (up_s _ (by decide) _) (up_s _ (by decide) _))) (by rw [hR, urun, if_neg (fun z => z.elim (fun z => by rw [hSP] at z; cases z) (fun z => z h0))])
theorem urun_f (rig : Bool) (B : Nat → Nat) : ∀ f S, (urun rig B f S).2 ≤ f := by
  intro f
  induction f with
  | zero => intro S; exact Nat.le_refl _
  | succ f ih =>
    intro S
    rw [urun]
    split
    · exact Nat.le_refl _
    · exact Nat.le_succ_of_le (ih _)
set_option maxHeartbeats 4000000 in
set_option maxRecDepth 100000 in
theorem c_X7_solves {ln B td : Nat → Nat} {e f : Nat} {S : uS} (hN : ∀ g, nd B ln g → PrM σ B g) (he : e < 4) (hn : nd B ln (60 * e) ∧ nd B ln (60 * e + 30)) (hU : UM0 σ B td S) (hG : uG B ln S) (h0 : S.2.2.2.2 = 0) (hf : f ≤ 600) (hW : S.2.2.2.1.length + f ≤ 600) (h32 : σ 0 32 = 0) (h33 : σ 0 33 = -1) (h34 : σ 0 34 = nI (600 - f)) : GM (XM l D cA ad) mX7_solves [.ref 0, .int (nI e)] σ (g_rv (fun τ => solP σ τ B ln td e (urun false B f (S.1, [((60 * e, tn_id), (60 * e + 30, tn_id))], S.2.2.1, S.2.2.2.1, S.2.2.2.2)))) := by
  refine GM.of (ls := [some (.ref 0), some (.int (nI e)), none, none, none, none]) (by decide) (Nat.le_of_ble_eq_true rfl) rfl ?_
  obtain ⟨p1, p2⟩ := pN_60 (B := B) (ln := ln) he
  refine G.aload_n (k := 0) rfl dX7_solves_0 ?_
  refine G.iconst (v := 0) (by decide) dX7_solves_1 ?_
  refine G.put (j := 28) rfl gci_X7 gcp_X7 (by decide) rfl rfl rfl rfl fl_X7_287 dX7_solves_2 ?_
  generalize hτ1 : up2 σ 0 28 0 = τ1
  have r1 : ∀ k, k ≠ 0 → τ1 k = σ k := fun k hk => by rw [← hτ1, up2_ne _ _ _ hk]
  have r2 : ∀ i, i ≠ 28 → τ1 0 i = σ 0 i := fun i hi => by rw [← hτ1, up2_r, if_neg (fun z => hi z.2)]
  have r4 : τ1 0 28 = nI 0 := by rw [← hτ1]; exact up2_at _ _ _ _
  refine G.aload_n (k := 0) rfl dX7_solves_5 ?_
  refine G.bipush (v := 60) (by decide) dX7_solves_6 ?_
  refine G.iload_n (k := 1) rfl dX7_solves_8 ?_
  refine G.imul dX7_solves_9 ?_
  rw [show (60 : Int32) * nI e = nI (pN B (60 * e)) by rw [p1]; exact nu_60' e]
  refine G.ldc ct_X7_154 dX7_solves_10 ?_
  refine G.bipush (v := 60) (by decide) dX7_solves_12 ?_
  refine G.iload_n (k := 1) rfl dX7_solves_14 ?_
  refine G.imul dX7_solves_15 ?_
  rw [nu_60']
  refine G.bipush (v := 30) (by decide) dX7_solves_16 ?_
  refine G.iadd dX7_solves_18 ?_
  rw [show nI (60 * e) + 30 = nI (pN B (60 * e + 30)) by rw [p2]; exact nI_add (60 * e) 30]
  refine G.ldc ct_X7_154 dX7_solves_19 ?_
  refine G.callVvf (c_X7_piles (n := 0) r4 (by decide)) rfl (gci_X7).1 ml_X7_299 im_yX7_piles se_yX7_piles gcl_X7_piles (by decide) rfl rfl (Nat.le_of_ble_eq_true rfl) dX7_solves_21 ?_
  have S2 := pi_P (σ := τ1) (B := B) (P := []) ((60 * e, tn_id), (60 * e + 30, tn_id)) trivial
  have pf := pi_F τ1 0 (nI (pN B (60 * e))) 181896 (nI (pN B (60 * e + 30))) 181896
  refine l_X7_solves hN f (S.1, [((60 * e, tn_id), (60 * e + 30, tn_id))], S.2.2.1, S.2.2.2.1, S.2.2.2.2) _ none none none none ⟨⟨VM_F (by rw [pf.1 16 (by decide) (by decide), r1 16 (by decide)]) (by rw [pf.1 17 (by decide) (by decide), r1 17 (by decide)]) hU.1, S2, fun u hu => by rw [pf.1 27 (by decide) (by decide), r1 27 (by decide)]; exact hU.2.1 u hu, WkM_F (fun k a b => by rw [pf.1 k (by omega) (by omega), r1 k (by omega)]) (by rw [pf.2 35 (by decide) (by decide), r2 35 (by decide)]) hU.2.2⟩, ⟨hG.1, hG.2.1, fun y hy => by rw [List.mem_singleton.mp hy]; exact ⟨hn.1, tn_P_id, hn.2, tn_P_id⟩, hG.2.2.2⟩, hf, by show 1 + f ≤ 601; omega, hW, by rw [pf.2 32 (by decide) (by decide), r2 32 (by decide), h32, h0]; rfl, by rw [pf.2 34 (by decide) (by decide), r2 34 (by decide)]; exact h34⟩ (by rw [pf.2 33 (by decide) (by decide), r2 33 (by decide), h33]; exact (if_pos h0).symm) (sF_tr ⟨fun k a _ => r1 k a, fun i h => r2 i (by omega)⟩ (uF_s (pF_u pf))) rfl
end T98

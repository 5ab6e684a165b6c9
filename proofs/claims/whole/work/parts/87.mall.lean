/-! ===== the model: names that stay, all bytes ===== -/
section T87
variable {l : Launch} {D : va_G} {cA : ClassId} {ad : Nat → Nat}
variable {σ : gS}
set_option maxHeartbeats 4000000 in
set_option maxRecDepth 100000 in
theorem l_X7_allTyped {ln B : Nat → Nat} (hT : TM σ ln B) : ∀ j q, q + j = 10 → G (XM l D cA ad) mX7_allTyped (g_ri (fun r τ => r = nI (sumN ln 10) ∧ τ = σ)) 4 [some (.ref 0), some (.int (nI (sumN ln q))), some (.int (nI q))] [] σ := by
  intro j
  induction j with
  | zero =>
    intro q hq
    have hq : q = 10 := by omega
    subst hq
    refine G.iload_n (k := 2) rfl dX7_allTyped_4 ?_
    refine G.bipush (v := 10) (by decide) dX7_allTyped_5 ?_
    refine G.icmp_ge (tgt := 25) (by decide) dX7_allTyped_7 (fun c_7 => ?_) (fun c_7 => absurd (by decide) c_7)
    refine G.iload_n (k := 1) rfl dX7_allTyped_25 ?_
    exact G.iret rfl (⟨rfl, rfl⟩) dX7_allTyped_26
  | succ j ih =>
    intro q hq
    refine G.iload_n (k := 2) rfl dX7_allTyped_4 ?_
    refine G.bipush (v := 10) (by decide) dX7_allTyped_5 ?_
    refine G.icmp_ge (tgt := 25) (by decide) dX7_allTyped_7 (fun c_7 => absurd c_7 (nI_ge (b := 10) (by omega) (by decide))) (fun c_7 => ?_)
    refine G.iload_n (k := 1) rfl dX7_allTyped_10 ?_
    refine G.aload_n (k := 0) rfl dX7_allTyped_11 ?_
    refine G.getr (j := 6) rfl gci_X7 (by decide) rfl fl_X7_25 dX7_allTyped_12 ?_
    refine G.iload_n (k := 2) rfl dX7_allTyped_15 ?_
    refine G.ialdN (k := q) rfl (rfl) (by omega) (by decide) dX7_allTyped_16 ?_
    rw [(hT q (by omega)).1]
    refine G.iadd dX7_allTyped_17 ?_
    rw [nI_add]
    refine G.ist1 (by decide) rfl dX7_allTyped_18 ?_
    refine G.inc2 (d := 1) (by decide) (by decide) rfl dX7_allTyped_19 ?_
    refine G.goto (tgt := 4) (by decide) dX7_allTyped_22 ?_
    rw [nI_1]
    exact ih (q + 1) (by omega)
set_option maxHeartbeats 4000000 in
set_option maxRecDepth 100000 in
theorem c_X7_allTyped {ln B : Nat → Nat} (hT : TM σ ln B) : GM (XM l D cA ad) mX7_allTyped [.ref 0] σ (g_ri (fun r τ => r = nI (sumN ln 10) ∧ τ = σ)) := by
  refine GM.of (ls := [some (.ref 0), none, none]) (by decide) (Nat.le_of_ble_eq_true rfl) rfl ?_
  refine G.iconst (v := 0) (by decide) dX7_allTyped_0 ?_
  refine G.ist1 (by decide) rfl dX7_allTyped_1 ?_
  refine G.iconst (v := 0) (by decide) dX7_allTyped_2 ?_
  refine G.ist2 (by decide) rfl dX7_allTyped_3 ?_
  exact l_X7_allTyped hT 10 0 rfl
end T87

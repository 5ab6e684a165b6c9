/-! ===== the model: which names must be fresh ===== -/
def cov (B : Nat → Nat) (z : aZ) (x : Nat × Nat) : Prop := (Rb B x.1 x.2 → z.2 = true) ∧ ∀ u k, u < 6 → Ru B x.1 x.2 u k → (z.1 u).testBit k = true
def snZ (B : Nat → Nat) (V : uV) (W : List (Nat × Nat)) (w : Nat → Nat) (z : aZ) : Prop := (z.2 = true → BD B V W w) ∧ ∀ u k, u < 6 → (z.1 u).testBit k = true → k < 6 ∧ LU B V W w u k
section FR
variable {B ln : Nat → Nat} {V : uV} {W : List (Nat × Nat)} {w : Nat → Nat} {z z' : aZ} {g m : Nat}
theorem cov_up (h : AskP B g m z z') {x : Nat × Nat} (hc : cov B z x) : cov B z' x := ⟨fun q => h.1.mpr (Or.inl (hc.1 q)), fun u k hu q => (h.2 u k).mpr (Or.inl (hc.2 u k hu q))⟩
theorem cov_at (h : AskP B g m z z') : cov B z' (g, m) := ⟨fun q => h.1.mpr (Or.inr q), fun u k _ q => (h.2 u k).mpr (Or.inr q)⟩
theorem LN_RD {h k : Nat} (hl : LN B V W w g m) (hr : RD B g m h k) : LN B V W w h k := hr (LN B V W w) hl (fun a b q => (LN_cl B V W w).2.2.2.2 a b q)
theorem sn_ask (h : AskP B g m z z') (hn : nd B ln g) (hm : m < 6) (hl : LN B V W w g m) (hs : snZ B V W w z) : snZ B V W w z' := by
  refine ⟨fun q => ?_, fun u k hu q => ?_⟩
  · rcases h.1.mp q with y | ⟨a, y1, y2⟩
    · exact hs.1 y
    · exact ⟨a, y2, LN_RD hl y1⟩
  · rcases (h.2 u k).mp q with y | ⟨a, y1, y2, y3⟩
    · exact hs.2 u k hu y
    · refine ⟨(RD_nd hn hm y1).2, ?_⟩
      rw [← y3]
      exact (LN_cl B V W w).2.2.2.1 a k (LN_RD hl y1) y2
theorem sn_64 (hs : snZ B V W w z) {u : Nat} (hu : u < 6) : z.1 u < 64 := lt64_of (fun k hk => (hs.2 u k hu hk).1)
def ivZ (B : Nat → Nat) (V : uV) (W : List (Nat × Nat)) (w : Nat → Nat) (z : aZ) (dn : Nat → Nat) : Prop := snZ B V W w z ∧ (∀ x ∈ W, cov B z x) ∧ (∀ u k, u < 6 → (w u).testBit k = true → (z.1 u).testBit k = true) ∧ (∀ u n q, u < 6 → (dn u).testBit n = true → V u = some q → cov B z (q.1, tn_src q.2 n)) ∧ ∀ u, dn u < 64
def okc (V : uV) (z : aZ) (dn : Nat → Nat) (i : Nat) : Prop := ∀ q, V (i / 6) = some q → (z.1 (i / 6)).testBit (i % 6) = true → (dn (i / 6)).testBit (i % 6) = true
theorem cov_dwn (h : cov B z (g, m)) : dwn B (fun g m => cov B z (g, m)) g m := by
  refine ⟨fun c => ⟨fun q => h.1 ((Rb_4 c).mpr q), fun u k hu q => h.2 u k hu ((Ru_4 c).mpr q)⟩, fun c => ⟨⟨fun q => h.1 ((Rb_5 c).mpr (Or.inl q)), fun u k hu q => h.2 u k hu ((Ru_5 c).mpr (Or.inl q))⟩, ⟨fun q => h.1 ((Rb_5 c).mpr (Or.inr q)), fun u k hu q => h.2 u k hu ((Ru_5 c).mpr (Or.inr q))⟩⟩, fun c c2 => ⟨fun q => h.1 ((Rb_6 c).mpr ⟨c2, q⟩), fun u k hu q => h.2 u k hu ((Ru_6 c).mpr ⟨c2, q⟩)⟩, fun c => ⟨fun q => h.1 ((Rb_7 c).mpr q), fun u k hu q => h.2 u k hu ((Ru_7 c).mpr q)⟩⟩
theorem fr_end {dn : Nat → Nat} (hV : VG B ln V) (hI : ivZ B V W w z dn) (hk : ∀ i, i < 36 → okc V z dn i) : (z.2 = true ↔ BD B V W w) ∧ ∀ u k, u < 6 → ((z.1 u).testBit k = true ↔ (k < 6 ∧ LU B V W w u k)) := by
  have cl : clF B V W w (fun g m => cov B z (g, m)) (fun u m => u < 6 → (z.1 u).testBit m = true) := by
    refine ⟨fun x hx => hI.2.1 x hx, fun u m _ _ hb hu => hI.2.2.1 u m hu hb, fun u q m hq hm hs => ?_, fun g m hs hc _ => ?_, fun g m hs => cov_dwn hs⟩
    · have hu := (hV u q hq).1
      have h1 := hk (6 * u + m) (by omega)
      unfold okc at h1
      rw [show (6 * u + m) / 6 = u by omega, show (6 * u + m) % 6 = m by omega] at h1
      exact hI.2.2.2.1 u m q hu (h1 q hq (hs hu)) hq
    · exact hs.2 _ m (l80 hc) ((Ru_2 hc).mpr ⟨rfl, rfl⟩)
  refine ⟨⟨hI.1.1, fun ⟨g, h1, h2⟩ => ?_⟩, fun u k hu => ⟨hI.1.2 u k hu, fun h => h.2 _ _ cl hu⟩⟩
  exact (h2 _ _ cl).1 ((Rb_1 h1).mpr rfl)
end FR
def hF (σ τ : gS) : Prop := (∀ k, k ≠ 0 → k ≠ 14 → k ≠ 15 → k ≠ 18 → k ≠ 19 → k ≠ 28 → τ k = σ k) ∧ ∀ i, i ≠ 18 → i ≠ 23 → i ≠ 32 → τ 0 i = σ 0 i
theorem hF_rf (σ : gS) : hF σ σ := ⟨fun _ _ _ _ _ _ _ => rfl, fun _ _ _ _ => rfl⟩
theorem hF_tr {σ τ υ : gS} (h1 : hF σ τ) (h2 : hF τ υ) : hF σ υ := ⟨fun k a b c d e f => (h2.1 k a b c d e f).trans (h1.1 k a b c d e f), fun i a b c => (h2.2 i a b c).trans (h1.2 i a b c)⟩
theorem aF_h {σ τ : gS} (h : aF σ τ) : hF σ τ := ⟨fun k a b c d e _ => h.1 k a b c d e, fun i a b _ => h.2 i a b⟩
theorem hF_28 (σ : gS) (u : Nat) (x : Int32) : hF σ (up2 σ 28 u x) := ⟨fun k _ _ _ _ _ f => up2_ne _ _ _ f, fun i _ _ _ => by rw [up2_ne _ _ _ (by decide)]⟩
theorem hF_P {σ τ : gS} {B : Nat → Nat} {g : Nat} (h : hF σ τ) (hP : PrM σ B g) : PrM τ B g := PrM_F (fun k a b => h.1 k (by omega) (by omega) (by omega) (by omega) (by omega) (by omega)) hP
theorem hF_V {σ τ : gS} {B : Nat → Nat} {V : uV} (h : hF σ τ) (hv : VM σ B V) : VM τ B V := VM_F (h.1 16 (by decide) (by decide) (by decide) (by decide) (by decide) (by decide)) (h.1 17 (by decide) (by decide) (by decide) (by decide) (by decide) (by decide)) hv
def frS (σ0 τ : gS) (z : aZ) (dn : Nat → Nat) : Prop := aH τ z ∧ (∀ u, u < 6 → τ 28 u = nI (dn u)) ∧ hF σ0 τ
theorem WnM_suf {σ : gS} {B : Nat → Nat} : ∀ a r : List (Nat × Nat), WnM σ B (a ++ r) → WnM σ B r := by
  intro a r
  induction a with
  | nil => exact fun h => h
  | cons x a ih => exact fun h => ih h.2
theorem d36 : ∀ i, i < 36 → nI i / 6 = nI (i / 6) ∧ nI i - nI i / 6 * 6 = nI (i % 6) := by decide +kernel
theorem pw_ne {n : Nat} : ∀ a, a < 64 → ∀ n, n < 6 → a.testBit n = false → 2 ^ n &&& (63 ^^^ a) ≠ 0 := by decide +kernel
section T99
variable {l : Launch} {D : va_G} {cA : ClassId} {ad : Nat → Nat}
variable {σ σ0 : gS}
set_option maxHeartbeats 4000000 in
set_option maxRecDepth 100000 in
theorem x_X7_freshens {ln B td : Nat → Nat} {S : uS} (hN : ∀ g, nd B ln g → PrM σ0 B g) (hU : UM0 σ0 B td S) (hG : uG B ln S) (h0 : S.2.2.2.2 = 0) {y2 y3 y4 : Option Value} {z : aZ} {dn : Nat → Nat} (hS : frS σ0 σ z dn) (hI : ivZ B S.1 S.2.2.2.1 S.2.2.1 z dn) (hk : ∀ i, i < 36 → okc S.1 z dn i) : G (XM l D cA ad) mX7_freshens (g_rv (fun τ => (∀ f wh, τ 0 32 = nI (uwhy B (S, f, wh)) ∧ ∀ u, u < 6 → τ 19 u = nI (uMu B (S, f, wh) u)) ∧ hF σ0 τ)) 85 [some (.ref 0), some (.int 0), y2, y3, y4] [] σ := by
  obtain ⟨e1, e2⟩ := fr_end hG.1 hI hk
  have hfin : ∀ x : Int32, x = (if z.2 = true then 3 else 0) → (∀ f wh, up2 σ 0 32 x 0 32 = nI (uwhy B (S, f, wh)) ∧ ∀ u, u < 6 → up2 σ 0 32 x 19 u = nI (uMu B (S, f, wh) u)) ∧ hF σ0 (up2 σ 0 32 x) := by
    intro x hx
    refine ⟨fun f wh => ⟨?_, fun u hu => ?_⟩, hF_tr hS.2.2 ⟨fun k a _ _ _ _ _ => up2_ne _ _ _ a, fun i _ _ c => by rw [up2_r, if_neg (fun y => c y.2)]⟩⟩
    · rw [up2_at, hx]
      show _ = nI (if S.2.2.2.2 ≠ 0 then S.2.2.2.2 else @ite _ (BD B S.1 S.2.2.2.1 S.2.2.1) (Classical.propDecidable _) 3 0)
      have hno : ¬ S.2.2.2.2 ≠ 0 := fun y => y h0
      by_cases c : BD B S.1 S.2.2.2.1 S.2.2.1
      · rw [if_pos (e1.mpr c), if_neg hno, if_pos c]; rfl
      · rw [if_neg (fun y => c (e1.mp y)), if_neg hno, if_neg c]; rfl
    · rw [up2_ne _ _ _ (by decide), hS.1.1 u hu]
      refine congrArg nI (ms_ext (sn_64 hI.1 hu) (uMu_lt B (S, f, wh) u) (fun n hn => ?_))
      rw [Bool.eq_iff_iff, e2 u n hu, uMu_bit]
  refine G.iload_n (k := 1) rfl dX7_freshens_85 ?_
  refine G.if_eq (tgt := 190) (by decide) dX7_freshens_86 (fun c_86 => ?_) (fun c_86 => absurd rfl c_86)
  refine G.aload_n (k := 0) rfl dX7_freshens_190 ?_
  refine G.aload_n (k := 0) rfl dX7_freshens_191 ?_
  refine G.geti (j := 23) rfl gci_X7 (by decide) rfl fl_X7_249 dX7_freshens_192 ?_
  rw [hS.1.2]
  refine G.if_eq (tgt := 202) (by decide) dX7_freshens_195 (fun c_195 => ?_) (fun c_195 => ?_)
  · have hb : ¬ z.2 = true := fun e => by rw [if_pos e] at c_195; exact absurd c_195 (by decide)
    refine G.iconst (v := 0) (by decide) dX7_freshens_202 ?_
    refine G.put (j := 32) rfl gci_X7 gcp_X7 (by decide) rfl rfl rfl rfl fl_X7_335 dX7_freshens_203 ?_
    exact G.vret rfl (hfin _ (by first | rw [if_pos hb] | rw [if_neg hb])) dX7_freshens_206
  · have hb : z.2 = true := Decidable.byContradiction (fun e => by rw [if_neg e] at c_195; exact c_195 rfl)
    refine G.iconst (v := 3) (by decide) dX7_freshens_198 ?_
    refine G.goto (tgt := 203) (by decide) dX7_freshens_199 ?_
    refine G.put (j := 32) rfl gci_X7 gcp_X7 (by decide) rfl rfl rfl rfl fl_X7_335 dX7_freshens_203 ?_
    exact G.vret rfl (hfin _ (by first | rw [if_pos hb] | rw [if_neg hb])) dX7_freshens_206
set_option maxHeartbeats 4000000 in
set_option maxRecDepth 100000 in
theorem li_X7_freshens {ln B td : Nat → Nat} {S : uS} (hN : ∀ g, nd B ln g → PrM σ0 B g) (hU : UM0 σ0 B td S) (hG : uG B ln S) (h0 : S.2.2.2.2 = 0) {Q : Option Value → gS → Prop} {dn0 : Nat → Nat} : ∀ j i (mo : Bool) z dn (τ : gS) (y3 y4 : Option Value), i + j = 36 → frS σ0 τ z dn → ivZ B S.1 S.2.2.2.1 S.2.2.1 z dn → (tot dn0 ≤ tot dn ∧ (mo = true → tot dn0 < tot dn) ∧ (mo = false → ∀ i2, i2 < i → okc S.1 z dn i2)) → (∀ (mo : Bool) z dn (τ : gS) (y2 y3 y4 : Option Value), frS σ0 τ z dn → ivZ B S.1 S.2.2.2.1 S.2.2.1 z dn → (tot dn0 ≤ tot dn ∧ (mo = true → tot dn0 < tot dn) ∧ (mo = false → ∀ i2, i2 < 36 → okc S.1 z dn i2)) → G (XM l D cA ad) mX7_freshens Q 85 [some (.ref 0), some (.int (if mo = true then 1 else 0)), y2, y3, y4] [] τ) → G (XM l D cA ad) mX7_freshens Q 93 [some (.ref 0), some (.int (if mo = true then 1 else 0)), some (.int (nI i)), y3, y4] [] τ := by
  intro j
  induction j with
  | zero =>
    intro i mo z dn τ y3 y4 hj hS hI hp K
    have hi : i = 36 := by omega
    subst hi
    refine G.iload_n (k := 2) rfl dX7_freshens_93 ?_
    refine G.bipush (v := 36) (by decide) dX7_freshens_94 ?_
    refine G.icmp_ge (tgt := 187) (by decide) dX7_freshens_96 (fun c_96 => ?_) (fun c_96 => absurd (by decide) c_96)
    refine G.goto (tgt := 85) (by decide) dX7_freshens_187 ?_
    exact K mo z dn τ _ _ _ hS hI hp
  | succ j ih =>
    intro i mo z dn τ y3 y4 hj hS hI hp K
    obtain ⟨d1, d2⟩ := d36 i (by omega)
    have hu6 : i / 6 < 6 := by omega
    have hn6 : i % 6 < 6 := by omega
    have hv := hF_V hS.2.2 hU.1
    have hz64 := sn_64 hI.1 hu6
    have hd64 := hI.2.2.2.2 (i / 6)
    refine G.iload_n (k := 2) rfl dX7_freshens_93 ?_
    refine G.bipush (v := 36) (by decide) dX7_freshens_94 ?_
    refine G.icmp_ge (tgt := 187) (by decide) dX7_freshens_96 (fun c_96 => absurd c_96 (nI_ge (b := 36) (by omega) (by decide))) (fun c_96 => ?_)
    refine G.iload_n (k := 2) rfl dX7_freshens_99 ?_
    refine G.bipush (v := 6) (by decide) dX7_freshens_100 ?_
    refine G.idiv (by decide) dX7_freshens_102 ?_
    rw [d1]
    refine G.ist3 (by decide) rfl dX7_freshens_103 ?_
    refine G.iload_n (k := 2) rfl dX7_freshens_104 ?_
    refine G.bipush (v := 6) (by decide) dX7_freshens_105 ?_
    refine G.irem (by decide) dX7_freshens_107 ?_
    rw [d2]
    refine G.ist4 (by decide) rfl dX7_freshens_108 ?_
    refine G.aload_n (k := 0) rfl dX7_freshens_110 ?_
    refine G.getr (j := 19) rfl gci_X7 (by decide) rfl fl_X7_55 dX7_freshens_111 ?_
    refine G.iload_n (k := 3) rfl dX7_freshens_114 ?_
    refine G.ialdN (k := i / 6) rfl (rfl) (hu6) (by decide) dX7_freshens_115 ?_
    rw [(hv _ hu6).1]
    refine G.iconst (v := (-1)) (by decide) dX7_freshens_116 ?_
    refine G.icmp_eq (tgt := 181) (by decide) dX7_freshens_117 (fun c_117 => ?_) (fun c_117 => ?_)
    · have hok : okc S.1 z dn i := fun q hq => by
        rw [vp, hq] at c_117
        exact absurd c_117 (pN_ne1 (hG.1 _ _ hq).2.1)
      refine G.inc2 (d := 1) (by decide) (by decide) rfl dX7_freshens_181 ?_
      refine G.goto (tgt := 93) (by decide) dX7_freshens_184 ?_
      rw [nI_1]
      first
      | (refine ih (i + 1) mo z dn _ _ _ (by omega) hS hI ⟨hp.1, hp.2.1, fun hm i2 hi2 => ?_⟩ K
         by_cases e9 : i2 = i
         · subst e9; exact hok
         · exact hp.2.2 hm i2 (by omega))
      | exact ih (i + 1) true z2 _ _ _ _ (by omega) ⟨q2, fun u hu => by rw [q3.1 28 (by decide) (by decide) (by decide) (by decide) (by decide)]; exact hd1 u hu, hF_tr hF1 (aF_h q3)⟩ hI2 ⟨by have := hp.1; omega, fun _ => by have := hp.1; omega, fun h => by cases h⟩ K
    · obtain ⟨q, hq⟩ : ∃ q, S.1 (i / 6) = some q := by
        cases e : S.1 (i / 6) with
        | none => rw [vp, e] at c_117; exact absurd rfl c_117
        | some q => exact ⟨q, rfl⟩
      have hvp : vp B S.1 (i / 6) = nI (pN B q.1) := by rw [vp, hq]
      have hqn := hG.1 _ _ hq
      refine G.aload_n (k := 0) rfl dX7_freshens_120 ?_
      refine G.getr (j := 22) rfl gci_X7 (by decide) rfl fl_X7_64 dX7_freshens_121 ?_
      refine G.iload_n (k := 3) rfl dX7_freshens_124 ?_
      refine G.ialdN (k := i / 6) rfl (rfl) (hu6) (by decide) dX7_freshens_125 ?_
      rw [hS.1.1 _ hu6]
      refine G.iload (i := 4) rfl dX7_freshens_126 ?_
      refine G.callSif (c_X7_isIn (b := z.1 (i / 6)) (n := i % 6) (by omega) (by omega)) ml_X7_200 ws_yX7_isIn gcl_X7_isIn (by decide) rfl rfl (Nat.le_of_ble_eq_true rfl) dX7_freshens_128 ?_
      refine G.if_eq (tgt := 181) (by decide) dX7_freshens_131 (fun c_131 => ?_) (fun c_131 => ?_)
      · have hok : okc S.1 z dn i := fun q _ hb => absurd hb (bo_0.mp c_131)
        refine G.inc2 (d := 1) (by decide) (by decide) rfl dX7_freshens_181 ?_
        refine G.goto (tgt := 93) (by decide) dX7_freshens_184 ?_
        rw [nI_1]
        first
        | (refine ih (i + 1) mo z dn _ _ _ (by omega) hS hI ⟨hp.1, hp.2.1, fun hm i2 hi2 => ?_⟩ K
           by_cases e9 : i2 = i
           · subst e9; exact hok
           · exact hp.2.2 hm i2 (by omega))
        | exact ih (i + 1) true z2 _ _ _ _ (by omega) ⟨q2, fun u hu => by rw [q3.1 28 (by decide) (by decide) (by decide) (by decide) (by decide)]; exact hd1 u hu, hF_tr hF1 (aF_h q3)⟩ hI2 ⟨by have := hp.1; omega, fun _ => by have := hp.1; omega, fun h => by cases h⟩ K
      · have hmb := bo_n.mp c_131
        refine G.aload_n (k := 0) rfl dX7_freshens_134 ?_
        refine G.getr (j := 40) rfl gci_X7 (by decide) rfl fl_X7_91 dX7_freshens_135 ?_
        refine G.iload_n (k := 3) rfl dX7_freshens_138 ?_
        refine G.ialdN (k := i / 6) rfl (rfl) (hu6) (by decide) dX7_freshens_139 ?_
        rw [hS.2.1 _ hu6]
        refine G.iload (i := 4) rfl dX7_freshens_140 ?_
        refine G.callSif (c_X7_isIn (b := dn (i / 6)) (n := i % 6) (by omega) (by omega)) ml_X7_200 ws_yX7_isIn gcl_X7_isIn (by decide) rfl rfl (Nat.le_of_ble_eq_true rfl) dX7_freshens_142 ?_
        refine G.if_ne (tgt := 181) (by decide) dX7_freshens_145 (fun c_145 => ?_) (fun c_145 => ?_)
        · have hok : okc S.1 z dn i := fun q _ _ => bo_n.mp c_145
          refine G.inc2 (d := 1) (by decide) (by decide) rfl dX7_freshens_181 ?_
          refine G.goto (tgt := 93) (by decide) dX7_freshens_184 ?_
          rw [nI_1]
          first
          | (refine ih (i + 1) mo z dn _ _ _ (by omega) hS hI ⟨hp.1, hp.2.1, fun hm i2 hi2 => ?_⟩ K
             by_cases e9 : i2 = i
             · subst e9; exact hok
             · exact hp.2.2 hm i2 (by omega))
          | exact ih (i + 1) true z2 _ _ _ _ (by omega) ⟨q2, fun u hu => by rw [q3.1 28 (by decide) (by decide) (by decide) (by decide) (by decide)]; exact hd1 u hu, hF_tr hF1 (aF_h q3)⟩ hI2 ⟨by have := hp.1; omega, fun _ => by have := hp.1; omega, fun h => by cases h⟩ K
        · have hdb : (dn (i / 6)).testBit (i % 6) = false := by simpa using bo_0.mp c_145
          refine G.aload_n (k := 0) rfl dX7_freshens_148 ?_
          refine G.getr (j := 40) rfl gci_X7 (by decide) rfl fl_X7_91 dX7_freshens_149 ?_
          refine G.iload_n (k := 3) rfl dX7_freshens_152 ?_
          refine G.dup2 dX7_freshens_153 ?_
          refine G.ialdN (k := i / 6) rfl (rfl) (hu6) (by decide) dX7_freshens_154 ?_
          rw [hS.2.1 _ hu6]
          refine G.iconst (v := 1) (by decide) dX7_freshens_155 ?_
          refine G.iload (i := 4) rfl dX7_freshens_156 ?_
          refine G.ishl dX7_freshens_158 ?_
          rw [(sh1_u _ hn6).1]
          refine G.ior dX7_freshens_159 ?_
          rw [nu_or]
          refine G.iastN (k := i / 6) rfl (rfl) (hu6) (by decide) dX7_freshens_160 ?_
          generalize hτ1 : up2 τ 28 (i / 6) (nI (dn (i / 6) ||| 2 ^ (i % 6))) = τ1
          have hF1 : hF σ0 τ1 := hF_tr hS.2.2 (by rw [← hτ1]; exact hF_28 _ _ _)
          have r1 : ∀ k, k ≠ 28 → τ1 k = τ k := fun k hk => by rw [← hτ1, up2_ne _ _ _ hk]
          have hz1 : aH τ1 z := ⟨fun u hu => by rw [r1 19 (by decide)]; exact hS.1.1 u hu, by rw [r1 0 (by decide)]; exact hS.1.2⟩
          have hd1 : ∀ u, u < 6 → τ1 28 u = nI (addM dn (i / 6) (2 ^ (i % 6)) u) := by
            intro u hu
            rw [← hτ1, up2_r]
            unfold addM
            by_cases e9 : u = i / 6
            · rw [if_pos ⟨rfl, e9⟩, if_pos e9, e9]
            · rw [if_neg (fun y => e9 y.2), if_neg e9]; exact hS.2.1 u hu
          have hv1 := hF_V hF1 hU.1
          refine G.aload_n (k := 0) rfl dX7_freshens_161 ?_
          refine G.iload (i := 4) rfl dX7_freshens_162 ?_
          refine G.aload_n (k := 0) rfl dX7_freshens_164 ?_
          refine G.getr (j := 19) rfl gci_X7 (by decide) rfl fl_X7_55 dX7_freshens_165 ?_
          refine G.iload_n (k := 3) rfl dX7_freshens_168 ?_
          refine G.ialdN (k := i / 6) rfl (rfl) (hu6) (by decide) dX7_freshens_169 ?_
          rw [(hv1 _ hu6).1, hvp]
          refine G.aload_n (k := 0) rfl dX7_freshens_170 ?_
          refine G.getr (j := 20) rfl gci_X7 (by decide) rfl fl_X7_58 dX7_freshens_171 ?_
          refine G.iload_n (k := 3) rfl dX7_freshens_174 ?_
          refine G.ialdN (k := i / 6) rfl (rfl) (hu6) (by decide) dX7_freshens_175 ?_
          rw [(hv1 _ hu6).2 q hq]
          refine G.callVv (c_X7_asks (n := i % 6) (g := q.1) (p := q.2) (fun g hg => hF_P hF1 (hN g hg)) hn6 hqn.2.1 hqn.2.2 hz1) rfl (gci_X7).1 ml_X7_253 im_yX7_asks se_yX7_asks gcl_X7_asks (by decide) rfl rfl (Nat.le_of_ble_eq_true rfl) dX7_freshens_176 (fun τ2 hq2 => ?_)
          obtain ⟨z2, q1, q2, q3⟩ := hq2
          have hLU : LU B S.1 S.2.2.2.1 S.2.2.1 (i / 6) (i % 6) := (hI.1.2 _ _ hu6 hmb).2
          have hLN : LN B S.1 S.2.2.2.1 S.2.2.1 q.1 (tn_src q.2 (i % 6)) := (LN_cl B S.1 S.2.2.2.1 S.2.2.1).2.2.1 _ _ _ hq hn6 hLU
          have hI2 : ivZ B S.1 S.2.2.2.1 S.2.2.1 z2 (addM dn (i / 6) (2 ^ (i % 6))) := by
            refine ⟨sn_ask q1 hqn.2.1 (tn_src_lt hn6) hLN hI.1, fun x hx => cov_up q1 (hI.2.1 x hx), fun u k hu hb => (q1.2 u k).mpr (Or.inl (hI.2.2.1 u k hu hb)), fun u n q' hu hb hq' => ?_, addM_lt hI.2.2.2.2 (sh1_u _ hn6).2⟩
            rcases addM_of hb with y | ⟨y1, y2⟩
            · exact cov_up q1 (hI.2.2.2.1 u n q' hu y hq')
            · subst y1
              rw [hq] at hq'
              cases hq'
              rw [Nat.testBit_two_pow] at y2
              rw [← of_decide_eq_true y2]
              exact cov_at q1
          have htl := tot_lt hu6 hI.2.2.2.2 (sh1_u _ hn6).2 (pw_ne (n := 0) _ hd64 _ hn6 hdb)
          refine G.iconst (v := 1) (by decide) dX7_freshens_179 ?_
          refine G.ist1 (by decide) rfl dX7_freshens_180 ?_
          refine G.inc2 (d := 1) (by decide) (by decide) rfl dX7_freshens_181 ?_
          refine G.goto (tgt := 93) (by decide) dX7_freshens_184 ?_
          rw [nI_1]
          first
          | (refine ih (i + 1) mo z dn _ _ _ (by omega) hS hI ⟨hp.1, hp.2.1, fun hm i2 hi2 => ?_⟩ K
             by_cases e9 : i2 = i
             · subst e9; exact hok
             · exact hp.2.2 hm i2 (by omega))
          | exact ih (i + 1) true z2 _ _ _ _ (by omega) ⟨q2, fun u hu => by rw [q3.1 28 (by decide) (by decide) (by decide) (by decide) (by decide)]; exact hd1 u hu, hF_tr hF1 (aF_h q3)⟩ hI2 ⟨by have := hp.1; omega, fun _ => by have := hp.1; omega, fun h => by cases h⟩ K
set_option maxHeartbeats 4000000 in
set_option maxRecDepth 100000 in
theorem lo_X7_freshens {ln B td : Nat → Nat} {S : uS} (hN : ∀ g, nd B ln g → PrM σ0 B g) (hU : UM0 σ0 B td S) (hG : uG B ln S) (h0 : S.2.2.2.2 = 0) : ∀ F z dn (τ : gS) (y2 y3 y4 : Option Value), 37 ≤ tot dn + F → frS σ0 τ z dn → ivZ B S.1 S.2.2.2.1 S.2.2.1 z dn → G (XM l D cA ad) mX7_freshens (g_rv (fun τ => (∀ f wh, τ 0 32 = nI (uwhy B (S, f, wh)) ∧ ∀ u, u < 6 → τ 19 u = nI (uMu B (S, f, wh) u)) ∧ hF σ0 τ)) 85 [some (.ref 0), some (.int 1), y2, y3, y4] [] τ := by
  intro F
  induction F with
  | zero => intro z dn τ y2 y3 y4 h hS hI; have := tot_le hI.2.2.2.2; omega
  | succ F ih =>
    intro z dn τ y2 y3 y4 h hS hI
    refine G.iload_n (k := 1) rfl dX7_freshens_85 ?_
    refine G.if_eq (tgt := 190) (by decide) dX7_freshens_86 (fun c_86 => absurd c_86 (by decide)) (fun c_86 => ?_)
    refine G.iconst (v := 0) (by decide) dX7_freshens_89 ?_
    refine G.ist1 (by decide) rfl dX7_freshens_90 ?_
    refine G.iconst (v := 0) (by decide) dX7_freshens_91 ?_
    refine G.ist2 (by decide) rfl dX7_freshens_92 ?_
    refine li_X7_freshens hN hU hG h0 (dn0 := dn) 36 0 false z dn τ _ _ rfl hS hI ⟨Nat.le_refl _, fun h => (by cases h), fun _ i2 h => absurd h (Nat.not_lt_zero _)⟩ (fun mo z2 dn2 τ2 y2 y3 y4 hS2 hI2 hp2 => ?_)
    cases mo with
    | true => exact ih z2 dn2 τ2 _ _ _ (by have := hp2.2.1 rfl; omega) hS2 hI2
    | false => exact x_X7_freshens hN hU hG h0 hS2 hI2 (hp2.2.2 rfl)
set_option maxHeartbeats 4000000 in
set_option maxRecDepth 100000 in
theorem l1_X7_freshens {ln B td : Nat → Nat} {S : uS} (hN : ∀ g, nd B ln g → PrM σ0 B g) (hU : UM0 σ0 B td S) (hG : uG B ln S) (h0 : S.2.2.2.2 = 0) : ∀ j a r z (τ : gS) (y2 y3 y4 : Option Value), List.length a = j → S.2.2.2.1 = a ++ r → frS σ0 τ z (fun _ => 0) → snZ B S.1 S.2.2.2.1 S.2.2.1 z → (∀ x ∈ r, cov B z x) → (∀ u k, u < 6 → (S.2.2.1 u).testBit k = true → (z.1 u).testBit k = true) → S.2.2.2.1.length ≤ 600 → G (XM l D cA ad) mX7_freshens (g_rv (fun τ => (∀ f wh, τ 0 32 = nI (uwhy B (S, f, wh)) ∧ ∀ u, u < 6 → τ 19 u = nI (uMu B (S, f, wh) u)) ∧ hF σ0 τ)) 47 [some (.ref 0), some (.int (nI r.length)), y2, y3, y4] [] τ := by
  intro j
  induction j with
  | zero =>
    intro a r z τ y2 y3 y4 hj hW hS hs hc hw hl
    have ha : a = [] := List.length_eq_zero_iff.mp hj
    subst ha
    have hW2 : S.2.2.2.1 = r := hW
    have h35 : τ 0 35 = nI r.length := by rw [hS.2.2.2 35 (by decide) (by decide) (by decide), hU.2.2.2, hW2]
    refine G.iload_n (k := 1) rfl dX7_freshens_47 ?_
    refine G.aload_n (k := 0) rfl dX7_freshens_48 ?_
    refine G.geti (j := 35) rfl gci_X7 (by decide) rfl fl_X7_332 dX7_freshens_49 ?_
    rw [h35]
    refine G.icmp_ge (tgt := 83) (by decide) dX7_freshens_52 (fun c_52 => ?_) (fun c_52 => absurd (Int32.le_refl _) c_52)
    refine G.iconst (v := 1) (by decide) dX7_freshens_83 ?_
    refine G.ist1 (by decide) rfl dX7_freshens_84 ?_
    exact lo_X7_freshens hN hU hG h0 37 z (fun _ => 0) τ _ _ _ (by omega) hS ⟨hs, fun x hx => hc x (by rw [← hW2]; exact hx), hw, fun u n q hu hb => (by simp at hb), fun u => (by show 0 < 64; decide)⟩
  | succ j ih =>
    intro a r z τ y2 y3 y4 hj hW hS hs hc hw hl
    obtain ⟨a2, x, rfl⟩ : ∃ a2 x, a = a2 ++ [x] := by
      rcases List.eq_nil_or_concat a with e | ⟨a2, x, e⟩
      · rw [e] at hj; cases hj
      · exact ⟨a2, x, by rw [e, List.concat_eq_append]⟩
    have hW2 : S.2.2.2.1 = a2 ++ (x :: r) := by rw [hW, List.append_assoc]; rfl
    have hWn := hU.2.2.1
    rw [hW2] at hWn
    obtain ⟨⟨n, p, b1, b2, b3, b4, b5, b6⟩, _⟩ := WnM_suf a2 (x :: r) hWn
    have hlen : S.2.2.2.1.length = a2.length + (r.length + 1) := by rw [hW2, List.length_append]; rfl
    have h35 : τ 0 35 = nI S.2.2.2.1.length := by rw [hS.2.2.2 35 (by decide) (by decide) (by decide), hU.2.2.2]
    have hxm : x ∈ S.2.2.2.1 := by rw [hW2]; exact List.mem_append_right _ List.mem_cons_self
    have hxn := hG.2.2.2.2.1 x hxm
    have e24 := hS.2.2.1 24 (by decide) (by decide) (by decide) (by decide) (by decide) (by decide)
    have e25 := hS.2.2.1 25 (by decide) (by decide) (by decide) (by decide) (by decide) (by decide)
    have e26 := hS.2.2.1 26 (by decide) (by decide) (by decide) (by decide) (by decide) (by decide)
    refine G.iload_n (k := 1) rfl dX7_freshens_47 ?_
    refine G.aload_n (k := 0) rfl dX7_freshens_48 ?_
    refine G.geti (j := 35) rfl gci_X7 (by decide) rfl fl_X7_332 dX7_freshens_49 ?_
    rw [h35]
    refine G.icmp_ge (tgt := 83) (by decide) dX7_freshens_52 (fun c_52 => absurd c_52 (nI_ge (by omega) (by omega))) (fun c_52 => ?_)
    refine G.aload_n (k := 0) rfl dX7_freshens_55 ?_
    refine G.aload_n (k := 0) rfl dX7_freshens_56 ?_
    refine G.getr (j := 36) rfl gci_X7 (by decide) rfl fl_X7_79 dX7_freshens_57 ?_
    refine G.iload_n (k := 1) rfl dX7_freshens_60 ?_
    refine G.ialdN (k := r.length) rfl (rfl) (by omega) (by decide) dX7_freshens_61 ?_
    rw [e24, b3]
    refine G.aload_n (k := 0) rfl dX7_freshens_62 ?_
    refine G.getr (j := 37) rfl gci_X7 (by decide) rfl fl_X7_82 dX7_freshens_63 ?_
    refine G.iload_n (k := 1) rfl dX7_freshens_66 ?_
    refine G.ialdN (k := r.length) rfl (rfl) (by omega) (by decide) dX7_freshens_67 ?_
    rw [e25, b4]
    refine G.aload_n (k := 0) rfl dX7_freshens_68 ?_
    refine G.getr (j := 38) rfl gci_X7 (by decide) rfl fl_X7_85 dX7_freshens_69 ?_
    refine G.iload_n (k := 1) rfl dX7_freshens_72 ?_
    refine G.ialdN (k := r.length) rfl (rfl) (by omega) (by decide) dX7_freshens_73 ?_
    rw [e26, b5]
    refine G.callVv (c_X7_asks (g := x.1) (fun g hg => hF_P hS.2.2 (hN g hg)) b1 hxn.1 b2 hS.1) rfl (gci_X7).1 ml_X7_253 im_yX7_asks se_yX7_asks gcl_X7_asks (by decide) rfl rfl (Nat.le_of_ble_eq_true rfl) dX7_freshens_74 (fun τ2 hq2 => ?_)
    obtain ⟨z2, q1, q2, q3⟩ := hq2
    rw [← b6] at q1
    refine G.inc1 (d := 1) (by decide) (by decide) rfl dX7_freshens_77 ?_
    refine G.goto (tgt := 47) (by decide) dX7_freshens_80 ?_
    rw [nI_1]
    refine ih a2 (x :: r) z2 _ _ _ _ (by rw [List.length_append] at hj; simpa using hj) hW2 ⟨q2, fun u hu => by rw [q3.1 28 (by decide) (by decide) (by decide) (by decide) (by decide)]; exact hS.2.1 u hu, hF_tr hS.2.2 (aF_h q3)⟩ (sn_ask q1 hxn.1 hxn.2 ((LN_cl B S.1 S.2.2.2.1 S.2.2.1).1 x hxm) hs) (fun y hy => ?_) (fun u k hu hb => (q1.2 u k).mpr (Or.inl (hw u k hu hb))) hl
    rcases List.mem_cons.mp hy with e | e
    · rw [e]; exact cov_at q1
    · exact cov_up q1 (hc y e)
set_option maxHeartbeats 4000000 in
set_option maxRecDepth 100000 in
theorem l0_X7_freshens {ln B td : Nat → Nat} {S : uS} (hN : ∀ g, nd B ln g → PrM σ0 B g) (hU : UM0 σ0 B td S) (hG : uG B ln S) (h0 : S.2.2.2.2 = 0) (htd : ∀ u, u < 6 → σ0 12 u = nI (td u)) (hl : S.2.2.2.1.length ≤ 600) : ∀ j u (τ : gS), u + j = 6 → hF σ0 τ → τ 0 23 = 0 → (∀ v, v < u → τ 19 v = nI (S.2.2.1 v) ∧ τ 28 v = 0) → G (XM l D cA ad) mX7_freshens (g_rv (fun τ => (∀ f wh, τ 0 32 = nI (uwhy B (S, f, wh)) ∧ ∀ u, u < 6 → τ 19 u = nI (uMu B (S, f, wh) u)) ∧ hF σ0 τ)) 7 [some (.ref 0), some (.int (nI u)), none, none, none] [] τ := by
  intro j
  induction j with
  | zero =>
    intro u τ hj hF h23 hv
    have hu : u = 6 := by omega
    subst hu
    refine G.iload_n (k := 1) rfl dX7_freshens_7 ?_
    refine G.bipush (v := 6) (by decide) dX7_freshens_8 ?_
    refine G.icmp_ge (tgt := 45) (by decide) dX7_freshens_10 (fun c_10 => ?_) (fun c_10 => absurd (by decide) c_10)
    refine G.iconst (v := 0) (by decide) dX7_freshens_45 ?_
    refine G.ist1 (by decide) rfl dX7_freshens_46 ?_
    refine l1_X7_freshens hN hU hG h0 S.2.2.2.1.length S.2.2.2.1 [] (S.2.2.1, false) τ none none none rfl (List.append_nil _).symm ⟨⟨fun u hu => (hv u hu).1, h23⟩, fun u hu => (hv u hu).2, hF⟩ ⟨fun h => (by cases h), fun u k hu hb => ?_⟩ (fun x hx => (by cases hx)) (fun u k hu hb => hb) hl
    have h6 := bit_lt6 (hG.2.2.2.1 u) hb
    exact ⟨h6, (LN_cl B S.1 S.2.2.2.1 S.2.2.1).2.1 u k hu h6 hb⟩
  | succ j ih =>
    intro u τ hj hF h23 hv
    obtain ⟨n, a1, a2, a3⟩ := hU.2.1 u (by omega)
    have e12 := hF.1 12 (by decide) (by decide) (by decide) (by decide) (by decide) (by decide)
    have e27 := hF.1 27 (by decide) (by decide) (by decide) (by decide) (by decide) (by decide)
    refine G.iload_n (k := 1) rfl dX7_freshens_7 ?_
    refine G.bipush (v := 6) (by decide) dX7_freshens_8 ?_
    refine G.icmp_ge (tgt := 45) (by decide) dX7_freshens_10 (fun c_10 => absurd c_10 (nI_ge (b := 6) (by omega) (by decide))) (fun c_10 => ?_)
    refine G.aload_n (k := 0) rfl dX7_freshens_13 ?_
    refine G.getr (j := 22) rfl gci_X7 (by decide) rfl fl_X7_64 dX7_freshens_14 ?_
    refine G.iload_n (k := 1) rfl dX7_freshens_17 ?_
    refine G.aload_n (k := 0) rfl dX7_freshens_18 ?_
    refine G.getr (j := 12) rfl gci_X7 (by decide) rfl fl_X7_43 dX7_freshens_19 ?_
    refine G.iload_n (k := 1) rfl dX7_freshens_22 ?_
    refine G.ialdN (k := u) rfl (rfl) (by omega) (by decide) dX7_freshens_23 ?_
    rw [e12, htd u (by omega)]
    refine G.aload_n (k := 0) rfl dX7_freshens_24 ?_
    refine G.getr (j := 39) rfl gci_X7 (by decide) rfl fl_X7_88 dX7_freshens_25 ?_
    refine G.iload_n (k := 1) rfl dX7_freshens_28 ?_
    refine G.ialdN (k := u) rfl (rfl) (by omega) (by decide) dX7_freshens_29 ?_
    rw [e27, a1]
    refine G.ior dX7_freshens_30 ?_
    rw [nu_or, ← a3]
    refine G.iastN (k := u) rfl (rfl) (by omega) (by decide) dX7_freshens_31 ?_
    refine G.aload_n (k := 0) rfl dX7_freshens_32 ?_
    refine G.getr (j := 40) rfl gci_X7 (by decide) rfl fl_X7_91 dX7_freshens_33 ?_
    refine G.iload_n (k := 1) rfl dX7_freshens_36 ?_
    refine G.iconst (v := 0) (by decide) dX7_freshens_37 ?_
    refine G.iastN (k := u) rfl (rfl) (by omega) (by decide) dX7_freshens_38 ?_
    refine G.inc1 (d := 1) (by decide) (by decide) rfl dX7_freshens_39 ?_
    refine G.goto (tgt := 7) (by decide) dX7_freshens_42 ?_
    rw [nI_1]
    refine ih (u + 1) _ (by omega) (hF_tr hF (hF_tr (aF_h (aF_u _ _ _)) (hF_28 _ _ _))) (by rw [up2_ne _ _ _ (by decide), up2_ne _ _ _ (by decide)]; exact h23) (fun v hv2 => ?_)
    by_cases e9 : v = u
    · subst e9
      exact ⟨by rw [up2_ne _ _ _ (by decide), up2_at], up2_at _ _ _ _⟩
    · exact ⟨by rw [up2_ne _ _ _ (by decide), up2_r, if_neg (fun y => e9 y.2)]; exact (hv v (by omega)).1, by rw [up2_r, if_neg (fun y => e9 y.2), up2_ne _ _ _ (by decide)]; exact (hv v (by omega)).2⟩
set_option maxHeartbeats 4000000 in
set_option maxRecDepth 100000 in
theorem c_X7_freshens {ln B td : Nat → Nat} {S : uS} (hN : ∀ g, nd B ln g → PrM σ B g) (hU : UM0 σ B td S) (hG : uG B ln S) (h0 : S.2.2.2.2 = 0) (htd : ∀ u, u < 6 → σ 12 u = nI (td u)) (hl : S.2.2.2.1.length ≤ 600) : GM (XM l D cA ad) mX7_freshens [.ref 0] σ (g_rv (fun τ => (∀ f wh, τ 0 32 = nI (uwhy B (S, f, wh)) ∧ ∀ u, u < 6 → τ 19 u = nI (uMu B (S, f, wh) u)) ∧ hF σ τ)) := by
  refine GM.of (ls := [some (.ref 0), none, none, none, none]) (by decide) (Nat.le_of_ble_eq_true rfl) rfl ?_
  refine G.aload_n (k := 0) rfl dX7_freshens_0 ?_
  refine G.iconst (v := 0) (by decide) dX7_freshens_1 ?_
  refine G.put (j := 23) rfl gci_X7 gcp_X7 (by decide) rfl rfl (by decide) (by decide) fl_X7_249 dX7_freshens_2 ?_
  refine G.iconst (v := 0) (by decide) dX7_freshens_5 ?_
  refine G.ist1 (by decide) rfl dX7_freshens_6 ?_
  exact l0_X7_freshens hN hU hG h0 htd hl 6 0 _ rfl (aF_h (aF_b _ _)) (up2_at _ _ _ _) (fun v hv => absurd hv (Nat.not_lt_zero _))
end T99

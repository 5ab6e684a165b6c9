/-! ===== the model: alike; unknowns with all values put in; one step ===== -/
theorem useq_skip {rig : Bool} {B : Nat → Nat} {th : Nat → Bool} : ∀ es z, (∀ e ∈ es, th e = false) → useq rig B th es z = z := by
  intro es
  induction es with
  | nil => intro z _; rfl
  | cons e es ih =>
    intro z h
    rw [useq, ih z (fun x hx => h x (List.mem_cons_of_mem _ hx))]
    by_cases c : z.1.2.2.2.2 ≠ 0
    · rw [if_pos c]
    · rw [if_neg c, if_pos (h e List.mem_cons_self)]
theorem useq_app {rig : Bool} {B : Nat → Nat} {th : Nat → Bool} : ∀ es fs z, useq rig B th (es ++ fs) z = useq rig B th fs (useq rig B th es z) := by
  intro es
  induction es with
  | nil => intro fs z; rfl
  | cons e es ih =>
    intro fs z
    rw [List.cons_append, useq, useq]
    split
    · exact ih fs _
    · split
      · exact ih fs _
      · exact ih fs _
noncomputable def uone (rig : Bool) (B : Nat → Nat) (e : Nat) (z : uS × Nat × Int32) : uS × Nat × Int32 :=
  (let y := urun rig B z.2.1 (z.1.1, [((60 * e, tn_id), (60 * e + 30, tn_id))], z.1.2.2.1, z.1.2.2.2.1, z.1.2.2.2.2)
   let w := if y.1.2.1 ≠ [] ∧ y.1.2.2.2.2 = 0 then 4 else y.1.2.2.2.2
   ((y.1.1, y.1.2.1, y.1.2.2.1, y.1.2.2.2.1, w), y.2, if w = 0 then -1 else nI e))
theorem useq_cons {rig : Bool} {B : Nat → Nat} {th : Nat → Bool} {e : Nat} {es : List Nat} {z : uS × Nat × Int32} : useq rig B th (e :: es) z = useq rig B th es (if z.1.2.2.2.2 = 0 ∧ th e = true then uone rig B e z else z) := by
  rw [useq]
  by_cases c : z.1.2.2.2.2 = 0
  · rw [if_neg (fun h => h c)]
    cases ht : th e with
    | false => rw [if_pos rfl, if_neg (fun h => by cases h.2)]
    | true => rw [if_neg (by decide), if_pos ⟨c, rfl⟩]; rfl
  · rw [if_pos c, if_neg (fun h => c h.1)]
theorem ualk_one {ln B : Nat → Nat} {q : Nat} (hq : q < 4) (hth : thA ln B q = true) : ualk ln B q = uone true B q (((fun _ => none), [], (fun _ => 0), [], 0), 600, -1) := by
  have hne : ∀ e, e ≠ q → ((2 ^ q).testBit e && thA ln B e) = false := fun e he => by
    rw [Nat.testBit_two_pow, decide_eq_false (fun z => he z.symm)]; rfl
  have heq : ((2 ^ q).testBit q && thA ln B q) = true := by rw [Nat.testBit_two_pow_self, hth]; rfl
  have key : ∀ l1 l2, lst (ordE 0) 4 = l1 ++ q :: l2 → (∀ e ∈ l1, e ≠ q) → (∀ e ∈ l2, e ≠ q) → ualk ln B q = uone true B q (((fun _ => none), [], (fun _ => 0), [], 0), 600, -1) := by
    intro l1 l2 h h1 h2
    unfold ualk
    rw [h, useq_app, useq_skip l1 _ (fun e he => hne e (h1 e he)), useq_cons, useq_skip l2 _ (fun e he => hne e (h2 e he)), if_pos ⟨rfl, heq⟩]
  have c4 : q = 0 ∨ q = 1 ∨ q = 2 ∨ q = 3 := by omega
  rcases c4 with c | c | c | c <;> subst c
  · exact key [] [1, 2, 3] rfl (by decide) (by decide)
  · exact key [0] [2, 3] rfl (by decide) (by decide)
  · exact key [0, 1] [3] rfl (by decide) (by decide)
  · exact key [0, 1, 2] [] rfl (by decide) (by decide)
theorem uMu_bit {B : Nat → Nat} {R : uS × Nat × Int32} {u k : Nat} : (uMu B R u).testBit k = true ↔ (k < 6 ∧ LU B R.1.1 R.1.2.2.2.1 R.1.2.2.1 u k) := by
  unfold uMu
  refine ⟨fun h => ?_, fun h => ?_⟩
  · have h6 := bit_lt6 (ms_lt _) h
    rw [ms_bit _ k h6] at h
    exact ⟨h6, @of_decide_eq_true _ (Classical.propDecidable _) h⟩
  · rw [ms_bit _ k h.1]
    exact @decide_eq_true _ (Classical.propDecidable _) h.2
theorem alk_iff {ln B : Nat → Nat} {q : Nat} (hq : q < 4) (hth : thA ln B q = true) (hn : nd B ln (60 * q) ∧ nd B ln (60 * q + 30)) (ht6 : ∀ u, tdA ln B u < 64) : (uwhy B (ualk ln B q) = 0 ∧ mMo B ln (uMu B (ualk ln B q))) ↔ okF (tdA ln B) B 600 (uas q) := by
  rw [ualk_one hq hth]
  have hG := urun_G (ln := ln) true 600 (uas q) (uas_G hn)
  have hV := urun_V B 600 (uas q)
  unfold okF okS
  obtain ⟨y, hy⟩ : ∃ y, urun true B 600 (uas q) = y := ⟨_, rfl⟩
  have hy2 : uone true B q (((fun _ => none), [], (fun _ => 0), [], 0), 600, -1) = ((y.1.1, y.1.2.1, y.1.2.2.1, y.1.2.2.2.1, if y.1.2.1 ≠ [] ∧ y.1.2.2.2.2 = 0 then 4 else y.1.2.2.2.2), y.2, if (if y.1.2.1 ≠ [] ∧ y.1.2.2.2.2 = 0 then 4 else y.1.2.2.2.2) = 0 then -1 else nI q) := by rw [← hy]; rfl
  rw [hy2]
  rw [hy] at hG hV ⊢
  have hV2 : y.1.1 = (fun _ => none) := hV
  have hmm : ∀ R : uS × Nat × Int32, mMo B ln (uMu B R) ↔ ∀ u k, u < 6 → k < 6 → LU B R.1.1 R.1.2.2.2.1 R.1.2.2.1 u k → (tdA ln B u).testBit k = true := by
    intro R
    unfold mMo
    refine ⟨fun h u k hu hk hl => (and_0 (uMu_lt B R u) (ht6 u)).mp (h u hu) k (uMu_bit.mpr ⟨hk, hl⟩), fun h u hu => (and_0 (uMu_lt B R u) (ht6 u)).mpr (fun k hk => h u k hu (uMu_bit.mp hk).1 (uMu_bit.mp hk).2)⟩
  rw [hmm]
  show (uwhy B ((y.1.1, y.1.2.1, y.1.2.2.1, y.1.2.2.2.1, if y.1.2.1 ≠ [] ∧ y.1.2.2.2.2 = 0 then 4 else y.1.2.2.2.2), y.2, _) = 0 ∧ ∀ u k, u < 6 → k < 6 → LU B y.1.1 y.1.2.2.2.1 y.1.2.2.1 u k → (tdA ln B u).testBit k = true) ↔ _
  unfold uwhy
  show ((if (if y.1.2.1 ≠ [] ∧ y.1.2.2.2.2 = 0 then 4 else y.1.2.2.2.2) ≠ 0 then (if y.1.2.1 ≠ [] ∧ y.1.2.2.2.2 = 0 then 4 else y.1.2.2.2.2) else @ite _ (BD B y.1.1 y.1.2.2.2.1 y.1.2.2.1) (Classical.propDecidable _) 3 0) = 0 ∧ _) ↔ _
  rw [hV2]
  refine ⟨fun ⟨h1, h2⟩ => ?_, fun ⟨⟨h1, h2, h3⟩, h4⟩ => ?_⟩
  · by_cases c : y.1.2.1 ≠ [] ∧ y.1.2.2.2.2 = 0
    · rw [if_pos c, if_pos (by decide)] at h1
      exact absurd h1 (by decide)
    · rw [if_neg c] at h1
      by_cases c2 : y.1.2.2.2.2 = 0
      · rw [if_neg (fun h => h c2)] at h1
        have hb : ¬ BD B (fun _ => none) y.1.2.2.2.1 y.1.2.2.1 := fun z => by rw [if_pos z] at h1; exact absurd h1 (by decide)
        refine ⟨⟨c2, fun u k hu hk => ?_, fun x hx => ⟨fun hr => hb (BD_no.mpr ⟨x, hx, hr⟩), fun u k hu hr => ?_⟩⟩, Decidable.byContradiction (fun z => c ⟨z, c2⟩)⟩
        · have h6 := bit_lt6 (hG.2.2.2.1 u) hk
          exact h2 u k hu h6 ((LU_no hu h6).mpr (Or.inl hk))
        · have hw := hG.2.2.2.2.1 x hx
          have h6 := Ru_lt hw.1 hw.2 hr
          exact h2 u k hu h6 ((LU_no hu h6).mpr (Or.inr ⟨x, hx, hr⟩))
      · rw [if_pos c2] at h1
        exact absurd h1 c2
  · have hw0 : (if y.1.2.1 ≠ [] ∧ y.1.2.2.2.2 = 0 then 4 else y.1.2.2.2.2) = 0 := by rw [if_neg (fun z => z.1 h4)]; exact h1
    have hbd : ¬ BD B (fun _ => none) y.1.2.2.2.1 y.1.2.2.1 := fun z => by
      obtain ⟨x, hx, hr⟩ := BD_no.mp z
      exact (h3 x hx).1 hr
    rw [hw0, if_neg (fun z => z rfl), if_neg hbd]
    refine ⟨rfl, fun u k hu hk hl => ?_⟩
    rcases (LU_no hu hk).mp hl with z | ⟨x, hx, hr⟩
    · exact h2 u k hu z
    · exact (h3 x hx).2 u k hu hr
/-! unknowns with all values put in -/
def vk (B : Nat → Nat) (V : uV) (u : Nat) : Nat := match V u with
  | some q => tuk B q.1
  | none => 0
def rn (B : Nat → Nat) (V : uV) (b : Nat) : Nat → Nat
  | 0 => b
  | n + 1 => rn B V b n ||| (if (rn B V b n).testBit n = true then vk B V n else 0)
def rks (B : Nat → Nat) (V : uV) (m : Nat) : Nat → Nat
  | 0 => m
  | k + 1 => rn B V (rks B V m k) 6
section CL
variable {B ln : Nat → Nat} {V : uV}
theorem vk_lt (hV : VG B ln V) (u : Nat) : vk B V u < 64 := by
  unfold vk
  cases e : V u with
  | none => show (0 : Nat) < 64; decide
  | some q => exact (me_b _ (hV _ _ e).2.1).2.1
theorem rn_lt (hV : VG B ln V) {b : Nat} (hb : b < 64) : ∀ n, rn B V b n < 64 := by
  intro n
  induction n with
  | zero => exact hb
  | succ n ih =>
    rw [rn]
    refine or_lt64 ih ?_
    split
    · exact vk_lt hV n
    · decide
theorem rn_up (b n : Nat) : ∀ d, sbs (rn B V b n) (rn B V b (n + d)) := by
  intro d
  induction d with
  | zero => exact sbs_rf _
  | succ d ih => exact sbs_tr ih (by rw [show n + (d + 1) = n + d + 1 by omega, rn]; exact sbs_or_l _ _)
theorem rn_rch {m : Nat} {b : Nat} (h : ∀ w, w < 6 → b.testBit w = true → rch B V m w) : ∀ n, n ≤ 6 → ∀ w, w < 6 → (rn B V b n).testBit w = true → rch B V m w := by
  intro n
  induction n with
  | zero => intro _; exact h
  | succ n ih =>
    intro hn w hw hb
    rw [rn, Nat.testBit_or, Bool.or_eq_true] at hb
    rcases hb with z | z
    · exact ih (by omega) w hw z
    · by_cases c : (rn B V b n).testBit n = true
      · rw [if_pos c] at z
        unfold vk at z
        cases e : V n with
        | none => rw [e] at z; simp at z
        | some q =>
          rw [e] at z
          intro S h1 h2 h3
          exact h3 n q (by omega) (ih (by omega) n (by omega) c S h1 h2 h3) e w hw z
      · rw [if_neg c] at z; simp at z
theorem rn_fix {b : Nat} (h : rn B V b 6 = b) : clsd B V b := by
  intro u q hu hb hV w hw hb2
  have h1 : sbs b (rn B V b u) := by have := rn_up (B := B) (V := V) b 0 u; rwa [Nat.zero_add] at this
  have h2 : (rn B V b (u + 1)).testBit w = true := by
    rw [rn, if_pos (h1 u hu hb), Nat.testBit_or, show (vk B V u).testBit w = true by unfold vk; rw [hV]; exact hb2, Bool.or_true]
  have h3 := rn_up (B := B) (V := V) b (u + 1) (6 - (u + 1)) w hw h2
  rw [show u + 1 + (6 - (u + 1)) = 6 by omega, h] at h3
  exact h3
theorem or_sub {a b : Nat} (ha : a < 64) (hb : b < 64) (h : sbs b a) : a ||| b = a := by
  refine ms_ext (or_lt64 ha hb) ha (fun n hn => ?_)
  rw [Nat.testBit_or]
  cases e : b.testBit n with
  | false => simp
  | true => rw [h n hn e]; rfl
theorem cl_rn (hV : VG B ln V) {b : Nat} (hb : b < 64) (h : clsd B V b) : ∀ n, n ≤ 6 → rn B V b n = b := by
  intro n
  induction n with
  | zero => intro _; rfl
  | succ n ih =>
    intro hn
    rw [rn, ih (by omega)]
    by_cases c : b.testBit n = true
    · rw [if_pos c]
      refine or_sub hb (vk_lt hV n) (fun w hw hb2 => ?_)
      unfold vk at hb2
      cases e : V n with
      | none => rw [e] at hb2; simp at hb2
      | some q => rw [e] at hb2; exact h n q (by omega) c e w hw hb2
    · rw [if_neg c, Nat.or_zero]
theorem rks_lt (hV : VG B ln V) {m : Nat} (hm : m < 64) : ∀ k, rks B V m k < 64 := by
  intro k
  induction k with
  | zero => exact hm
  | succ k ih => exact rn_lt hV ih 6
theorem rks_cl (hV : VG B ln V) {m : Nat} (hm : m < 64) : ∀ k, clsd B V (rks B V m k) ∨ 1 + k ≤ bc6 (rks B V m k) := by
  have b0 : ∀ a, a < 64 → bc6 a = 0 → a = 0 := by decide +kernel
  intro k
  induction k with
  | zero =>
    rcases Nat.eq_zero_or_pos (bc6 m) with z | z
    · refine Or.inl (fun u q hu hb => ?_)
      rw [show rks B V m 0 = 0 from b0 m hm z] at hb
      simp at hb
    · exact Or.inr (by show 1 + 0 ≤ bc6 m; omega)
  | succ k ih =>
    have hl := rks_lt hV hm k
    by_cases c : clsd B V (rks B V m k)
    · exact Or.inl (by rw [rks, cl_rn hV hl c 6 (Nat.le_refl _)]; exact c)
    · have h1 := ih.resolve_left c
      have h2 : rn B V (rks B V m k) 6 ≠ rks B V m k := fun e => c (rn_fix e)
      have hs : sbs (rks B V m k) (rn B V (rks B V m k) 6) := by have := rn_up (B := B) (V := V) (rks B V m k) 0 6; rwa [Nat.zero_add] at this
      have h3 := bc_lt _ hl _ (rn_lt hV hl 6) (sbs_and hl hs) (fun e => h2 e.symm)
      exact Or.inr (by rw [rks]; omega)
theorem rks_clo (hV : VG B ln V) {m : Nat} (hm : m < 64) : isClo B V m (rks B V m 6) := by
  refine ⟨rks_lt hV hm 6, ?_, ?_, ?_⟩
  · have : ∀ k, sbs m (rks B V m k) := by
      intro k
      induction k with
      | zero => exact sbs_rf _
      | succ k ih => exact sbs_tr ih (by rw [rks]; have := rn_up (B := B) (V := V) (rks B V m k) 0 6; rwa [Nat.zero_add] at this)
    exact this 6
  · rcases rks_cl hV hm 6 with z | z
    · exact z
    · have := bc_le6 _ (rks_lt hV hm 6); omega
  · have : ∀ k, ∀ w, w < 6 → (rks B V m k).testBit w = true → rch B V m w := by
      intro k
      induction k with
      | zero => intro w hw hb S h1 h2 h3; exact h2 w hw hb
      | succ k ih => exact rn_rch ih 6 (Nat.le_refl _)
    exact this 6
end CL
theorem VM_give {σ : gS} {B : Nat → Nat} {V : uV} {u g c : Nat} (h : VM σ B V) : VM (up2 (up2 σ 16 u (nI (pN B g))) 17 u (nI c)) B (fun v => if v = u then some (g, c) else V v) := by
  intro v hv
  by_cases e : v = u
  · subst e
    refine ⟨?_, fun q hq => ?_⟩
    · rw [up2_ne _ _ _ (by decide), up2_at, vp, if_pos rfl]
    · replace hq : (if v = v then some (g, c) else V v) = some q := hq
      rw [if_pos rfl] at hq
      cases hq
      rw [up2_at]
  · refine ⟨?_, fun q hq => ?_⟩
    · rw [up2_ne _ _ _ (by decide), up2_r, if_neg (fun z => e z.2), (h v hv).1, vp, vp, if_neg e]
    · replace hq : (if v = u then some (g, c) else V v) = some q := hq
      rw [if_neg e] at hq
      rw [up2_r, if_neg (fun z => e z.2), up2_ne _ _ _ (by decide)]
      exact (h v hv).2 q hq
section T96
variable {l : Launch} {D : va_G} {cA : ClassId} {ad : Nat → Nat}
variable {σ σ0 : gS}
theorem tdA64 {σ : gS} {ln B : Nat → Nat} (hT : TM σ ln B) : ∀ u, tdA ln B u < 64 := fun u => tdA_lt ln B (by have := Nat.le_trans (hT 8 (by decide)).2.1 (tcap_le 8); omega) u
theorem TM_30 {σ : gS} {ln B : Nat → Nat} (hT : TM σ ln B) : ∀ t, t < 8 → ln t ≤ 30 := fun t ht => Nat.le_trans (hT t (by omega)).2.1 (tcap_le t)
set_option maxHeartbeats 4000000 in
set_option maxRecDepth 100000 in
theorem c_X7_alike {ln B : Nat → Nat} {e : Int32} (hT : TM σ ln B) : GM (XM l D cA ad) mX7_alike [.ref 0, .int e] σ (g_ri (fun r τ => r = sp_alike ln B e ∧ mQ σ τ)) := by
  refine GM.of (ls := [some (.ref 0), some (.int e)]) (by decide) (Nat.le_of_ble_eq_true rfl) rfl ?_
  refine G.aload_n (k := 0) rfl dX7_alike_0 ?_
  refine G.callVv (c_X7_readsAll hT) rfl (gci_X7).1 ml_X7_271 im_yX7_readsAll se_yX7_readsAll gcl_X7_readsAll (by decide) rfl rfl (Nat.le_of_ble_eq_true rfl) dX7_alike_1 (fun τ hr => ?_)
  have hT1 := TM_rd hr.1 hT
  refine G.iload_n (k := 1) rfl dX7_alike_4 ?_
  refine G.callSif (c_X7_isEquation) ml_X7_317 ws_yX7_isEquation gcl_X7_isEquation (by decide) rfl rfl (Nat.le_of_ble_eq_true rfl) dX7_alike_5 ?_
  refine G.if_ne (tgt := 14) (by decide) dX7_alike_8 (fun c_8 => ?_) (fun c_8 => ?_)
  · have h1 := in_t 3 (by decide) c_8
    obtain ⟨q, hq, eq⟩ := inB_of (by decide) h1
    subst eq
    have xq : ix (nI q) = q := ix_nI (by omega)
    refine G.aload_n (k := 0) rfl dX7_alike_14 ?_
    refine G.iload_n (k := 1) rfl dX7_alike_15 ?_
    refine G.callVif (c_X7_isThere hT1 hr.2 hq) rfl (gci_X7).1 ml_X7_320 im_yX7_isThere se_yX7_isThere gcl_X7_isThere (by decide) rfl rfl (Nat.le_of_ble_eq_true rfl) dX7_alike_16 ?_
    refine G.if_eq (tgt := 30) (by decide) dX7_alike_19 (fun c_19 => ?_) (fun c_19 => ?_)
    · have ht : ¬ thA ln B q = true := bo_0.mp c_19
      refine G.bipush (v := (-3)) (by decide) dX7_alike_30 ?_
      first
      | (refine G.iret rfl ⟨?_, mQ_tr (rdF_Q hr.1) (kF_Q hq2.2)⟩ dX7_alike_32
         unfold sp_alike
         rw [if_pos h1, xq, if_pos ht, hq2.1]
         exact ite_ok (alk_iff hq ht hn (tdA64 hT)).symm)
      | (refine G.iret rfl ⟨?_, rdF_Q hr.1⟩ dX7_alike_32
         unfold sp_alike
         rw [if_pos h1, xq, if_neg ht])
    · have ht : thA ln B q = true := bo_n.mp c_19
      have hn := th_nd (TM_30 hT) hq ht
      refine G.aload_n (k := 0) rfl dX7_alike_22 ?_
      refine G.iload_n (k := 1) rfl dX7_alike_23 ?_
      refine G.callVi (c_X7_alikeBy (fun g hg => MR_nd hr.2 hg) (MR_12 hr.2) (tdA64 hT) hq hn) rfl (gci_X7).1 ml_X7_323 im_yX7_alikeBy se_yX7_alikeBy gcl_X7_alikeBy (by decide) rfl rfl (Nat.le_of_ble_eq_true rfl) dX7_alike_24 (fun r τ2 hq2 => ?_)
      refine G.goto (tgt := 32) (by decide) dX7_alike_27 ?_
      first
      | (refine G.iret rfl ⟨?_, mQ_tr (rdF_Q hr.1) (kF_Q hq2.2)⟩ dX7_alike_32
         unfold sp_alike
         rw [if_pos h1, xq, if_pos ht, hq2.1]
         exact ite_ok (alk_iff hq ht hn (tdA64 hT)).symm)
      | (refine G.iret rfl ⟨?_, rdF_Q hr.1⟩ dX7_alike_32
         unfold sp_alike
         rw [if_pos h1, xq, if_neg ht])
  · have h1 := in_f 3 (by decide) c_8
    refine G.bipush (v := (-2)) (by decide) dX7_alike_11 ?_
    exact G.iret rfl (by unfold sp_alike; rw [if_neg (by simp [h1])]; exact ⟨rfl, rdF_Q hr.1⟩) dX7_alike_13
set_option maxHeartbeats 4000000 in
set_option maxRecDepth 100000 in
theorem li_X7_all {Q : Option Value → gS → Prop} {ln B : Nat → Nat} {V : uV} (hN : ∀ g, nd B ln g → PrM σ B g) (hV : VG B ln V) (hv : VM σ B V) {x1 : Int32} {r b : Nat} (hb : b < 64) (K : G (XM l D cA ad) mX7_all Q 68 [some (.ref 0), some (.int x1), some (.int (nI (rn B V b 6))), some (.int (nI r)), some (.int (nI 6))] [] σ) : ∀ j u, u + j = 6 → G (XM l D cA ad) mX7_all Q 17 [some (.ref 0), some (.int x1), some (.int (nI (rn B V b u))), some (.int (nI r)), some (.int (nI u))] [] σ := by
  intro j
  induction j with
  | zero =>
    intro u hj
    have hu : u = 6 := by omega
    subst hu
    refine G.iload (i := 4) rfl dX7_all_17 ?_
    refine G.bipush (v := 6) (by decide) dX7_all_19 ?_
    refine G.icmp_ge (tgt := 68) (by decide) dX7_all_21 (fun c_21 => ?_) (fun c_21 => absurd (by decide) c_21)
    exact K
  | succ j ih =>
    intro u hj
    have hlt := rn_lt hV hb u
    refine G.iload (i := 4) rfl dX7_all_17 ?_
    refine G.bipush (v := 6) (by decide) dX7_all_19 ?_
    refine G.icmp_ge (tgt := 68) (by decide) dX7_all_21 (fun c_21 => absurd c_21 (nI_ge (b := 6) (by omega) (by decide))) (fun c_21 => ?_)
    refine G.iload_n (k := 2) rfl dX7_all_24 ?_
    refine G.iload_n (k := 2) rfl dX7_all_25 ?_
    refine G.iload (i := 4) rfl dX7_all_26 ?_
    refine G.callSif (c_X7_isIn (b := rn B V b u) (n := u) (by omega) (by omega)) ml_X7_200 ws_yX7_isIn gcl_X7_isIn (by decide) rfl rfl (Nat.le_of_ble_eq_true rfl) dX7_all_28 ?_
    refine G.if_eq (tgt := 59) (by decide) dX7_all_31 (fun c_31 => ?_) (fun c_31 => ?_)
    · have hbt := bo_0.mp c_31
      have hs : nI (rn B V b u) ||| 0 = nI (rn B V b (u + 1)) := by
        rw [show (0 : Int32) = nI 0 from rfl, nu_or, rn, if_neg hbt]
      refine G.iconst (v := 0) (by decide) dX7_all_59 ?_
      refine G.ior dX7_all_60 ?_
      rw [hs]
      refine G.ist2 (by decide) rfl dX7_all_61 ?_
      refine G.inc4 (d := 1) (by decide) (by decide) rfl dX7_all_62 ?_
      refine G.goto (tgt := 17) (by decide) dX7_all_65 ?_
      rw [nI_1]
      exact ih (u + 1) (by omega)
    · have hbt := bo_n.mp c_31
      refine G.aload_n (k := 0) rfl dX7_all_34 ?_
      refine G.getr (j := 19) rfl gci_X7 (by decide) rfl fl_X7_55 dX7_all_35 ?_
      refine G.iload (i := 4) rfl dX7_all_38 ?_
      refine G.ialdN (k := u) rfl (rfl) (by omega) (by decide) dX7_all_40 ?_
      rw [(hv u (by omega)).1]
      refine G.iconst (v := (-1)) (by decide) dX7_all_41 ?_
      refine G.icmp_eq (tgt := 59) (by decide) dX7_all_42 (fun c_42 => ?_) (fun c_42 => ?_)
      · have hs : nI (rn B V b u) ||| 0 = nI (rn B V b (u + 1)) := by
          rw [show (0 : Int32) = nI 0 from rfl, nu_or, rn, if_pos hbt]
          refine congrArg (fun z => nI (rn B V b u ||| z)) ?_
          unfold vk
          cases e : V u with
          | none => rfl
          | some q => rw [vp, e] at c_42; exact absurd c_42 (pN_ne1 (hV _ _ e).2.1)
        refine G.iconst (v := 0) (by decide) dX7_all_59 ?_
        refine G.ior dX7_all_60 ?_
        rw [hs]
        refine G.ist2 (by decide) rfl dX7_all_61 ?_
        refine G.inc4 (d := 1) (by decide) (by decide) rfl dX7_all_62 ?_
        refine G.goto (tgt := 17) (by decide) dX7_all_65 ?_
        rw [nI_1]
        exact ih (u + 1) (by omega)
      · obtain ⟨q, hq⟩ : ∃ q, V u = some q := by
          cases e : V u with
          | none => rw [vp, e] at c_42; exact absurd rfl c_42
          | some q => exact ⟨q, rfl⟩
        have hvp : vp B V u = nI (pN B q.1) := by rw [vp, hq]
        have hs : nI (rn B V b u) ||| nI (tuk B q.1) = nI (rn B V b (u + 1)) := by
          rw [nu_or, rn, if_pos hbt]
          refine congrArg (fun z => nI (rn B V b u ||| z)) ?_
          unfold vk
          rw [hq]
        refine G.aload_n (k := 0) rfl dX7_all_45 ?_
        refine G.aload_n (k := 0) rfl dX7_all_46 ?_
        refine G.getr (j := 19) rfl gci_X7 (by decide) rfl fl_X7_55 dX7_all_47 ?_
        refine G.iload (i := 4) rfl dX7_all_50 ?_
        refine G.ialdN (k := u) rfl (rfl) (by omega) (by decide) dX7_all_52 ?_
        rw [(hv u (by omega)).1, hvp]
        refine G.callVif (c_X7_unknownsIn hN (hV _ _ hq).2.1) rfl (gci_X7).1 ml_X7_266 im_yX7_unknownsIn se_yX7_unknownsIn gcl_X7_unknownsIn (by decide) rfl rfl (Nat.le_of_ble_eq_true rfl) dX7_all_53 ?_
        refine G.goto (tgt := 60) (by decide) dX7_all_56 ?_
        refine G.ior dX7_all_60 ?_
        rw [hs]
        refine G.ist2 (by decide) rfl dX7_all_61 ?_
        refine G.inc4 (d := 1) (by decide) (by decide) rfl dX7_all_62 ?_
        refine G.goto (tgt := 17) (by decide) dX7_all_65 ?_
        rw [nI_1]
        exact ih (u + 1) (by omega)
set_option maxHeartbeats 4000000 in
set_option maxRecDepth 100000 in
theorem l_X7_all {ln B : Nat → Nat} {V : uV} (hN : ∀ g, nd B ln g → PrM σ B g) (hV : VG B ln V) (hv : VM σ B V) {x1 : Int32} {m : Nat} (hm : m < 64) : ∀ j r (y4 : Option Value), r + j = 6 → G (XM l D cA ad) mX7_all (g_ri (fun r τ => r = nI (rks B V m 6) ∧ τ = σ)) 8 [some (.ref 0), some (.int x1), some (.int (nI (rks B V m r))), some (.int (nI r)), y4] [] σ := by
  intro j
  induction j with
  | zero =>
    intro r y4 hj
    have hr : r = 6 := by omega
    subst hr
    refine G.iload_n (k := 3) rfl dX7_all_8 ?_
    refine G.bipush (v := 6) (by decide) dX7_all_9 ?_
    refine G.icmp_ge (tgt := 74) (by decide) dX7_all_11 (fun c_11 => ?_) (fun c_11 => absurd (by decide) c_11)
    refine G.iload_n (k := 2) rfl dX7_all_74 ?_
    exact G.iret rfl (⟨rfl, rfl⟩) dX7_all_75
  | succ j ih =>
    intro r y4 hj
    refine G.iload_n (k := 3) rfl dX7_all_8 ?_
    refine G.bipush (v := 6) (by decide) dX7_all_9 ?_
    refine G.icmp_ge (tgt := 74) (by decide) dX7_all_11 (fun c_11 => absurd c_11 (nI_ge (b := 6) (by omega) (by decide))) (fun c_11 => ?_)
    refine G.iconst (v := 0) (by decide) dX7_all_14 ?_
    refine G.ist4 (by decide) rfl dX7_all_15 ?_
    refine li_X7_all hN hV hv (rks_lt hV hm r) ?_ 6 0 rfl
    refine G.inc3 (d := 1) (by decide) (by decide) rfl dX7_all_68 ?_
    refine G.goto (tgt := 8) (by decide) dX7_all_71 ?_
    rw [nI_1]
    exact ih (r + 1) _ (by omega)
set_option maxHeartbeats 4000000 in
set_option maxRecDepth 100000 in
theorem c_X7_all {ln B : Nat → Nat} {V : uV} (hN : ∀ g, nd B ln g → PrM σ B g) (hV : VG B ln V) (hv : VM σ B V) {g : Nat} (hn : nd B ln g) : GM (XM l D cA ad) mX7_all [.ref 0, .int (nI (pN B g))] σ (g_ri (fun r τ => r = nI (rks B V (tuk B g) 6) ∧ τ = σ)) := by
  refine GM.of (ls := [some (.ref 0), some (.int (nI (pN B g))), none, none, none]) (by decide) (Nat.le_of_ble_eq_true rfl) rfl ?_
  refine G.aload_n (k := 0) rfl dX7_all_0 ?_
  refine G.iload_n (k := 1) rfl dX7_all_1 ?_
  refine G.callVif (c_X7_unknownsIn hN hn) rfl (gci_X7).1 ml_X7_266 im_yX7_unknownsIn se_yX7_unknownsIn gcl_X7_unknownsIn (by decide) rfl rfl (Nat.le_of_ble_eq_true rfl) dX7_all_2 ?_
  refine G.ist2 (by decide) rfl dX7_all_5 ?_
  refine G.iconst (v := 0) (by decide) dX7_all_6 ?_
  refine G.ist3 (by decide) rfl dX7_all_7 ?_
  exact l_X7_all hN hV hv (me_b _ hn).2.1 6 0 none rfl
set_option maxHeartbeats 4000000 in
set_option maxRecDepth 100000 in
theorem c_X7_gives {u p q : Nat} {at0 : Int32} (hu : u < 6) (hp : tn_P p) (hq : tn_P q) : GM (XM l D cA ad) mX7_gives [.ref 0, .int (nI u), .int (nI p), .int at0, .int (nI q)] σ (g_rv (fun τ => τ = up2 (up2 σ 16 u at0) 17 u (nI (tn_cmp (tn_bk p) q)))) := by
  refine GM.of (ls := [some (.ref 0), some (.int (nI u)), some (.int (nI p)), some (.int at0), some (.int (nI q))]) (by decide) (Nat.le_of_ble_eq_true rfl) rfl ?_
  refine G.aload_n (k := 0) rfl dX7_gives_0 ?_
  refine G.getr (j := 19) rfl gci_X7 (by decide) rfl fl_X7_55 dX7_gives_1 ?_
  refine G.iload_n (k := 1) rfl dX7_gives_4 ?_
  refine G.iload_n (k := 3) rfl dX7_gives_5 ?_
  refine G.iastN (k := u) rfl (rfl) (hu) (by decide) dX7_gives_6 ?_
  refine G.aload_n (k := 0) rfl dX7_gives_7 ?_
  refine G.getr (j := 20) rfl gci_X7 (by decide) rfl fl_X7_58 dX7_gives_8 ?_
  refine G.iload_n (k := 1) rfl dX7_gives_11 ?_
  refine G.iload_n (k := 2) rfl dX7_gives_12 ?_
  refine G.callSif (c_X7_turnedBack hp) ml_X7_182 ws_yX7_turnedBack gcl_X7_turnedBack (by decide) rfl rfl (Nat.le_of_ble_eq_true rfl) dX7_gives_13 ?_
  refine G.iload (i := 4) rfl dX7_gives_16 ?_
  refine G.callSif (c_X7_behind (tn_P_bk hp) hq) ml_X7_161 ws_yX7_behind gcl_X7_behind (by decide) rfl rfl (Nat.le_of_ble_eq_true rfl) dX7_gives_18 ?_
  refine G.iastN (k := u) rfl (rfl) (hu) (by decide) dX7_gives_21 ?_
  exact G.vret rfl (rfl) dX7_gives_22
end T96

/-! ===== solving, as both do it: values, pile (top first), must by unknown, must by node, why ===== -/
abbrev uP : Type := List ((Nat × Nat) × (Nat × Nat))
abbrev uS : Type := uV × uP × (Nat → Nat) × List (Nat × Nat) × Nat
noncomputable def ugive (rig : Bool) (B : Nat → Nat) (S : uS) (P' : uP) (u : Nat) (o s : Nat × Nat) : uS := if rig = true then (S.1, P', S.2.2.1, S.2.2.2.1, 1) else @ite _ (rch B S.1 (tuk B s.1) u) (Classical.propDecidable _) (S.1, P', S.2.2.1, S.2.2.2.1, 2) ((fun v => if v = u then some (s.1, tn_cmp (tn_bk o.2) s.2) else S.1 v), P', S.2.2.1, S.2.2.2.1, S.2.2.2.2)
def usplit (B : Nat → Nat) (S : uS) (P' : uP) (a b : Nat × Nat) : uS := if kd (B a.1) = 1 then (S.1, P', S.2.2.1, S.2.2.2.1, if tn_im a.2 (B a.1 - 97) = tn_im b.2 (B b.1 - 97) then S.2.2.2.2 else 1) else if kd (B a.1) = 4 then (if B a.1 = B b.1 then (S.1, ((a.1 + 1, a.2), (b.1 + 1, b.2)) :: P', S.2.2.1, S.2.2.2.1, S.2.2.2.2) else (S.1, P', S.2.2.1, S.2.2.2.1, 1)) else if kd (B a.1) = 5 then (S.1, ((a.1 + 1, a.2), (b.1 + 1, b.2)) :: ((tE B (a.1 + 1), a.2), (tE B (b.1 + 1), b.2)) :: P', S.2.2.1, S.2.2.2.1, S.2.2.2.2) else if kd (B a.1) = 6 then (S.1, ((a.1 + 2, a.2), (b.1 + 2, tn_cmp (tn_sw (tn_im a.2 (B (a.1 + 1) - 97)) (tn_im b.2 (B (b.1 + 1) - 97))) b.2)) :: P', S.2.2.1, if tn_im a.2 (B (a.1 + 1) - 97) = tn_im b.2 (B (b.1 + 1) - 97) then S.2.2.2.1 else (b.1 + 2, tn_src b.2 (tn_im a.2 (B (a.1 + 1) - 97))) :: S.2.2.2.1, S.2.2.2.2) else (S.1, P', S.2.2.1, S.2.2.2.1, S.2.2.2.2)
noncomputable def uat (rig : Bool) (B : Nat → Nat) (S : uS) (P' : uP) (a b : Nat × Nat) : uS := if kd (B a.1) = 2 ∧ kd (B b.1) = 2 ∧ B a.1 = B b.1 then (S.1, P', (fun v => if v = B a.1 - 80 then S.2.2.1 v ||| tn_un a.2 b.2 else S.2.2.1 v), S.2.2.2.1, S.2.2.2.2) else if kd (B a.1) = 2 ∧ (kd (B b.1) = 2 → B b.1 < B a.1) then ugive rig B S P' (B a.1 - 80) a b else if kd (B b.1) = 2 then ugive rig B S P' (B b.1 - 80) b a else if kd (B a.1) = kd (B b.1) then usplit B S P' a b else (S.1, P', S.2.2.1, S.2.2.2.1, 1)
noncomputable def ustep (rig : Bool) (B : Nat → Nat) (S : uS) : uS := match S.2.1 with
  | [] => S
  | x :: P' => uat rig B S P' (en B S.1 241 x.1) (en B S.1 241 x.2)
/-- what holds of a solving -/
def pG (B ln : Nat → Nat) (x : (Nat × Nat) × (Nat × Nat)) : Prop := nd B ln x.1.1 ∧ tn_P x.1.2 ∧ nd B ln x.2.1 ∧ tn_P x.2.2
def uG (B ln : Nat → Nat) (S : uS) : Prop := VG B ln S.1 ∧ rkd B S.1 ∧ (∀ x ∈ S.2.1, pG B ln x) ∧ (∀ u, S.2.2.1 u < 64) ∧ (∀ x ∈ S.2.2.2.1, nd B ln x.1 ∧ x.2 < 6) ∧ S.2.2.2.2 < 8
/-- ranks below six -/
def cN (rk : Nat → Nat) (w : Nat) : Nat → Nat
  | 0 => 0
  | n + 1 => cN rk w n + (if rk n < rk w then 1 else 0)
theorem cN_le (rk : Nat → Nat) (w : Nat) : ∀ n, cN rk w n ≤ n := by
  intro n
  induction n with
  | zero => exact Nat.le_refl _
  | succ n ih => show cN rk w n + (if rk n < rk w then 1 else 0) ≤ _; split <;> omega
theorem cN_lt6 (rk : Nat → Nat) {w : Nat} : ∀ n, w < n → cN rk w n < n := by
  intro n
  induction n with
  | zero => intro h; omega
  | succ n ih =>
    intro h
    show cN rk w n + (if rk n < rk w then 1 else 0) < _
    by_cases e : w = n
    · subst e
      rw [if_neg (Nat.lt_irrefl _)]
      have := cN_le rk w w
      omega
    · have := ih (by omega)
      split <;> omega
theorem cN_mono {rk : Nat → Nat} {w u : Nat} (h : rk w < rk u) : ∀ n, cN rk w n ≤ cN rk u n ∧ (w < n → cN rk w n < cN rk u n) := by
  intro n
  induction n with
  | zero => exact ⟨Nat.le_refl _, fun h => by omega⟩
  | succ n ih =>
    show cN rk w n + (if rk n < rk w then 1 else 0) ≤ cN rk u n + (if rk n < rk u then 1 else 0) ∧ (w < n + 1 → cN rk w n + (if rk n < rk w then 1 else 0) < cN rk u n + (if rk n < rk u then 1 else 0))
    have hle : (if rk n < rk w then 1 else 0) ≤ (if rk n < rk u then 1 else 0) := by
      by_cases a : rk n < rk w
      · rw [if_pos a, if_pos (by omega)]; exact Nat.le_refl _
      · rw [if_neg a]; exact Nat.zero_le _
    refine ⟨by omega, fun hw => ?_⟩
    by_cases e : w = n
    · subst e
      rw [if_neg (Nat.lt_irrefl _), if_pos h]
      omega
    · have := ih.2 (by omega)
      omega
theorem rkd_of {B : Nat → Nat} {V : uV} (hV : ∀ u q, V u = some q → u < 6) (h : ∃ rk : Nat → Nat, ∀ u q, V u = some q → ∀ w, w < 6 → (tuk B q.1).testBit w = true → rk w < rk u) : rkd B V := by
  obtain ⟨rk, h⟩ := h
  refine ⟨fun w => if w < 6 then cN rk w 6 else 0, fun u => ?_, fun u q hu w hw hb => ?_⟩
  · show (if u < 6 then cN rk u 6 else 0) < 6
    split
    · exact cN_lt6 rk 6 (by assumption)
    · decide
  · show (if w < 6 then cN rk w 6 else 0) < (if u < 6 then cN rk u 6 else 0)
    rw [if_pos hw, if_pos (hV u q hu)]
    exact (cN_mono (h u q hu w hw hb) 6).2 hw
/-- a closure there is -/
theorem isClo_ex (B : Nat → Nat) (V : uV) (m : Nat) : ∃ R, isClo B V m R := by
  refine ⟨ms_of (fun w => @decide (rch B V m w) (Classical.propDecidable _)), ms_lt _, ?_, ?_, ?_⟩
  · intro w hw h
    rw [ms_bit _ w hw]
    exact @decide_eq_true _ (Classical.propDecidable _) (fun S _ s2 _ => s2 w hw h)
  · intro u q hu hb e w hw h
    rw [ms_bit _ u hu] at hb
    have hr := @of_decide_eq_true _ (Classical.propDecidable _) hb
    rw [ms_bit _ w hw]
    exact @decide_eq_true _ (Classical.propDecidable _) (fun S s1 s2 s3 => s3 u q hu (hr S s1 s2 s3) e w hw h)
  · intro w hw hb
    rw [ms_bit _ w hw] at hb
    exact @of_decide_eq_true _ (Classical.propDecidable _) hb
theorem rkd_give {B ln : Nat → Nat} {V : uV} (hV : VG B ln V) (hr : rkd B V) {u c : Nat} {g : Nat} (hu : u < 6) (hnr : ¬ rch B V (tuk B g) u) : rkd B (fun v => if v = u then some (g, c) else V v) := by
  obtain ⟨R, hR⟩ := isClo_ex B V (tuk B g)
  obtain ⟨rk, h6, h⟩ := hr
  have hnu : ¬ R.testBit u = true := fun z => hnr ((isClo_iff hR hu).mp z)
  refine rkd_of (fun v q hv => ?_) ⟨fun w => if R.testBit w = true then rk w else rk w + 6, fun v q hv w hw hb => ?_⟩
  · try dsimp only at hv
    split at hv
    · omega
    · exact (hV v q hv).1
  · try dsimp only at hv
    show (if R.testBit w = true then rk w else rk w + 6) < (if R.testBit v = true then rk v else rk v + 6)
    by_cases e : v = u
    · subst e
      rw [if_pos rfl] at hv
      injection hv with hv
      subst hv
      rw [if_pos (hR.2.1 w hw hb), if_neg hnu]
      have := h6 w
      omega
    · rw [if_neg e] at hv
      have h1 := h v q hv w hw hb
      have hv6 := (hV v q hv).1
      by_cases a : R.testBit v = true
      · rw [if_pos a, if_pos (hR.2.2.1 v q hv6 a hv w hw hb)]
        exact h1
      · rw [if_neg a]
        split <;> omega
theorem usplit_G {B ln : Nat → Nat} {S : uS} {P' : uP} {a b : Nat × Nat} (hS : uG B ln S) (hP' : ∀ x ∈ P', pG B ln x) (ha : nd B ln a.1 ∧ tn_P a.2) (hb : nd B ln b.1 ∧ tn_P b.2) (hk : kd (B a.1) = kd (B b.1)) : uG B ln (usplit B S P' a b) := by
  obtain ⟨h1, h2, h3, h4, h5, h6⟩ := hS
  unfold usplit
  by_cases c1 : kd (B a.1) = 1
  · rw [if_pos c1]
    exact ⟨h1, h2, hP', h4, h5, by show (if _ then S.2.2.2.2 else 1) < 8; split <;> omega⟩
  rw [if_neg c1]
  by_cases c4 : kd (B a.1) = 4
  · rw [if_pos c4]
    split
    · refine ⟨h1, h2, fun x hx => ?_, h4, h5, h6⟩
      rcases List.mem_cons.mp hx with e | e
      · rw [e]; exact ⟨(nd_4 ha.1 c4).1, ha.2, (nd_4 hb.1 (by omega)).1, hb.2⟩
      · exact hP' x e
    · exact ⟨h1, h2, hP', h4, h5, by show 1 < 8; decide⟩
  rw [if_neg c4]
  by_cases c5 : kd (B a.1) = 5
  · rw [if_pos c5]
    have n1 := nd_5 ha.1 c5
    have n2 := nd_5 hb.1 (by omega)
    refine ⟨h1, h2, fun x hx => ?_, h4, h5, h6⟩
    rcases List.mem_cons.mp hx with e | e
    · rw [e]; exact ⟨n1.1, ha.2, n2.1, hb.2⟩
    · rcases List.mem_cons.mp e with e | e
      · rw [e]; exact ⟨n1.2.1, ha.2, n2.2.1, hb.2⟩
      · exact hP' x e
  rw [if_neg c5]
  by_cases c6 : kd (B a.1) = 6
  · rw [if_pos c6]
    have n1 := nd_6 ha.1 c6
    have n2 := nd_6 hb.1 (by omega)
    have g1 := kd1_ge n1.1
    have g2 := kd1_ge n2.1
    have i1 := ha.2.2.1 (B (a.1 + 1) - 97) (by omega)
    have i2 := hb.2.2.1 (B (b.1 + 1) - 97) (by omega)
    refine ⟨h1, h2, fun x hx => ?_, h4, fun x hx => ?_, h6⟩
    · rcases List.mem_cons.mp hx with e | e
      · rw [e]; exact ⟨n1.2.1, ha.2, n2.2.1, tn_P_cmp (tn_P_sw i1 i2) hb.2⟩
      · exact hP' x e
    · try dsimp only at hx
      split at hx
      · exact h5 x hx
      · rcases List.mem_cons.mp hx with e | e
        · rw [e]; exact ⟨n2.2.1, tn_src_lt i1⟩
        · exact h5 x e
  rw [if_neg c6]
  exact ⟨h1, h2, hP', h4, h5, h6⟩
theorem ugive_G {B ln : Nat → Nat} {S : uS} {P' : uP} {u : Nat} {o s : Nat × Nat} (rig : Bool) (hS : uG B ln S) (hP' : ∀ x ∈ P', pG B ln x) (hu : u < 6) (ho : tn_P o.2) (hs : nd B ln s.1 ∧ tn_P s.2) : uG B ln (ugive rig B S P' u o s) := by
  obtain ⟨h1, h2, h3, h4, h5, h6⟩ := hS
  unfold ugive
  split
  · exact ⟨h1, h2, hP', h4, h5, by show 1 < 8; decide⟩
  · by_cases c : rch B S.1 (tuk B s.1) u
    · rw [if_pos c]
      exact ⟨h1, h2, hP', h4, h5, by show 2 < 8; decide⟩
    · rw [if_neg c]
      refine ⟨fun v q hv => ?_, rkd_give h1 h2 hu c, hP', h4, h5, h6⟩
      try dsimp only at hv
      split at hv
      · injection hv with hv
        rw [← hv]
        exact ⟨by omega, hs.1, tn_P_cmp (tn_P_bk ho) hs.2⟩
      · exact h1 v q hv
theorem uat_G {B ln : Nat → Nat} {S : uS} {P' : uP} {a b : Nat × Nat} (rig : Bool) (hS : uG B ln S) (hP' : ∀ x ∈ P', pG B ln x) (ha : nd B ln a.1 ∧ tn_P a.2) (hb : nd B ln b.1 ∧ tn_P b.2) : uG B ln (uat rig B S P' a b) := by
  unfold uat
  split
  · obtain ⟨h1, h2, h3, h4, h5, h6⟩ := hS
    refine ⟨h1, h2, hP', fun v => ?_, h5, h6⟩
    try dsimp only
    split
    · exact or_lt64 (h4 v) (ms_lt _)
    · exact h4 v
  · split
    · rename_i c
      have := kd2_ge c.1
      exact ugive_G rig hS hP' (by omega) ha.2 hb
    · split
      · rename_i c
        have := kd2_ge c
        exact ugive_G rig hS hP' (by omega) hb.2 ha
      · split
        · exact usplit_G hS hP' ha hb (by assumption)
        · obtain ⟨h1, h2, h3, h4, h5, h6⟩ := hS
          exact ⟨h1, h2, hP', h4, h5, by show 1 < 8; decide⟩
theorem ustep_G {B ln : Nat → Nat} {S : uS} (rig : Bool) (hS : uG B ln S) : uG B ln (ustep rig B S) := by
  unfold ustep
  cases e : S.2.1 with
  | nil => exact hS
  | cons x P' =>
    have hx := hS.2.2.1 x (by rw [e]; exact List.mem_cons_self)
    exact uat_G rig hS (fun y hy => hS.2.2.1 y (by rw [e]; exact List.mem_cons_of_mem _ hy)) (en_nd hS.1 241 x.1 hx.1 hx.2.1) (en_nd hS.1 241 x.2 hx.2.2.1 hx.2.2.2)
/-- how many steps are left; the pile is worked off -/
noncomputable def urun (rig : Bool) (B : Nat → Nat) : Nat → uS → uS × Nat
  | 0, S => (S, 0)
  | f + 1, S => if S.2.1 = [] ∨ S.2.2.2.2 ≠ 0 then (S, f + 1) else urun rig B f (ustep rig B S)
theorem urun_G {B ln : Nat → Nat} (rig : Bool) : ∀ f S, uG B ln S → uG B ln (urun rig B f S).1 := by
  intro f
  induction f with
  | zero => intro S h; exact h
  | succ f ih =>
    intro S h
    rw [urun]
    split
    · exact h
    · exact ih _ (ustep_G rig h)
/-- one equation behind another; the answer: state, steps left, where -/
noncomputable def useq (rig : Bool) (B : Nat → Nat) (th : Nat → Bool) : List Nat → uS × Nat × Int32 → uS × Nat × Int32
  | [], z => z
  | e :: es, z => if z.1.2.2.2.2 ≠ 0 then useq rig B th es z else if th e = false then useq rig B th es z else
      (let y := urun rig B z.2.1 (z.1.1, [((60 * e, tn_id), (60 * e + 30, tn_id))], z.1.2.2.1, z.1.2.2.2.1, z.1.2.2.2.2)
       let w := if y.1.2.1 ≠ [] ∧ y.1.2.2.2.2 = 0 then 4 else y.1.2.2.2.2
       useq rig B th es ((y.1.1, y.1.2.1, y.1.2.2.1, y.1.2.2.2.1, w), y.2, if w = 0 then -1 else nI e))

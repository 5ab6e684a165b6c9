/-! ===== numbers ===== -/
theorem nu_mul (a b : Nat) : nI a * nI b = nI (a * b) := (Int32.ofNat_mul a b).symm
theorem nu_sub {a b : Nat} (h : b ≤ a) : nI a - nI b = nI (a - b) := by
  have e : nI (a - b) + nI b = nI a := by rw [nI_add, Nat.sub_add_cancel h]
  rw [← e, Int32.add_sub_cancel]
theorem nu_and (a b : Nat) : nI a &&& nI b = nI (a &&& b) := by
  apply Int32.toBitVec_inj.1
  show BitVec.ofNat 32 a &&& BitVec.ofNat 32 b = BitVec.ofNat 32 (a &&& b)
  apply BitVec.eq_of_getLsbD_eq
  intro i hi
  simp [BitVec.getLsbD_ofNat, hi]
theorem nu_or (a b : Nat) : nI a ||| nI b = nI (a ||| b) := by
  apply Int32.toBitVec_inj.1
  show BitVec.ofNat 32 a ||| BitVec.ofNat 32 b = BitVec.ofNat 32 (a ||| b)
  apply BitVec.eq_of_getLsbD_eq
  intro i hi
  simp [BitVec.getLsbD_ofNat, hi]
theorem nu_xor (a b : Nat) : nI a ^^^ nI b = nI (a ^^^ b) := by
  apply Int32.toBitVec_inj.1
  show BitVec.ofNat 32 a ^^^ BitVec.ofNat 32 b = BitVec.ofNat 32 (a ^^^ b)
  apply BitVec.eq_of_getLsbD_eq
  intro i hi
  simp [BitVec.getLsbD_ofNat, hi]
theorem nu_sm : ∀ n, n < 32 → ((nI n &&& 31).toBitVec.smod 32).toNat = n := by decide +kernel
theorem nu_shl (x : Nat) {k : Nat} (hk : k < 32) : nI x <<< (nI k &&& 31) = nI (x * 2 ^ k) := by
  apply Int32.toBitVec_inj.1
  rw [Int32.toBitVec_shiftLeft]
  show BitVec.ofNat 32 x <<< ((nI k &&& 31).toBitVec.smod 32).toNat = BitVec.ofNat 32 (x * 2 ^ k)
  rw [nu_sm k hk]
  apply BitVec.eq_of_toNat_eq
  rw [BitVec.toNat_shiftLeft, BitVec.toNat_ofNat, BitVec.toNat_ofNat, Nat.shiftLeft_eq, Nat.mod_mul_mod]
theorem nu_shr {x k : Nat} (hx : x < 2 ^ 31) (hk : k < 32) : nI x >>> (nI k &&& 31) = nI (x / 2 ^ k) := by
  apply Int32.toBitVec_inj.1
  rw [Int32.toBitVec_shiftRight]
  show (BitVec.ofNat 32 x).sshiftRight ((nI k &&& 31).toBitVec.smod 32).toNat = BitVec.ofNat 32 (x / 2 ^ k)
  have hm : (BitVec.ofNat 32 x).msb = false := by
    rw [BitVec.msb_eq_false_iff_two_mul_lt, BitVec.toNat_ofNat, Nat.mod_eq_of_lt (by omega)]
    omega
  rw [nu_sm k hk, BitVec.sshiftRight_eq_of_msb_false hm]
  apply BitVec.eq_of_toNat_eq
  have h2 : x / 2 ^ k ≤ x := Nat.div_le_self _ _
  rw [BitVec.toNat_ushiftRight, BitVec.toNat_ofNat, BitVec.toNat_ofNat, Nat.shiftRight_eq_div_pow, Nat.mod_eq_of_lt (show x < 2 ^ 32 by omega), Nat.mod_eq_of_lt (show x / 2 ^ k < 2 ^ 32 by omega)]
theorem nu_a7 (x : Nat) : nI x &&& 7 = nI (x % 8) := by
  show nI x &&& nI 7 = _
  rw [nu_and]
  congr 1
  exact Nat.and_two_pow_sub_one_eq_mod x 3
theorem nu_a1 (x : Nat) : nI x &&& 1 = nI (x % 2) := by
  show nI x &&& nI 1 = _
  rw [nu_and]
  congr 1
  exact Nat.and_two_pow_sub_one_eq_mod x 1
/-! ===== turns: six figures of three bits ===== -/
def tn_im (c n : Nat) : Nat := c / 8 ^ n % 8
def tn_eN (f : Nat → Nat) : Nat → Nat
  | 0 => 0
  | n + 1 => tn_eN f n + f n * 8 ^ n
def tn_enc (f : Nat → Nat) : Nat := tn_eN f 6
def tn_cmp (c d : Nat) : Nat := tn_enc (fun n => tn_im c (tn_im d n))
def tn_sw (a b : Nat) : Nat := tn_enc (fun n => if n = a then b else if n = b then a else n)
def tn_src (c m : Nat) : Nat := if tn_im c 0 = m then 0 else if tn_im c 1 = m then 1 else if tn_im c 2 = m then 2 else if tn_im c 3 = m then 3 else if tn_im c 4 = m then 4 else if tn_im c 5 = m then 5 else m
def tn_bk (c : Nat) : Nat := tn_enc (fun m => tn_src c m)
abbrev tn_id : Nat := 181896
def tn_P (c : Nat) : Prop := c < 262144 ∧ (∀ n, n < 6 → tn_im c n < 6) ∧ ∀ m n, m < 6 → n < 6 → tn_im c m = tn_im c n → m = n
theorem tn_six {p : Nat → Prop} (h0 : p 0) (h1 : p 1) (h2 : p 2) (h3 : p 3) (h4 : p 4) (h5 : p 5) : ∀ n, n < 6 → p n := by
  intro n hn
  match n, hn with
  | 0, _ => exact h0
  | 1, _ => exact h1
  | 2, _ => exact h2
  | 3, _ => exact h3
  | 4, _ => exact h4
  | 5, _ => exact h5
theorem tn_eN_lt {f : Nat → Nat} : ∀ n, (∀ j, j < n → f j < 8) → tn_eN f n < 8 ^ n := by
  intro n
  induction n with
  | zero => intro _; exact Nat.one_pos
  | succ n ih =>
    intro h
    have h1 := ih (fun j hj => h j (by omega))
    have h2 := h n (by omega)
    have h3 : f n * 8 ^ n ≤ 7 * 8 ^ n := Nat.mul_le_mul_right _ (by omega)
    rw [Nat.pow_succ]
    show tn_eN f n + f n * 8 ^ n < _
    omega
theorem tn_enc_lt {f : Nat → Nat} (h : ∀ n, n < 6 → f n < 8) : tn_enc f < 262144 := tn_eN_lt 6 h
theorem tn_im_enc {f : Nat → Nat} (h : ∀ n, n < 6 → f n < 8) : ∀ n, n < 6 → tn_im (tn_enc f) n = f n := by
  have h0 := h 0 (by omega)
  have h1 := h 1 (by omega)
  have h2 := h 2 (by omega)
  have h3 := h 3 (by omega)
  have h4 := h 4 (by omega)
  have h5 := h 5 (by omega)
  have e : tn_enc f = f 0 + f 1 * 8 + f 2 * 64 + f 3 * 512 + f 4 * 4096 + f 5 * 32768 := by
    simp [tn_enc, tn_eN]
  refine tn_six ?_ ?_ ?_ ?_ ?_ ?_ <;> (unfold tn_im; rw [e]; omega)
theorem tn_ext {c d : Nat} (hc : c < 262144) (hd : d < 262144) (h : ∀ n, n < 6 → tn_im c n = tn_im d n) : c = d := by
  have h0 := h 0 (by omega)
  have h1 := h 1 (by omega)
  have h2 := h 2 (by omega)
  have h3 := h 3 (by omega)
  have h4 := h 4 (by omega)
  have h5 := h 5 (by omega)
  unfold tn_im at h0 h1 h2 h3 h4 h5
  omega
theorem tn_enc_im {c : Nat} (hc : c < 262144) : tn_enc (tn_im c) = c := by
  refine tn_ext (tn_enc_lt (fun n _ => ?_)) hc (tn_im_enc (fun n _ => ?_)) <;> exact Nat.mod_lt _ (by omega)
theorem tn_enc_congr {f g : Nat → Nat} (h : ∀ n, n < 6 → f n = g n) : tn_enc f = tn_enc g := by
  have h0 := h 0 (by omega)
  have h1 := h 1 (by omega)
  have h2 := h 2 (by omega)
  have h3 := h 3 (by omega)
  have h4 := h 4 (by omega)
  have h5 := h 5 (by omega)
  simp [tn_enc, tn_eN, h0, h1, h2, h3, h4, h5]
theorem tn_im8 (c n : Nat) : tn_im c n < 8 := Nat.mod_lt _ (by omega)
theorem tn_im_cmp {c d : Nat} {n : Nat} (hn : n < 6) : tn_im (tn_cmp c d) n = tn_im c (tn_im d n) := tn_im_enc (fun _ _ => tn_im8 _ _) n hn
theorem tn_P_cmp {c d : Nat} (hc : tn_P c) (hd : tn_P d) : tn_P (tn_cmp c d) := by
  refine ⟨tn_enc_lt (fun _ _ => tn_im8 _ _), fun n hn => ?_, fun m n hm hn h => ?_⟩
  · rw [tn_im_cmp hn]; exact hc.2.1 _ (hd.2.1 n hn)
  · rw [tn_im_cmp hm, tn_im_cmp hn] at h
    exact hd.2.2 m n hm hn (hc.2.2 _ _ (hd.2.1 m hm) (hd.2.1 n hn) h)
def tn_all : List Nat := [5349, 5356, 5405, 5419, 5468, 5475, 5797, 5804, 5909, 5930, 5972, 5986, 6301, 6315, 6357, 6378, 6483, 6490, 6812, 6819, 6868, 6882, 6931, 6938, 8933, 8940, 8989, 9003, 9052, 9059, 9829, 9836, 9997, 10025, 10060, 10081, 10333, 10347, 10445, 10473, 10571, 10585, 10844, 10851, 10956, 10977, 11019, 11033, 12965, 12972, 13077, 13098, 13140, 13154, 13413, 13420, 13581, 13609, 13644, 13665, 14421, 14442, 14477, 14505, 14666, 14673, 14932, 14946, 14988, 15009, 15114, 15121, 17053, 17067, 17109, 17130, 17235, 17242, 17501, 17515, 17613, 17641, 17739, 17753, 18005, 18026, 18061, 18089, 18250, 18257, 19027, 19034, 19083, 19097, 19146, 19153, 21148, 21155, 21204, 21218, 21267, 21274, 21596, 21603, 21708, 21729, 21771, 21785, 22100, 22114, 22156, 22177, 22282, 22289, 22611, 22618, 22667, 22681, 22730, 22737, 34021, 34028, 34077, 34091, 34140, 34147, 34469, 34476, 34581, 34602, 34644, 34658, 34973, 34987, 35029, 35050, 35155, 35162, 35484, 35491, 35540, 35554, 35603, 35610, 41189, 41196, 41245, 41259, 41308, 41315, 42533, 42540, 42757, 42792, 42820, 42848, 43037, 43051, 43205, 43240, 43331, 43352, 43548, 43555, 43716, 43744, 43779, 43800, 45221, 45228, 45333, 45354, 45396, 45410, 46117, 46124, 46341, 46376, 46404, 46432, 47125, 47146, 47237, 47272, 47426, 47440, 47636, 47650, 47748, 47776, 47874, 47888, 49309, 49323, 49365, 49386, 49491, 49498, 50205, 50219, 50373, 50408, 50499, 50520, 50709, 50730, 50821, 50856, 51010, 51024, 51731, 51738, 51843, 51864, 51906, 51920, 53404, 53411, 53460, 53474, 53523, 53530, 54300, 54307, 54468, 54496, 54531, 54552, 54804, 54818, 54916, 54944, 55042, 55056, 55315, 55322, 55427, 55448, 55490, 55504, 66277, 66284, 66333, 66347, 66396, 66403, 67173, 67180, 67341, 67369, 67404, 67425, 67677, 67691, 67789, 67817, 67915, 67929, 68188, 68195, 68300, 68321, 68363, 68377, 69861, 69868, 69917, 69931, 69980, 69987, 71205, 71212, 71429, 71464, 71492, 71520, 71709, 71723, 71877, 71912, 72003, 72024, 72220, 72227, 72388, 72416, 72451, 72472, 77925, 77932, 78093, 78121, 78156, 78177, 78373, 78380, 78597, 78632, 78660, 78688, 79885, 79913, 79941, 79976, 80193, 80200, 80396, 80417, 80452, 80480, 80641, 80648, 82013, 82027, 82125, 82153, 82251, 82265, 82461, 82475, 82629, 82664, 82755, 82776, 83469, 83497, 83525, 83560, 83777, 83784, 84491, 84505, 84547, 84568, 84673, 84680, 86108, 86115, 86220, 86241, 86283, 86297, 86556, 86563, 86724, 86752, 86787, 86808, 87564, 87585, 87620, 87648, 87809, 87816, 88075, 88089, 88131, 88152, 88257, 88264, 98981, 98988, 99093, 99114, 99156, 99170, 99429, 99436, 99597, 99625, 99660, 99681, 100437, 100458, 100493, 100521, 100682, 100689, 100948, 100962, 101004, 101025, 101130, 101137, 102565, 102572, 102677, 102698, 102740, 102754, 103461, 103468, 103685, 103720, 103748, 103776, 104469, 104490, 104581, 104616, 104770, 104784, 104980, 104994, 105092, 105120, 105218, 105232, 106597, 106604, 106765, 106793, 106828, 106849, 107045, 107052, 107269, 107304, 107332, 107360, 108557, 108585, 108613, 108648, 108865, 108872, 109068, 109089, 109124, 109152, 109313, 109320, 114773, 114794, 114829, 114857, 115018, 115025, 115221, 115242, 115333, 115368, 115522, 115536, 115725, 115753, 115781, 115816, 116033, 116040, 117258, 117265, 117314, 117328, 117377, 117384, 118868, 118882, 118924, 118945, 119050, 119057, 119316, 119330, 119428, 119456, 119554, 119568, 119820, 119841, 119876, 119904, 120065, 120072, 120842, 120849, 120898, 120912, 120961, 120968, 131741, 131755, 131797, 131818, 131923, 131930, 132189, 132203, 132301, 132329, 132427, 132441, 132693, 132714, 132749, 132777, 132938, 132945, 133715, 133722, 133771, 133785, 133834, 133841, 135325, 135339, 135381, 135402, 135507, 135514, 136221, 136235, 136389, 136424, 136515, 136536, 136725, 136746, 136837, 136872, 137026, 137040, 137747, 137754, 137859, 137880, 137922, 137936, 139357, 139371, 139469, 139497, 139595, 139609, 139805, 139819, 139973, 140008, 140099, 140120, 140813, 140841, 140869, 140904, 141121, 141128, 141835, 141849, 141891, 141912, 142017, 142024, 143445, 143466, 143501, 143529, 143690, 143697, 143893, 143914, 144005, 144040, 144194, 144208, 144397, 144425, 144453, 144488, 144705, 144712, 145930, 145937, 145986, 146000, 146049, 146056, 151635, 151642, 151691, 151705, 151754, 151761, 152083, 152090, 152195, 152216, 152258, 152272, 152587, 152601, 152643, 152664, 152769, 152776, 153098, 153105, 153154, 153168, 153217, 153224, 164508, 164515, 164564, 164578, 164627, 164634, 164956, 164963, 165068, 165089, 165131, 165145, 165460, 165474, 165516, 165537, 165642, 165649, 165971, 165978, 166027, 166041, 166090, 166097, 168092, 168099, 168148, 168162, 168211, 168218, 168988, 168995, 169156, 169184, 169219, 169240, 169492, 169506, 169604, 169632, 169730, 169744, 170003, 170010, 170115, 170136, 170178, 170192, 172124, 172131, 172236, 172257, 172299, 172313, 172572, 172579, 172740, 172768, 172803, 172824, 173580, 173601, 173636, 173664, 173825, 173832, 174091, 174105, 174147, 174168, 174273, 174280, 176212, 176226, 176268, 176289, 176394, 176401, 176660, 176674, 176772, 176800, 176898, 176912, 177164, 177185, 177220, 177248, 177409, 177416, 178186, 178193, 178242, 178256, 178305, 178312, 180307, 180314, 180363, 180377, 180426, 180433, 180755, 180762, 180867, 180888, 180930, 180944, 181259, 181273, 181315, 181336, 181441, 181448, 181770, 181777, 181826, 181840, 181889, 181896]
theorem tn_chk : ((List.range 6).all fun a => (List.range 6).all fun b => a == b || ((List.range 6).all fun c => c == a || c == b || ((List.range 6).all fun d => d == a || d == b || d == c || ((List.range 6).all fun e => e == a || e == b || e == c || e == d || ((List.range 6).all fun f => f == a || f == b || f == c || f == d || f == e || tn_all.elem (a + b * 8 + c * 64 + d * 512 + e * 4096 + f * 32768)))))) = true := by decide +kernel
theorem tn_all6 (a : Nat) (ha : a < 6) (b : Nat) (hb : b < 6) (h1 : b ≠ a) (c : Nat) (hc : c < 6) (h2 : c ≠ a ∧ c ≠ b) (d : Nat) (hd : d < 6) (h3 : d ≠ a ∧ d ≠ b ∧ d ≠ c) (e : Nat) (he : e < 6) (h4 : e ≠ a ∧ e ≠ b ∧ e ≠ c ∧ e ≠ d) (f : Nat) (hf : f < 6) (h5 : f ≠ a ∧ f ≠ b ∧ f ≠ c ∧ f ≠ d ∧ f ≠ e) : (a + b * 8 + c * 64 + d * 512 + e * 4096 + f * 32768) ∈ tn_all := by
  have h := tn_chk
  rw [List.all_eq_true] at h
  have h := h a (List.mem_range.mpr ha)
  rw [List.all_eq_true] at h
  have h := h b (List.mem_range.mpr hb)
  simp only [Ne.symm h1, beq_iff_eq, beq_eq_false_iff_ne.mpr (Ne.symm h1), Bool.false_or] at h
  rw [List.all_eq_true] at h
  have h := h c (List.mem_range.mpr hc)
  simp only [beq_eq_false_iff_ne.mpr h2.1, beq_eq_false_iff_ne.mpr h2.2, Bool.false_or] at h
  rw [List.all_eq_true] at h
  have h := h d (List.mem_range.mpr hd)
  simp only [beq_eq_false_iff_ne.mpr h3.1, beq_eq_false_iff_ne.mpr h3.2.1, beq_eq_false_iff_ne.mpr h3.2.2, Bool.false_or] at h
  rw [List.all_eq_true] at h
  have h := h e (List.mem_range.mpr he)
  simp only [beq_eq_false_iff_ne.mpr h4.1, beq_eq_false_iff_ne.mpr h4.2.1, beq_eq_false_iff_ne.mpr h4.2.2.1, beq_eq_false_iff_ne.mpr h4.2.2.2, Bool.false_or] at h
  rw [List.all_eq_true] at h
  have h := h f (List.mem_range.mpr hf)
  simp only [beq_eq_false_iff_ne.mpr h5.1, beq_eq_false_iff_ne.mpr h5.2.1, beq_eq_false_iff_ne.mpr h5.2.2.1, beq_eq_false_iff_ne.mpr h5.2.2.2.1, beq_eq_false_iff_ne.mpr h5.2.2.2.2, Bool.false_or] at h
  exact List.mem_of_elem_eq_true h
theorem tn_in_all {c : Nat} (h : tn_P c) : c ∈ tn_all := by
  obtain ⟨h1, h2, h3⟩ := h
  have e : c = tn_im c 0 + tn_im c 1 * 8 + tn_im c 2 * 64 + tn_im c 3 * 512 + tn_im c 4 * 4096 + tn_im c 5 * 32768 := by
    unfold tn_im; omega
  have q : ∀ m n, m < 6 → n < 6 → m ≠ n → tn_im c m ≠ tn_im c n := fun m n hm hn hne he => hne (h3 m n hm hn he)
  rw [e]
  exact tn_all6 _ (h2 0 (by omega)) _ (h2 1 (by omega)) (q 1 0 (by omega) (by omega) (by omega)) _ (h2 2 (by omega)) ⟨q 2 0 (by omega) (by omega) (by omega), q 2 1 (by omega) (by omega) (by omega)⟩ _ (h2 3 (by omega)) ⟨q 3 0 (by omega) (by omega) (by omega), q 3 1 (by omega) (by omega) (by omega), q 3 2 (by omega) (by omega) (by omega)⟩ _ (h2 4 (by omega)) ⟨q 4 0 (by omega) (by omega) (by omega), q 4 1 (by omega) (by omega) (by omega), q 4 2 (by omega) (by omega) (by omega), q 4 3 (by omega) (by omega) (by omega)⟩ _ (h2 5 (by omega)) ⟨q 5 0 (by omega) (by omega) (by omega), q 5 1 (by omega) (by omega) (by omega), q 5 2 (by omega) (by omega) (by omega), q 5 3 (by omega) (by omega) (by omega), q 5 4 (by omega) (by omega) (by omega)⟩
theorem tn_all_P : ∀ c ∈ tn_all, c < 262144 ∧ (∀ n, n < 6 → tn_im c n < 6) ∧ ∀ m, m < 6 → ∀ n, n < 6 → tn_im c m = tn_im c n → m = n := by decide +kernel
theorem tn_P_all {c : Nat} (h : c ∈ tn_all) : tn_P c := ⟨(tn_all_P c h).1, (tn_all_P c h).2.1, fun m n hm hn => (tn_all_P c h).2.2 m hm n hn⟩
theorem tn_P_id : tn_P tn_id := tn_P_all (by decide +kernel)
theorem tn_im_id : ∀ n, n < 6 → tn_im tn_id n = n := by decide +kernel
theorem tn_sw_all : ∀ a, a < 6 → ∀ b, b < 6 → tn_sw a b ∈ tn_all := by decide +kernel
theorem tn_P_sw {a b : Nat} (ha : a < 6) (hb : b < 6) : tn_P (tn_sw a b) := tn_P_all (tn_sw_all a ha b hb)
theorem tn_im_sw {a b n : Nat} (ha : a < 6) (hb : b < 6) (hn : n < 6) : tn_im (tn_sw a b) n = if n = a then b else if n = b then a else n := tn_im_enc (f := fun n => if n = a then b else if n = b then a else n) (fun n hn => by split; omega; split <;> omega) n hn
/-- what is taken to m -/
theorem tn_src_lt {c m : Nat} (hm : m < 6) : tn_src c m < 6 := by
  unfold tn_src
  repeat' split
  all_goals omega
theorem tn_src_all : ∀ c ∈ tn_all, ∀ m, m < 6 → tn_im c (tn_src c m) = m := by decide +kernel
theorem tn_im_src {c m : Nat} (h : tn_P c) (hm : m < 6) : tn_im c (tn_src c m) = m := tn_src_all c (tn_in_all h) m hm
theorem tn_src_im {c n : Nat} (h : tn_P c) (hn : n < 6) : tn_src c (tn_im c n) = n := h.2.2 _ _ (tn_src_lt (h.2.1 n hn)) hn (tn_im_src h (h.2.1 n hn))
theorem tn_im_bk {c m : Nat} (hm : m < 6) : tn_im (tn_bk c) m = tn_src c m := tn_im_enc (fun n hn => Nat.lt_of_lt_of_le (tn_src_lt hn) (by omega)) m hm
theorem tn_P_bk {c : Nat} (h : tn_P c) : tn_P (tn_bk c) := by
  refine ⟨tn_enc_lt (fun n hn => Nat.lt_of_lt_of_le (tn_src_lt hn) (by omega)), fun n hn => ?_, fun m n hm hn e => ?_⟩
  · rw [tn_im_bk hn]; exact tn_src_lt hn
  · rw [tn_im_bk hm, tn_im_bk hn] at e
    rw [← tn_im_src h hm, e, tn_im_src h hn]
theorem tn_cmp_id {c : Nat} (h : tn_P c) : tn_cmp c tn_id = c := tn_ext (tn_enc_lt (fun _ _ => tn_im8 _ _)) h.1 (fun n hn => by rw [tn_im_cmp hn, tn_im_id n hn])
theorem tn_id_cmp {c : Nat} (h : tn_P c) : tn_cmp tn_id c = c := tn_ext (tn_enc_lt (fun _ _ => tn_im8 _ _)) h.1 (fun n hn => by rw [tn_im_cmp hn, tn_im_id _ (h.2.1 n hn)])
/-- the figures x and y change places -/
def tn_xf (c x y : Nat) : Nat := (c ^^^ ((c / 8 ^ x ^^^ c / 8 ^ y) % 8) * 8 ^ x) ^^^ ((c / 8 ^ x ^^^ c / 8 ^ y) % 8) * 8 ^ y
theorem tn_xf_all : ∀ c ∈ tn_all, ∀ x, x < 6 → ∀ y, y < 6 → tn_xf c x y = tn_cmp c (tn_sw x y) := by decide +kernel
theorem tn_xf_eq {c x y : Nat} (h : tn_P c) (hx : x < 6) (hy : y < 6) : tn_xf c x y = tn_cmp c (tn_sw x y) := tn_xf_all c (tn_in_all h) x hx y hy
/-- a swap behind a turn is one of the sources ahead of it -/
theorem tn_last {c x y : Nat} (h : tn_P c) (hx : x < 6) (hy : y < 6) : tn_cmp c (tn_sw (tn_src c x) (tn_src c y)) = tn_cmp (tn_sw x y) c := by
  refine tn_ext (tn_enc_lt (fun _ _ => tn_im8 _ _)) (tn_enc_lt (fun _ _ => tn_im8 _ _)) (fun n hn => ?_)
  rw [tn_im_cmp hn, tn_im_cmp hn, tn_im_sw (tn_src_lt hx) (tn_src_lt hy) hn, tn_im_sw hx hy (h.2.1 n hn)]
  by_cases h1 : n = tn_src c x
  · rw [if_pos h1, h1, tn_im_src h hx, if_pos rfl, tn_im_src h hy]
  · have h1' : ¬ tn_im c n = x := fun e => h1 (by rw [← e, tn_src_im h hn])
    rw [if_neg h1, if_neg h1']
    by_cases h2 : n = tn_src c y
    · rw [if_pos h2, h2, tn_im_src h hy, if_pos rfl, tn_im_src h hx]
    · have h2' : ¬ tn_im c n = y := fun e => h2 (by rw [← e, tn_src_im h hn])
      rw [if_neg h2, if_neg h2']
theorem tn_jim {c n : Nat} (hc : c < 262144) (hn : n < 6) : (nI c >>> ((3 * nI n) &&& 31)) &&& 7 = nI (tn_im c n) := by
  have e : (3 : Int32) * nI n = nI (3 * n) := nu_mul 3 n
  rw [e, nu_shr (by omega) (by omega), nu_a7, Nat.pow_mul]
  rfl
theorem tn_or {a b n : Nat} (ha : a < 8 ^ n) (hn : n < 6) : nI a ||| nI b <<< ((3 * nI n) &&& 31) = nI (a + b * 8 ^ n) := by
  have e : (3 : Int32) * nI n = nI (3 * n) := nu_mul 3 n
  rw [e, nu_shl b (by omega), nu_or]
  congr 1
  rw [Nat.pow_mul]
  have h := Nat.two_pow_add_eq_or_of_lt (i := 3 * n) (b := a) (by rw [Nat.pow_mul]; exact ha) b
  rw [Nat.pow_mul] at h
  rw [Nat.or_comm, Nat.mul_comm b, ← h]
  omega
theorem nu_orf {k hi lo b : Nat} (hl : lo < 2 ^ k) (hb : b < 8) : (2 ^ (k + 3) * hi + lo) ||| (2 ^ k * b) = 2 ^ (k + 3) * hi + (2 ^ k * b + lo) := by
  have h8 : 2 ^ (k + 3) = 2 ^ k * 8 := by rw [Nat.pow_add]
  have h1 : 2 ^ k * b + lo < 2 ^ (k + 3) := by
    have : 2 ^ k * b ≤ 2 ^ k * 7 := Nat.mul_le_mul_left _ (by omega)
    omega
  have h2 : lo < 2 ^ (k + 3) := by omega
  rw [Nat.two_pow_add_eq_or_of_lt h2, Nat.two_pow_add_eq_or_of_lt h1, Nat.two_pow_add_eq_or_of_lt hl, Nat.or_assoc, Nat.or_comm lo]
theorem tn_orf {f : Nat → Nat} {m b : Nat} (hf : ∀ n, n < 6 → f n < 8) (hm : m < 6) (h0 : f m = 0) (hb : b < 8) : nI (tn_enc f) ||| nI b <<< ((3 * nI m) &&& 31) = nI (tn_enc (fun q => if q = m then b else f q)) := by
  have e3 : (3 : Int32) * nI m = nI (3 * m) := nu_mul 3 m
  rw [e3, nu_shl b (by omega), nu_or]
  congr 1
  have a0 := hf 0 (by omega)
  have a1 := hf 1 (by omega)
  have a2 := hf 2 (by omega)
  have a3 := hf 3 (by omega)
  have a4 := hf 4 (by omega)
  have a5 := hf 5 (by omega)
  match m, hm with
  | 0, _ =>
    have h := nu_orf (k := 0) (hi := f 1 + f 2 * 8 + f 3 * 64 + f 4 * 512 + f 5 * 4096) (lo := 0) (b := b) (by omega) hb
    simp [tn_enc, tn_eN, h0] at h ⊢
    rw [show f 1 * 8 + f 2 * 64 + f 3 * 512 + f 4 * 4096 + f 5 * 32768 = 8 * (f 1 + f 2 * 8 + f 3 * 64 + f 4 * 512 + f 5 * 4096) by omega, h]
    omega
  | 1, _ =>
    have h := nu_orf (k := 3) (hi := f 2 + f 3 * 8 + f 4 * 64 + f 5 * 512) (lo := f 0) (b := b) (by omega) hb
    simp [tn_enc, tn_eN, h0] at h ⊢
    rw [show f 0 + f 2 * 64 + f 3 * 512 + f 4 * 4096 + f 5 * 32768 = 64 * (f 2 + f 3 * 8 + f 4 * 64 + f 5 * 512) + f 0 by omega, show b * 8 = 8 * b by omega, h]
    omega
  | 2, _ =>
    have h := nu_orf (k := 6) (hi := f 3 + f 4 * 8 + f 5 * 64) (lo := f 0 + f 1 * 8) (b := b) (by omega) hb
    simp [tn_enc, tn_eN, h0] at h ⊢
    rw [show f 0 + f 1 * 8 + f 3 * 512 + f 4 * 4096 + f 5 * 32768 = 512 * (f 3 + f 4 * 8 + f 5 * 64) + (f 0 + f 1 * 8) by omega, show b * 64 = 64 * b by omega, h]
    omega
  | 3, _ =>
    have h := nu_orf (k := 9) (hi := f 4 + f 5 * 8) (lo := f 0 + f 1 * 8 + f 2 * 64) (b := b) (by omega) hb
    simp [tn_enc, tn_eN, h0] at h ⊢
    rw [show f 0 + f 1 * 8 + f 2 * 64 + f 4 * 4096 + f 5 * 32768 = 4096 * (f 4 + f 5 * 8) + (f 0 + f 1 * 8 + f 2 * 64) by omega, show b * 512 = 512 * b by omega, h]
    omega
  | 4, _ =>
    have h := nu_orf (k := 12) (hi := f 5) (lo := f 0 + f 1 * 8 + f 2 * 64 + f 3 * 512) (b := b) (by omega) hb
    simp [tn_enc, tn_eN, h0] at h ⊢
    rw [show f 0 + f 1 * 8 + f 2 * 64 + f 3 * 512 + f 5 * 32768 = 32768 * f 5 + (f 0 + f 1 * 8 + f 2 * 64 + f 3 * 512) by omega, show b * 4096 = 4096 * b by omega, h]
    omega
  | 5, _ =>
    have h := nu_orf (k := 15) (hi := 0) (lo := f 0 + f 1 * 8 + f 2 * 64 + f 3 * 512 + f 4 * 4096) (b := b) (by omega) hb
    simp [tn_enc, tn_eN, h0] at h ⊢
    rw [show b * 32768 = 32768 * b by omega, h]
    omega
/-! ===== masks of six ===== -/
def ms_N (p : Nat → Bool) : Nat → Nat
  | 0 => 0
  | n + 1 => ms_N p n + (if p n then 2 ^ n else 0)
def ms_of (p : Nat → Bool) : Nat := ms_N p 6
theorem ms_N_lt (p : Nat → Bool) : ∀ n, ms_N p n < 2 ^ n := by
  intro n
  induction n with
  | zero => exact Nat.one_pos
  | succ n ih =>
    show ms_N p n + (if p n then 2 ^ n else 0) < _
    rw [Nat.pow_succ]
    split <;> omega
theorem ms_or {a n b : Nat} (ha : a < 2 ^ n) (hn : n < 32) : nI a ||| nI b <<< (nI n &&& 31) = nI (a + b * 2 ^ n) := by
  rw [nu_shl b hn, nu_or]
  congr 1
  have h := Nat.two_pow_add_eq_or_of_lt (i := n) (b := a) ha b
  rw [Nat.or_comm, Nat.mul_comm b, ← h]
  omega
theorem ms_lt (p : Nat → Bool) : ms_of p < 64 := ms_N_lt p 6
theorem ms_bit (p : Nat → Bool) : ∀ n, n < 6 → (ms_of p).testBit n = p n := by
  have e : ∀ b0 b1 b2 b3 b4 b5 : Bool, ∀ n, n < 6 → (((((((0 + (if b0 then 1 else 0)) + (if b1 then 2 else 0)) + (if b2 then 4 else 0)) + (if b3 then 8 else 0)) + (if b4 then 16 else 0)) + (if b5 then 32 else 0) : Nat)).testBit n = (match n with | 0 => b0 | 1 => b1 | 2 => b2 | 3 => b3 | 4 => b4 | _ => b5) := by decide +kernel
  intro n hn
  have h := e (p 0) (p 1) (p 2) (p 3) (p 4) (p 5) n hn
  rw [show ms_of p = ((((((0 + (if p 0 then 1 else 0)) + (if p 1 then 2 else 0)) + (if p 2 then 4 else 0)) + (if p 3 then 8 else 0)) + (if p 4 then 16 else 0)) + (if p 5 then 32 else 0)) from rfl, h]
  match n, hn with
  | 0, _ => rfl
  | 1, _ => rfl
  | 2, _ => rfl
  | 3, _ => rfl
  | 4, _ => rfl
  | 5, _ => rfl
theorem ms_ext {a b : Nat} (ha : a < 64) (hb : b < 64) (h : ∀ n, n < 6 → a.testBit n = b.testBit n) : a = b := by
  apply Nat.eq_of_testBit_eq
  intro i
  by_cases hi : i < 6
  · exact h i hi
  · rw [Nat.testBit_lt_two_pow (Nat.lt_of_lt_of_le ha (by exact Nat.pow_le_pow_right (show 0 < 2 by decide) (by omega : 6 ≤ i))), Nat.testBit_lt_two_pow (Nat.lt_of_lt_of_le hb (by exact Nat.pow_le_pow_right (show 0 < 2 by decide) (by omega : 6 ≤ i)))]
/-- the names that two turns do not take to one -/
def tn_un (c d : Nat) : Nat := ms_of (fun n => decide (tn_im c n ≠ tn_im d n))
/-- names, all turned back -/
def tn_ss (c m : Nat) : Nat := ms_of (fun n => m.testBit (tn_im c n))
theorem tn_unx {c d n : Nat} : (c ^^^ d) / 8 ^ n % 8 = 0 ↔ tn_im c n = tn_im d n := by
  have e8 : 8 ^ n = 2 ^ (3 * n) := by rw [Nat.pow_mul]
  have h1 : (c ^^^ d) / 8 ^ n % 8 = tn_im c n ^^^ tn_im d n := by
    unfold tn_im
    rw [e8, ← Nat.shiftRight_eq_div_pow, ← Nat.shiftRight_eq_div_pow, ← Nat.shiftRight_eq_div_pow, Nat.shiftRight_xor_distrib]
    exact Nat.xor_mod_two_pow (n := 3)
  rw [h1]
  constructor
  · intro h
    have h3 := congrArg (fun z => z ^^^ tn_im d n) h
    simpa [Nat.xor_assoc] using h3
  · intro h
    rw [h]; exact Nat.xor_self _
theorem nu_tb (m k : Nat) : m / 2 ^ k % 2 = if m.testBit k then 1 else 0 := by
  rw [Nat.testBit_eq_decide_div_mod_eq]
  have : m / 2 ^ k % 2 < 2 := Nat.mod_lt _ (by omega)
  by_cases h : m / 2 ^ k % 2 = 1
  · simp [h]
  · simp [h]; omega
/-- by which swaps a turn is shown: what is left ahead of name n, how many, the bytes -/
def tn_st (c : Nat) : Nat → Nat
  | 0 => c
  | n + 1 => if tn_im (tn_st c n) n = n then tn_st c n else tn_cmp (tn_sw n (tn_im (tn_st c n) n)) (tn_st c n)
def tn_mn (c : Nat) : Nat → Nat
  | 0 => 0
  | n + 1 => if tn_im (tn_st c n) n = n then tn_mn c n else tn_mn c n + 1
def tn_by (c : Nat) : Nat → List Nat
  | 0 => []
  | n + 1 => if tn_im (tn_st c n) n = n then tn_by c n else tn_by c n ++ [33, 97 + n, 97 + tn_im (tn_st c n) n]
theorem tn_P_st {c : Nat} (h : tn_P c) : ∀ n, n ≤ 6 → tn_P (tn_st c n) := by
  intro n
  induction n with
  | zero => intro _; exact h
  | succ n ih =>
    intro hn
    have h1 := ih (by omega)
    show tn_P (if tn_im (tn_st c n) n = n then tn_st c n else tn_cmp (tn_sw n (tn_im (tn_st c n) n)) (tn_st c n))
    split
    · exact h1
    · exact tn_P_cmp (tn_P_sw (by omega) (h1.2.1 n (by omega))) h1
theorem tn_mn_le (c : Nat) : ∀ n, tn_mn c n ≤ n := by
  intro n
  induction n with
  | zero => exact Nat.le_refl _
  | succ n ih =>
    show (if tn_im (tn_st c n) n = n then tn_mn c n else tn_mn c n + 1) ≤ _
    split <;> omega
/-- powers; the order -/
def tn_pw (c : Nat) : Nat → Nat
  | 0 => tn_id
  | n + 1 => tn_cmp c (tn_pw c n)
def tn_or0 (c : Nat) : Nat := if c = tn_id then 1 else if tn_pw c 2 = tn_id then 2 else if tn_pw c 3 = tn_id then 3 else if tn_pw c 4 = tn_id then 4 else if tn_pw c 5 = tn_id then 5 else 6
theorem tn_P_pw {c : Nat} (h : tn_P c) : ∀ n, tn_P (tn_pw c n) := by
  intro n
  induction n with
  | zero => exact tn_P_id
  | succ n ih => exact tn_P_cmp h ih
theorem tn_pw1 {c : Nat} (h : tn_P c) : tn_pw c 1 = c := tn_cmp_id h
theorem tn_or6_all : ∀ c ∈ tn_all, c = tn_id ∨ tn_pw c 2 = tn_id ∨ tn_pw c 3 = tn_id ∨ tn_pw c 4 = tn_id ∨ tn_pw c 5 = tn_id ∨ tn_pw c 6 = tn_id := by decide +kernel
theorem tn_id_eq {c : Nat} (h : c < 262144) : (nI c = 181896) ↔ c = tn_id := nI_eq (by omega) (by decide)

abbrev LX : List gSh := [.inr (4, [some 1, some 12, some 16, some 22, none, some 28, none, some 29, some 30, some 33, some 36, some 39]), .inr (3, [some 2, some 3, some 4, some 5, some 6, some 7, some 8, some 9, some 10, some 11, none]), .inl 300, .inl 300, .inl 10, .inl 10, .inl 240, .inl 240, .inl 240, .inl 240, .inl 240, .inl 6, .inr (1, [some 13, some 14, some 15, none]), .inl 4, .inl 4, .inl 240, .inr (2, [some 1, some 17, none, some 18, some 19, none, some 20, some 21, none, none, none, none]), .inl 6, .inl 602, .inl 602, .inl 240, .inl 6, .inr (2, [some 1, some 23, none, some 24, some 25, none, some 26, some 27, none, none, none, none]), .inl 6, .inl 602, .inl 602, .inl 240, .inl 6, .inl 96, .inl 6, .inr (0, [some 31, none, none, some 32, none]), .inl 60, .inl 62, .inr (0, [some 34, none, none, some 35, none]), .inl 60, .inl 62, .inr (0, [some 37, none, none, some 38, none]), .inl 60, .inl 62, .inr (0, [some 40, none, none, some 41, none]), .inl 60, .inl 62]
abbrev LM : List gSh := [.inr (5, [some 1, some 2, some 3, some 4, none, some 5, some 6, some 7, some 8, some 9, some 10, some 11, some 12, none, some 13, none, some 14, some 15, none, some 16, some 17, some 18, some 19, none, some 20, some 21, some 22, some 23, none, none, none, none, none, none, none, none, some 24, some 25, some 26, some 27, some 28]), .inl 4, .inl 4, .inl 240, .inl 60, .inl 300, .inl 10, .inl 8, .inl 240, .inl 240, .inl 240, .inl 240, .inl 6, .inl 60, .inl 400, .inl 400, .inl 6, .inl 6, .inl 240, .inl 6, .inl 700, .inl 700, .inl 700, .inl 700, .inl 600, .inl 600, .inl 600, .inl 6, .inl 6]
abbrev XC (l : Launch) (D : va_G) (cA : ClassId) (ad : Nat → Nat) : gX := (l, D, cA, ad, LX)
abbrev XM (l : Launch) (D : va_G) (cA : ClassId) (ad : Nat → Nat) : gX := (l, D, cA, ad, LM)
theorem gin_X0 : ∀ w ∈ u_ws RX0 TX0 5, w ∈ tw := by
  intro w hw
  simp only [u_ws, List.mem_map, List.mem_range] at hw
  obtain ⟨k, hk, rfl⟩ := hw
  match k, hk with
  | 0, _ => exact ly_X0_told
  | 1, _ => exact ly_X0_length
  | 2, _ => exact ly_X0_held
  | 3, _ => exact ly_X0_waiting
  | 4, _ => exact ly_X0_depth
theorem gci_X0 : g_ci 0 RX0 TX0 5 := ⟨rfl, gin_X0⟩
theorem gcp_X0 : g_cp TX0 5 tyX0 := ⟨tyX0_ok, nmX0⟩
theorem gin_X1 : ∀ w ∈ u_ws RX1 TX1 4, w ∈ tw := by
  intro w hw
  simp only [u_ws, List.mem_map, List.mem_range] at hw
  obtain ⟨k, hk, rfl⟩ := hw
  match k, hk with
  | 0, _ => exact ly_X1_forms
  | 1, _ => exact ly_X1_sizes
  | 2, _ => exact ly_X1_items
  | 3, _ => exact ly_X1_latest
theorem gci_X1 : g_ci 1 RX1 TX1 4 := ⟨rfl, gin_X1⟩
theorem gcp_X1 : g_cp TX1 4 tyX1 := ⟨tyX1_ok, nmX1⟩
theorem gin_X2 : ∀ w ∈ u_ws RX2 TX2 12, w ∈ tw := by
  intro w hw
  simp only [u_ws, List.mem_map, List.mem_range] at hw
  obtain ⟨k, hk, rfl⟩ := hw
  match k, hk with
  | 0, _ => exact ly_X2_texts
  | 1, _ => exact ly_X2_values
  | 2, _ => exact ly_X2_valueCount
  | 3, _ => exact ly_X2_lefts
  | 4, _ => exact ly_X2_rights
  | 5, _ => exact ly_X2_height
  | 6, _ => exact ly_X2_mustNodes
  | 7, _ => exact ly_X2_mustUnknowns
  | 8, _ => exact ly_X2_why
  | 9, _ => exact ly_X2_where
  | 10, _ => exact ly_X2_steps
  | 11, _ => exact ly_X2_isRigid
theorem gci_X2 : g_ci 2 RX2 TX2 12 := ⟨rfl, gin_X2⟩
theorem gcp_X2 : g_cp TX2 12 tyX2 := ⟨tyX2_ok, nmX2⟩
theorem gin_X4 : ∀ w ∈ u_ws RX4 TX4 11, w ∈ tw := by
  intro w hw
  simp only [u_ws, List.mem_map, List.mem_range] at hw
  obtain ⟨k, hk, rfl⟩ := hw
  match k, hk with
  | 0, _ => exact ly_X4_bytes
  | 1, _ => exact ly_X4_kinds
  | 2, _ => exact ly_X4_lengths
  | 3, _ => exact ly_X4_faults
  | 4, _ => exact ly_X4_behind
  | 5, _ => exact ly_X4_sizes
  | 6, _ => exact ly_X4_depths
  | 7, _ => exact ly_X4_looseNames
  | 8, _ => exact ly_X4_unknowns
  | 9, _ => exact ly_X4_toldFresh
  | 10, _ => exact ly_X4_theTurn
theorem gci_X4 : g_ci 3 RX4 TX4 11 := ⟨rfl, gin_X4⟩
theorem gcp_X4 : g_cp TX4 11 tyX4 := ⟨tyX4_ok, nmX4⟩
theorem gin_X6 : ∀ w ∈ u_ws RX6 TX6 12, w ∈ tw := by
  intro w hw
  simp only [u_ws, List.mem_map, List.mem_range] at hw
  obtain ⟨k, hk, rfl⟩ := hw
  match k, hk with
  | 0, _ => exact ly_X6_texts
  | 1, _ => exact ly_X6_sheets
  | 2, _ => exact ly_X6_solver
  | 3, _ => exact ly_X6_trial
  | 4, _ => exact ly_X6_settled
  | 5, _ => exact ly_X6_ways
  | 6, _ => exact ly_X6_waysKnown
  | 7, _ => exact ly_X6_noValues
  | 8, _ => exact ly_X6_shownLine
  | 9, _ => exact ly_X6_turnedLine
  | 10, _ => exact ly_X6_valueLine
  | 11, _ => exact ly_X6_turnLine
theorem gci_X6 : g_ci 4 RX6 TX6 12 := ⟨rfl, gin_X6⟩
theorem gcp_X6 : g_cp TX6 12 tyX6 := ⟨tyX6_ok, nmX6⟩
theorem gin_X7 : ∀ w ∈ u_ws RX7 TX7 41, w ∈ tw := by
  intro w hw
  simp only [u_ws, List.mem_map, List.mem_range] at hw
  obtain ⟨k, hk, rfl⟩ := hw
  match k, hk with
  | 0, _ => exact ly_X7_forms
  | 1, _ => exact ly_X7_sizes
  | 2, _ => exact ly_X7_items
  | 3, _ => exact ly_X7_moved
  | 4, _ => exact ly_X7_latest
  | 5, _ => exact ly_X7_bytes
  | 6, _ => exact ly_X7_typed
  | 7, _ => exact ly_X7_parts
  | 8, _ => exact ly_X7_kind
  | 9, _ => exact ly_X7_name
  | 10, _ => exact ly_X7_other
  | 11, _ => exact ly_X7_ends
  | 12, _ => exact ly_X7_given
  | 13, _ => exact ly_X7_theTurn
  | 14, _ => exact ly_X7_out
  | 15, _ => exact ly_X7_shown
  | 16, _ => exact ly_X7_waits
  | 17, _ => exact ly_X7_under
  | 18, _ => exact ly_X7_open
  | 19, _ => exact ly_X7_values
  | 20, _ => exact ly_X7_valueTurns
  | 21, _ => exact ly_X7_deep
  | 22, _ => exact ly_X7_must
  | 23, _ => exact ly_X7_bound
  | 24, _ => exact ly_X7_lefts
  | 25, _ => exact ly_X7_leftTurns
  | 26, _ => exact ly_X7_rights
  | 27, _ => exact ly_X7_rightTurns
  | 28, _ => exact ly_X7_high
  | 29, _ => exact ly_X7_part
  | 30, _ => exact ly_X7_turn
  | 31, _ => exact ly_X7_asked
  | 32, _ => exact ly_X7_why
  | 33, _ => exact ly_X7_where
  | 34, _ => exact ly_X7_steps
  | 35, _ => exact ly_X7_wants
  | 36, _ => exact ly_X7_wantName
  | 37, _ => exact ly_X7_wantPart
  | 38, _ => exact ly_X7_wantTurn
  | 39, _ => exact ly_X7_wanted
  | 40, _ => exact ly_X7_asksDone
  | k + 41, h => exact absurd h (by omega)
theorem gci_X7 : g_ci 5 RX7 TX7 41 := ⟨rfl, gin_X7⟩
theorem gcp_X7 : g_cp TX7 41 tyX7 := ⟨tyX7_ok, nmX7⟩
abbrev mJ6_bitCount_0f7a4 : gM := (yJ6_bitCount_0f7a4, cJ6_bitCount_0f7a4, 1, (some .int), { frames := 0, cells := 0, slots := 0, locals := 0 })
theorem gcl_J6_bitCount_0f7a4 : g_cl mJ6_bitCount_0f7a4 1 := ⟨wi_J6, wc_yJ6_bitCount_0f7a4, ⟨by decide +kernel, by decide +kernel, by decide +kernel⟩, rfl, rfl⟩
abbrev mJ7_fill_53178 : gM := (yJ7_fill_53178, cJ7_fill_53178, 4, none, { frames := 0, cells := 0, slots := 0, locals := 0 })
theorem gcl_J7_fill_53178 : g_cl mJ7_fill_53178 2 := ⟨wi_J7, wc_yJ7_fill_53178, ⟨by decide +kernel, by decide +kernel, by decide +kernel⟩, rfl, rfl⟩
abbrev mJ7_fill_fda19 : gM := (yJ7_fill_fda19, cJ7_fill_fda19, 5, none, { frames := 2, cells := 0, slots := 0, locals := 82 })
theorem gcl_J7_fill_fda19 : g_cl mJ7_fill_fda19 4 := ⟨wi_J7, wc_yJ7_fill_fda19, ⟨by decide +kernel, by decide +kernel, by decide +kernel⟩, rfl, rfl⟩
abbrev mJ7_rangeCheck_23922 : gM := (yJ7_rangeCheck_23922, cJ7_rangeCheck_23922, 3, none, { frames := 1, cells := 0, slots := 0, locals := 60 })
theorem gcl_J7_rangeCheck_23922 : g_cl mJ7_rangeCheck_23922 3 := ⟨wi_J7, wc_yJ7_rangeCheck_23922, ⟨by decide +kernel, by decide +kernel, by decide +kernel⟩, rfl, rfl⟩
abbrev mJ9_floorMod_7cf53 : gM := (yJ9_floorMod_7cf53, cJ9_floorMod_7cf53, 3, (some .int), { frames := 0, cells := 0, slots := 0, locals := 0 })
theorem gcl_J9_floorMod_7cf53 : g_cl mJ9_floorMod_7cf53 2 := ⟨wi_J9, wc_yJ9_floorMod_7cf53, ⟨by decide +kernel, by decide +kernel, by decide +kernel⟩, rfl, rfl⟩
abbrev mJ9_max_7cf53 : gM := (yJ9_max_7cf53, cJ9_max_7cf53, 2, (some .int), { frames := 0, cells := 0, slots := 0, locals := 0 })
theorem gcl_J9_max_7cf53 : g_cl mJ9_max_7cf53 2 := ⟨wi_J9, wc_yJ9_max_7cf53, ⟨by decide +kernel, by decide +kernel, by decide +kernel⟩, rfl, rfl⟩
abbrev mJ9_min_7cf53 : gM := (yJ9_min_7cf53, cJ9_min_7cf53, 2, (some .int), { frames := 0, cells := 0, slots := 0, locals := 0 })
theorem gcl_J9_min_7cf53 : g_cl mJ9_min_7cf53 2 := ⟨wi_J9, wc_yJ9_min_7cf53, ⟨by decide +kernel, by decide +kernel, by decide +kernel⟩, rfl, rfl⟩
abbrev mX0_await : gM := (yX0_await, cX0_await, 2, none, { frames := 0, cells := 0, slots := 0, locals := 0 })
theorem gcl_X0_await : g_cl mX0_await 1 := ⟨wi_X0, wc_yX0_await, ⟨by decide +kernel, by decide +kernel, by decide +kernel⟩, rfl, rfl⟩
abbrev mX0_forget : gM := (yX0_forget, cX0_forget, 1, none, { frames := 0, cells := 0, slots := 0, locals := 0 })
theorem gcl_X0_forget : g_cl mX0_forget 0 := ⟨wi_X0, wc_yX0_forget, ⟨by decide +kernel, by decide +kernel, by decide +kernel⟩, rfl, rfl⟩
abbrev mX0_init : gM := (yX0_init, cX0_init, 1, none, { frames := 1, cells := 0, slots := 0, locals := 60 })
abbrev mX0_isToShow : gM := (yX0_isToShow, cX0_isToShow, 2, (some .boolean), { frames := 0, cells := 0, slots := 0, locals := 0 })
theorem gcl_X0_isToShow : g_cl mX0_isToShow 1 := ⟨wi_X0, wc_yX0_isToShow, ⟨by decide +kernel, by decide +kernel, by decide +kernel⟩, rfl, rfl⟩
abbrev mX0_putByte : gM := (yX0_putByte, cX0_putByte, 2, none, { frames := 0, cells := 0, slots := 0, locals := 0 })
theorem gcl_X0_putByte : g_cl mX0_putByte 1 := ⟨wi_X0, wc_yX0_putByte, ⟨by decide +kernel, by decide +kernel, by decide +kernel⟩, rfl, rfl⟩
abbrev mX0_putTerm : gM := (yX0_putTerm, cX0_putTerm, 5, none, { frames := 4, cells := 0, slots := 0, locals := 93 })
theorem gcl_X0_putTerm : g_cl mX0_putTerm 3 := ⟨wi_X0, wc_yX0_putTerm, ⟨by decide +kernel, by decide +kernel, by decide +kernel⟩, rfl, rfl⟩
abbrev mX0_putTop : gM := (yX0_putTop, cX0_putTop, 5, none, { frames := 3, cells := 0, slots := 0, locals := 69 })
theorem gcl_X0_putTop : g_cl mX0_putTop 2 := ⟨wi_X0, wc_yX0_putTop, ⟨by decide +kernel, by decide +kernel, by decide +kernel⟩, rfl, rfl⟩
abbrev mX0_putTurn : gM := (yX0_putTurn, cX0_putTurn, 5, none, { frames := 2, cells := 0, slots := 0, locals := 45 })
theorem gcl_X0_putTurn : g_cl mX0_putTurn 1 := ⟨wi_X0, wc_yX0_putTurn, ⟨by decide +kernel, by decide +kernel, by decide +kernel⟩, rfl, rfl⟩
abbrev mX0_tell : gM := (yX0_tell, cX0_tell, 2, (some .int), { frames := 1, cells := 0, slots := 0, locals := 21 })
theorem gcl_X0_tell : g_cl mX0_tell 1 := ⟨wi_X0, wc_yX0_tell, ⟨by decide +kernel, by decide +kernel, by decide +kernel⟩, rfl, rfl⟩
abbrev mX1_find : gM := (yX1_find, cX1_find, 2, (some .int), { frames := 0, cells := 0, slots := 0, locals := 0 })
theorem gcl_X1_find : g_cl mX1_find 1 := ⟨wi_X1, wc_yX1_find, ⟨by decide +kernel, by decide +kernel, by decide +kernel⟩, rfl, rfl⟩
abbrev mX1_formOf : gM := (yX1_formOf, cX1_formOf, 2, (some .int), { frames := 0, cells := 0, slots := 0, locals := 0 })
theorem gcl_X1_formOf : g_cl mX1_formOf 1 := ⟨wi_X1, wc_yX1_formOf, ⟨by decide +kernel, by decide +kernel, by decide +kernel⟩, rfl, rfl⟩
abbrev mX1_hasItems : gM := (yX1_hasItems, cX1_hasItems, 4, (some .boolean), { frames := 0, cells := 0, slots := 0, locals := 0 })
theorem gcl_X1_hasItems : g_cl mX1_hasItems 3 := ⟨wi_X1, wc_yX1_hasItems, ⟨by decide +kernel, by decide +kernel, by decide +kernel⟩, rfl, rfl⟩
abbrev mX1_init : gM := (yX1_init, cX1_init, 1, none, { frames := 1, cells := 0, slots := 0, locals := 60 })
abbrev mX1_isLost : gM := (yX1_isLost, cX1_isLost, 2, (some .boolean), { frames := 0, cells := 0, slots := 0, locals := 0 })
theorem gcl_X1_isLost : g_cl mX1_isLost 1 := ⟨wi_X1, wc_yX1_isLost, ⟨by decide +kernel, by decide +kernel, by decide +kernel⟩, rfl, rfl⟩
abbrev mX1_item : gM := (yX1_item, cX1_item, 3, (some .int), { frames := 1, cells := 0, slots := 0, locals := 21 })
theorem gcl_X1_item : g_cl mX1_item 2 := ⟨wi_X1, wc_yX1_item, ⟨by decide +kernel, by decide +kernel, by decide +kernel⟩, rfl, rfl⟩
abbrev mX1_make : gM := (yX1_make, cX1_make, 4, none, { frames := 3, cells := 0, slots := 0, locals := 106 })
theorem gcl_X1_make : g_cl mX1_make 3 := ⟨wi_X1, wc_yX1_make, ⟨by decide +kernel, by decide +kernel, by decide +kernel⟩, rfl, rfl⟩
abbrev mX1_move : gM := (yX1_move, cX1_move, 6, none, { frames := 1, cells := 0, slots := 0, locals := 60 })
theorem gcl_X1_move : g_cl mX1_move 5 := ⟨wi_X1, wc_yX1_move, ⟨by decide +kernel, by decide +kernel, by decide +kernel⟩, rfl, rfl⟩
abbrev mX1_put : gM := (yX1_put, cX1_put, 4, none, { frames := 1, cells := 0, slots := 0, locals := 21 })
theorem gcl_X1_put : g_cl mX1_put 3 := ⟨wi_X1, wc_yX1_put, ⟨by decide +kernel, by decide +kernel, by decide +kernel⟩, rfl, rfl⟩
abbrev mX1_sizeOf : gM := (yX1_sizeOf, cX1_sizeOf, 2, (some .int), { frames := 0, cells := 0, slots := 0, locals := 0 })
theorem gcl_X1_sizeOf : g_cl mX1_sizeOf 1 := ⟨wi_X1, wc_yX1_sizeOf, ⟨by decide +kernel, by decide +kernel, by decide +kernel⟩, rfl, rfl⟩
abbrev mX1_wrongWith : gM := (yX1_wrongWith, cX1_wrongWith, 4, (some .int), { frames := 1, cells := 0, slots := 0, locals := 21 })
theorem gcl_X1_wrongWith : g_cl mX1_wrongWith 3 := ⟨wi_X1, wc_yX1_wrongWith, ⟨by decide +kernel, by decide +kernel, by decide +kernel⟩, rfl, rfl⟩
abbrev mX2_clear : gM := (yX2_clear, cX2_clear, 3, none, { frames := 1, cells := 0, slots := 0, locals := 23 })
theorem gcl_X2_clear : g_cl mX2_clear 1 := ⟨wi_X2, wc_yX2_clear, ⟨by decide +kernel, by decide +kernel, by decide +kernel⟩, rfl, rfl⟩
abbrev mX2_finding : gM := (yX2_finding, cX2_finding, 2, (some .int), { frames := 0, cells := 0, slots := 0, locals := 0 })
theorem gcl_X2_finding : g_cl mX2_finding 1 := ⟨wi_X2, wc_yX2_finding, ⟨by decide +kernel, by decide +kernel, by decide +kernel⟩, rfl, rfl⟩
abbrev mX2_freshNames : gM := (yX2_freshNames, cX2_freshNames, 2, (some .int), { frames := 0, cells := 0, slots := 0, locals := 0 })
theorem gcl_X2_freshNames : g_cl mX2_freshNames 1 := ⟨wi_X2, wc_yX2_freshNames, ⟨by decide +kernel, by decide +kernel, by decide +kernel⟩, rfl, rfl⟩
abbrev mX2_give : gM := (yX2_give, cX2_give, 4, none, { frames := 2, cells := 0, slots := 0, locals := 47 })
theorem gcl_X2_give : g_cl mX2_give 3 := ⟨wi_X2, wc_yX2_give, ⟨by decide +kernel, by decide +kernel, by decide +kernel⟩, rfl, rfl⟩
abbrev mX2_init : gM := (yX2_init, cX2_init, 2, none, { frames := 1, cells := 0, slots := 0, locals := 60 })
abbrev mX2_must : gM := (yX2_must, cX2_must, 3, none, { frames := 1, cells := 0, slots := 0, locals := 21 })
theorem gcl_X2_must : g_cl mX2_must 2 := ⟨wi_X2, wc_yX2_must, ⟨by decide +kernel, by decide +kernel, by decide +kernel⟩, rfl, rfl⟩
abbrev mX2_mustIn : gM := (yX2_mustIn, cX2_mustIn, 3, (some .boolean), { frames := 0, cells := 0, slots := 0, locals := 0 })
theorem gcl_X2_mustIn : g_cl mX2_mustIn 2 := ⟨wi_X2, wc_yX2_mustIn, ⟨by decide +kernel, by decide +kernel, by decide +kernel⟩, rfl, rfl⟩
abbrev mX2_needsNoMoreThanTold : gM := (yX2_needsNoMoreThanTold, cX2_needsNoMoreThanTold, 3, (some .boolean), { frames := 1, cells := 0, slots := 0, locals := 21 })
theorem gcl_X2_needsNoMoreThanTold : g_cl mX2_needsNoMoreThanTold 0 := ⟨wi_X2, wc_yX2_needsNoMoreThanTold, ⟨by decide +kernel, by decide +kernel, by decide +kernel⟩, rfl, rfl⟩
abbrev mX2_openUnknowns : gM := (yX2_openUnknowns, cX2_openUnknowns, 4, (some .int), { frames := 2, cells := 0, slots := 0, locals := 47 })
theorem gcl_X2_openUnknowns : g_cl mX2_openUnknowns 1 := ⟨wi_X2, wc_yX2_openUnknowns, ⟨by decide +kernel, by decide +kernel, by decide +kernel⟩, rfl, rfl⟩
abbrev mX2_passDown : gM := (yX2_passDown, cX2_passDown, 4, (some .boolean), { frames := 2, cells := 0, slots := 0, locals := 43 })
theorem gcl_X2_passDown : g_cl mX2_passDown 2 := ⟨wi_X2, wc_yX2_passDown, ⟨by decide +kernel, by decide +kernel, by decide +kernel⟩, rfl, rfl⟩
abbrev mX2_pile : gM := (yX2_pile, cX2_pile, 3, none, { frames := 0, cells := 0, slots := 0, locals := 0 })
theorem gcl_X2_pile : g_cl mX2_pile 2 := ⟨wi_X2, wc_yX2_pile, ⟨by decide +kernel, by decide +kernel, by decide +kernel⟩, rfl, rfl⟩
abbrev mX2_run : gM := (yX2_run, cX2_run, 7, none, { frames := 4, cells := 0, slots := 0, locals := 98 })
theorem gcl_X2_run : g_cl mX2_run 3 := ⟨wi_X2, wc_yX2_run, ⟨by decide +kernel, by decide +kernel, by decide +kernel⟩, rfl, rfl⟩
abbrev mX2_split : gM := (yX2_split, cX2_split, 9, none, { frames := 2, cells := 0, slots := 0, locals := 45 })
theorem gcl_X2_split : g_cl mX2_split 3 := ⟨wi_X2, wc_yX2_split, ⟨by decide +kernel, by decide +kernel, by decide +kernel⟩, rfl, rfl⟩
abbrev mX2_spreadFresh : gM := (yX2_spreadFresh, cX2_spreadFresh, 4, none, { frames := 3, cells := 0, slots := 0, locals := 66 })
theorem gcl_X2_spreadFresh : g_cl mX2_spreadFresh 0 := ⟨wi_X2, wc_yX2_spreadFresh, ⟨by decide +kernel, by decide +kernel, by decide +kernel⟩, rfl, rfl⟩
abbrev mX2_step : gM := (yX2_step, cX2_step, 6, none, { frames := 3, cells := 0, slots := 0, locals := 73 })
theorem gcl_X2_step : g_cl mX2_step 0 := ⟨wi_X2, wc_yX2_step, ⟨by decide +kernel, by decide +kernel, by decide +kernel⟩, rfl, rfl⟩
abbrev mX2_withValuesIn : gM := (yX2_withValuesIn, cX2_withValuesIn, 7, (some .int), { frames := 1, cells := 0, slots := 0, locals := 21 })
theorem gcl_X2_withValuesIn : g_cl mX2_withValuesIn 1 := ⟨wi_X2, wc_yX2_withValuesIn, ⟨by decide +kernel, by decide +kernel, by decide +kernel⟩, rfl, rfl⟩
abbrev mX3_by : gM := (yX3_by, cX3_by, 1, (some .int), { frames := 0, cells := 0, slots := 0, locals := 0 })
theorem gcl_X3_by : g_cl mX3_by 1 := ⟨wi_X3, wc_yX3_by, ⟨by decide +kernel, by decide +kernel, by decide +kernel⟩, rfl, rfl⟩
abbrev mX3_further : gM := (yX3_further, cX3_further, 2, (some .int), { frames := 0, cells := 0, slots := 0, locals := 0 })
theorem gcl_X3_further : g_cl mX3_further 2 := ⟨wi_X3, wc_yX3_further, ⟨by decide +kernel, by decide +kernel, by decide +kernel⟩, rfl, rfl⟩
abbrev mX3_make : gM := (yX3_make, cX3_make, 2, (some .int), { frames := 0, cells := 0, slots := 0, locals := 0 })
theorem gcl_X3_make : g_cl mX3_make 2 := ⟨wi_X3, wc_yX3_make, ⟨by decide +kernel, by decide +kernel, by decide +kernel⟩, rfl, rfl⟩
abbrev mX3_node : gM := (yX3_node, cX3_node, 1, (some .int), { frames := 0, cells := 0, slots := 0, locals := 0 })
theorem gcl_X3_node : g_cl mX3_node 1 := ⟨wi_X3, wc_yX3_node, ⟨by decide +kernel, by decide +kernel, by decide +kernel⟩, rfl, rfl⟩
abbrev mX4_allBytes : gM := (yX4_allBytes, cX4_allBytes, 3, (some .int), { frames := 0, cells := 0, slots := 0, locals := 0 })
theorem gcl_X4_allBytes : g_cl mX4_allBytes 0 := ⟨wi_X4, wc_yX4_allBytes, ⟨by decide +kernel, by decide +kernel, by decide +kernel⟩, rfl, rfl⟩
abbrev mX4_append : gM := (yX4_append, cX4_append, 4, (some .boolean), { frames := 1, cells := 0, slots := 0, locals := 20 })
theorem gcl_X4_append : g_cl mX4_append 2 := ⟨wi_X4, wc_yX4_append, ⟨by decide +kernel, by decide +kernel, by decide +kernel⟩, rfl, rfl⟩
abbrev mX4_byteAt : gM := (yX4_byteAt, cX4_byteAt, 2, (some .int), { frames := 0, cells := 0, slots := 0, locals := 0 })
theorem gcl_X4_byteAt : g_cl mX4_byteAt 1 := ⟨wi_X4, wc_yX4_byteAt, ⟨by decide +kernel, by decide +kernel, by decide +kernel⟩, rfl, rfl⟩
abbrev mX4_enter : gM := (yX4_enter, cX4_enter, 8, (some .int), { frames := 1, cells := 0, slots := 0, locals := 23 })
theorem gcl_X4_enter : g_cl mX4_enter 2 := ⟨wi_X4, wc_yX4_enter, ⟨by decide +kernel, by decide +kernel, by decide +kernel⟩, rfl, rfl⟩
abbrev mX4_faultOf : gM := (yX4_faultOf, cX4_faultOf, 2, (some .int), { frames := 0, cells := 0, slots := 0, locals := 0 })
theorem gcl_X4_faultOf : g_cl mX4_faultOf 1 := ⟨wi_X4, wc_yX4_faultOf, ⟨by decide +kernel, by decide +kernel, by decide +kernel⟩, rfl, rfl⟩
abbrev mX4_faultOfTerm : gM := (yX4_faultOfTerm, cX4_faultOfTerm, 7, (some .int), { frames := 0, cells := 0, slots := 0, locals := 0 })
theorem gcl_X4_faultOfTerm : g_cl mX4_faultOfTerm 1 := ⟨wi_X4, wc_yX4_faultOfTerm, ⟨by decide +kernel, by decide +kernel, by decide +kernel⟩, rfl, rfl⟩
abbrev mX4_faultOfTwos : gM := (yX4_faultOfTwos, cX4_faultOfTwos, 5, (some .int), { frames := 0, cells := 0, slots := 0, locals := 0 })
theorem gcl_X4_faultOfTwos : g_cl mX4_faultOfTwos 2 := ⟨wi_X4, wc_yX4_faultOfTwos, ⟨by decide +kernel, by decide +kernel, by decide +kernel⟩, rfl, rfl⟩
abbrev mX4_findTheTurn : gM := (yX4_findTheTurn, cX4_findTheTurn, 4, none, { frames := 1, cells := 0, slots := 0, locals := 23 })
theorem gcl_X4_findTheTurn : g_cl mX4_findTheTurn 0 := ⟨wi_X4, wc_yX4_findTheTurn, ⟨by decide +kernel, by decide +kernel, by decide +kernel⟩, rfl, rfl⟩
abbrev mX4_findToldFresh : gM := (yX4_findToldFresh, cX4_findToldFresh, 5, none, { frames := 1, cells := 0, slots := 0, locals := 23 })
theorem gcl_X4_findToldFresh : g_cl mX4_findToldFresh 0 := ⟨wi_X4, wc_yX4_findToldFresh, ⟨by decide +kernel, by decide +kernel, by decide +kernel⟩, rfl, rfl⟩
abbrev mX4_firstLength : gM := (yX4_firstLength, cX4_firstLength, 2, (some .int), { frames := 0, cells := 0, slots := 0, locals := 0 })
theorem gcl_X4_firstLength : g_cl mX4_firstLength 1 := ⟨wi_X4, wc_yX4_firstLength, ⟨by decide +kernel, by decide +kernel, by decide +kernel⟩, rfl, rfl⟩
abbrev mX4_init : gM := (yX4_init, cX4_init, 1, none, { frames := 1, cells := 0, slots := 0, locals := 60 })
abbrev mX4_isThere : gM := (yX4_isThere, cX4_isThere, 2, (some .boolean), { frames := 1, cells := 0, slots := 0, locals := 21 })
theorem gcl_X4_isThere : g_cl mX4_isThere 1 := ⟨wi_X4, wc_yX4_isThere, ⟨by decide +kernel, by decide +kernel, by decide +kernel⟩, rfl, rfl⟩
abbrev mX4_isWell : gM := (yX4_isWell, cX4_isWell, 2, (some .boolean), { frames := 0, cells := 0, slots := 0, locals := 0 })
theorem gcl_X4_isWell : g_cl mX4_isWell 1 := ⟨wi_X4, wc_yX4_isWell, ⟨by decide +kernel, by decide +kernel, by decide +kernel⟩, rfl, rfl⟩
abbrev mX4_kindAt : gM := (yX4_kindAt, cX4_kindAt, 2, (some .int), { frames := 0, cells := 0, slots := 0, locals := 0 })
theorem gcl_X4_kindAt : g_cl mX4_kindAt 1 := ⟨wi_X4, wc_yX4_kindAt, ⟨by decide +kernel, by decide +kernel, by decide +kernel⟩, rfl, rfl⟩
abbrev mX4_kindOf : gM := (yX4_kindOf, cX4_kindOf, 1, (some .int), { frames := 0, cells := 0, slots := 0, locals := 0 })
theorem gcl_X4_kindOf : g_cl mX4_kindOf 1 := ⟨wi_X4, wc_yX4_kindOf, ⟨by decide +kernel, by decide +kernel, by decide +kernel⟩, rfl, rfl⟩
abbrev mX4_lengthOf : gM := (yX4_lengthOf, cX4_lengthOf, 2, (some .int), { frames := 0, cells := 0, slots := 0, locals := 0 })
theorem gcl_X4_lengthOf : g_cl mX4_lengthOf 1 := ⟨wi_X4, wc_yX4_lengthOf, ⟨by decide +kernel, by decide +kernel, by decide +kernel⟩, rfl, rfl⟩
abbrev mX4_measureOf : gM := (yX4_measureOf, cX4_measureOf, 4, (some .int), { frames := 0, cells := 0, slots := 0, locals := 0 })
theorem gcl_X4_measureOf : g_cl mX4_measureOf 2 := ⟨wi_X4, wc_yX4_measureOf, ⟨by decide +kernel, by decide +kernel, by decide +kernel⟩, rfl, rfl⟩
abbrev mX4_nameAt : gM := (yX4_nameAt, cX4_nameAt, 2, (some .int), { frames := 0, cells := 0, slots := 0, locals := 0 })
theorem gcl_X4_nameAt : g_cl mX4_nameAt 1 := ⟨wi_X4, wc_yX4_nameAt, ⟨by decide +kernel, by decide +kernel, by decide +kernel⟩, rfl, rfl⟩
abbrev mX4_scan : gM := (yX4_scan, cX4_scan, 4, none, { frames := 3, cells := 0, slots := 0, locals := 67 })
theorem gcl_X4_scan : g_cl mX4_scan 1 := ⟨wi_X4, wc_yX4_scan, ⟨by decide +kernel, by decide +kernel, by decide +kernel⟩, rfl, rfl⟩
abbrev mX4_secondOf : gM := (yX4_secondOf, cX4_secondOf, 2, (some .int), { frames := 1, cells := 0, slots := 0, locals := 21 })
theorem gcl_X4_secondOf : g_cl mX4_secondOf 1 := ⟨wi_X4, wc_yX4_secondOf, ⟨by decide +kernel, by decide +kernel, by decide +kernel⟩, rfl, rfl⟩
abbrev mX4_shorten : gM := (yX4_shorten, cX4_shorten, 3, none, { frames := 0, cells := 0, slots := 0, locals := 0 })
theorem gcl_X4_shorten : g_cl mX4_shorten 2 := ⟨wi_X4, wc_yX4_shorten, ⟨by decide +kernel, by decide +kernel, by decide +kernel⟩, rfl, rfl⟩
abbrev mX4_toldFreshIn : gM := (yX4_toldFreshIn, cX4_toldFreshIn, 2, (some .int), { frames := 0, cells := 0, slots := 0, locals := 0 })
theorem gcl_X4_toldFreshIn : g_cl mX4_toldFreshIn 1 := ⟨wi_X4, wc_yX4_toldFreshIn, ⟨by decide +kernel, by decide +kernel, by decide +kernel⟩, rfl, rfl⟩
abbrev mX4_unknownAt : gM := (yX4_unknownAt, cX4_unknownAt, 2, (some .int), { frames := 0, cells := 0, slots := 0, locals := 0 })
theorem gcl_X4_unknownAt : g_cl mX4_unknownAt 1 := ⟨wi_X4, wc_yX4_unknownAt, ⟨by decide +kernel, by decide +kernel, by decide +kernel⟩, rfl, rfl⟩
abbrev mX4_unknownsFrom : gM := (yX4_unknownsFrom, cX4_unknownsFrom, 2, (some .int), { frames := 0, cells := 0, slots := 0, locals := 0 })
theorem gcl_X4_unknownsFrom : g_cl mX4_unknownsFrom 1 := ⟨wi_X4, wc_yX4_unknownsFrom, ⟨by decide +kernel, by decide +kernel, by decide +kernel⟩, rfl, rfl⟩
abbrev mX4_weigh : gM := (yX4_weigh, cX4_weigh, 3, none, { frames := 2, cells := 0, slots := 0, locals := 45 })
theorem gcl_X4_weigh : g_cl mX4_weigh 1 := ⟨wi_X4, wc_yX4_weigh, ⟨by decide +kernel, by decide +kernel, by decide +kernel⟩, rfl, rfl⟩
abbrev mX4_weighOver : gM := (yX4_weighOver, cX4_weighOver, 5, none, { frames := 1, cells := 0, slots := 0, locals := 21 })
theorem gcl_X4_weighOver : g_cl mX4_weighOver 2 := ⟨wi_X4, wc_yX4_weighOver, ⟨by decide +kernel, by decide +kernel, by decide +kernel⟩, rfl, rfl⟩
abbrev mX5_back : gM := (yX5_back, cX5_back, 3, (some .int), { frames := 0, cells := 0, slots := 0, locals := 0 })
theorem gcl_X5_back : g_cl mX5_back 1 := ⟨wi_X5, wc_yX5_back, ⟨by decide +kernel, by decide +kernel, by decide +kernel⟩, rfl, rfl⟩
abbrev mX5_image : gM := (yX5_image, cX5_image, 2, (some .int), { frames := 0, cells := 0, slots := 0, locals := 0 })
theorem gcl_X5_image : g_cl mX5_image 2 := ⟨wi_X5, wc_yX5_image, ⟨by decide +kernel, by decide +kernel, by decide +kernel⟩, rfl, rfl⟩
abbrev mX5_join : gM := (yX5_join, cX5_join, 4, (some .int), { frames := 0, cells := 0, slots := 0, locals := 0 })
theorem gcl_X5_join : g_cl mX5_join 2 := ⟨wi_X5, wc_yX5_join, ⟨by decide +kernel, by decide +kernel, by decide +kernel⟩, rfl, rfl⟩
abbrev mX5_order : gM := (yX5_order, cX5_order, 3, (some .int), { frames := 1, cells := 0, slots := 0, locals := 23 })
theorem gcl_X5_order : g_cl mX5_order 1 := ⟨wi_X5, wc_yX5_order, ⟨by decide +kernel, by decide +kernel, by decide +kernel⟩, rfl, rfl⟩
abbrev mX5_source : gM := (yX5_source, cX5_source, 3, (some .int), { frames := 0, cells := 0, slots := 0, locals := 0 })
theorem gcl_X5_source : g_cl mX5_source 2 := ⟨wi_X5, wc_yX5_source, ⟨by decide +kernel, by decide +kernel, by decide +kernel⟩, rfl, rfl⟩
abbrev mX5_sources : gM := (yX5_sources, cX5_sources, 4, (some .int), { frames := 0, cells := 0, slots := 0, locals := 0 })
theorem gcl_X5_sources : g_cl mX5_sources 2 := ⟨wi_X5, wc_yX5_sources, ⟨by decide +kernel, by decide +kernel, by decide +kernel⟩, rfl, rfl⟩
abbrev mX5_swapFirst : gM := (yX5_swapFirst, cX5_swapFirst, 4, (some .int), { frames := 0, cells := 0, slots := 0, locals := 0 })
theorem gcl_X5_swapFirst : g_cl mX5_swapFirst 3 := ⟨wi_X5, wc_yX5_swapFirst, ⟨by decide +kernel, by decide +kernel, by decide +kernel⟩, rfl, rfl⟩
abbrev mX5_swapLast : gM := (yX5_swapLast, cX5_swapLast, 3, (some .int), { frames := 1, cells := 0, slots := 0, locals := 23 })
theorem gcl_X5_swapLast : g_cl mX5_swapLast 3 := ⟨wi_X5, wc_yX5_swapLast, ⟨by decide +kernel, by decide +kernel, by decide +kernel⟩, rfl, rfl⟩
abbrev mX5_swaps : gM := (yX5_swaps, cX5_swaps, 5, (some .int), { frames := 2, cells := 0, slots := 0, locals := 45 })
theorem gcl_X5_swaps : g_cl mX5_swaps 1 := ⟨wi_X5, wc_yX5_swaps, ⟨by decide +kernel, by decide +kernel, by decide +kernel⟩, rfl, rfl⟩
abbrev mX5_unlike : gM := (yX5_unlike, cX5_unlike, 4, (some .int), { frames := 0, cells := 0, slots := 0, locals := 0 })
theorem gcl_X5_unlike : g_cl mX5_unlike 2 := ⟨wi_X5, wc_yX5_unlike, ⟨by decide +kernel, by decide +kernel, by decide +kernel⟩, rfl, rfl⟩
abbrev mX6_alike : gM := (yX6_alike, cX6_alike, 2, (some .int), { frames := 5, cells := 0, slots := 0, locals := 124 })
theorem gcl_X6_alike : g_cl mX6_alike 1 := ⟨wi_X6, wc_yX6_alike, ⟨by decide +kernel, by decide +kernel, by decide +kernel⟩, rfl, rfl⟩
abbrev mX6_copy : gM := (yX6_copy, cX6_copy, 6, (some .int), { frames := 2, cells := 0, slots := 0, locals := 85 })
theorem gcl_X6_copy : g_cl mX6_copy 5 := ⟨wi_X6, wc_yX6_copy, ⟨by decide +kernel, by decide +kernel, by decide +kernel⟩, rfl, rfl⟩
abbrev mX6_count : gM := (yX6_count, cX6_count, 2, (some .int), { frames := 6, cells := 0, slots := 0, locals := 144 })
theorem gcl_X6_count : g_cl mX6_count 1 := ⟨wi_X6, wc_yX6_count, ⟨by decide +kernel, by decide +kernel, by decide +kernel⟩, rfl, rfl⟩
abbrev mX6_digest : gM := (yX6_digest, cX6_digest, 5, (some .long), { frames := 7, cells := 0, slots := 0, locals := 166 })
theorem gcl_X6_digest : g_cl mX6_digest 0 := ⟨wi_X6, wc_yX6_digest, ⟨by decide +kernel, by decide +kernel, by decide +kernel⟩, rfl, rfl⟩
abbrev mX6_fault : gM := (yX6_fault, cX6_fault, 2, (some .int), { frames := 1, cells := 0, slots := 0, locals := 21 })
theorem gcl_X6_fault : g_cl mX6_fault 1 := ⟨wi_X6, wc_yX6_fault, ⟨by decide +kernel, by decide +kernel, by decide +kernel⟩, rfl, rfl⟩
abbrev mX6_fresh : gM := (yX6_fresh, cX6_fresh, 2, (some .int), { frames := 6, cells := 0, slots := 0, locals := 144 })
theorem gcl_X6_fresh : g_cl mX6_fresh 1 := ⟨wi_X6, wc_yX6_fresh, ⟨by decide +kernel, by decide +kernel, by decide +kernel⟩, rfl, rfl⟩
abbrev mX6_get : gM := (yX6_get, cX6_get, 5, (some .int), { frames := 2, cells := 0, slots := 0, locals := 44 })
theorem gcl_X6_get : g_cl mX6_get 3 := ⟨wi_X6, wc_yX6_get, ⟨by decide +kernel, by decide +kernel, by decide +kernel⟩, rfl, rfl⟩
abbrev mX6_init : gM := (yX6_init, cX6_init, 2, none, { frames := 2, cells := 0, slots := 0, locals := 81 })
abbrev mX6_isNoPlace : gM := (yX6_isNoPlace, cX6_isNoPlace, 1, (some .boolean), { frames := 0, cells := 0, slots := 0, locals := 0 })
theorem gcl_X6_isNoPlace : g_cl mX6_isNoPlace 1 := ⟨wi_X6, wc_yX6_isNoPlace, ⟨by decide +kernel, by decide +kernel, by decide +kernel⟩, rfl, rfl⟩
abbrev mX6_isOutside : gM := (yX6_isOutside, cX6_isOutside, 2, (some .boolean), { frames := 0, cells := 0, slots := 0, locals := 0 })
theorem gcl_X6_isOutside : g_cl mX6_isOutside 2 := ⟨wi_X6, wc_yX6_isOutside, ⟨by decide +kernel, by decide +kernel, by decide +kernel⟩, rfl, rfl⟩
abbrev mX6_lay : gM := (yX6_lay, cX6_lay, 6, (some .int), { frames := 2, cells := 0, slots := 0, locals := 44 })
theorem gcl_X6_lay : g_cl mX6_lay 4 := ⟨wi_X6, wc_yX6_lay, ⟨by decide +kernel, by decide +kernel, by decide +kernel⟩, rfl, rfl⟩
abbrev mX6_lose : gM := (yX6_lose, cX6_lose, 3, (some .int), { frames := 4, cells := 0, slots := 0, locals := 129 })
theorem gcl_X6_lose : g_cl mX6_lose 1 := ⟨wi_X6, wc_yX6_lose, ⟨by decide +kernel, by decide +kernel, by decide +kernel⟩, rfl, rfl⟩
abbrev mX6_needs : gM := (yX6_needs, cX6_needs, 2, (some .int), { frames := 6, cells := 0, slots := 0, locals := 144 })
theorem gcl_X6_needs : g_cl mX6_needs 1 := ⟨wi_X6, wc_yX6_needs, ⟨by decide +kernel, by decide +kernel, by decide +kernel⟩, rfl, rfl⟩
abbrev mX6_noteChange : gM := (yX6_noteChange, cX6_noteChange, 2, none, { frames := 4, cells := 0, slots := 0, locals := 90 })
theorem gcl_X6_noteChange : g_cl mX6_noteChange 1 := ⟨wi_X6, wc_yX6_noteChange, ⟨by decide +kernel, by decide +kernel, by decide +kernel⟩, rfl, rfl⟩
abbrev mX6_power : gM := (yX6_power, cX6_power, 6, (some .int), { frames := 1, cells := 0, slots := 0, locals := 22 })
theorem gcl_X6_power : g_cl mX6_power 2 := ⟨wi_X6, wc_yX6_power, ⟨by decide +kernel, by decide +kernel, by decide +kernel⟩, rfl, rfl⟩
abbrev mX6_read : gM := (yX6_read, cX6_read, 7, (some .int), { frames := 5, cells := 0, slots := 0, locals := 111 })
theorem gcl_X6_read : g_cl mX6_read 2 := ⟨wi_X6, wc_yX6_read, ⟨by decide +kernel, by decide +kernel, by decide +kernel⟩, rfl, rfl⟩
abbrev mX6_rounds : gM := (yX6_rounds, cX6_rounds, 4, (some .int), { frames := 3, cells := 0, slots := 0, locals := 69 })
theorem gcl_X6_rounds : g_cl mX6_rounds 1 := ⟨wi_X6, wc_yX6_rounds, ⟨by decide +kernel, by decide +kernel, by decide +kernel⟩, rfl, rfl⟩
abbrev mX6_settle : gM := (yX6_settle, cX6_settle, 1, none, { frames := 5, cells := 0, slots := 0, locals := 124 })
theorem gcl_X6_settle : g_cl mX6_settle 0 := ⟨wi_X6, wc_yX6_settle, ⟨by decide +kernel, by decide +kernel, by decide +kernel⟩, rfl, rfl⟩
abbrev mX6_sheet : gM := (yX6_sheet, cX6_sheet, 4, (some .int), { frames := 4, cells := 0, slots := 0, locals := 129 })
theorem gcl_X6_sheet : g_cl mX6_sheet 3 := ⟨wi_X6, wc_yX6_sheet, ⟨by decide +kernel, by decide +kernel, by decide +kernel⟩, rfl, rfl⟩
abbrev mX6_showValue : gM := (yX6_showValue, cX6_showValue, 3, none, { frames := 5, cells := 0, slots := 0, locals := 117 })
theorem gcl_X6_showValue : g_cl mX6_showValue 1 := ⟨wi_X6, wc_yX6_showValue, ⟨by decide +kernel, by decide +kernel, by decide +kernel⟩, rfl, rfl⟩
abbrev mX6_shown : gM := (yX6_shown, cX6_shown, 3, (some .int), { frames := 5, cells := 0, slots := 0, locals := 117 })
theorem gcl_X6_shown : g_cl mX6_shown 2 := ⟨wi_X6, wc_yX6_shown, ⟨by decide +kernel, by decide +kernel, by decide +kernel⟩, rfl, rfl⟩
abbrev mX6_shows : gM := (yX6_shows, cX6_shows, 2, (some .int), { frames := 3, cells := 0, slots := 0, locals := 69 })
theorem gcl_X6_shows : g_cl mX6_shows 1 := ⟨wi_X6, wc_yX6_shows, ⟨by decide +kernel, by decide +kernel, by decide +kernel⟩, rfl, rfl⟩
abbrev mX6_solved : gM := (yX6_solved, cX6_solved, 2, (some .int), { frames := 6, cells := 0, slots := 0, locals := 144 })
theorem gcl_X6_solved : g_cl mX6_solved 1 := ⟨wi_X6, wc_yX6_solved, ⟨by decide +kernel, by decide +kernel, by decide +kernel⟩, rfl, rfl⟩
abbrev mX6_spare : gM := (yX6_spare, cX6_spare, 2, (some .int), { frames := 6, cells := 0, slots := 0, locals := 144 })
theorem gcl_X6_spare : g_cl mX6_spare 0 := ⟨wi_X6, wc_yX6_spare, ⟨by decide +kernel, by decide +kernel, by decide +kernel⟩, rfl, rfl⟩
abbrev mX6_term : gM := (yX6_term, cX6_term, 3, (some .int), { frames := 1, cells := 0, slots := 0, locals := 23 })
theorem gcl_X6_term : g_cl mX6_term 2 := ⟨wi_X6, wc_yX6_term, ⟨by decide +kernel, by decide +kernel, by decide +kernel⟩, rfl, rfl⟩
abbrev mX6_turn : gM := (yX6_turn, cX6_turn, 3, (some .int), { frames := 1, cells := 0, slots := 0, locals := 22 })
theorem gcl_X6_turn : g_cl mX6_turn 2 := ⟨wi_X6, wc_yX6_turn, ⟨by decide +kernel, by decide +kernel, by decide +kernel⟩, rfl, rfl⟩
abbrev mX6_turned : gM := (yX6_turned, cX6_turned, 3, (some .int), { frames := 5, cells := 0, slots := 0, locals := 117 })
theorem gcl_X6_turned : g_cl mX6_turned 2 := ⟨wi_X6, wc_yX6_turned, ⟨by decide +kernel, by decide +kernel, by decide +kernel⟩, rfl, rfl⟩
abbrev mX6_type : gM := (yX6_type, cX6_type, 3, (some .int), { frames := 5, cells := 0, slots := 0, locals := 111 })
theorem gcl_X6_type : g_cl mX6_type 2 := ⟨wi_X6, wc_yX6_type, ⟨by decide +kernel, by decide +kernel, by decide +kernel⟩, rfl, rfl⟩
abbrev mX6_undo : gM := (yX6_undo, cX6_undo, 3, (some .int), { frames := 5, cells := 0, slots := 0, locals := 111 })
theorem gcl_X6_undo : g_cl mX6_undo 1 := ⟨wi_X6, wc_yX6_undo, ⟨by decide +kernel, by decide +kernel, by decide +kernel⟩, rfl, rfl⟩
abbrev mX6_value : gM := (yX6_value, cX6_value, 3, (some .int), { frames := 6, cells := 0, slots := 0, locals := 144 })
theorem gcl_X6_value : g_cl mX6_value 2 := ⟨wi_X6, wc_yX6_value, ⟨by decide +kernel, by decide +kernel, by decide +kernel⟩, rfl, rfl⟩
abbrev mX6_way : gM := (yX6_way, cX6_way, 4, (some .int), { frames := 5, cells := 0, slots := 0, locals := 124 })
theorem gcl_X6_way : g_cl mX6_way 2 := ⟨wi_X6, wc_yX6_way, ⟨by decide +kernel, by decide +kernel, by decide +kernel⟩, rfl, rfl⟩
abbrev mX6_wipe : gM := (yX6_wipe, cX6_wipe, 3, (some .int), { frames := 5, cells := 0, slots := 0, locals := 111 })
theorem gcl_X6_wipe : g_cl mX6_wipe 1 := ⟨wi_X6, wc_yX6_wipe, ⟨by decide +kernel, by decide +kernel, by decide +kernel⟩, rfl, rfl⟩
abbrev mX6_write : gM := (yX6_write, cX6_write, 5, (some .int), { frames := 6, cells := 0, slots := 0, locals := 144 })
theorem gcl_X6_write : g_cl mX6_write 2 := ⟨wi_X6, wc_yX6_write, ⟨by decide +kernel, by decide +kernel, by decide +kernel⟩, rfl, rfl⟩
abbrev mX7_alike : gM := (yX7_alike, cX7_alike, 2, (some .int), { frames := 6, cells := 0, slots := 0, locals := 137 })
theorem gcl_X7_alike : g_cl mX7_alike 1 := ⟨wi_X7, wc_yX7_alike, ⟨by decide +kernel, by decide +kernel, by decide +kernel⟩, rfl, rfl⟩
abbrev mX7_alikeBy : gM := (yX7_alikeBy, cX7_alikeBy, 9, (some .int), { frames := 4, cells := 0, slots := 0, locals := 94 })
theorem gcl_X7_alikeBy : g_cl mX7_alikeBy 1 := ⟨wi_X7, wc_yX7_alikeBy, ⟨by decide +kernel, by decide +kernel, by decide +kernel⟩, rfl, rfl⟩
abbrev mX7_all : gM := (yX7_all, cX7_all, 5, (some .int), { frames := 1, cells := 0, slots := 0, locals := 23 })
theorem gcl_X7_all : g_cl mX7_all 1 := ⟨wi_X7, wc_yX7_all, ⟨by decide +kernel, by decide +kernel, by decide +kernel⟩, rfl, rfl⟩
abbrev mX7_allTyped : gM := (yX7_allTyped, cX7_allTyped, 3, (some .int), { frames := 0, cells := 0, slots := 0, locals := 0 })
theorem gcl_X7_allTyped : g_cl mX7_allTyped 0 := ⟨wi_X7, wc_yX7_allTyped, ⟨by decide +kernel, by decide +kernel, by decide +kernel⟩, rfl, rfl⟩
abbrev mX7_asks : gM := (yX7_asks, cX7_asks, 6, none, { frames := 2, cells := 0, slots := 0, locals := 44 })
theorem gcl_X7_asks : g_cl mX7_asks 3 := ⟨wi_X7, wc_yX7_asks, ⟨by decide +kernel, by decide +kernel, by decide +kernel⟩, rfl, rfl⟩
abbrev mX7_behind : gM := (yX7_behind, cX7_behind, 4, (some .int), { frames := 1, cells := 0, slots := 0, locals := 21 })
theorem gcl_X7_behind : g_cl mX7_behind 2 := ⟨wi_X7, wc_yX7_behind, ⟨by decide +kernel, by decide +kernel, by decide +kernel⟩, rfl, rfl⟩
abbrev mX7_copy : gM := (yX7_copy, cX7_copy, 7, (some .int), { frames := 2, cells := 0, slots := 0, locals := 45 })
theorem gcl_X7_copy : g_cl mX7_copy 5 := ⟨wi_X7, wc_yX7_copy, ⟨by decide +kernel, by decide +kernel, by decide +kernel⟩, rfl, rfl⟩
abbrev mX7_count : gM := (yX7_count, cX7_count, 2, (some .int), { frames := 7, cells := 0, slots := 0, locals := 173 })
theorem gcl_X7_count : g_cl mX7_count 1 := ⟨wi_X7, wc_yX7_count, ⟨by decide +kernel, by decide +kernel, by decide +kernel⟩, rfl, rfl⟩
abbrev mX7_cut : gM := (yX7_cut, cX7_cut, 2, (some .int), { frames := 0, cells := 0, slots := 0, locals := 0 })
theorem gcl_X7_cut : g_cl mX7_cut 2 := ⟨wi_X7, wc_yX7_cut, ⟨by decide +kernel, by decide +kernel, by decide +kernel⟩, rfl, rfl⟩
abbrev mX7_digest : gM := (yX7_digest, cX7_digest, 5, (some .long), { frames := 9, cells := 0, slots := 0, locals := 220 })
theorem gcl_X7_digest : g_cl mX7_digest 0 := ⟨wi_X7, wc_yX7_digest, ⟨by decide +kernel, by decide +kernel, by decide +kernel⟩, rfl, rfl⟩
abbrev mX7_enters : gM := (yX7_enters, cX7_enters, 6, none, { frames := 2, cells := 0, slots := 0, locals := 44 })
theorem gcl_X7_enters : g_cl mX7_enters 3 := ⟨wi_X7, wc_yX7_enters, ⟨by decide +kernel, by decide +kernel, by decide +kernel⟩, rfl, rfl⟩
abbrev mX7_fault : gM := (yX7_fault, cX7_fault, 2, (some .int), { frames := 5, cells := 0, slots := 0, locals := 116 })
theorem gcl_X7_fault : g_cl mX7_fault 1 := ⟨wi_X7, wc_yX7_fault, ⟨by decide +kernel, by decide +kernel, by decide +kernel⟩, rfl, rfl⟩
abbrev mX7_finds : gM := (yX7_finds, cX7_finds, 2, (some .int), { frames := 0, cells := 0, slots := 0, locals := 0 })
theorem gcl_X7_finds : g_cl mX7_finds 1 := ⟨wi_X7, wc_yX7_finds, ⟨by decide +kernel, by decide +kernel, by decide +kernel⟩, rfl, rfl⟩
abbrev mX7_freeIn : gM := (yX7_freeIn, cX7_freeIn, 4, (some .int), { frames := 3, cells := 0, slots := 0, locals := 69 })
theorem gcl_X7_freeIn : g_cl mX7_freeIn 1 := ⟨wi_X7, wc_yX7_freeIn, ⟨by decide +kernel, by decide +kernel, by decide +kernel⟩, rfl, rfl⟩
abbrev mX7_fresh : gM := (yX7_fresh, cX7_fresh, 2, (some .int), { frames := 7, cells := 0, slots := 0, locals := 172 })
theorem gcl_X7_fresh : g_cl mX7_fresh 1 := ⟨wi_X7, wc_yX7_fresh, ⟨by decide +kernel, by decide +kernel, by decide +kernel⟩, rfl, rfl⟩
abbrev mX7_freshBy : gM := (yX7_freshBy, cX7_freshBy, 2, (some .int), { frames := 6, cells := 0, slots := 0, locals := 151 })
theorem gcl_X7_freshBy : g_cl mX7_freshBy 1 := ⟨wi_X7, wc_yX7_freshBy, ⟨by decide +kernel, by decide +kernel, by decide +kernel⟩, rfl, rfl⟩
abbrev mX7_freshens : gM := (yX7_freshens, cX7_freshens, 5, none, { frames := 3, cells := 0, slots := 0, locals := 69 })
theorem gcl_X7_freshens : g_cl mX7_freshens 0 := ⟨wi_X7, wc_yX7_freshens, ⟨by decide +kernel, by decide +kernel, by decide +kernel⟩, rfl, rfl⟩
abbrev mX7_get : gM := (yX7_get, cX7_get, 4, (some .int), { frames := 2, cells := 0, slots := 0, locals := 48 })
theorem gcl_X7_get : g_cl mX7_get 3 := ⟨wi_X7, wc_yX7_get, ⟨by decide +kernel, by decide +kernel, by decide +kernel⟩, rfl, rfl⟩
abbrev mX7_gives : gM := (yX7_gives, cX7_gives, 5, none, { frames := 2, cells := 0, slots := 0, locals := 44 })
theorem gcl_X7_gives : g_cl mX7_gives 4 := ⟨wi_X7, wc_yX7_gives, ⟨by decide +kernel, by decide +kernel, by decide +kernel⟩, rfl, rfl⟩
abbrev mX7_goesOn : gM := (yX7_goesOn, cX7_goesOn, 7, (some .boolean), { frames := 2, cells := 0, slots := 0, locals := 44 })
theorem gcl_X7_goesOn : g_cl mX7_goesOn 4 := ⟨wi_X7, wc_yX7_goesOn, ⟨by decide +kernel, by decide +kernel, by decide +kernel⟩, rfl, rfl⟩
abbrev mX7_greater : gM := (yX7_greater, cX7_greater, 2, (some .int), { frames := 0, cells := 0, slots := 0, locals := 0 })
theorem gcl_X7_greater : g_cl mX7_greater 2 := ⟨wi_X7, wc_yX7_greater, ⟨by decide +kernel, by decide +kernel, by decide +kernel⟩, rfl, rfl⟩
abbrev mX7_image : gM := (yX7_image, cX7_image, 2, (some .int), { frames := 0, cells := 0, slots := 0, locals := 0 })
theorem gcl_X7_image : g_cl mX7_image 2 := ⟨wi_X7, wc_yX7_image, ⟨by decide +kernel, by decide +kernel, by decide +kernel⟩, rfl, rfl⟩
abbrev mX7_in : gM := (yX7_in, cX7_in, 6, (some .boolean), { frames := 0, cells := 0, slots := 0, locals := 0 })
theorem gcl_X7_in : g_cl mX7_in 3 := ⟨wi_X7, wc_yX7_in, ⟨by decide +kernel, by decide +kernel, by decide +kernel⟩, rfl, rfl⟩
abbrev mX7_init : gM := (yX7_init, cX7_init, 2, none, { frames := 1, cells := 0, slots := 0, locals := 60 })
abbrev mX7_isEquation : gM := (yX7_isEquation, cX7_isEquation, 1, (some .boolean), { frames := 1, cells := 0, slots := 0, locals := 25 })
theorem gcl_X7_isEquation : g_cl mX7_isEquation 1 := ⟨wi_X7, wc_yX7_isEquation, ⟨by decide +kernel, by decide +kernel, by decide +kernel⟩, rfl, rfl⟩
abbrev mX7_isFresh : gM := (yX7_isFresh, cX7_isFresh, 6, (some .boolean), { frames := 3, cells := 0, slots := 0, locals := 69 })
theorem gcl_X7_isFresh : g_cl mX7_isFresh 3 := ⟨wi_X7, wc_yX7_isFresh, ⟨by decide +kernel, by decide +kernel, by decide +kernel⟩, rfl, rfl⟩
abbrev mX7_isIn : gM := (yX7_isIn, cX7_isIn, 2, (some .boolean), { frames := 0, cells := 0, slots := 0, locals := 0 })
theorem gcl_X7_isIn : g_cl mX7_isIn 2 := ⟨wi_X7, wc_yX7_isIn, ⟨by decide +kernel, by decide +kernel, by decide +kernel⟩, rfl, rfl⟩
abbrev mX7_isName : gM := (yX7_isName, cX7_isName, 1, (some .boolean), { frames := 1, cells := 0, slots := 0, locals := 25 })
theorem gcl_X7_isName : g_cl mX7_isName 1 := ⟨wi_X7, wc_yX7_isName, ⟨by decide +kernel, by decide +kernel, by decide +kernel⟩, rfl, rfl⟩
abbrev mX7_isSheet : gM := (yX7_isSheet, cX7_isSheet, 1, (some .boolean), { frames := 1, cells := 0, slots := 0, locals := 25 })
theorem gcl_X7_isSheet : g_cl mX7_isSheet 1 := ⟨wi_X7, wc_yX7_isSheet, ⟨by decide +kernel, by decide +kernel, by decide +kernel⟩, rfl, rfl⟩
abbrev mX7_isTerm : gM := (yX7_isTerm, cX7_isTerm, 1, (some .boolean), { frames := 1, cells := 0, slots := 0, locals := 25 })
theorem gcl_X7_isTerm : g_cl mX7_isTerm 1 := ⟨wi_X7, wc_yX7_isTerm, ⟨by decide +kernel, by decide +kernel, by decide +kernel⟩, rfl, rfl⟩
abbrev mX7_isText : gM := (yX7_isText, cX7_isText, 1, (some .boolean), { frames := 1, cells := 0, slots := 0, locals := 25 })
theorem gcl_X7_isText : g_cl mX7_isText 1 := ⟨wi_X7, wc_yX7_isText, ⟨by decide +kernel, by decide +kernel, by decide +kernel⟩, rfl, rfl⟩
abbrev mX7_isThere : gM := (yX7_isThere, cX7_isThere, 2, (some .boolean), { frames := 0, cells := 0, slots := 0, locals := 0 })
theorem gcl_X7_isThere : g_cl mX7_isThere 1 := ⟨wi_X7, wc_yX7_isThere, ⟨by decide +kernel, by decide +kernel, by decide +kernel⟩, rfl, rfl⟩
abbrev mX7_isTwo : gM := (yX7_isTwo, cX7_isTwo, 1, (some .boolean), { frames := 1, cells := 0, slots := 0, locals := 25 })
theorem gcl_X7_isTwo : g_cl mX7_isTwo 1 := ⟨wi_X7, wc_yX7_isTwo, ⟨by decide +kernel, by decide +kernel, by decide +kernel⟩, rfl, rfl⟩
abbrev mX7_kindOf : gM := (yX7_kindOf, cX7_kindOf, 1, (some .int), { frames := 2, cells := 0, slots := 0, locals := 45 })
theorem gcl_X7_kindOf : g_cl mX7_kindOf 1 := ⟨wi_X7, wc_yX7_kindOf, ⟨by decide +kernel, by decide +kernel, by decide +kernel⟩, rfl, rfl⟩
abbrev mX7_lacks : gM := (yX7_lacks, cX7_lacks, 4, (some .int), { frames := 1, cells := 0, slots := 0, locals := 25 })
theorem gcl_X7_lacks : g_cl mX7_lacks 3 := ⟨wi_X7, wc_yX7_lacks, ⟨by decide +kernel, by decide +kernel, by decide +kernel⟩, rfl, rfl⟩
abbrev mX7_lay : gM := (yX7_lay, cX7_lay, 6, (some .int), { frames := 2, cells := 0, slots := 0, locals := 48 })
theorem gcl_X7_lay : g_cl mX7_lay 4 := ⟨wi_X7, wc_yX7_lay, ⟨by decide +kernel, by decide +kernel, by decide +kernel⟩, rfl, rfl⟩
abbrev mX7_lesser : gM := (yX7_lesser, cX7_lesser, 2, (some .int), { frames := 0, cells := 0, slots := 0, locals := 0 })
theorem gcl_X7_lesser : g_cl mX7_lesser 2 := ⟨wi_X7, wc_yX7_lesser, ⟨by decide +kernel, by decide +kernel, by decide +kernel⟩, rfl, rfl⟩
abbrev mX7_longest : gM := (yX7_longest, cX7_longest, 4, (some .int), { frames := 1, cells := 0, slots := 0, locals := 21 })
theorem gcl_X7_longest : g_cl mX7_longest 1 := ⟨wi_X7, wc_yX7_longest, ⟨by decide +kernel, by decide +kernel, by decide +kernel⟩, rfl, rfl⟩
abbrev mX7_lose : gM := (yX7_lose, cX7_lose, 2, (some .int), { frames := 2, cells := 0, slots := 0, locals := 45 })
theorem gcl_X7_lose : g_cl mX7_lose 1 := ⟨wi_X7, wc_yX7_lose, ⟨by decide +kernel, by decide +kernel, by decide +kernel⟩, rfl, rfl⟩
abbrev mX7_manyParts : gM := (yX7_manyParts, cX7_manyParts, 4, (some .int), { frames := 0, cells := 0, slots := 0, locals := 0 })
theorem gcl_X7_manyParts : g_cl mX7_manyParts 1 := ⟨wi_X7, wc_yX7_manyParts, ⟨by decide +kernel, by decide +kernel, by decide +kernel⟩, rfl, rfl⟩
abbrev mX7_manySwaps : gM := (yX7_manySwaps, cX7_manySwaps, 1, (some .int), { frames := 3, cells := 0, slots := 0, locals := 69 })
theorem gcl_X7_manySwaps : g_cl mX7_manySwaps 0 := ⟨wi_X7, wc_yX7_manySwaps, ⟨by decide +kernel, by decide +kernel, by decide +kernel⟩, rfl, rfl⟩
abbrev mX7_manyValues : gM := (yX7_manyValues, cX7_manyValues, 3, (some .int), { frames := 0, cells := 0, slots := 0, locals := 0 })
theorem gcl_X7_manyValues : g_cl mX7_manyValues 0 := ⟨wi_X7, wc_yX7_manyValues, ⟨by decide +kernel, by decide +kernel, by decide +kernel⟩, rfl, rfl⟩
abbrev mX7_nameOf : gM := (yX7_nameOf, cX7_nameOf, 1, (some .int), { frames := 1, cells := 0, slots := 0, locals := 25 })
theorem gcl_X7_nameOf : g_cl mX7_nameOf 1 := ⟨wi_X7, wc_yX7_nameOf, ⟨by decide +kernel, by decide +kernel, by decide +kernel⟩, rfl, rfl⟩
abbrev mX7_needs : gM := (yX7_needs, cX7_needs, 2, (some .int), { frames := 7, cells := 0, slots := 0, locals := 174 })
theorem gcl_X7_needs : g_cl mX7_needs 1 := ⟨wi_X7, wc_yX7_needs, ⟨by decide +kernel, by decide +kernel, by decide +kernel⟩, rfl, rfl⟩
abbrev mX7_needsBy : gM := (yX7_needsBy, cX7_needsBy, 4, (some .int), { frames := 6, cells := 0, slots := 0, locals := 151 })
theorem gcl_X7_needsBy : g_cl mX7_needsBy 1 := ⟨wi_X7, wc_yX7_needsBy, ⟨by decide +kernel, by decide +kernel, by decide +kernel⟩, rfl, rfl⟩
abbrev mX7_numberOf : gM := (yX7_numberOf, cX7_numberOf, 2, (some .int), { frames := 0, cells := 0, slots := 0, locals := 0 })
theorem gcl_X7_numberOf : g_cl mX7_numberOf 2 := ⟨wi_X7, wc_yX7_numberOf, ⟨by decide +kernel, by decide +kernel, by decide +kernel⟩, rfl, rfl⟩
abbrev mX7_orderNow : gM := (yX7_orderNow, cX7_orderNow, 3, (some .int), { frames := 2, cells := 0, slots := 0, locals := 44 })
theorem gcl_X7_orderNow : g_cl mX7_orderNow 0 := ⟨wi_X7, wc_yX7_orderNow, ⟨by decide +kernel, by decide +kernel, by decide +kernel⟩, rfl, rfl⟩
abbrev mX7_piles : gM := (yX7_piles, cX7_piles, 5, none, { frames := 0, cells := 0, slots := 0, locals := 0 })
theorem gcl_X7_piles : g_cl mX7_piles 4 := ⟨wi_X7, wc_yX7_piles, ⟨by decide +kernel, by decide +kernel, by decide +kernel⟩, rfl, rfl⟩
abbrev mX7_power : gM := (yX7_power, cX7_power, 3, (some .int), { frames := 3, cells := 0, slots := 0, locals := 67 })
theorem gcl_X7_power : g_cl mX7_power 2 := ⟨wi_X7, wc_yX7_power, ⟨by decide +kernel, by decide +kernel, by decide +kernel⟩, rfl, rfl⟩
abbrev mX7_powerBy : gM := (yX7_powerBy, cX7_powerBy, 6, (some .int), { frames := 1, cells := 0, slots := 0, locals := 21 })
theorem gcl_X7_powerBy : g_cl mX7_powerBy 2 := ⟨wi_X7, wc_yX7_powerBy, ⟨by decide +kernel, by decide +kernel, by decide +kernel⟩, rfl, rfl⟩
abbrev mX7_puts : gM := (yX7_puts, cX7_puts, 3, none, { frames := 0, cells := 0, slots := 0, locals := 0 })
theorem gcl_X7_puts : g_cl mX7_puts 2 := ⟨wi_X7, wc_yX7_puts, ⟨by decide +kernel, by decide +kernel, by decide +kernel⟩, rfl, rfl⟩
abbrev mX7_read : gM := (yX7_read, cX7_read, 4, (some .int), { frames := 3, cells := 0, slots := 0, locals := 67 })
theorem gcl_X7_read : g_cl mX7_read 2 := ⟨wi_X7, wc_yX7_read, ⟨by decide +kernel, by decide +kernel, by decide +kernel⟩, rfl, rfl⟩
abbrev mX7_readsAll : gM := (yX7_readsAll, cX7_readsAll, 2, none, { frames := 5, cells := 0, slots := 0, locals := 116 })
theorem gcl_X7_readsAll : g_cl mX7_readsAll 0 := ⟨wi_X7, wc_yX7_readsAll, ⟨by decide +kernel, by decide +kernel, by decide +kernel⟩, rfl, rfl⟩
abbrev mX7_readsFresh : gM := (yX7_readsFresh, cX7_readsFresh, 4, (some .int), { frames := 2, cells := 0, slots := 0, locals := 45 })
theorem gcl_X7_readsFresh : g_cl mX7_readsFresh 0 := ⟨wi_X7, wc_yX7_readsFresh, ⟨by decide +kernel, by decide +kernel, by decide +kernel⟩, rfl, rfl⟩
abbrev mX7_readsTerm : gM := (yX7_readsTerm, cX7_readsTerm, 11, (some .int), { frames := 3, cells := 0, slots := 0, locals := 65 })
theorem gcl_X7_readsTerm : g_cl mX7_readsTerm 1 := ⟨wi_X7, wc_yX7_readsTerm, ⟨by decide +kernel, by decide +kernel, by decide +kernel⟩, rfl, rfl⟩
abbrev mX7_readsText : gM := (yX7_readsText, cX7_readsText, 2, (some .int), { frames := 4, cells := 0, slots := 0, locals := 95 })
theorem gcl_X7_readsText : g_cl mX7_readsText 1 := ⟨wi_X7, wc_yX7_readsText, ⟨by decide +kernel, by decide +kernel, by decide +kernel⟩, rfl, rfl⟩
abbrev mX7_readsTurn : gM := (yX7_readsTurn, cX7_readsTurn, 3, (some .int), { frames := 2, cells := 0, slots := 0, locals := 45 })
theorem gcl_X7_readsTurn : g_cl mX7_readsTurn 0 := ⟨wi_X7, wc_yX7_readsTurn, ⟨by decide +kernel, by decide +kernel, by decide +kernel⟩, rfl, rfl⟩
abbrev mX7_rings : gM := (yX7_rings, cX7_rings, 5, (some .int), { frames := 2, cells := 0, slots := 0, locals := 43 })
theorem gcl_X7_rings : g_cl mX7_rings 0 := ⟨wi_X7, wc_yX7_rings, ⟨by decide +kernel, by decide +kernel, by decide +kernel⟩, rfl, rfl⟩
abbrev mX7_rounds : gM := (yX7_rounds, cX7_rounds, 2, (some .int), { frames := 5, cells := 0, slots := 0, locals := 110 })
theorem gcl_X7_rounds : g_cl mX7_rounds 1 := ⟨wi_X7, wc_yX7_rounds, ⟨by decide +kernel, by decide +kernel, by decide +kernel⟩, rfl, rfl⟩
abbrev mX7_roundsBy : gM := (yX7_roundsBy, cX7_roundsBy, 2, (some .int), { frames := 4, cells := 0, slots := 0, locals := 89 })
theorem gcl_X7_roundsBy : g_cl mX7_roundsBy 1 := ⟨wi_X7, wc_yX7_roundsBy, ⟨by decide +kernel, by decide +kernel, by decide +kernel⟩, rfl, rfl⟩
abbrev mX7_sheet : gM := (yX7_sheet, cX7_sheet, 5, (some .int), { frames := 2, cells := 0, slots := 0, locals := 45 })
theorem gcl_X7_sheet : g_cl mX7_sheet 3 := ⟨wi_X7, wc_yX7_sheet, ⟨by decide +kernel, by decide +kernel, by decide +kernel⟩, rfl, rfl⟩
abbrev mX7_showing : gM := (yX7_showing, cX7_showing, 7, none, { frames := 4, cells := 0, slots := 0, locals := 91 })
theorem gcl_X7_showing : g_cl mX7_showing 3 := ⟨wi_X7, wc_yX7_showing, ⟨by decide +kernel, by decide +kernel, by decide +kernel⟩, rfl, rfl⟩
abbrev mX7_shown : gM := (yX7_shown, cX7_shown, 3, (some .int), { frames := 6, cells := 0, slots := 0, locals := 140 })
theorem gcl_X7_shown : g_cl mX7_shown 2 := ⟨wi_X7, wc_yX7_shown, ⟨by decide +kernel, by decide +kernel, by decide +kernel⟩, rfl, rfl⟩
abbrev mX7_shownBy : gM := (yX7_shownBy, cX7_shownBy, 4, (some .int), { frames := 5, cells := 0, slots := 0, locals := 117 })
theorem gcl_X7_shownBy : g_cl mX7_shownBy 3 := ⟨wi_X7, wc_yX7_shownBy, ⟨by decide +kernel, by decide +kernel, by decide +kernel⟩, rfl, rfl⟩
abbrev mX7_shows : gM := (yX7_shows, cX7_shows, 2, (some .int), { frames := 4, cells := 0, slots := 0, locals := 90 })
theorem gcl_X7_shows : g_cl mX7_shows 1 := ⟨wi_X7, wc_yX7_shows, ⟨by decide +kernel, by decide +kernel, by decide +kernel⟩, rfl, rfl⟩
abbrev mX7_showsBy : gM := (yX7_showsBy, cX7_showsBy, 2, (some .int), { frames := 3, cells := 0, slots := 0, locals := 69 })
theorem gcl_X7_showsBy : g_cl mX7_showsBy 1 := ⟨wi_X7, wc_yX7_showsBy, ⟨by decide +kernel, by decide +kernel, by decide +kernel⟩, rfl, rfl⟩
abbrev mX7_solved : gM := (yX7_solved, cX7_solved, 2, (some .int), { frames := 7, cells := 0, slots := 0, locals := 173 })
theorem gcl_X7_solved : g_cl mX7_solved 1 := ⟨wi_X7, wc_yX7_solved, ⟨by decide +kernel, by decide +kernel, by decide +kernel⟩, rfl, rfl⟩
abbrev mX7_solves : gM := (yX7_solves, cX7_solves, 6, none, { frames := 4, cells := 0, slots := 0, locals := 98 })
theorem gcl_X7_solves : g_cl mX7_solves 1 := ⟨wi_X7, wc_yX7_solves, ⟨by decide +kernel, by decide +kernel, by decide +kernel⟩, rfl, rfl⟩
abbrev mX7_solving : gM := (yX7_solving, cX7_solving, 9, none, { frames := 5, cells := 0, slots := 0, locals := 123 })
theorem gcl_X7_solving : g_cl mX7_solving 2 := ⟨wi_X7, wc_yX7_solving, ⟨by decide +kernel, by decide +kernel, by decide +kernel⟩, rfl, rfl⟩
abbrev mX7_spare : gM := (yX7_spare, cX7_spare, 1, (some .int), { frames := 7, cells := 0, slots := 0, locals := 172 })
theorem gcl_X7_spare : g_cl mX7_spare 0 := ⟨wi_X7, wc_yX7_spare, ⟨by decide +kernel, by decide +kernel, by decide +kernel⟩, rfl, rfl⟩
abbrev mX7_spareNow : gM := (yX7_spareNow, cX7_spareNow, 2, (some .int), { frames := 6, cells := 0, slots := 0, locals := 151 })
theorem gcl_X7_spareNow : g_cl mX7_spareNow 0 := ⟨wi_X7, wc_yX7_spareNow, ⟨by decide +kernel, by decide +kernel, by decide +kernel⟩, rfl, rfl⟩
abbrev mX7_stays : gM := (yX7_stays, cX7_stays, 3, (some .int), { frames := 1, cells := 0, slots := 0, locals := 21 })
theorem gcl_X7_stays : g_cl mX7_stays 0 := ⟨wi_X7, wc_yX7_stays, ⟨by decide +kernel, by decide +kernel, by decide +kernel⟩, rfl, rfl⟩
abbrev mX7_step : gM := (yX7_step, cX7_step, 9, (some .int), { frames := 3, cells := 0, slots := 0, locals := 70 })
theorem gcl_X7_step : g_cl mX7_step 4 := ⟨wi_X7, wc_yX7_step, ⟨by decide +kernel, by decide +kernel, by decide +kernel⟩, rfl, rfl⟩
abbrev mX7_swap : gM := (yX7_swap, cX7_swap, 4, (some .int), { frames := 0, cells := 0, slots := 0, locals := 0 })
theorem gcl_X7_swap : g_cl mX7_swap 2 := ⟨wi_X7, wc_yX7_swap, ⟨by decide +kernel, by decide +kernel, by decide +kernel⟩, rfl, rfl⟩
abbrev mX7_tells : gM := (yX7_tells, cX7_tells, 2, none, { frames := 0, cells := 0, slots := 0, locals := 0 })
theorem gcl_X7_tells : g_cl mX7_tells 1 := ⟨wi_X7, wc_yX7_tells, ⟨by decide +kernel, by decide +kernel, by decide +kernel⟩, rfl, rfl⟩
abbrev mX7_tellsPart : gM := (yX7_tellsPart, cX7_tellsPart, 3, none, { frames := 3, cells := 0, slots := 0, locals := 69 })
theorem gcl_X7_tellsPart : g_cl mX7_tellsPart 2 := ⟨wi_X7, wc_yX7_tellsPart, ⟨by decide +kernel, by decide +kernel, by decide +kernel⟩, rfl, rfl⟩
abbrev mX7_tellsTerm : gM := (yX7_tellsTerm, cX7_tellsTerm, 7, (some .long), { frames := 6, cells := 0, slots := 0, locals := 140 })
theorem gcl_X7_tellsTerm : g_cl mX7_tellsTerm 2 := ⟨wi_X7, wc_yX7_tellsTerm, ⟨by decide +kernel, by decide +kernel, by decide +kernel⟩, rfl, rfl⟩
abbrev mX7_tellsTurn : gM := (yX7_tellsTurn, cX7_tellsTurn, 6, (some .int), { frames := 2, cells := 0, slots := 0, locals := 44 })
theorem gcl_X7_tellsTurn : g_cl mX7_tellsTurn 1 := ⟨wi_X7, wc_yX7_tellsTurn, ⟨by decide +kernel, by decide +kernel, by decide +kernel⟩, rfl, rfl⟩
abbrev mX7_tellsUnknown : gM := (yX7_tellsUnknown, cX7_tellsUnknown, 7, (some .long), { frames := 8, cells := 0, slots := 0, locals := 194 })
theorem gcl_X7_tellsUnknown : g_cl mX7_tellsUnknown 2 := ⟨wi_X7, wc_yX7_tellsUnknown, ⟨by decide +kernel, by decide +kernel, by decide +kernel⟩, rfl, rfl⟩
abbrev mX7_tellsValue : gM := (yX7_tellsValue, cX7_tellsValue, 2, none, { frames := 6, cells := 0, slots := 0, locals := 151 })
theorem gcl_X7_tellsValue : g_cl mX7_tellsValue 1 := ⟨wi_X7, wc_yX7_tellsValue, ⟨by decide +kernel, by decide +kernel, by decide +kernel⟩, rfl, rfl⟩
abbrev mX7_term : gM := (yX7_term, cX7_term, 3, (some .int), { frames := 6, cells := 0, slots := 0, locals := 137 })
theorem gcl_X7_term : g_cl mX7_term 2 := ⟨wi_X7, wc_yX7_term, ⟨by decide +kernel, by decide +kernel, by decide +kernel⟩, rfl, rfl⟩
abbrev mX7_termBy : gM := (yX7_termBy, cX7_termBy, 3, (some .int), { frames := 4, cells := 0, slots := 0, locals := 92 })
theorem gcl_X7_termBy : g_cl mX7_termBy 2 := ⟨wi_X7, wc_yX7_termBy, ⟨by decide +kernel, by decide +kernel, by decide +kernel⟩, rfl, rfl⟩
abbrev mX7_toldAt : gM := (yX7_toldAt, cX7_toldAt, 2, (some .int), { frames := 0, cells := 0, slots := 0, locals := 0 })
theorem gcl_X7_toldAt : g_cl mX7_toldAt 1 := ⟨wi_X7, wc_yX7_toldAt, ⟨by decide +kernel, by decide +kernel, by decide +kernel⟩, rfl, rfl⟩
abbrev mX7_turn : gM := (yX7_turn, cX7_turn, 3, (some .int), { frames := 3, cells := 0, slots := 0, locals := 67 })
theorem gcl_X7_turn : g_cl mX7_turn 2 := ⟨wi_X7, wc_yX7_turn, ⟨by decide +kernel, by decide +kernel, by decide +kernel⟩, rfl, rfl⟩
abbrev mX7_turnBy : gM := (yX7_turnBy, cX7_turnBy, 3, (some .int), { frames := 2, cells := 0, slots := 0, locals := 43 })
theorem gcl_X7_turnBy : g_cl mX7_turnBy 2 := ⟨wi_X7, wc_yX7_turnBy, ⟨by decide +kernel, by decide +kernel, by decide +kernel⟩, rfl, rfl⟩
abbrev mX7_turned : gM := (yX7_turned, cX7_turned, 3, (some .int), { frames := 6, cells := 0, slots := 0, locals := 140 })
theorem gcl_X7_turned : g_cl mX7_turned 2 := ⟨wi_X7, wc_yX7_turned, ⟨by decide +kernel, by decide +kernel, by decide +kernel⟩, rfl, rfl⟩
abbrev mX7_turnedBack : gM := (yX7_turnedBack, cX7_turnedBack, 3, (some .int), { frames := 1, cells := 0, slots := 0, locals := 21 })
theorem gcl_X7_turnedBack : g_cl mX7_turnedBack 1 := ⟨wi_X7, wc_yX7_turnedBack, ⟨by decide +kernel, by decide +kernel, by decide +kernel⟩, rfl, rfl⟩
abbrev mX7_type : gM := (yX7_type, cX7_type, 3, (some .int), { frames := 2, cells := 0, slots := 0, locals := 45 })
theorem gcl_X7_type : g_cl mX7_type 2 := ⟨wi_X7, wc_yX7_type, ⟨by decide +kernel, by decide +kernel, by decide +kernel⟩, rfl, rfl⟩
abbrev mX7_undo : gM := (yX7_undo, cX7_undo, 2, (some .int), { frames := 2, cells := 0, slots := 0, locals := 45 })
theorem gcl_X7_undo : g_cl mX7_undo 1 := ⟨wi_X7, wc_yX7_undo, ⟨by decide +kernel, by decide +kernel, by decide +kernel⟩, rfl, rfl⟩
abbrev mX7_unknownsIn : gM := (yX7_unknownsIn, cX7_unknownsIn, 4, (some .int), { frames := 0, cells := 0, slots := 0, locals := 0 })
theorem gcl_X7_unknownsIn : g_cl mX7_unknownsIn 1 := ⟨wi_X7, wc_yX7_unknownsIn, ⟨by decide +kernel, by decide +kernel, by decide +kernel⟩, rfl, rfl⟩
abbrev mX7_unlike : gM := (yX7_unlike, cX7_unlike, 4, (some .int), { frames := 1, cells := 0, slots := 0, locals := 21 })
theorem gcl_X7_unlike : g_cl mX7_unlike 2 := ⟨wi_X7, wc_yX7_unlike, ⟨by decide +kernel, by decide +kernel, by decide +kernel⟩, rfl, rfl⟩
abbrev mX7_value : gM := (yX7_value, cX7_value, 3, (some .int), { frames := 8, cells := 0, slots := 0, locals := 194 })
theorem gcl_X7_value : g_cl mX7_value 2 := ⟨wi_X7, wc_yX7_value, ⟨by decide +kernel, by decide +kernel, by decide +kernel⟩, rfl, rfl⟩
abbrev mX7_valueBy : gM := (yX7_valueBy, cX7_valueBy, 3, (some .int), { frames := 7, cells := 0, slots := 0, locals := 172 })
theorem gcl_X7_valueBy : g_cl mX7_valueBy 2 := ⟨wi_X7, wc_yX7_valueBy, ⟨by decide +kernel, by decide +kernel, by decide +kernel⟩, rfl, rfl⟩
abbrev mX7_way : gM := (yX7_way, cX7_way, 3, (some .int), { frames := 7, cells := 0, slots := 0, locals := 173 })
theorem gcl_X7_way : g_cl mX7_way 2 := ⟨wi_X7, wc_yX7_way, ⟨by decide +kernel, by decide +kernel, by decide +kernel⟩, rfl, rfl⟩
abbrev mX7_wayBy : gM := (yX7_wayBy, cX7_wayBy, 3, (some .int), { frames := 6, cells := 0, slots := 0, locals := 151 })
theorem gcl_X7_wayBy : g_cl mX7_wayBy 2 := ⟨wi_X7, wc_yX7_wayBy, ⟨by decide +kernel, by decide +kernel, by decide +kernel⟩, rfl, rfl⟩
abbrev mX7_wipe : gM := (yX7_wipe, cX7_wipe, 3, (some .int), { frames := 2, cells := 0, slots := 0, locals := 45 })
theorem gcl_X7_wipe : g_cl mX7_wipe 1 := ⟨wi_X7, wc_yX7_wipe, ⟨by decide +kernel, by decide +kernel, by decide +kernel⟩, rfl, rfl⟩
abbrev mX7_write : gM := (yX7_write, cX7_write, 5, (some .int), { frames := 7, cells := 0, slots := 0, locals := 172 })
theorem gcl_X7_write : g_cl mX7_write 2 := ⟨wi_X7, wc_yX7_write, ⟨by decide +kernel, by decide +kernel, by decide +kernel⟩, rfl, rfl⟩

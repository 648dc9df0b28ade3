/-! The invariant, and the twelve kinds of call. -/
theorem ixL {c L : Nat} (h : c < L) (hL : L ≤ 3073) : ¬ (nI c < 0 ∨ L ≤ c) := by
  rintro (h1 | h1)
  · exact nI_pos (by omega) h1
  · omega
theorem lg_self (x : Int64) : lg_cmp x x = 0 := by
  unfold lg_cmp
  rw [if_neg (Int64.lt_irrefl (a := x)), if_pos rfl]
theorem out_ok {α : Type} {k : Int32} {v : Int32} {o : Nat → Int64} {A B : Option α} (h : k = 0 → o 0 = v.toInt64) : (if k = k then (if k = 0 then (if (0 : Int32) < 0 ∨ 1 ≤ (0 : Int32).toNatClampNeg then none else (if (lg_cmp (o (0 : Int32).toNatClampNeg) v.toInt64) = 0 then A else B)) else A) else B) = A := by
  rw [if_pos rfl]
  by_cases hk : k = 0
  · rw [if_pos hk, if_neg (by decide), show o (0 : Int32).toNatClampNeg = v.toInt64 from h hk, lg_self, if_pos rfl]
  · rw [if_neg hk]
abbrev PInv : InvT := fun m_thrown m_side m_size m_at m_fault m_statements m_hasProgram m_hasRun m_tool out_n out x_grid_side x_grid_cells x_grid_discSize x_grid_targets_n x_grid_targets m_targets_n m_targets x_grid_kept_n x_grid_kept m_kept_n m_kept x_tools_radius x_tools_feed x_tools_halfWidths_n x_tools_halfWidths m_radius_n m_radius m_feeds_n m_feeds x_reader_side x_reader_length x_reader_place x_reader_text_n x_reader_text m_text_n m_text x_draft_count x_draft_letters_n x_draft_letters x_draft_digits_n x_draft_digits x_draft_xs_n x_draft_xs x_draft_ys_n x_draft_ys x_draft_zs_n x_draft_zs x_program_count m_draft_n m_draft m_program_n m_program x_machine_hasRun x_machine_time x_machine_ended x_machine_x x_machine_y x_machine_z x_machine_cut x_machine_held x_program_letters_n x_program_letters x_program_digits_n x_program_digits x_program_xs_n x_program_xs x_program_ys_n x_program_ys x_program_zs_n x_program_zs x_grid_disc_n x_grid_disc x_grid_heights_n x_grid_heights m_where_n m_where m_about_n m_about m_begin_n m_begin m_gap_n m_gap m_heights_n m_heights x_grid_marks_n x_grid_marks x_pieceCounter_side x_pieceCounter_cells x_pieceCounter_queued x_pieceCounter_taken_n x_pieceCounter_taken x_pieceCounter_queueX_n x_pieceCounter_queueX x_pieceCounter_queueY_n x_pieceCounter_queueY m_seen_n m_seen m_stack_n m_stack => ∃ S n k : Nat, 2 ≤ S ∧ S ≤ 20 ∧ (m_side = nI S ∧ x_grid_side = nI S ∧ x_grid_cells = nI (S * S) ∧ x_reader_side = nI S ∧ x_pieceCounter_side = nI S ∧ x_pieceCounter_cells = nI (S * S)) ∧ (out_n = 1 ∧ x_grid_targets_n = S * S ∧ m_targets_n = 400 ∧ x_grid_kept_n = S * S ∧ m_kept_n = 400 ∧ x_tools_halfWidths_n = 7 ∧ m_radius_n = 4 ∧ m_feeds_n = 4 ∧ x_reader_text_n = 240 ∧ m_text_n = 240 ∧ x_draft_letters_n = 32 ∧ x_draft_digits_n = 32 ∧ x_draft_xs_n = 32 ∧ x_draft_ys_n = 32 ∧ x_draft_zs_n = 32 ∧ m_draft_n = 160 ∧ m_program_n = 160 ∧ x_program_letters_n = 32 ∧ x_program_digits_n = 32 ∧ x_program_xs_n = 32 ∧ x_program_ys_n = 32 ∧ x_program_zs_n = 32 ∧ x_grid_disc_n = S * S ∧ x_grid_heights_n = S * S ∧ m_where_n = 3 ∧ m_about_n = 6 ∧ m_begin_n = 3 ∧ m_gap_n = 3 ∧ m_heights_n = 400 ∧ x_grid_marks_n = S * S ∧ x_pieceCounter_taken_n = S * S ∧ x_pieceCounter_queueX_n = S * S ∧ x_pieceCounter_queueY_n = S * S ∧ m_seen_n = 400 ∧ m_stack_n = 400) ∧ RA S x_grid_targets m_targets ∧ NN S m_targets ∧ RA S x_grid_kept m_kept ∧ TL x_tools_radius x_tools_feed x_tools_halfWidths m_radius m_feeds ∧ (x_reader_length = nI n ∧ m_size = nI n ∧ TX n x_reader_text m_text) ∧ (x_program_count = nI k ∧ (m_hasProgram = 0 ↔ k = 0) ∧ (k ≠ 0 → m_statements = nI k) ∧ PR S k x_program_letters x_program_digits x_program_xs x_program_ys x_program_zs m_program) ∧ MA x_machine_hasRun x_machine_time x_machine_ended x_machine_x x_machine_y x_machine_z x_machine_cut m_hasRun m_about ∧ RA S x_grid_heights m_heights ∧ NN S m_heights
theorem p_112 {N : Nat} {xs : Nat → Int32} {L : Nat} (hN : 1000 ≤ N) (hL : L ≤ 3073) : PH112 N xs L PInv := by
  intro i a m_thrown m_side m_size m_at m_fault m_statements m_hasProgram m_hasRun m_tool out_n out x_grid_side x_grid_cells x_grid_discSize x_grid_targets_n x_grid_targets m_targets_n m_targets x_grid_kept_n x_grid_kept m_kept_n m_kept x_tools_radius x_tools_feed x_tools_halfWidths_n x_tools_halfWidths m_radius_n m_radius m_feeds_n m_feeds x_reader_side x_reader_length x_reader_place x_reader_text_n x_reader_text m_text_n m_text x_draft_count x_draft_letters_n x_draft_letters x_draft_digits_n x_draft_digits x_draft_xs_n x_draft_xs x_draft_ys_n x_draft_ys x_draft_zs_n x_draft_zs x_program_count m_draft_n m_draft m_program_n m_program x_machine_hasRun x_machine_time x_machine_ended x_machine_x x_machine_y x_machine_z x_machine_cut x_machine_held x_program_letters_n x_program_letters x_program_digits_n x_program_digits x_program_xs_n x_program_xs x_program_ys_n x_program_ys x_program_zs_n x_program_zs x_grid_disc_n x_grid_disc x_grid_heights_n x_grid_heights m_where_n m_where m_about_n m_about m_begin_n m_begin m_gap_n m_gap m_heights_n m_heights x_grid_marks_n x_grid_marks x_pieceCounter_side x_pieceCounter_cells x_pieceCounter_queued x_pieceCounter_taken_n x_pieceCounter_taken x_pieceCounter_queueX_n x_pieceCounter_queueX x_pieceCounter_queueY_n x_pieceCounter_queueY m_seen_n m_seen m_stack_n m_stack hi hal hI
  obtain ⟨S, n, k, h2, h20, ⟨rfl, rfl, rfl, rfl, rfl, rfl⟩, ⟨rfl, rfl, rfl, rfl, rfl, rfl, rfl, rfl, rfl, rfl, rfl, rfl, rfl, rfl, rfl, rfl, rfl, rfl, rfl, rfl, rfl, rfl, rfl, rfl, rfl, rfl, rfl, rfl, rfl, rfl, rfl, rfl, rfl, rfl, rfl⟩, hT, hTn, hK, hTL, ⟨rfl, rfl, hX⟩, ⟨rfl, hp0, hst, hP⟩, hM, hH, hHn⟩ := hI
  subst hi
  have i1 : nI a + 1 = nI (a + 1) := nI_add a 1
  have d1 : (nI (a + 1)).toNatClampNeg = a + 1 := nI_clamp (by omega)
  have c1 : ¬ (nI (a + 1) < 0 ∨ L ≤ a + 1) := ixL (by omega) hL
  have i2 : nI a + 2 = nI (a + 2) := nI_add a 2
  have d2 : (nI (a + 2)).toNatClampNeg = a + 2 := nI_clamp (by omega)
  have c2 : ¬ (nI (a + 2) < 0 ∨ L ≤ a + 2) := ixL (by omega) hL
  have i3 : nI a + 3 = nI (a + 3) := nI_add a 3
  have d3 : (nI (a + 3)).toNatClampNeg = a + 3 := nI_clamp (by omega)
  have c3 : ¬ (nI (a + 3) < 0 ∨ L ≤ a + 3) := ixL (by omega) hL
  have i4 : nI a + 4 = nI (a + 4) := nI_add a 4
  have d4 : (nI (a + 4)).toNatClampNeg = a + 4 := nI_clamp (by omega)
  have c4 : ¬ (nI (a + 4) < 0 ∨ L ≤ a + 4) := ixL (by omega) hL
  have i5 : nI a + 5 = nI (a + 5) := nI_add a 5
  have d5 : (nI (a + 5)).toNatClampNeg = a + 5 := nI_clamp (by omega)
  have c5 : ¬ (nI (a + 5) < 0 ∨ L ≤ a + 5) := ixL (by omega) hL
  obtain ⟨k1, f', g', e1, e2, e3, e4⟩ := pu_target (N := N) (a1 := xs (a + 1)) (a2 := xs (a + 2)) (a3 := xs (a + 3)) (a4 := xs (a + 4)) (a5 := xs (a + 5)) (th := m_thrown) h2 h20 hN hT hTn
  refine ⟨(k1, f', g'), ?_, ⟨S, n, k, h2, h20, ⟨rfl, rfl, rfl, rfl, rfl, rfl⟩, ⟨rfl, rfl, rfl, rfl, rfl, rfl, rfl, rfl, rfl, rfl, rfl, rfl, rfl, rfl, rfl, rfl, rfl, rfl, rfl, rfl, rfl, rfl, rfl, rfl, rfl, rfl, rfl, rfl, rfl, rfl, rfl, rfl, rfl, rfl, rfl⟩, e3, e4, hK, hTL, ⟨rfl, rfl, hX⟩, ⟨rfl, hp0, hst, hP⟩, hM, hH, hHn⟩⟩
  rw [fL_c112, i1, d1, i2, d2, i3, d3, i4, d4, i5, d5, if_neg c1, if_neg c2, if_neg c3, if_neg c4, if_neg c5, e1, Option.bind_some, if_neg c1, if_neg c2, if_neg c3, if_neg c4, if_neg c5, e2, Option.bind_some, fX7_thrown, Option.bind_some, if_pos rfl]
theorem p_196 {N : Nat} {xs : Nat → Int32} {L : Nat} (hN : 1000 ≤ N) (hL : L ≤ 3073) : PH196 N xs L PInv := by
  intro i a m_thrown m_side m_size m_at m_fault m_statements m_hasProgram m_hasRun m_tool out_n out x_grid_side x_grid_cells x_grid_discSize x_grid_targets_n x_grid_targets m_targets_n m_targets x_grid_kept_n x_grid_kept m_kept_n m_kept x_tools_radius x_tools_feed x_tools_halfWidths_n x_tools_halfWidths m_radius_n m_radius m_feeds_n m_feeds x_reader_side x_reader_length x_reader_place x_reader_text_n x_reader_text m_text_n m_text x_draft_count x_draft_letters_n x_draft_letters x_draft_digits_n x_draft_digits x_draft_xs_n x_draft_xs x_draft_ys_n x_draft_ys x_draft_zs_n x_draft_zs x_program_count m_draft_n m_draft m_program_n m_program x_machine_hasRun x_machine_time x_machine_ended x_machine_x x_machine_y x_machine_z x_machine_cut x_machine_held x_program_letters_n x_program_letters x_program_digits_n x_program_digits x_program_xs_n x_program_xs x_program_ys_n x_program_ys x_program_zs_n x_program_zs x_grid_disc_n x_grid_disc x_grid_heights_n x_grid_heights m_where_n m_where m_about_n m_about m_begin_n m_begin m_gap_n m_gap m_heights_n m_heights x_grid_marks_n x_grid_marks x_pieceCounter_side x_pieceCounter_cells x_pieceCounter_queued x_pieceCounter_taken_n x_pieceCounter_taken x_pieceCounter_queueX_n x_pieceCounter_queueX x_pieceCounter_queueY_n x_pieceCounter_queueY m_seen_n m_seen m_stack_n m_stack hi hal hI
  obtain ⟨S, n, k, h2, h20, ⟨rfl, rfl, rfl, rfl, rfl, rfl⟩, ⟨rfl, rfl, rfl, rfl, rfl, rfl, rfl, rfl, rfl, rfl, rfl, rfl, rfl, rfl, rfl, rfl, rfl, rfl, rfl, rfl, rfl, rfl, rfl, rfl, rfl, rfl, rfl, rfl, rfl, rfl, rfl, rfl, rfl, rfl, rfl⟩, hT, hTn, hK, hTL, ⟨rfl, rfl, hX⟩, ⟨rfl, hp0, hst, hP⟩, hM, hH, hHn⟩ := hI
  subst hi
  have i1 : nI a + 1 = nI (a + 1) := nI_add a 1
  have d1 : (nI (a + 1)).toNatClampNeg = a + 1 := nI_clamp (by omega)
  have c1 : ¬ (nI (a + 1) < 0 ∨ L ≤ a + 1) := ixL (by omega) hL
  have i2 : nI a + 2 = nI (a + 2) := nI_add a 2
  have d2 : (nI (a + 2)).toNatClampNeg = a + 2 := nI_clamp (by omega)
  have c2 : ¬ (nI (a + 2) < 0 ∨ L ≤ a + 2) := ixL (by omega) hL
  have i3 : nI a + 3 = nI (a + 3) := nI_add a 3
  have d3 : (nI (a + 3)).toNatClampNeg = a + 3 := nI_clamp (by omega)
  have c3 : ¬ (nI (a + 3) < 0 ∨ L ≤ a + 3) := ixL (by omega) hL
  have i4 : nI a + 4 = nI (a + 4) := nI_add a 4
  have d4 : (nI (a + 4)).toNatClampNeg = a + 4 := nI_clamp (by omega)
  have c4 : ¬ (nI (a + 4) < 0 ∨ L ≤ a + 4) := ixL (by omega) hL
  have i5 : nI a + 5 = nI (a + 5) := nI_add a 5
  have d5 : (nI (a + 5)).toNatClampNeg = a + 5 := nI_clamp (by omega)
  have c5 : ¬ (nI (a + 5) < 0 ∨ L ≤ a + 5) := ixL (by omega) hL
  have key : ∀ w : Int32, ∃ k1 f' g', fL_keep N (xs (a + 1)) (xs (a + 2)) (xs (a + 3)) (xs (a + 4)) w (nI S) (S * S) x_grid_kept = some (k1, f') ∧ fX7_keep N (xs (a + 1)) (xs (a + 2)) (xs (a + 3)) (xs (a + 4)) w m_thrown (nI S) 400 m_kept = some (k1, g') ∧ RA S f' g' := fun w => pu_keep h2 h20 hN hK
  by_cases hz : xs (a + 5) = 0
  · obtain ⟨k1, f', g', e1, e2, e3⟩ := key 0
    refine ⟨(k1, f', g'), ?_, ⟨S, n, k, h2, h20, ⟨rfl, rfl, rfl, rfl, rfl, rfl⟩, ⟨rfl, rfl, rfl, rfl, rfl, rfl, rfl, rfl, rfl, rfl, rfl, rfl, rfl, rfl, rfl, rfl, rfl, rfl, rfl, rfl, rfl, rfl, rfl, rfl, rfl, rfl, rfl, rfl, rfl, rfl, rfl, rfl, rfl, rfl, rfl⟩, hT, hTn, e3, hTL, ⟨rfl, rfl, hX⟩, ⟨rfl, hp0, hst, hP⟩, hM, hH, hHn⟩⟩
    rw [fL_c196, i1, d1, i2, d2, i3, d3, i4, d4, i5, d5, if_neg c1, if_neg c2, if_neg c3, if_neg c4, if_neg c5, if_pos hz, JL_c196_235, e1, Option.bind_some, i1, d1, i2, d2, i3, d3, i4, d4, i5, d5, if_neg c1, if_neg c2, if_neg c3, if_neg c4, if_neg c5, if_pos hz, JL_c196_279, e2, Option.bind_some, fX7_thrown, Option.bind_some, if_pos rfl]
  · obtain ⟨k1, f', g', e1, e2, e3⟩ := key 1
    refine ⟨(k1, f', g'), ?_, ⟨S, n, k, h2, h20, ⟨rfl, rfl, rfl, rfl, rfl, rfl⟩, ⟨rfl, rfl, rfl, rfl, rfl, rfl, rfl, rfl, rfl, rfl, rfl, rfl, rfl, rfl, rfl, rfl, rfl, rfl, rfl, rfl, rfl, rfl, rfl, rfl, rfl, rfl, rfl, rfl, rfl, rfl, rfl, rfl, rfl, rfl, rfl⟩, hT, hTn, e3, hTL, ⟨rfl, rfl, hX⟩, ⟨rfl, hp0, hst, hP⟩, hM, hH, hHn⟩⟩
    rw [fL_c196, i1, d1, i2, d2, i3, d3, i4, d4, i5, d5, if_neg c1, if_neg c2, if_neg c3, if_neg c4, if_neg c5, if_neg hz, JL_c196_235, e1, Option.bind_some, i1, d1, i2, d2, i3, d3, i4, d4, i5, d5, if_neg c1, if_neg c2, if_neg c3, if_neg c4, if_neg c5, if_neg hz, JL_c196_279, e2, Option.bind_some, fX7_thrown, Option.bind_some, if_pos rfl]
theorem p_296 {N : Nat} {xs : Nat → Int32} {L : Nat} (hN : 1000 ≤ N) (hL : L ≤ 3073) : PH296 N xs L PInv := by
  intro i a m_thrown m_side m_size m_at m_fault m_statements m_hasProgram m_hasRun m_tool out_n out x_grid_side x_grid_cells x_grid_discSize x_grid_targets_n x_grid_targets m_targets_n m_targets x_grid_kept_n x_grid_kept m_kept_n m_kept x_tools_radius x_tools_feed x_tools_halfWidths_n x_tools_halfWidths m_radius_n m_radius m_feeds_n m_feeds x_reader_side x_reader_length x_reader_place x_reader_text_n x_reader_text m_text_n m_text x_draft_count x_draft_letters_n x_draft_letters x_draft_digits_n x_draft_digits x_draft_xs_n x_draft_xs x_draft_ys_n x_draft_ys x_draft_zs_n x_draft_zs x_program_count m_draft_n m_draft m_program_n m_program x_machine_hasRun x_machine_time x_machine_ended x_machine_x x_machine_y x_machine_z x_machine_cut x_machine_held x_program_letters_n x_program_letters x_program_digits_n x_program_digits x_program_xs_n x_program_xs x_program_ys_n x_program_ys x_program_zs_n x_program_zs x_grid_disc_n x_grid_disc x_grid_heights_n x_grid_heights m_where_n m_where m_about_n m_about m_begin_n m_begin m_gap_n m_gap m_heights_n m_heights x_grid_marks_n x_grid_marks x_pieceCounter_side x_pieceCounter_cells x_pieceCounter_queued x_pieceCounter_taken_n x_pieceCounter_taken x_pieceCounter_queueX_n x_pieceCounter_queueX x_pieceCounter_queueY_n x_pieceCounter_queueY m_seen_n m_seen m_stack_n m_stack hi hal hI
  obtain ⟨S, n, k, h2, h20, ⟨rfl, rfl, rfl, rfl, rfl, rfl⟩, ⟨rfl, rfl, rfl, rfl, rfl, rfl, rfl, rfl, rfl, rfl, rfl, rfl, rfl, rfl, rfl, rfl, rfl, rfl, rfl, rfl, rfl, rfl, rfl, rfl, rfl, rfl, rfl, rfl, rfl, rfl, rfl, rfl, rfl, rfl, rfl⟩, hT, hTn, hK, hTL, ⟨rfl, rfl, hX⟩, ⟨rfl, hp0, hst, hP⟩, hM, hH, hHn⟩ := hI
  subst hi
  have i1 : nI a + 1 = nI (a + 1) := nI_add a 1
  have d1 : (nI (a + 1)).toNatClampNeg = a + 1 := nI_clamp (by omega)
  have c1 : ¬ (nI (a + 1) < 0 ∨ L ≤ a + 1) := ixL (by omega) hL
  have i2 : nI a + 2 = nI (a + 2) := nI_add a 2
  have d2 : (nI (a + 2)).toNatClampNeg = a + 2 := nI_clamp (by omega)
  have c2 : ¬ (nI (a + 2) < 0 ∨ L ≤ a + 2) := ixL (by omega) hL
  have i3 : nI a + 3 = nI (a + 3) := nI_add a 3
  have d3 : (nI (a + 3)).toNatClampNeg = a + 3 := nI_clamp (by omega)
  have c3 : ¬ (nI (a + 3) < 0 ∨ L ≤ a + 3) := ixL (by omega) hL
  obtain ⟨k1, xr', xf', hw', mr', mf', e1, e2, e3⟩ := pu_tool (N := N) (a1 := xs (a + 1)) (a2 := xs (a + 2)) (a3 := xs (a + 3)) (th := m_thrown) hN hTL
  refine ⟨(k1, xr', xf', hw', mr', mf'), ?_, ⟨S, n, k, h2, h20, ⟨rfl, rfl, rfl, rfl, rfl, rfl⟩, ⟨rfl, rfl, rfl, rfl, rfl, rfl, rfl, rfl, rfl, rfl, rfl, rfl, rfl, rfl, rfl, rfl, rfl, rfl, rfl, rfl, rfl, rfl, rfl, rfl, rfl, rfl, rfl, rfl, rfl, rfl, rfl, rfl, rfl, rfl, rfl⟩, hT, hTn, hK, e3, ⟨rfl, rfl, hX⟩, ⟨rfl, hp0, hst, hP⟩, hM, hH, hHn⟩⟩
  rw [fL_c296, i1, d1, i2, d2, i3, d3, if_neg c1, if_neg c2, if_neg c3, e1, Option.bind_some, if_neg c1, if_neg c2, if_neg c3, e2, Option.bind_some, fX7_thrown, Option.bind_some, if_pos rfl]
theorem p_356 {N : Nat} {xs : Nat → Int32} {L : Nat} (hN : 1000 ≤ N) (hL : L ≤ 3073) : PH356 N xs L PInv := by
  intro i a m_thrown m_side m_size m_at m_fault m_statements m_hasProgram m_hasRun m_tool out_n out x_grid_side x_grid_cells x_grid_discSize x_grid_targets_n x_grid_targets m_targets_n m_targets x_grid_kept_n x_grid_kept m_kept_n m_kept x_tools_radius x_tools_feed x_tools_halfWidths_n x_tools_halfWidths m_radius_n m_radius m_feeds_n m_feeds x_reader_side x_reader_length x_reader_place x_reader_text_n x_reader_text m_text_n m_text x_draft_count x_draft_letters_n x_draft_letters x_draft_digits_n x_draft_digits x_draft_xs_n x_draft_xs x_draft_ys_n x_draft_ys x_draft_zs_n x_draft_zs x_program_count m_draft_n m_draft m_program_n m_program x_machine_hasRun x_machine_time x_machine_ended x_machine_x x_machine_y x_machine_z x_machine_cut x_machine_held x_program_letters_n x_program_letters x_program_digits_n x_program_digits x_program_xs_n x_program_xs x_program_ys_n x_program_ys x_program_zs_n x_program_zs x_grid_disc_n x_grid_disc x_grid_heights_n x_grid_heights m_where_n m_where m_about_n m_about m_begin_n m_begin m_gap_n m_gap m_heights_n m_heights x_grid_marks_n x_grid_marks x_pieceCounter_side x_pieceCounter_cells x_pieceCounter_queued x_pieceCounter_taken_n x_pieceCounter_taken x_pieceCounter_queueX_n x_pieceCounter_queueX x_pieceCounter_queueY_n x_pieceCounter_queueY m_seen_n m_seen m_stack_n m_stack hi hal hI
  obtain ⟨S, n, k, h2, h20, ⟨rfl, rfl, rfl, rfl, rfl, rfl⟩, ⟨rfl, rfl, rfl, rfl, rfl, rfl, rfl, rfl, rfl, rfl, rfl, rfl, rfl, rfl, rfl, rfl, rfl, rfl, rfl, rfl, rfl, rfl, rfl, rfl, rfl, rfl, rfl, rfl, rfl, rfl, rfl, rfl, rfl, rfl, rfl⟩, hT, hTn, hK, hTL, ⟨rfl, rfl, hX⟩, ⟨rfl, hp0, hst, hP⟩, hM, hH, hHn⟩ := hI
  subst hi
  have i1 : nI a + 1 = nI (a + 1) := nI_add a 1
  have d1 : (nI (a + 1)).toNatClampNeg = a + 1 := nI_clamp (by omega)
  have c1 : ¬ (nI (a + 1) < 0 ∨ L ≤ a + 1) := ixL (by omega) hL
  obtain ⟨k1, n', xt', mt', e1, e2, e3⟩ := pu_unit (N := N) (a1 := xs (a + 1)) (th := m_thrown) hX
  refine ⟨(0, nI n', nI n', xt', mt'), ?_, ⟨S, n', k, h2, h20, ⟨rfl, rfl, rfl, rfl, rfl, rfl⟩, ⟨rfl, rfl, rfl, rfl, rfl, rfl, rfl, rfl, rfl, rfl, rfl, rfl, rfl, rfl, rfl, rfl, rfl, rfl, rfl, rfl, rfl, rfl, rfl, rfl, rfl, rfl, rfl, rfl, rfl, rfl, rfl, rfl, rfl, rfl, rfl⟩, hT, hTn, hK, hTL, ⟨rfl, rfl, e3⟩, ⟨rfl, hp0, hst, hP⟩, hM, hH, hHn⟩⟩
  rw [fL_c356, i1, d1, if_neg c1, e1, Option.bind_some, if_neg c1, e2, Option.bind_some, if_pos rfl]
theorem p_381 {N : Nat} {xs : Nat → Int32} {L : Nat} (hN : 1000 ≤ N) : PH381 N xs L PInv := by
  intro i a hp hd m_thrown m_side m_size m_at m_fault m_statements m_hasProgram m_hasRun m_tool out_n out x_grid_side x_grid_cells x_grid_discSize x_grid_targets_n x_grid_targets m_targets_n m_targets x_grid_kept_n x_grid_kept m_kept_n m_kept x_tools_radius x_tools_feed x_tools_halfWidths_n x_tools_halfWidths m_radius_n m_radius m_feeds_n m_feeds x_reader_side x_reader_length x_reader_place x_reader_text_n x_reader_text m_text_n m_text x_draft_count x_draft_letters_n x_draft_letters x_draft_digits_n x_draft_digits x_draft_xs_n x_draft_xs x_draft_ys_n x_draft_ys x_draft_zs_n x_draft_zs x_program_count m_draft_n m_draft m_program_n m_program x_machine_hasRun x_machine_time x_machine_ended x_machine_x x_machine_y x_machine_z x_machine_cut x_machine_held x_program_letters_n x_program_letters x_program_digits_n x_program_digits x_program_xs_n x_program_xs x_program_ys_n x_program_ys x_program_zs_n x_program_zs x_grid_disc_n x_grid_disc x_grid_heights_n x_grid_heights m_where_n m_where m_about_n m_about m_begin_n m_begin m_gap_n m_gap m_heights_n m_heights x_grid_marks_n x_grid_marks x_pieceCounter_side x_pieceCounter_cells x_pieceCounter_queued x_pieceCounter_taken_n x_pieceCounter_taken x_pieceCounter_queueX_n x_pieceCounter_queueX x_pieceCounter_queueY_n x_pieceCounter_queueY m_seen_n m_seen m_stack_n m_stack hi hal hI
  obtain ⟨S, n, k, h2, h20, ⟨rfl, rfl, rfl, rfl, rfl, rfl⟩, ⟨rfl, rfl, rfl, rfl, rfl, rfl, rfl, rfl, rfl, rfl, rfl, rfl, rfl, rfl, rfl, rfl, rfl, rfl, rfl, rfl, rfl, rfl, rfl, rfl, rfl, rfl, rfl, rfl, rfl, rfl, rfl, rfl, rfl, rfl, rfl⟩, hT, hTn, hK, hTL, ⟨rfl, rfl, hX⟩, ⟨rfl, hp0, hst, hP⟩, hM, hH, hHn⟩ := hI
  subst hi
  obtain ⟨v, P', D', pl', c', ls', dg', xs', ys', zs', at', ft', mst', mhp', dr', pr', e1, e2, e3⟩ := pu_read (N := N) (S := S) (P := hp) (D := hd) (pl := x_reader_place) (dc := x_draft_count) (th := m_thrown) (at0 := m_at) (ft := m_fault) (mst := m_statements) (mhp := m_hasProgram) (ls := x_draft_letters) (dg := x_draft_digits) (xs := x_draft_xs) (ys := x_draft_ys) (zs := x_draft_zs) (draft := m_draft) (prog := m_program) hN hX h2 h20
  have hX0 : TX 0 x_reader_text m_text := ⟨by omega, fun j hj => absurd hj (by omega)⟩
  refine ⟨(P', D', 0, 0, at', ft', mst', mhp', 0, pl', c', ls', dg', xs', ys', zs', dr', pr'), ?_, ?_⟩
  · rw [fL_c381, e1, Option.bind_some, e2, Option.bind_some, if_pos rfl]
  · rcases e3 with ⟨rfl, rfl, rfl, rfl, rfl⟩ | ⟨rfl, rfl, b, hb, rfl, rfl, rfl, e4⟩
    · exact Or.inl ⟨rfl, rfl, ⟨S, 0, k, h2, h20, ⟨rfl, rfl, rfl, rfl, rfl, rfl⟩, ⟨rfl, rfl, rfl, rfl, rfl, rfl, rfl, rfl, rfl, rfl, rfl, rfl, rfl, rfl, rfl, rfl, rfl, rfl, rfl, rfl, rfl, rfl, rfl, rfl, rfl, rfl, rfl, rfl, rfl, rfl, rfl, rfl, rfl, rfl, rfl⟩, hT, hTn, hK, hTL, ⟨rfl, rfl, hX0⟩, ⟨rfl, hp0, hst, hP⟩, hM, hH, hHn⟩⟩
    · exact Or.inr ⟨rfl, rfl, ⟨S, 0, b, h2, h20, ⟨rfl, rfl, rfl, rfl, rfl, rfl⟩, ⟨rfl, rfl, rfl, rfl, rfl, rfl, rfl, rfl, rfl, rfl, rfl, rfl, rfl, rfl, rfl, rfl, rfl, rfl, rfl, rfl, rfl, rfl, rfl, rfl, rfl, rfl, rfl, rfl, rfl, rfl, rfl, rfl, rfl, rfl, rfl⟩, hT, hTn, hK, hTL, ⟨rfl, rfl, hX0⟩, ⟨rfl, ⟨fun h => absurd h (show ¬ (1 : Int32) = 0 by decide), fun h => by omega⟩, fun _ => rfl, e4⟩, hM, hH, hHn⟩⟩
theorem p_394 {N : Nat} {xs : Nat → Int32} {L : Nat} (hN : 1000 ≤ N) (hL : L ≤ 3073) : PH394 N xs L PInv := by
  intro i a m_thrown m_side m_size m_at m_fault m_statements m_hasProgram m_hasRun m_tool out_n out x_grid_side x_grid_cells x_grid_discSize x_grid_targets_n x_grid_targets m_targets_n m_targets x_grid_kept_n x_grid_kept m_kept_n m_kept x_tools_radius x_tools_feed x_tools_halfWidths_n x_tools_halfWidths m_radius_n m_radius m_feeds_n m_feeds x_reader_side x_reader_length x_reader_place x_reader_text_n x_reader_text m_text_n m_text x_draft_count x_draft_letters_n x_draft_letters x_draft_digits_n x_draft_digits x_draft_xs_n x_draft_xs x_draft_ys_n x_draft_ys x_draft_zs_n x_draft_zs x_program_count m_draft_n m_draft m_program_n m_program x_machine_hasRun x_machine_time x_machine_ended x_machine_x x_machine_y x_machine_z x_machine_cut x_machine_held x_program_letters_n x_program_letters x_program_digits_n x_program_digits x_program_xs_n x_program_xs x_program_ys_n x_program_ys x_program_zs_n x_program_zs x_grid_disc_n x_grid_disc x_grid_heights_n x_grid_heights m_where_n m_where m_about_n m_about m_begin_n m_begin m_gap_n m_gap m_heights_n m_heights x_grid_marks_n x_grid_marks x_pieceCounter_side x_pieceCounter_cells x_pieceCounter_queued x_pieceCounter_taken_n x_pieceCounter_taken x_pieceCounter_queueX_n x_pieceCounter_queueX x_pieceCounter_queueY_n x_pieceCounter_queueY m_seen_n m_seen m_stack_n m_stack hi hal hI
  obtain ⟨S, n, k, h2, h20, ⟨rfl, rfl, rfl, rfl, rfl, rfl⟩, ⟨rfl, rfl, rfl, rfl, rfl, rfl, rfl, rfl, rfl, rfl, rfl, rfl, rfl, rfl, rfl, rfl, rfl, rfl, rfl, rfl, rfl, rfl, rfl, rfl, rfl, rfl, rfl, rfl, rfl, rfl, rfl, rfl, rfl, rfl, rfl⟩, hT, hTn, hK, hTL, ⟨rfl, rfl, hX⟩, ⟨rfl, hp0, hst, hP⟩, hM, hH, hHn⟩ := hI
  subst hi
  obtain ⟨k1, out', hr', ti', en', x', y', z', cu', he', ds', dd', xh', v, mhr', mtl', wh', ab', bg', gp', mh', e1, e2, e3, e4, e5, e6⟩ := pu_run (N := N) (th := m_thrown) (mtl := m_tool) (he := x_machine_held) (ds := x_grid_discSize) (bg := m_begin) (gp := m_gap) (wh := m_where) (dd := x_grid_disc) (out := out) hN h2 h20 hTL hP hK hH hHn hp0 hst hM
  refine ⟨(k1, mhr', mtl', out', ds', hr', ti', en', x', y', z', cu', he', dd', xh', wh', ab', bg', gp', mh'), ?_, ⟨S, n, k, h2, h20, ⟨rfl, rfl, rfl, rfl, rfl, rfl⟩, ⟨rfl, rfl, rfl, rfl, rfl, rfl, rfl, rfl, rfl, rfl, rfl, rfl, rfl, rfl, rfl, rfl, rfl, rfl, rfl, rfl, rfl, rfl, rfl, rfl, rfl, rfl, rfl, rfl, rfl, rfl, rfl, rfl, rfl, rfl, rfl⟩, hT, hTn, hK, hTL, ⟨rfl, rfl, hX⟩, ⟨rfl, hp0, hst, hP⟩, e4, e5, e6⟩⟩
  rw [fL_c394, e1, Option.bind_some, e2, Option.bind_some, fX7_thrown, Option.bind_some]
  exact out_ok e3
theorem p_438 {N : Nat} {xs : Nat → Int32} {L : Nat} (hN : 1000 ≤ N) (hL : L ≤ 3073) : PH438 N xs L PInv := by
  intro i a m_thrown m_side m_size m_at m_fault m_statements m_hasProgram m_hasRun m_tool out_n out x_grid_side x_grid_cells x_grid_discSize x_grid_targets_n x_grid_targets m_targets_n m_targets x_grid_kept_n x_grid_kept m_kept_n m_kept x_tools_radius x_tools_feed x_tools_halfWidths_n x_tools_halfWidths m_radius_n m_radius m_feeds_n m_feeds x_reader_side x_reader_length x_reader_place x_reader_text_n x_reader_text m_text_n m_text x_draft_count x_draft_letters_n x_draft_letters x_draft_digits_n x_draft_digits x_draft_xs_n x_draft_xs x_draft_ys_n x_draft_ys x_draft_zs_n x_draft_zs x_program_count m_draft_n m_draft m_program_n m_program x_machine_hasRun x_machine_time x_machine_ended x_machine_x x_machine_y x_machine_z x_machine_cut x_machine_held x_program_letters_n x_program_letters x_program_digits_n x_program_digits x_program_xs_n x_program_xs x_program_ys_n x_program_ys x_program_zs_n x_program_zs x_grid_disc_n x_grid_disc x_grid_heights_n x_grid_heights m_where_n m_where m_about_n m_about m_begin_n m_begin m_gap_n m_gap m_heights_n m_heights x_grid_marks_n x_grid_marks x_pieceCounter_side x_pieceCounter_cells x_pieceCounter_queued x_pieceCounter_taken_n x_pieceCounter_taken x_pieceCounter_queueX_n x_pieceCounter_queueX x_pieceCounter_queueY_n x_pieceCounter_queueY m_seen_n m_seen m_stack_n m_stack hi hal hI
  obtain ⟨S, n, k, h2, h20, ⟨rfl, rfl, rfl, rfl, rfl, rfl⟩, ⟨rfl, rfl, rfl, rfl, rfl, rfl, rfl, rfl, rfl, rfl, rfl, rfl, rfl, rfl, rfl, rfl, rfl, rfl, rfl, rfl, rfl, rfl, rfl, rfl, rfl, rfl, rfl, rfl, rfl, rfl, rfl, rfl, rfl, rfl, rfl⟩, hT, hTn, hK, hTL, ⟨rfl, rfl, hX⟩, ⟨rfl, hp0, hst, hP⟩, hM, hH, hHn⟩ := hI
  subst hi
  have i1 : nI a + 1 = nI (a + 1) := nI_add a 1
  have d1 : (nI (a + 1)).toNatClampNeg = a + 1 := nI_clamp (by omega)
  have c1 : ¬ (nI (a + 1) < 0 ∨ L ≤ a + 1) := ixL (by omega) hL
  obtain ⟨k1, out', v, e1, e2, e3⟩ := pu_about (N := N) (a1 := xs (a + 1)) (th := m_thrown) (out := out) hM
  refine ⟨(k1, out'), ?_, ⟨S, n, k, h2, h20, ⟨rfl, rfl, rfl, rfl, rfl, rfl⟩, ⟨rfl, rfl, rfl, rfl, rfl, rfl, rfl, rfl, rfl, rfl, rfl, rfl, rfl, rfl, rfl, rfl, rfl, rfl, rfl, rfl, rfl, rfl, rfl, rfl, rfl, rfl, rfl, rfl, rfl, rfl, rfl, rfl, rfl, rfl, rfl⟩, hT, hTn, hK, hTL, ⟨rfl, rfl, hX⟩, ⟨rfl, hp0, hst, hP⟩, hM, hH, hHn⟩⟩
  rw [fL_c438, i1, d1, if_neg c1, e1, Option.bind_some, if_neg c1, e2, Option.bind_some, fX7_thrown, Option.bind_some]
  exact out_ok e3
theorem p_494 {N : Nat} {xs : Nat → Int32} {L : Nat} (hN : 1000 ≤ N) (hL : L ≤ 3073) : PH494 N xs L PInv := by
  intro i a m_thrown m_side m_size m_at m_fault m_statements m_hasProgram m_hasRun m_tool out_n out x_grid_side x_grid_cells x_grid_discSize x_grid_targets_n x_grid_targets m_targets_n m_targets x_grid_kept_n x_grid_kept m_kept_n m_kept x_tools_radius x_tools_feed x_tools_halfWidths_n x_tools_halfWidths m_radius_n m_radius m_feeds_n m_feeds x_reader_side x_reader_length x_reader_place x_reader_text_n x_reader_text m_text_n m_text x_draft_count x_draft_letters_n x_draft_letters x_draft_digits_n x_draft_digits x_draft_xs_n x_draft_xs x_draft_ys_n x_draft_ys x_draft_zs_n x_draft_zs x_program_count m_draft_n m_draft m_program_n m_program x_machine_hasRun x_machine_time x_machine_ended x_machine_x x_machine_y x_machine_z x_machine_cut x_machine_held x_program_letters_n x_program_letters x_program_digits_n x_program_digits x_program_xs_n x_program_xs x_program_ys_n x_program_ys x_program_zs_n x_program_zs x_grid_disc_n x_grid_disc x_grid_heights_n x_grid_heights m_where_n m_where m_about_n m_about m_begin_n m_begin m_gap_n m_gap m_heights_n m_heights x_grid_marks_n x_grid_marks x_pieceCounter_side x_pieceCounter_cells x_pieceCounter_queued x_pieceCounter_taken_n x_pieceCounter_taken x_pieceCounter_queueX_n x_pieceCounter_queueX x_pieceCounter_queueY_n x_pieceCounter_queueY m_seen_n m_seen m_stack_n m_stack hi hal hI
  obtain ⟨S, n, k, h2, h20, ⟨rfl, rfl, rfl, rfl, rfl, rfl⟩, ⟨rfl, rfl, rfl, rfl, rfl, rfl, rfl, rfl, rfl, rfl, rfl, rfl, rfl, rfl, rfl, rfl, rfl, rfl, rfl, rfl, rfl, rfl, rfl, rfl, rfl, rfl, rfl, rfl, rfl, rfl, rfl, rfl, rfl, rfl, rfl⟩, hT, hTn, hK, hTL, ⟨rfl, rfl, hX⟩, ⟨rfl, hp0, hst, hP⟩, hM, hH, hHn⟩ := hI
  subst hi
  have i1 : nI a + 1 = nI (a + 1) := nI_add a 1
  have d1 : (nI (a + 1)).toNatClampNeg = a + 1 := nI_clamp (by omega)
  have c1 : ¬ (nI (a + 1) < 0 ∨ L ≤ a + 1) := ixL (by omega) hL
  have i2 : nI a + 2 = nI (a + 2) := nI_add a 2
  have d2 : (nI (a + 2)).toNatClampNeg = a + 2 := nI_clamp (by omega)
  have c2 : ¬ (nI (a + 2) < 0 ∨ L ≤ a + 2) := ixL (by omega) hL
  have i3 : nI a + 3 = nI (a + 3) := nI_add a 3
  have d3 : (nI (a + 3)).toNatClampNeg = a + 3 := nI_clamp (by omega)
  have c3 : ¬ (nI (a + 3) < 0 ∨ L ≤ a + 3) := ixL (by omega) hL
  obtain ⟨k1, out', v, e1, e2, e3⟩ := pu_cell (N := N) (a1 := xs (a + 1)) (a2 := xs (a + 2)) (a3 := xs (a + 3)) (th := m_thrown) (out := out) h2 h20 hH hT hK
  refine ⟨(k1, out'), ?_, ⟨S, n, k, h2, h20, ⟨rfl, rfl, rfl, rfl, rfl, rfl⟩, ⟨rfl, rfl, rfl, rfl, rfl, rfl, rfl, rfl, rfl, rfl, rfl, rfl, rfl, rfl, rfl, rfl, rfl, rfl, rfl, rfl, rfl, rfl, rfl, rfl, rfl, rfl, rfl, rfl, rfl, rfl, rfl, rfl, rfl, rfl, rfl⟩, hT, hTn, hK, hTL, ⟨rfl, rfl, hX⟩, ⟨rfl, hp0, hst, hP⟩, hM, hH, hHn⟩⟩
  rw [fL_c494, i1, d1, i2, d2, i3, d3, if_neg c1, if_neg c2, if_neg c3, e1, Option.bind_some, if_neg c1, if_neg c2, if_neg c3, e2, Option.bind_some, fX7_thrown, Option.bind_some]
  exact out_ok e3
theorem p_574 {N : Nat} {xs : Nat → Int32} {L : Nat} (hN : 1000 ≤ N) (hL : L ≤ 3073) : PH574 N xs L PInv := by
  intro i a m_thrown m_side m_size m_at m_fault m_statements m_hasProgram m_hasRun m_tool out_n out x_grid_side x_grid_cells x_grid_discSize x_grid_targets_n x_grid_targets m_targets_n m_targets x_grid_kept_n x_grid_kept m_kept_n m_kept x_tools_radius x_tools_feed x_tools_halfWidths_n x_tools_halfWidths m_radius_n m_radius m_feeds_n m_feeds x_reader_side x_reader_length x_reader_place x_reader_text_n x_reader_text m_text_n m_text x_draft_count x_draft_letters_n x_draft_letters x_draft_digits_n x_draft_digits x_draft_xs_n x_draft_xs x_draft_ys_n x_draft_ys x_draft_zs_n x_draft_zs x_program_count m_draft_n m_draft m_program_n m_program x_machine_hasRun x_machine_time x_machine_ended x_machine_x x_machine_y x_machine_z x_machine_cut x_machine_held x_program_letters_n x_program_letters x_program_digits_n x_program_digits x_program_xs_n x_program_xs x_program_ys_n x_program_ys x_program_zs_n x_program_zs x_grid_disc_n x_grid_disc x_grid_heights_n x_grid_heights m_where_n m_where m_about_n m_about m_begin_n m_begin m_gap_n m_gap m_heights_n m_heights x_grid_marks_n x_grid_marks x_pieceCounter_side x_pieceCounter_cells x_pieceCounter_queued x_pieceCounter_taken_n x_pieceCounter_taken x_pieceCounter_queueX_n x_pieceCounter_queueX x_pieceCounter_queueY_n x_pieceCounter_queueY m_seen_n m_seen m_stack_n m_stack hi hal hI
  obtain ⟨S, n, k, h2, h20, ⟨rfl, rfl, rfl, rfl, rfl, rfl⟩, ⟨rfl, rfl, rfl, rfl, rfl, rfl, rfl, rfl, rfl, rfl, rfl, rfl, rfl, rfl, rfl, rfl, rfl, rfl, rfl, rfl, rfl, rfl, rfl, rfl, rfl, rfl, rfl, rfl, rfl, rfl, rfl, rfl, rfl, rfl, rfl⟩, hT, hTn, hK, hTL, ⟨rfl, rfl, hX⟩, ⟨rfl, hp0, hst, hP⟩, hM, hH, hHn⟩ := hI
  subst hi
  have i1 : nI a + 1 = nI (a + 1) := nI_add a 1
  have d1 : (nI (a + 1)).toNatClampNeg = a + 1 := nI_clamp (by omega)
  have c1 : ¬ (nI (a + 1) < 0 ∨ L ≤ a + 1) := ixL (by omega) hL
  obtain ⟨k1, out', v, e1, e2, e3⟩ := pu_check (N := N) (a1 := xs (a + 1)) (th := m_thrown) (out := out) h2 h20 hN hH hT
  refine ⟨(k1, out'), ?_, ⟨S, n, k, h2, h20, ⟨rfl, rfl, rfl, rfl, rfl, rfl⟩, ⟨rfl, rfl, rfl, rfl, rfl, rfl, rfl, rfl, rfl, rfl, rfl, rfl, rfl, rfl, rfl, rfl, rfl, rfl, rfl, rfl, rfl, rfl, rfl, rfl, rfl, rfl, rfl, rfl, rfl, rfl, rfl, rfl, rfl, rfl, rfl⟩, hT, hTn, hK, hTL, ⟨rfl, rfl, hX⟩, ⟨rfl, hp0, hst, hP⟩, hM, hH, hHn⟩⟩
  rw [fL_c574, i1, d1, if_neg c1, e1, Option.bind_some, if_neg c1, e2, Option.bind_some, fX7_thrown, Option.bind_some]
  exact out_ok e3
theorem p_630 {N : Nat} {xs : Nat → Int32} {L : Nat} (hN : 1000 ≤ N) (hL : L ≤ 3073) : PH630 N xs L PInv := by
  intro i a m_thrown m_side m_size m_at m_fault m_statements m_hasProgram m_hasRun m_tool out_n out x_grid_side x_grid_cells x_grid_discSize x_grid_targets_n x_grid_targets m_targets_n m_targets x_grid_kept_n x_grid_kept m_kept_n m_kept x_tools_radius x_tools_feed x_tools_halfWidths_n x_tools_halfWidths m_radius_n m_radius m_feeds_n m_feeds x_reader_side x_reader_length x_reader_place x_reader_text_n x_reader_text m_text_n m_text x_draft_count x_draft_letters_n x_draft_letters x_draft_digits_n x_draft_digits x_draft_xs_n x_draft_xs x_draft_ys_n x_draft_ys x_draft_zs_n x_draft_zs x_program_count m_draft_n m_draft m_program_n m_program x_machine_hasRun x_machine_time x_machine_ended x_machine_x x_machine_y x_machine_z x_machine_cut x_machine_held x_program_letters_n x_program_letters x_program_digits_n x_program_digits x_program_xs_n x_program_xs x_program_ys_n x_program_ys x_program_zs_n x_program_zs x_grid_disc_n x_grid_disc x_grid_heights_n x_grid_heights m_where_n m_where m_about_n m_about m_begin_n m_begin m_gap_n m_gap m_heights_n m_heights x_grid_marks_n x_grid_marks x_pieceCounter_side x_pieceCounter_cells x_pieceCounter_queued x_pieceCounter_taken_n x_pieceCounter_taken x_pieceCounter_queueX_n x_pieceCounter_queueX x_pieceCounter_queueY_n x_pieceCounter_queueY m_seen_n m_seen m_stack_n m_stack hi hal hI
  obtain ⟨S, n, k, h2, h20, ⟨rfl, rfl, rfl, rfl, rfl, rfl⟩, ⟨rfl, rfl, rfl, rfl, rfl, rfl, rfl, rfl, rfl, rfl, rfl, rfl, rfl, rfl, rfl, rfl, rfl, rfl, rfl, rfl, rfl, rfl, rfl, rfl, rfl, rfl, rfl, rfl, rfl, rfl, rfl, rfl, rfl, rfl, rfl⟩, hT, hTn, hK, hTL, ⟨rfl, rfl, hX⟩, ⟨rfl, hp0, hst, hP⟩, hM, hH, hHn⟩ := hI
  subst hi
  have i1 : nI a + 1 = nI (a + 1) := nI_add a 1
  have d1 : (nI (a + 1)).toNatClampNeg = a + 1 := nI_clamp (by omega)
  have c1 : ¬ (nI (a + 1) < 0 ∨ L ≤ a + 1) := ixL (by omega) hL
  obtain ⟨k1, out', ds', mks', d', v, e1, e2, e3⟩ := pu_reached (N := N) (a1 := xs (a + 1)) (th := m_thrown) (ds := x_grid_discSize) (d := x_grid_disc) (mks := x_grid_marks) (out := out) hN h2 h20 hTL hH hT hK hTn
  refine ⟨(k1, out', ds', d', mks'), ?_, ⟨S, n, k, h2, h20, ⟨rfl, rfl, rfl, rfl, rfl, rfl⟩, ⟨rfl, rfl, rfl, rfl, rfl, rfl, rfl, rfl, rfl, rfl, rfl, rfl, rfl, rfl, rfl, rfl, rfl, rfl, rfl, rfl, rfl, rfl, rfl, rfl, rfl, rfl, rfl, rfl, rfl, rfl, rfl, rfl, rfl, rfl, rfl⟩, hT, hTn, hK, hTL, ⟨rfl, rfl, hX⟩, ⟨rfl, hp0, hst, hP⟩, hM, hH, hHn⟩⟩
  rw [fL_c630, i1, d1, if_neg c1, e1, Option.bind_some, if_neg c1, e2, Option.bind_some, fX7_thrown, Option.bind_some]
  exact out_ok e3
theorem p_686 {N : Nat} {xs : Nat → Int32} {L : Nat} (hN : 1000 ≤ N) (hL : L ≤ 3073) : PH686 N xs L PInv := by
  intro i a m_thrown m_side m_size m_at m_fault m_statements m_hasProgram m_hasRun m_tool out_n out x_grid_side x_grid_cells x_grid_discSize x_grid_targets_n x_grid_targets m_targets_n m_targets x_grid_kept_n x_grid_kept m_kept_n m_kept x_tools_radius x_tools_feed x_tools_halfWidths_n x_tools_halfWidths m_radius_n m_radius m_feeds_n m_feeds x_reader_side x_reader_length x_reader_place x_reader_text_n x_reader_text m_text_n m_text x_draft_count x_draft_letters_n x_draft_letters x_draft_digits_n x_draft_digits x_draft_xs_n x_draft_xs x_draft_ys_n x_draft_ys x_draft_zs_n x_draft_zs x_program_count m_draft_n m_draft m_program_n m_program x_machine_hasRun x_machine_time x_machine_ended x_machine_x x_machine_y x_machine_z x_machine_cut x_machine_held x_program_letters_n x_program_letters x_program_digits_n x_program_digits x_program_xs_n x_program_xs x_program_ys_n x_program_ys x_program_zs_n x_program_zs x_grid_disc_n x_grid_disc x_grid_heights_n x_grid_heights m_where_n m_where m_about_n m_about m_begin_n m_begin m_gap_n m_gap m_heights_n m_heights x_grid_marks_n x_grid_marks x_pieceCounter_side x_pieceCounter_cells x_pieceCounter_queued x_pieceCounter_taken_n x_pieceCounter_taken x_pieceCounter_queueX_n x_pieceCounter_queueX x_pieceCounter_queueY_n x_pieceCounter_queueY m_seen_n m_seen m_stack_n m_stack hi hal hI
  obtain ⟨S, n, k, h2, h20, ⟨rfl, rfl, rfl, rfl, rfl, rfl⟩, ⟨rfl, rfl, rfl, rfl, rfl, rfl, rfl, rfl, rfl, rfl, rfl, rfl, rfl, rfl, rfl, rfl, rfl, rfl, rfl, rfl, rfl, rfl, rfl, rfl, rfl, rfl, rfl, rfl, rfl, rfl, rfl, rfl, rfl, rfl, rfl⟩, hT, hTn, hK, hTL, ⟨rfl, rfl, hX⟩, ⟨rfl, hp0, hst, hP⟩, hM, hH, hHn⟩ := hI
  subst hi
  obtain ⟨v, q', tk', qx', qy', sn', st', e1, e2⟩ := pu_pieces (N := N) (th := m_thrown) (q0 := x_pieceCounter_queued) (tk := x_pieceCounter_taken) (qx := x_pieceCounter_queueX) (qy := x_pieceCounter_queueY) (sn := m_seen) (st := m_stack) hN h2 h20 hH hHn
  refine ⟨(0, q', tk', qx', qy', sn', st'), ?_, ⟨S, n, k, h2, h20, ⟨rfl, rfl, rfl, rfl, rfl, rfl⟩, ⟨rfl, rfl, rfl, rfl, rfl, rfl, rfl, rfl, rfl, rfl, rfl, rfl, rfl, rfl, rfl, rfl, rfl, rfl, rfl, rfl, rfl, rfl, rfl, rfl, rfl, rfl, rfl, rfl, rfl, rfl, rfl, rfl, rfl, rfl, rfl⟩, hT, hTn, hK, hTL, ⟨rfl, rfl, hX⟩, ⟨rfl, hp0, hst, hP⟩, hM, hH, hHn⟩⟩
  rw [fL_c686, e1, Option.bind_some, e2, Option.bind_some, if_pos rfl]
theorem p_699 {N : Nat} {xs : Nat → Int32} {L : Nat} (hN : 1000 ≤ N) (hL : L ≤ 3073) : PH699 N xs L PInv := by
  intro i a m_thrown m_side m_size m_at m_fault m_statements m_hasProgram m_hasRun m_tool out_n out x_grid_side x_grid_cells x_grid_discSize x_grid_targets_n x_grid_targets m_targets_n m_targets x_grid_kept_n x_grid_kept m_kept_n m_kept x_tools_radius x_tools_feed x_tools_halfWidths_n x_tools_halfWidths m_radius_n m_radius m_feeds_n m_feeds x_reader_side x_reader_length x_reader_place x_reader_text_n x_reader_text m_text_n m_text x_draft_count x_draft_letters_n x_draft_letters x_draft_digits_n x_draft_digits x_draft_xs_n x_draft_xs x_draft_ys_n x_draft_ys x_draft_zs_n x_draft_zs x_program_count m_draft_n m_draft m_program_n m_program x_machine_hasRun x_machine_time x_machine_ended x_machine_x x_machine_y x_machine_z x_machine_cut x_machine_held x_program_letters_n x_program_letters x_program_digits_n x_program_digits x_program_xs_n x_program_xs x_program_ys_n x_program_ys x_program_zs_n x_program_zs x_grid_disc_n x_grid_disc x_grid_heights_n x_grid_heights m_where_n m_where m_about_n m_about m_begin_n m_begin m_gap_n m_gap m_heights_n m_heights x_grid_marks_n x_grid_marks x_pieceCounter_side x_pieceCounter_cells x_pieceCounter_queued x_pieceCounter_taken_n x_pieceCounter_taken x_pieceCounter_queueX_n x_pieceCounter_queueX x_pieceCounter_queueY_n x_pieceCounter_queueY m_seen_n m_seen m_stack_n m_stack hi hal hI
  obtain ⟨S, n, k, h2, h20, ⟨rfl, rfl, rfl, rfl, rfl, rfl⟩, ⟨rfl, rfl, rfl, rfl, rfl, rfl, rfl, rfl, rfl, rfl, rfl, rfl, rfl, rfl, rfl, rfl, rfl, rfl, rfl, rfl, rfl, rfl, rfl, rfl, rfl, rfl, rfl, rfl, rfl, rfl, rfl, rfl, rfl, rfl, rfl⟩, hT, hTn, hK, hTL, ⟨rfl, rfl, hX⟩, ⟨rfl, hp0, hst, hP⟩, hM, hH, hHn⟩ := hI
  subst hi
  obtain ⟨xh', mh', e1, e2, e3, e4⟩ := pu_blank (N := N) (th := m_thrown) (xh := x_grid_heights) (mh := m_heights) h2 h20 hN
  have hRA : RA S xh' mh' := fun x y hx hy => by rw [e3 _ (idx_lt hx hy (Nat.le_refl _)), e4 _ (by omega)]
  have hNN : NN S mh' := fun x y hx hy => by rw [e4 _ (by omega)]; decide
  refine ⟨(0, xh', mh'), ?_, ⟨S, n, k, h2, h20, ⟨rfl, rfl, rfl, rfl, rfl, rfl⟩, ⟨rfl, rfl, rfl, rfl, rfl, rfl, rfl, rfl, rfl, rfl, rfl, rfl, rfl, rfl, rfl, rfl, rfl, rfl, rfl, rfl, rfl, rfl, rfl, rfl, rfl, rfl, rfl, rfl, rfl, rfl, rfl, rfl, rfl, rfl, rfl⟩, hT, hTn, hK, hTL, ⟨rfl, rfl, hX⟩, ⟨rfl, hp0, hst, hP⟩, hM, hRA, hNN⟩⟩
  rw [fL_c699, e1, Option.bind_some, e2, Option.bind_some]
theorem clampS {N : Nat} (w : Int32) : ∃ S, 2 ≤ S ∧ S ≤ 20 ∧ (if 2 < (if w < 20 then w else 20) then (if w < 20 then w else 20) else 2) = nI S ∧ (if 2 ≤ w then (if w ≤ 20 then JX7_init_157 N w else JX7_init_157 N 20) else JX7_init_157 N 2) = JX7_init_157 N (nI S) := by
  have t2 : (2 : Int32).toInt = 2 := rfl
  have t20 : (20 : Int32).toInt = 20 := rfl
  by_cases h1 : w.toInt ≤ 2
  · refine ⟨2, by omega, by omega, ?_, ?_⟩
    · have e1 : w < 20 := by rw [Int32.lt_iff_toInt_lt]; omega
      rw [if_pos e1, if_neg (by rw [Int32.lt_iff_toInt_lt]; omega)]; rfl
    · by_cases h2 : w.toInt = 2
      · have e1 : w = 2 := Int32.toInt_inj.mp h2
        rw [e1, if_pos (by decide), if_pos (by decide)]; rfl
      · rw [if_neg (by rw [Int32.le_iff_toInt_le]; omega)]; rfl
  · by_cases h2 : 20 ≤ w.toInt
    · refine ⟨20, by omega, by omega, ?_, ?_⟩
      · rw [if_neg (show ¬ w < 20 by rw [Int32.lt_iff_toInt_lt]; omega), if_pos (by decide)]; rfl
      · rw [if_pos (by rw [Int32.le_iff_toInt_le]; omega)]
        by_cases h3 : w.toInt = 20
        · have e1 : w = 20 := Int32.toInt_inj.mp h3
          rw [e1, if_pos (by decide)]; rfl
        · rw [if_neg (by rw [Int32.le_iff_toInt_le]; omega)]; rfl
    · obtain ⟨j, hj, rfl⟩ := nI_of (x := w) (by rw [Int32.lt_iff_toInt_lt, Int32.toInt_zero]; omega)
      rw [nI_toInt hj] at h1 h2
      refine ⟨j, by omega, by omega, ?_, ?_⟩
      · rw [if_pos (show nI j < 20 from nI_lt (b := 20) (by omega) (by omega)), if_pos (show 2 < nI j from nI_lt (a := 2) (by omega) (by omega))]
      · rw [if_pos (show 2 ≤ nI j from nI_le (a := 2) (by omega) (by omega)), if_pos (show nI j ≤ 20 from nI_le (b := 20) (by omega) (by omega))]
theorem init0_s {S N : Nat} (h2 : 2 ≤ S) (h20 : S ≤ 20) (hN : 1000 ≤ N) : ∃ h t, fX0_init N (nI S) = some (h, t) ∧ (∀ c, c < S * S → h c = 100) ∧ ∀ c, c < S * S → t c = 100 := by
  have hm := mul_400 h20 h20
  obtain ⟨s, ⟨h1, h3⟩, h4⟩ := loopI (fun m a (s : (Nat → Int32) × (Nat → Int32)) => LX0_init_38 (nI (S * S)) (S * S) (S * S) m (nI a) s.1 s.2) (S * S) (fun a s => (∀ c, c < a → s.1 c = 100) ∧ ∀ c, c < a → s.2 c = 100) (fun s => (nI (S * S), s.1, s.2))
    (fun m a s ha ⟨hP1, hP2⟩ => by
      refine ⟨(upd s.1 a 100, upd s.2 a 100), ⟨fun c hc => ?_, fun c hc => ?_⟩, ?_⟩
      · show upd s.1 a 100 c = 100
        by_cases e : c = a
        · subst e; exact pk_us
        · rw [pk_un e]; exact hP1 c (by omega)
      · show upd s.2 a 100 c = 100
        by_cases e : c = a
        · subst e; exact pk_us
        · rw [pk_un e]; exact hP2 c (by omega)
      · show LX0_init_38 (nI (S * S)) (S * S) (S * S) (m + 1) (nI a) s.1 s.2 = _
        have hi := nI_in ha (show S * S < 2 ^ 31 by omega)
        rw [LX0_init_38, if_neg (nI_ge ha (by omega)), if_neg hi, if_neg hi, nI_clamp (by omega), nI_1])
    (fun m s _ => by
      show LX0_init_38 (nI (S * S)) (S * S) (S * S) (m + 1) (nI (S * S)) s.1 s.2 = _
      rw [LX0_init_38, if_pos (nI_le (Nat.le_refl _) (by omega))]) 0 N (fun _ => 0, fun _ => 0) (by omega) (by omega) ⟨fun c hc => absurd hc (by omega), fun c hc => absurd hc (by omega)⟩
  have hc : ¬ (nI (S * S) < 0 ∨ 400 < S * S) := by
    rintro (h | h)
    · exact nI_pos (by omega) h
    · omega
  refine ⟨s.1, s.2, ?_, h1, h3⟩
  rw [fX0_init, pk_mul, nI_clamp (by omega), if_neg hc, if_neg hc, show LX0_init_38 (nI (S * S)) (S * S) (S * S) N 0 (fun _ => 0) (fun _ => 0) = _ from h4, Option.bind_some, if_neg hc, if_neg hc, if_neg hc]
theorem init7_s {N : Nat} {s : Int32} (hN : 1000 ≤ N) : ∃ h t, JX7_init_157 N s = some (s, h, t) ∧ (∀ c, c < 400 → h c = 100) ∧ ∀ c, c < 400 → t c = 100 := by
  obtain ⟨s', ⟨h1, h3⟩, h4⟩ := loopI (fun m a (s : (Nat → Int32) × (Nat → Int32)) => LX7_init_162 m (nI a) s.1 s.2) 400 (fun a s => (∀ c, c < a → s.1 c = 100) ∧ ∀ c, c < a → s.2 c = 100) (fun s => (nI 400, s.1, s.2))
    (fun m a s ha ⟨hP1, hP2⟩ => by
      refine ⟨(upd s.1 a 100, upd s.2 a 100), ⟨fun c hc => ?_, fun c hc => ?_⟩, ?_⟩
      · show upd s.1 a 100 c = 100
        by_cases e : c = a
        · subst e; exact pk_us
        · rw [pk_un e]; exact hP1 c (by omega)
      · show upd s.2 a 100 c = 100
        by_cases e : c = a
        · subst e; exact pk_us
        · rw [pk_un e]; exact hP2 c (by omega)
      · show LX7_init_162 (m + 1) (nI a) s.1 s.2 = _
        have hi : ¬ (nI a < 0 ∨ (400 : Int32).toNatClampNeg ≤ (nI a).toNatClampNeg) := nI_in ha (show 400 < 2 ^ 31 by omega)
        rw [LX7_init_162, if_neg hi, if_neg hi, qn400, if_neg (nI_ge ha (by omega)), nI_clamp (by omega), nI_1])
    (fun m s _ => by
      show LX7_init_162 (m + 1) (nI 400) s.1 s.2 = _
      rw [LX7_init_162, if_pos (by decide)]) 0 N (fun _ => 0, fun _ => 0) (by omega) (by omega) ⟨fun c hc => absurd hc (by omega), fun c hc => absurd hc (by omega)⟩
  exact ⟨s'.1, s'.2, by rw [JX7_init_157, show LX7_init_162 N 0 (fun _ => 0) (fun _ => 0) = _ from h4, Option.bind_some], h1, h3⟩
theorem p_init {N : Nat} {xs : Nat → Int32} {L : Nat} (hN : 1000 ≤ N) : PInit N xs L PInv := by
  unfold PInit
  generalize fL_cell1 L xs = w
  obtain ⟨S, h2, h20, e1, e2⟩ := clampS (N := N) w
  have hm := mul_400 h20 h20
  have hc : ¬ (nI (S * S) < 0 ∨ 400 < S * S) := by
    rintro (h | h)
    · exact nI_pos (by omega) h
    · omega
  obtain ⟨h, t, a1, a2, a3⟩ := init0_s (N := N) h2 h20 hN
  obtain ⟨h', t', b1, b2, b3⟩ := init7_s (N := N) (s := nI S) hN
  rw [e1, pk_mul, nI_clamp (by omega)]
  refine ⟨(h, t, 0, 0, 0, 0, 100, 0, 0), (nI S, h', t'), ?_, ?_, ⟨S, 0, 0, h2, h20, ⟨rfl, rfl, rfl, rfl, rfl, rfl⟩, ⟨rfl, rfl, rfl, rfl, rfl, rfl, rfl, rfl, rfl, rfl, rfl, rfl, rfl, rfl, rfl, rfl, rfl, rfl, rfl, rfl, rfl, rfl, rfl, rfl, rfl, rfl, rfl, rfl, rfl, rfl, rfl, rfl, rfl, rfl, rfl⟩, fun x y hx hy => ?_, fun x y hx hy => ?_, fun x y hx hy => rfl, fun t ht => ?_, ⟨rfl, rfl, by omega, fun j hj => absurd hj (by omega)⟩, ⟨rfl, ⟨fun _ => rfl, fun _ => rfl⟩, fun h => absurd rfl h, by omega, fun j hj => absurd hj (by omega)⟩, ⟨rfl, fun h => absurd rfl h⟩, fun x y hx hy => ?_, fun x y hx hy => ?_⟩⟩
  · rw [fX6_init, e1, a1, Option.bind_some, fX5_init, if_neg (by decide), Option.bind_some, Option.bind_some, Option.bind_some, Option.bind_some, fX4_init, if_neg (by decide), Option.bind_some, fX1_init, fX1_startAnew, Option.bind_some, Option.bind_some, fX2_init, pk_mul, nI_clamp (by omega), if_neg hc, if_neg hc, if_neg hc, Option.bind_some, fX3_init, if_neg (by decide), if_neg (by decide), if_neg (by decide), if_neg (by decide), if_neg (by decide), Option.bind_some, Option.bind_some]
  · rw [fX7_init, e2, b1]
    rfl
  · show t (S * y + x) = t' (20 * y + x)
    rw [a3 _ (idx_lt hx hy (Nat.le_refl _)), b3 _ (by omega)]
  · show 0 ≤ t' (20 * y + x)
    rw [b3 _ (by omega)]; decide
  · obtain rfl | rfl | rfl | rfl : t = 0 ∨ t = 1 ∨ t = 2 ∨ t = 3 := by omega
    all_goals exact ⟨0, by omega, rfl, rfl, rfl, fun d hd => ⟨0, rfl, by omega, fun u => ⟨fun hu => by rw [show u = 0 by omega, show d = 0 by omega]; exact Nat.le_refl _, fun hu => sq_of (by omega)⟩⟩⟩
  · show h (S * y + x) = h' (20 * y + x)
    rw [a2 _ (idx_lt hx hy (Nat.le_refl _)), b2 _ (by omega)]
  · show 0 ≤ h' (20 * y + x)
    rw [b2 _ (by omega)]; decide
theorem p_all : PAll 1000 PInv := fun _ _ hL => ⟨p_init (Nat.le_refl _), p_112 (Nat.le_refl _) hL, p_196 (Nat.le_refl _) hL, p_296 (Nat.le_refl _) hL, p_356 (Nat.le_refl _) hL, p_381 (Nat.le_refl _), p_394 (Nat.le_refl _) hL, p_438 (Nat.le_refl _) hL, p_494 (Nat.le_refl _) hL, p_574 (Nat.le_refl _) hL, p_630 (Nat.le_refl _) hL, p_686 (Nat.le_refl _) hL, p_699 (Nat.le_refl _) hL⟩

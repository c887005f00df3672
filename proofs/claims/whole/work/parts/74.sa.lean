set_option maxHeartbeats 1000000 in
theorem st_cell (f6_leads : Nat → Int32) (f0_offset : Nat → Int32) (f0_gain : Nat → Int32) (f0_dark : Nat → Int32) (f0_bright : Nat → Int32) (v3_ground : Int32) (v3_patches : Int32) (f3_firstRow : Nat → Int32) (f3_lastRow : Nat → Int32) (f3_firstColumn : Nat → Int32) (f3_lastColumn : Nat → Int32) (f3_slants : Nat → Int32) (f3_tints : Nat → Int32) (f3_specks : Nat → Int32) (v4_count : Int32) (f4_kinds : Nat → Int32) (f4_numbers : Nat → Int32) (v5_on : Int32) (v5_lines : Int32) (v5_reach : Int32) (v5_positions : Int32) (v5_queued : Int32) (v5_position : Int32) (v5_next : Int32) (v5_mode : Int32) (v5_outTicks : Int32) (v5_stops : Int32) (v5_ticked : Int32) (v1_count : Int32) (v1_threshold : Int32) (f1_values : Nat → Int32) (v7_done : Int32) (v7_lastPosition : Int32) (p1 : Int32) (p2 : Int32) (p3 : Int32) (p4 : Int32) (hI : Iv f6_leads f0_offset f0_gain f0_dark f0_bright v3_ground v3_patches f3_firstRow f3_lastRow f3_firstColumn f3_lastColumn f3_slants f3_tints f3_specks v4_count f4_kinds f4_numbers v5_on v5_lines v5_reach v5_positions v5_queued v5_position v5_next v5_mode v5_outTicks v5_stops v5_ticked v1_count v1_threshold f1_values v7_done v7_lastPosition) : ∃ (r : Int32) (n_f0_offset : Nat → Int32) (n_f0_gain : Nat → Int32), fX6_cell f0_offset f0_gain v5_on p1 p2 p3 p4 = some (r, n_f0_offset, n_f0_gain) ∧ fX7_cell f0_offset f0_gain v5_on p1 p2 p3 p4 = some (r, n_f0_offset, n_f0_gain) ∧ Iv f6_leads n_f0_offset n_f0_gain f0_dark f0_bright v3_ground v3_patches f3_firstRow f3_lastRow f3_firstColumn f3_lastColumn f3_slants f3_tints f3_specks v4_count f4_kinds f4_numbers v5_on v5_lines v5_reach v5_positions v5_queued v5_position v5_next v5_mode v5_outTicks v5_stops v5_ticked v1_count v1_threshold f1_values v7_done v7_lastPosition := by
  obtain ⟨hc, hp, hl, hk, hs⟩ := hI
  have e : fX7_cell f0_offset f0_gain v5_on p1 p2 p3 p4 = fX6_cell f0_offset f0_gain v5_on p1 p2 p3 p4 := by
    unfold fX7_cell fX6_cell
    rw [Int32.mul_comm 12 p1]
    rfl
  obtain ⟨r, a, b, h, hc2⟩ : ∃ r a b, fX6_cell f0_offset f0_gain v5_on p1 p2 p3 p4 = some (r, a, b) ∧ cOK a b f0_dark f0_bright := by
    unfold fX6_cell
    rcases ce_cases p1 p2 with h | ⟨h, c, k, h1, h2, rfl, rfl⟩
    · exact ⟨_, _, _, c0 h, hc⟩
    rw [c1 h]
    rcases wi_cases p3 0 63 with ⟨h, -⟩ | ⟨h, a1, a2⟩
    · exact ⟨_, _, _, c0 h, hc⟩
    rw [c1 h]
    rcases wi_cases p4 0 127 with ⟨h, -⟩ | ⟨h, b1, b2⟩
    · exact ⟨_, _, _, c0 h, hc⟩
    rw [c1 h]
    by_cases q : v5_on = 0
    · rw [if_pos q, cv (show fX0_place (nI c) (nI k) = some (nI (c * 12 + k)) from congrArg some (pl_a c k))]
      have v := vin (show c * 12 + k < 36 by omega) (by omega)
      rw [ckI_ok v, ckI_ok v, nI_clamp (by omega)]
      refine ⟨_, _, _, rfl, fun i hi => ?_⟩
      obtain ⟨q1, q2, q3, q4⟩ := hc i hi
      by_cases ei : i = c * 12 + k
      · rw [ei, up_at, up_at, ← ei]; exact ⟨⟨a1, a2⟩, ⟨b1, b2⟩, q3, q4⟩
      · rw [up_ne ei, up_ne ei]; exact ⟨q1, q2, q3, q4⟩
    · exact ⟨_, _, _, if_neg q, hc⟩
  exact ⟨r, a, b, h, e.trans h, hc2, hp, hl, hk, hs⟩
set_option maxHeartbeats 1000000 in
theorem st_strip (f6_leads : Nat → Int32) (f0_offset : Nat → Int32) (f0_gain : Nat → Int32) (f0_dark : Nat → Int32) (f0_bright : Nat → Int32) (v3_ground : Int32) (v3_patches : Int32) (f3_firstRow : Nat → Int32) (f3_lastRow : Nat → Int32) (f3_firstColumn : Nat → Int32) (f3_lastColumn : Nat → Int32) (f3_slants : Nat → Int32) (f3_tints : Nat → Int32) (f3_specks : Nat → Int32) (v4_count : Int32) (f4_kinds : Nat → Int32) (f4_numbers : Nat → Int32) (v5_on : Int32) (v5_lines : Int32) (v5_reach : Int32) (v5_positions : Int32) (v5_queued : Int32) (v5_position : Int32) (v5_next : Int32) (v5_mode : Int32) (v5_outTicks : Int32) (v5_stops : Int32) (v5_ticked : Int32) (v1_count : Int32) (v1_threshold : Int32) (f1_values : Nat → Int32) (v7_done : Int32) (v7_lastPosition : Int32) (p1 : Int32) (hI : Iv f6_leads f0_offset f0_gain f0_dark f0_bright v3_ground v3_patches f3_firstRow f3_lastRow f3_firstColumn f3_lastColumn f3_slants f3_tints f3_specks v4_count f4_kinds f4_numbers v5_on v5_lines v5_reach v5_positions v5_queued v5_position v5_next v5_mode v5_outTicks v5_stops v5_ticked v1_count v1_threshold f1_values v7_done v7_lastPosition) : ∃ (r : Int32) (n_f0_dark : Nat → Int32) (n_f0_bright : Nat → Int32), fX6_strip f0_offset f0_gain f0_dark f0_bright v5_on p1 = some (r, n_f0_dark, n_f0_bright) ∧ fX7_strip f0_offset f0_gain f0_dark f0_bright v5_on p1 = some (r, n_f0_dark, n_f0_bright) ∧ Iv f6_leads f0_offset f0_gain n_f0_dark n_f0_bright v3_ground v3_patches f3_firstRow f3_lastRow f3_firstColumn f3_lastColumn f3_slants f3_tints f3_specks v4_count f4_kinds f4_numbers v5_on v5_lines v5_reach v5_positions v5_queued v5_position v5_next v5_mode v5_outTicks v5_stops v5_ticked v1_count v1_threshold f1_values v7_done v7_lastPosition := by
  obtain ⟨hc, hp, hl, hk, hs⟩ := hI
  unfold fX6_strip fX7_strip
  rcases wi_cases p1 0 1 with ⟨h, -⟩ | ⟨h, a1, a2⟩
  · exact ⟨_, _, _, c0 h, c0 h, hc, hp, hl, hk, hs⟩
  rw [c1 h, eM_within, c1 h]
  by_cases q : v5_on = 0
  · rw [if_pos q, if_pos q]
    have hw : p1 = 0 ∨ p1 = 1 := by
      have a1' : 0 ≤ p1.toInt := a1
      have a2' : p1.toInt ≤ 1 := a2
      rw [fa_eq, fa_eq]
      show p1.toInt = 0 ∨ p1.toInt = 1
      omega
    obtain ⟨d2, b2, e1, hc2, e2⟩ := st_loop (o := f0_offset) (g := f0_gain) p1 hw 300 0 f0_dark f0_bright hc (by omega) (by omega)
    obtain ⟨r, r1, r2⟩ := cl_same hc2
    refine ⟨r, d2, b2, ?_, ?_, hc2, hp, hl, hk, hs⟩
    · have e3 : fX0_readStrip f0_offset f0_gain f0_dark f0_bright p1 = some (d2, b2) := e1
      rcases hw with rfl | rfl
      · rw [if_neg (by decide), e3]
        show cl1 (fX0_countLive d2 b2) _ = _
        rw [cv r1]
      · rw [if_pos rfl, e3]
        show cl1 (fX0_countLive d2 b2) _ = _
        rw [cv r1]
    · exact e2.trans (cv r2)
  · exact ⟨_, _, _, if_neg q, if_neg q, hc, hp, hl, hk, hs⟩
set_option maxHeartbeats 1000000 in
theorem st_ofCell (f6_leads : Nat → Int32) (f0_offset : Nat → Int32) (f0_gain : Nat → Int32) (f0_dark : Nat → Int32) (f0_bright : Nat → Int32) (v3_ground : Int32) (v3_patches : Int32) (f3_firstRow : Nat → Int32) (f3_lastRow : Nat → Int32) (f3_firstColumn : Nat → Int32) (f3_lastColumn : Nat → Int32) (f3_slants : Nat → Int32) (f3_tints : Nat → Int32) (f3_specks : Nat → Int32) (v4_count : Int32) (f4_kinds : Nat → Int32) (f4_numbers : Nat → Int32) (v5_on : Int32) (v5_lines : Int32) (v5_reach : Int32) (v5_positions : Int32) (v5_queued : Int32) (v5_position : Int32) (v5_next : Int32) (v5_mode : Int32) (v5_outTicks : Int32) (v5_stops : Int32) (v5_ticked : Int32) (v1_count : Int32) (v1_threshold : Int32) (f1_values : Nat → Int32) (v7_done : Int32) (v7_lastPosition : Int32) (p1 : Int32) (p2 : Int32) (p3 : Int32) (hI : Iv f6_leads f0_offset f0_gain f0_dark f0_bright v3_ground v3_patches f3_firstRow f3_lastRow f3_firstColumn f3_lastColumn f3_slants f3_tints f3_specks v4_count f4_kinds f4_numbers v5_on v5_lines v5_reach v5_positions v5_queued v5_position v5_next v5_mode v5_outTicks v5_stops v5_ticked v1_count v1_threshold f1_values v7_done v7_lastPosition) : ∃ (r : Int32), fX6_ofCell f0_offset f0_gain f0_dark f0_bright p1 p2 p3 = some r ∧ fX7_ofCell f0_offset f0_gain f0_dark f0_bright p1 p2 p3 = some r := by
  obtain ⟨hc, hp, hl, hk, hs⟩ := hI
  unfold fX6_ofCell fX7_ofCell
  rcases ce_cases p1 p2 with h | ⟨h, c, k, h1, h2, rfl, rfl⟩
  · exact ⟨_, c0 h, c0 h⟩
  rw [c1 h, eM_isCell, c1 h, cv (show fX0_place (nI c) (nI k) = some (nI (c * 12 + k)) from congrArg some (pl_a c k)), pl_b]
  have hi : c * 12 + k < 36 := by omega
  have v := vin hi (show 36 < 2 ^ 31 by omega)
  refine sm_ite Iff.rfl (fun _ => sm_ckI v v (sm_som _)) (fun _ => sm_ite Iff.rfl (fun _ => sm_ckI v v (sm_som _)) (fun _ => sm_ite Iff.rfl (fun _ => sm_ckI v v (sm_som _)) (fun _ => sm_ite Iff.rfl (fun _ => sm_ckI v v (sm_som _)) (fun _ => sm_ite Iff.rfl (fun _ => ?_) (fun _ => sm_som _)))))
  rcases lv_cases hc hi with ⟨e1, e2, -⟩ | ⟨e1, e2, -⟩
  · rw [c0 e1, c0 e2]; exact sm_som _
  · rw [c1 e1, c1 e2]; exact sm_som _
set_option maxHeartbeats 1000000 in
theorem st_reading (f6_leads : Nat → Int32) (f0_offset : Nat → Int32) (f0_gain : Nat → Int32) (f0_dark : Nat → Int32) (f0_bright : Nat → Int32) (v3_ground : Int32) (v3_patches : Int32) (f3_firstRow : Nat → Int32) (f3_lastRow : Nat → Int32) (f3_firstColumn : Nat → Int32) (f3_lastColumn : Nat → Int32) (f3_slants : Nat → Int32) (f3_tints : Nat → Int32) (f3_specks : Nat → Int32) (v4_count : Int32) (f4_kinds : Nat → Int32) (f4_numbers : Nat → Int32) (v5_on : Int32) (v5_lines : Int32) (v5_reach : Int32) (v5_positions : Int32) (v5_queued : Int32) (v5_position : Int32) (v5_next : Int32) (v5_mode : Int32) (v5_outTicks : Int32) (v5_stops : Int32) (v5_ticked : Int32) (v1_count : Int32) (v1_threshold : Int32) (f1_values : Nat → Int32) (v7_done : Int32) (v7_lastPosition : Int32) (p1 : Int32) (p2 : Int32) (p3 : Int32) (hI : Iv f6_leads f0_offset f0_gain f0_dark f0_bright v3_ground v3_patches f3_firstRow f3_lastRow f3_firstColumn f3_lastColumn f3_slants f3_tints f3_specks v4_count f4_kinds f4_numbers v5_on v5_lines v5_reach v5_positions v5_queued v5_position v5_next v5_mode v5_outTicks v5_stops v5_ticked v1_count v1_threshold f1_values v7_done v7_lastPosition) : ∃ (r : Int32), fX6_reading f0_offset f0_gain p1 p2 p3 = some r ∧ fX7_reading f0_offset f0_gain p1 p2 p3 = some r := by
  obtain ⟨hc, hp, hl, hk, hs⟩ := hI
  unfold fX6_reading fX7_reading
  rcases ce_cases p1 p2 with h | ⟨h, c, k, h1, h2, rfl, rfl⟩
  · exact ⟨_, c0 h, c0 h⟩
  rw [c1 h, eM_isCell, c1 h]
  rcases wi_cases p3 0 255 with ⟨h, -⟩ | ⟨h, -, -⟩
  · exact ⟨_, c0 h, c0 h⟩
  rw [c1 h, eM_within, c1 h, cv (show fX0_place (nI c) (nI k) = some (nI (c * 12 + k)) from congrArg some (pl_a c k)), pl_b, rd_M, rd_X (show c * 12 + k < 36 by omega)]
  exact sm_som _
set_option maxHeartbeats 1000000 in
theorem st_even (f6_leads : Nat → Int32) (f0_offset : Nat → Int32) (f0_gain : Nat → Int32) (f0_dark : Nat → Int32) (f0_bright : Nat → Int32) (v3_ground : Int32) (v3_patches : Int32) (f3_firstRow : Nat → Int32) (f3_lastRow : Nat → Int32) (f3_firstColumn : Nat → Int32) (f3_lastColumn : Nat → Int32) (f3_slants : Nat → Int32) (f3_tints : Nat → Int32) (f3_specks : Nat → Int32) (v4_count : Int32) (f4_kinds : Nat → Int32) (f4_numbers : Nat → Int32) (v5_on : Int32) (v5_lines : Int32) (v5_reach : Int32) (v5_positions : Int32) (v5_queued : Int32) (v5_position : Int32) (v5_next : Int32) (v5_mode : Int32) (v5_outTicks : Int32) (v5_stops : Int32) (v5_ticked : Int32) (v1_count : Int32) (v1_threshold : Int32) (f1_values : Nat → Int32) (v7_done : Int32) (v7_lastPosition : Int32) (p1 : Int32) (p2 : Int32) (p3 : Int32) (hI : Iv f6_leads f0_offset f0_gain f0_dark f0_bright v3_ground v3_patches f3_firstRow f3_lastRow f3_firstColumn f3_lastColumn f3_slants f3_tints f3_specks v4_count f4_kinds f4_numbers v5_on v5_lines v5_reach v5_positions v5_queued v5_position v5_next v5_mode v5_outTicks v5_stops v5_ticked v1_count v1_threshold f1_values v7_done v7_lastPosition) : ∃ (r : Int32), fX6_even f0_dark f0_bright p1 p2 p3 = some r ∧ fX7_even f0_dark f0_bright p1 p2 p3 = some r := by
  obtain ⟨hc, hp, hl, hk, hs⟩ := hI
  unfold fX6_even fX7_even
  rcases ce_cases p1 p2 with h | ⟨h, c, k, h1, h2, rfl, rfl⟩
  · exact ⟨_, c0 h, c0 h⟩
  rw [c1 h, eM_isCell, c1 h]
  rcases wi_cases p3 0 255 with ⟨h, -⟩ | ⟨h, -, -⟩
  · exact ⟨_, c0 h, c0 h⟩
  have hi : c * 12 + k < 36 := by omega
  rw [c1 h, eM_within, c1 h, cv (show fX0_place (nI c) (nI k) = some (nI (c * 12 + k)) from congrArg some (pl_a c k)), pl_b]
  rcases lv_cases hc hi with ⟨e1, e2, -⟩ | ⟨e1, e2, hv⟩
  · exact ⟨_, c0 e1, c0 e2⟩
  · rw [c1 e1, c1 e2]
    exact sm_call (ev_same hc hi hv p3) (fun r _ => sm_som r)
set_option maxHeartbeats 1000000 in
theorem st_ground (f6_leads : Nat → Int32) (f0_offset : Nat → Int32) (f0_gain : Nat → Int32) (f0_dark : Nat → Int32) (f0_bright : Nat → Int32) (v3_ground : Int32) (v3_patches : Int32) (f3_firstRow : Nat → Int32) (f3_lastRow : Nat → Int32) (f3_firstColumn : Nat → Int32) (f3_lastColumn : Nat → Int32) (f3_slants : Nat → Int32) (f3_tints : Nat → Int32) (f3_specks : Nat → Int32) (v4_count : Int32) (f4_kinds : Nat → Int32) (f4_numbers : Nat → Int32) (v5_on : Int32) (v5_lines : Int32) (v5_reach : Int32) (v5_positions : Int32) (v5_queued : Int32) (v5_position : Int32) (v5_next : Int32) (v5_mode : Int32) (v5_outTicks : Int32) (v5_stops : Int32) (v5_ticked : Int32) (v1_count : Int32) (v1_threshold : Int32) (f1_values : Nat → Int32) (v7_done : Int32) (v7_lastPosition : Int32) (p1 : Int32) (hI : Iv f6_leads f0_offset f0_gain f0_dark f0_bright v3_ground v3_patches f3_firstRow f3_lastRow f3_firstColumn f3_lastColumn f3_slants f3_tints f3_specks v4_count f4_kinds f4_numbers v5_on v5_lines v5_reach v5_positions v5_queued v5_position v5_next v5_mode v5_outTicks v5_stops v5_ticked v1_count v1_threshold f1_values v7_done v7_lastPosition) : ∃ (r : Int32) (n_v3_ground : Int32), fX6_ground v3_ground v5_on p1 = some (r, n_v3_ground) ∧ fX7_ground v3_ground v5_on p1 = some (r, n_v3_ground) ∧ Iv f6_leads f0_offset f0_gain f0_dark f0_bright n_v3_ground v3_patches f3_firstRow f3_lastRow f3_firstColumn f3_lastColumn f3_slants f3_tints f3_specks v4_count f4_kinds f4_numbers v5_on v5_lines v5_reach v5_positions v5_queued v5_position v5_next v5_mode v5_outTicks v5_stops v5_ticked v1_count v1_threshold f1_values v7_done v7_lastPosition := by
  unfold fX6_ground fX7_ground
  rcases wi_cases p1 0 255 with ⟨h, -⟩ | ⟨h, -, -⟩
  · exact ⟨_, _, c0 h, c0 h, hI⟩
  rw [c1 h, eM_within, c1 h]
  by_cases q : v5_on = 0
  · exact ⟨_, _, if_pos q, if_pos q, hI⟩
  · exact ⟨_, _, if_neg q, if_neg q, hI⟩
set_option maxHeartbeats 1000000 in
theorem st_threshold (f6_leads : Nat → Int32) (f0_offset : Nat → Int32) (f0_gain : Nat → Int32) (f0_dark : Nat → Int32) (f0_bright : Nat → Int32) (v3_ground : Int32) (v3_patches : Int32) (f3_firstRow : Nat → Int32) (f3_lastRow : Nat → Int32) (f3_firstColumn : Nat → Int32) (f3_lastColumn : Nat → Int32) (f3_slants : Nat → Int32) (f3_tints : Nat → Int32) (f3_specks : Nat → Int32) (v4_count : Int32) (f4_kinds : Nat → Int32) (f4_numbers : Nat → Int32) (v5_on : Int32) (v5_lines : Int32) (v5_reach : Int32) (v5_positions : Int32) (v5_queued : Int32) (v5_position : Int32) (v5_next : Int32) (v5_mode : Int32) (v5_outTicks : Int32) (v5_stops : Int32) (v5_ticked : Int32) (v1_count : Int32) (v1_threshold : Int32) (f1_values : Nat → Int32) (v7_done : Int32) (v7_lastPosition : Int32) (p1 : Int32) (hI : Iv f6_leads f0_offset f0_gain f0_dark f0_bright v3_ground v3_patches f3_firstRow f3_lastRow f3_firstColumn f3_lastColumn f3_slants f3_tints f3_specks v4_count f4_kinds f4_numbers v5_on v5_lines v5_reach v5_positions v5_queued v5_position v5_next v5_mode v5_outTicks v5_stops v5_ticked v1_count v1_threshold f1_values v7_done v7_lastPosition) : ∃ (r : Int32) (n_v1_threshold : Int32), fX6_threshold v5_on v1_threshold p1 = some (r, n_v1_threshold) ∧ fX7_threshold v1_threshold v5_on p1 = some (r, n_v1_threshold) ∧ Iv f6_leads f0_offset f0_gain f0_dark f0_bright v3_ground v3_patches f3_firstRow f3_lastRow f3_firstColumn f3_lastColumn f3_slants f3_tints f3_specks v4_count f4_kinds f4_numbers v5_on v5_lines v5_reach v5_positions v5_queued v5_position v5_next v5_mode v5_outTicks v5_stops v5_ticked v1_count n_v1_threshold f1_values v7_done v7_lastPosition := by
  unfold fX6_threshold fX7_threshold
  rcases wi_cases p1 0 256 with ⟨h, -⟩ | ⟨h, -, -⟩
  · exact ⟨_, _, c0 h, c0 h, hI⟩
  rw [c1 h, eM_within, c1 h]
  by_cases q : v5_on = 0
  · exact ⟨_, _, if_pos q, if_pos q, hI⟩
  · exact ⟨_, _, if_neg q, if_neg q, hI⟩
set_option maxHeartbeats 1000000 in
theorem st_blank (f6_leads : Nat → Int32) (f0_offset : Nat → Int32) (f0_gain : Nat → Int32) (f0_dark : Nat → Int32) (f0_bright : Nat → Int32) (v3_ground : Int32) (v3_patches : Int32) (f3_firstRow : Nat → Int32) (f3_lastRow : Nat → Int32) (f3_firstColumn : Nat → Int32) (f3_lastColumn : Nat → Int32) (f3_slants : Nat → Int32) (f3_tints : Nat → Int32) (f3_specks : Nat → Int32) (v4_count : Int32) (f4_kinds : Nat → Int32) (f4_numbers : Nat → Int32) (v5_on : Int32) (v5_lines : Int32) (v5_reach : Int32) (v5_positions : Int32) (v5_queued : Int32) (v5_position : Int32) (v5_next : Int32) (v5_mode : Int32) (v5_outTicks : Int32) (v5_stops : Int32) (v5_ticked : Int32) (v1_count : Int32) (v1_threshold : Int32) (f1_values : Nat → Int32) (v7_done : Int32) (v7_lastPosition : Int32)  (hI : Iv f6_leads f0_offset f0_gain f0_dark f0_bright v3_ground v3_patches f3_firstRow f3_lastRow f3_firstColumn f3_lastColumn f3_slants f3_tints f3_specks v4_count f4_kinds f4_numbers v5_on v5_lines v5_reach v5_positions v5_queued v5_position v5_next v5_mode v5_outTicks v5_stops v5_ticked v1_count v1_threshold f1_values v7_done v7_lastPosition) : ∃ (r : Int32) (n_v3_patches : Int32), fX6_blank v3_patches v5_on = some (r, n_v3_patches) ∧ fX7_blank v3_patches v5_on = some (r, n_v3_patches) ∧ Iv f6_leads f0_offset f0_gain f0_dark f0_bright v3_ground n_v3_patches f3_firstRow f3_lastRow f3_firstColumn f3_lastColumn f3_slants f3_tints f3_specks v4_count f4_kinds f4_numbers v5_on v5_lines v5_reach v5_positions v5_queued v5_position v5_next v5_mode v5_outTicks v5_stops v5_ticked v1_count v1_threshold f1_values v7_done v7_lastPosition := by
  obtain ⟨hc, hp, hl, hk, hs⟩ := hI
  unfold fX6_blank fX7_blank
  by_cases q : v5_on = 0
  · refine ⟨_, _, if_pos q, if_pos q, hc, ⟨⟨by decide, by decide⟩, fun i hi => ?_⟩, hl, hk, hs⟩
    have : (i : Int) < 0 := hi
    omega
  · exact ⟨_, _, if_neg q, if_neg q, hc, hp, hl, hk, hs⟩
set_option maxHeartbeats 1000000 in
theorem st_speck (f6_leads : Nat → Int32) (f0_offset : Nat → Int32) (f0_gain : Nat → Int32) (f0_dark : Nat → Int32) (f0_bright : Nat → Int32) (v3_ground : Int32) (v3_patches : Int32) (f3_firstRow : Nat → Int32) (f3_lastRow : Nat → Int32) (f3_firstColumn : Nat → Int32) (f3_lastColumn : Nat → Int32) (f3_slants : Nat → Int32) (f3_tints : Nat → Int32) (f3_specks : Nat → Int32) (v4_count : Int32) (f4_kinds : Nat → Int32) (f4_numbers : Nat → Int32) (v5_on : Int32) (v5_lines : Int32) (v5_reach : Int32) (v5_positions : Int32) (v5_queued : Int32) (v5_position : Int32) (v5_next : Int32) (v5_mode : Int32) (v5_outTicks : Int32) (v5_stops : Int32) (v5_ticked : Int32) (v1_count : Int32) (v1_threshold : Int32) (f1_values : Nat → Int32) (v7_done : Int32) (v7_lastPosition : Int32) (p1 : Int32) (p2 : Int32) (hI : Iv f6_leads f0_offset f0_gain f0_dark f0_bright v3_ground v3_patches f3_firstRow f3_lastRow f3_firstColumn f3_lastColumn f3_slants f3_tints f3_specks v4_count f4_kinds f4_numbers v5_on v5_lines v5_reach v5_positions v5_queued v5_position v5_next v5_mode v5_outTicks v5_stops v5_ticked v1_count v1_threshold f1_values v7_done v7_lastPosition) : ∃ (r : Int32) (n_f3_specks : Nat → Int32), fX6_speck f3_specks v5_on p1 p2 = some (r, n_f3_specks) ∧ fX7_speck f3_specks v5_on p1 p2 = some (r, n_f3_specks) ∧ Iv f6_leads f0_offset f0_gain f0_dark f0_bright v3_ground v3_patches f3_firstRow f3_lastRow f3_firstColumn f3_lastColumn f3_slants f3_tints n_f3_specks v4_count f4_kinds f4_numbers v5_on v5_lines v5_reach v5_positions v5_queued v5_position v5_next v5_mode v5_outTicks v5_stops v5_ticked v1_count v1_threshold f1_values v7_done v7_lastPosition := by
  unfold fX6_speck fX7_speck
  rcases cm_cases p1 with ⟨h, -⟩ | ⟨h, k, hk, rfl⟩
  · exact ⟨_, _, c0 h, c0 h, hI⟩
  rw [c1 h, eM_isColumn, c1 h]
  rcases wi_cases p2 0 255 with ⟨h, -⟩ | ⟨h, -, -⟩
  · exact ⟨_, _, c0 h, c0 h, hI⟩
  rw [c1 h, eM_within, c1 h]
  have v := vin hk (show 12 < 2 ^ 31 by omega)
  by_cases q : v5_on = 0
  · rw [if_pos q, ckI_ok v, ckI_ok v]; exact ⟨_, _, rfl, rfl, hI⟩
  · exact ⟨_, _, if_neg q, if_neg q, hI⟩

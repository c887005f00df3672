set_option maxHeartbeats 4000000 in
set_option maxRecDepth 100000 in
theorem kX6_isColour (l : Launch) (H : Heap) (p1 : Int32) (r : Int32) (hf : fX6_isColour p1 = some r) : Met l yX6_isColour wsX6_isColour ({ frames := 1, cells := 0, slots := 0, locals := 22 }) (roP0 [.int p1] H) (roQi r H) 0 0 (fun _ => False) := by
  refine Met.ofW (cc := cX6_isColour) (maxL := 1) (ret := (some .boolean)) (by decide) rfl ?_
  intro p e s m args below meth c s₁ B hml hv
  obtain ⟨rfl, hH⟩ := hv
  have hx := B.exec
  have hb := B.bytes
  have hr := B.returns
  have hts := atoms_spec (ws := wsX6_isColour) B.pre
  have hown : s.vm.findClass RX6 = some m.cls := findClass_of_methodNamed B.named
  have hlocks := B.notSynchronized
  subst hH
  have hS : va_S (fun _ => False) s.heap s.heap [] := va_S.rf
  have hl := lv_entry ([.int p1]) (n := 1) (Nat.le_of_ble_eq_true rfl)
  rw [lg_entry_eq]
  generalize (lg_sl ([.int p1]) ++ List.replicate (1 - (lg_sl ([.int p1])).length) Slot.unset).toArray = ls at hl ⊢
  have hl : lv_has ls 1 [(0, .int p1)] := hl
  unfold fX6_isColour at hf
  refine lv_iload_n hx hb dX6_isColour_0 rfl (lv_at hl 0 rfl) ?_
  refine lv_iconst (v := (0 : Int32)) hx hb dX6_isColour_1 (by decide) ?_
  refine lv_iconst (v := (2 : Int32)) hx hb dX6_isColour_2 (by decide) ?_
  obtain ⟨r1, hr1, hf⟩ := cl1_sp hf
  refine ro_S (As := [.int p1, .int (0 : Int32), .int (2 : Int32)]) ⟨hx, hb, hml, hown, hts⟩ (kX2_within l _ p1 (0 : Int32) (2 : Int32) r1 hr1) (va_cwS 3 hts gX6_isColour_X2_within rfl rfl rfl (by decide +kernel) ⟨Nat.le_of_ble_eq_true rfl, Nat.le_of_ble_eq_true rfl⟩) hS rfl hl.1 rfl (Nat.le_of_ble_eq_true rfl) dX6_isColour_3 (Nat.zero_le _) (Nat.zero_le _) (fun locs hS => ?_)
  obtain ⟨hnb, hf⟩ := ckB_sp hf
  exact W.zret (v := r1) hx hb hr hnb (fun t ht hW => ⟨⟨_, (), rfl, Option.some.inj hf, ht⟩, hS.F ht⟩) hS.2.2 dX6_isColour_6
set_option maxHeartbeats 4000000 in
set_option maxRecDepth 100000 in
theorem kX6_isColumn (l : Launch) (H : Heap) (p1 : Int32) (r : Int32) (hf : fX6_isColumn p1 = some r) : Met l yX6_isColumn wsX6_isColumn ({ frames := 1, cells := 0, slots := 0, locals := 22 }) (roP0 [.int p1] H) (roQi r H) 0 0 (fun _ => False) := by
  refine Met.ofW (cc := cX6_isColumn) (maxL := 1) (ret := (some .boolean)) (by decide) rfl ?_
  intro p e s m args below meth c s₁ B hml hv
  obtain ⟨rfl, hH⟩ := hv
  have hx := B.exec
  have hb := B.bytes
  have hr := B.returns
  have hts := atoms_spec (ws := wsX6_isColumn) B.pre
  have hown : s.vm.findClass RX6 = some m.cls := findClass_of_methodNamed B.named
  have hlocks := B.notSynchronized
  subst hH
  have hS : va_S (fun _ => False) s.heap s.heap [] := va_S.rf
  have hl := lv_entry ([.int p1]) (n := 1) (Nat.le_of_ble_eq_true rfl)
  rw [lg_entry_eq]
  generalize (lg_sl ([.int p1]) ++ List.replicate (1 - (lg_sl ([.int p1])).length) Slot.unset).toArray = ls at hl ⊢
  have hl : lv_has ls 1 [(0, .int p1)] := hl
  unfold fX6_isColumn at hf
  refine lv_iload_n hx hb dX6_isColumn_0 rfl (lv_at hl 0 rfl) ?_
  refine lv_iconst (v := (0 : Int32)) hx hb dX6_isColumn_1 (by decide) ?_
  refine lv_bipush (v := (11 : Int32)) hx hb dX6_isColumn_2 (by decide) ?_
  obtain ⟨r1, hr1, hf⟩ := cl1_sp hf
  refine ro_S (As := [.int p1, .int (0 : Int32), .int (11 : Int32)]) ⟨hx, hb, hml, hown, hts⟩ (kX2_within l _ p1 (0 : Int32) (11 : Int32) r1 hr1) (va_cwS 3 hts gX6_isColumn_X2_within rfl rfl rfl (by decide +kernel) ⟨Nat.le_of_ble_eq_true rfl, Nat.le_of_ble_eq_true rfl⟩) hS rfl hl.1 rfl (Nat.le_of_ble_eq_true rfl) dX6_isColumn_4 (Nat.zero_le _) (Nat.zero_le _) (fun locs hS => ?_)
  obtain ⟨hnb, hf⟩ := ckB_sp hf
  exact W.zret (v := r1) hx hb hr hnb (fun t ht hW => ⟨⟨_, (), rfl, Option.some.inj hf, ht⟩, hS.F ht⟩) hS.2.2 dX6_isColumn_7
set_option maxHeartbeats 4000000 in
set_option maxRecDepth 100000 in
theorem kX6_isCell (l : Launch) (H : Heap) (p1 : Int32) (p2 : Int32) (r : Int32) (hf : fX6_isCell p1 p2 = some r) : Met l yX6_isCell wsX6_isCell ({ frames := 2, cells := 0, slots := 0, locals := 42 }) (roP0 [.int p1, .int p2] H) (roQi r H) 0 0 (fun _ => False) := by
  refine Met.ofW (cc := cX6_isCell) (maxL := 2) (ret := (some .boolean)) (by decide) rfl ?_
  intro p e s m args below meth c s₁ B hml hv
  obtain ⟨rfl, hH⟩ := hv
  have hx := B.exec
  have hb := B.bytes
  have hr := B.returns
  have hts := atoms_spec (ws := wsX6_isCell) B.pre
  have hown : s.vm.findClass RX6 = some m.cls := findClass_of_methodNamed B.named
  have hlocks := B.notSynchronized
  subst hH
  have hS : va_S (fun _ => False) s.heap s.heap [] := va_S.rf
  have hl := lv_entry ([.int p1, .int p2]) (n := 2) (Nat.le_of_ble_eq_true rfl)
  rw [lg_entry_eq]
  generalize (lg_sl ([.int p1, .int p2]) ++ List.replicate (2 - (lg_sl ([.int p1, .int p2])).length) Slot.unset).toArray = ls at hl ⊢
  have hl : lv_has ls 2 [(0, .int p1), (1, .int p2)] := hl
  unfold fX6_isCell at hf
  refine lv_iload_n hx hb dX6_isCell_0 rfl (lv_at hl 0 rfl) ?_
  obtain ⟨r1, hr1, hf⟩ := cl1_sp hf
  refine ro_S (As := [.int p1]) ⟨hx, hb, hml, hown, hts⟩ (kX6_isColour l _ p1 r1 hr1) (va_cwS 1 hts gX6_isCell_X6_isColour rfl rfl rfl (by decide +kernel) ⟨Nat.le_of_ble_eq_true rfl, Nat.le_of_ble_eq_true rfl⟩) hS rfl hl.1 rfl (Nat.le_of_ble_eq_true rfl) dX6_isCell_1 (Nat.zero_le _) (Nat.zero_le _) (fun locs hS => ?_)
  refine lv_if_eq (tgt := 18) hx hb dX6_isCell_4 (by decide) (fun hc => ?_) (fun hc => ?_)
  · have hf := it_p hc hf
    refine lv_iconst (v := (0 : Int32)) hx hb dX6_isCell_18 (by decide) ?_
    exact W.zret (v := (0 : Int32)) hx hb hr rfl (fun t ht hW => ⟨⟨_, (), rfl, Option.some.inj hf, ht⟩, hS.F ht⟩) hS.2.2 dX6_isCell_19
  · have hf := it_n hc hf
    refine lv_iload_n hx hb dX6_isCell_7 rfl (lv_at hl 1 rfl) ?_
    obtain ⟨r2, hr2, hf⟩ := cl1_sp hf
    refine ro_S (As := [.int p2]) ⟨hx, hb, hml, hown, hts⟩ (kX6_isColumn l _ p2 r2 hr2) (va_cwS 1 hts gX6_isCell_X6_isColumn rfl rfl rfl (by decide +kernel) ⟨Nat.le_of_ble_eq_true rfl, Nat.le_of_ble_eq_true rfl⟩) hS rfl hl.1 rfl (Nat.le_of_ble_eq_true rfl) dX6_isCell_8 (Nat.zero_le _) (Nat.zero_le _) (fun locs hS => ?_)
    refine lv_if_eq (tgt := 18) hx hb dX6_isCell_11 (by decide) (fun hc => ?_) (fun hc => ?_)
    · have hf := it_p hc hf
      refine lv_iconst (v := (0 : Int32)) hx hb dX6_isCell_18 (by decide) ?_
      exact W.zret (v := (0 : Int32)) hx hb hr rfl (fun t ht hW => ⟨⟨_, (), rfl, Option.some.inj hf, ht⟩, hS.F ht⟩) hS.2.2 dX6_isCell_19
    · have hf := it_n hc hf
      refine lv_iconst (v := (1 : Int32)) hx hb dX6_isCell_14 (by decide) ?_
      refine lv_goto (tgt := 19) hx hb dX6_isCell_15 (by decide) ?_
      exact W.zret (v := (1 : Int32)) hx hb hr rfl (fun t ht hW => ⟨⟨_, (), rfl, Option.some.inj hf, ht⟩, hS.F ht⟩) hS.2.2 dX6_isCell_19
set_option maxHeartbeats 4000000 in
set_option maxRecDepth 100000 in
theorem kX6_cell (l : Launch) (dC : Nat → ClassId) (dI : Nat → Nat → Nat) (cy : ClassId) (sz : Nat) (a6 a6_leads a0 a0_offset a0_gain a0_dark a0_bright a3 a3_firstRow a3_lastRow a3_firstColumn a3_lastColumn a3_slants a3_tints a3_specks a4 a4_kinds a4_numbers a5 a1 a1_values : Nat) (f6_leads : Nat → Int32) (f0_offset : Nat → Int32) (f0_gain : Nat → Int32) (f0_dark : Nat → Int32) (f0_bright : Nat → Int32) (v3_ground : Int32) (v3_patches : Int32) (f3_firstRow : Nat → Int32) (f3_lastRow : Nat → Int32) (f3_firstColumn : Nat → Int32) (f3_lastColumn : Nat → Int32) (f3_slants : Nat → Int32) (f3_tints : Nat → Int32) (f3_specks : Nat → Int32) (v4_count : Int32) (f4_kinds : Nat → Int32) (f4_numbers : Nat → Int32) (v5_on : Int32) (v5_lines : Int32) (v5_reach : Int32) (v5_positions : Int32) (v5_queued : Int32) (v5_position : Int32) (v5_next : Int32) (v5_mode : Int32) (v5_outTicks : Int32) (v5_stops : Int32) (v5_ticked : Int32) (v1_count : Int32) (v1_threshold : Int32) (f1_values : Nat → Int32) (p1 : Int32) (p2 : Int32) (p3 : Int32) (p4 : Int32) (r : Int32) (o_f0_offset : Nat → Int32) (o_f0_gain : Nat → Int32) (hf : fX6_cell f0_offset f0_gain v5_on p1 p2 p3 p4 = some (r, o_f0_offset, o_f0_gain)) : Met l yX6_cell wsX6_cell ({ frames := 3, cells := 0, slots := 0, locals := 63 }) (rwP [.ref a6, .int p1, .int p2, .int p3, .int p4] (dC, dI) vwCl (WX6 cy a6 a6_leads a0 a0_offset a0_gain a0_dark a0_bright a3 a3_firstRow a3_lastRow a3_firstColumn a3_lastColumn a3_slants a3_tints a3_specks a4 a4_kinds a4_numbers a5 a1 a1_values f6_leads f0_offset f0_gain f0_dark f0_bright v3_ground v3_patches f3_firstRow f3_lastRow f3_firstColumn f3_lastColumn f3_slants f3_tints f3_specks v4_count f4_kinds f4_numbers v5_on v5_lines v5_reach v5_positions v5_queued v5_position v5_next v5_mode v5_outTicks v5_stops v5_ticked v1_count v1_threshold f1_values) [(cy, .int)] sz) (rwQi r (dC, dI) vwCl (WX6 cy a6 a6_leads a0 a0_offset a0_gain a0_dark a0_bright a3 a3_firstRow a3_lastRow a3_firstColumn a3_lastColumn a3_slants a3_tints a3_specks a4 a4_kinds a4_numbers a5 a1 a1_values f6_leads o_f0_offset o_f0_gain f0_dark f0_bright v3_ground v3_patches f3_firstRow f3_lastRow f3_firstColumn f3_lastColumn f3_slants f3_tints f3_specks v4_count f4_kinds f4_numbers v5_on v5_lines v5_reach v5_positions v5_queued v5_position v5_next v5_mode v5_outTicks v5_stops v5_ticked v1_count v1_threshold f1_values) (va_A (WX6 cy a6 a6_leads a0 a0_offset a0_gain a0_dark a0_bright a3 a3_firstRow a3_lastRow a3_firstColumn a3_lastColumn a3_slants a3_tints a3_specks a4 a4_kinds a4_numbers a5 a1 a1_values f6_leads f0_offset f0_gain f0_dark f0_bright v3_ground v3_patches f3_firstRow f3_lastRow f3_firstColumn f3_lastColumn f3_slants f3_tints f3_specks v4_count f4_kinds f4_numbers v5_on v5_lines v5_reach v5_positions v5_queued v5_position v5_next v5_mode v5_outTicks v5_stops v5_ticked v1_count v1_threshold f1_values) sz)) 0 0 (va_A (WX6 cy a6 a6_leads a0 a0_offset a0_gain a0_dark a0_bright a3 a3_firstRow a3_lastRow a3_firstColumn a3_lastColumn a3_slants a3_tints a3_specks a4 a4_kinds a4_numbers a5 a1 a1_values f6_leads f0_offset f0_gain f0_dark f0_bright v3_ground v3_patches f3_firstRow f3_lastRow f3_firstColumn f3_lastColumn f3_slants f3_tints f3_specks v4_count f4_kinds f4_numbers v5_on v5_lines v5_reach v5_positions v5_queued v5_position v5_next v5_mode v5_outTicks v5_stops v5_ticked v1_count v1_threshold f1_values) sz) := by
  refine Met.ofW (cc := cX6_cell) (maxL := 6) (ret := (some .int)) (by decide) rfl ?_
  intro p e s m args below meth c s₁ B hml hv
  obtain ⟨rfl, hsz, hP, hK, hD0⟩ := hv
  have hx := B.exec
  have hb := B.bytes
  have hr := B.returns
  have hts := atoms_spec (ws := wsX6_cell) B.pre
  have hown : s.vm.findClass RX6 = some m.cls := findClass_of_methodNamed B.named
  have hlocks := B.notSynchronized
  have hiX6 : ∀ w ∈ u_ws RX6 TX6 6, w ∈ wsX6_cell := fun _ h => List.mem_cons_of_mem _ (List.mem_append_left _ (List.mem_append_left _ ((List.mem_append_right _ h))))
  have hiX5 : ∀ w ∈ u_ws RX5 TX5 11, w ∈ wsX6_cell := fun _ h => List.mem_cons_of_mem _ (List.mem_append_left _ ((List.mem_append_right _ h)))
  have hiX0 : ∀ w ∈ u_ws RX0 TX0 4, w ∈ wsX6_cell := fun _ h => List.mem_cons_of_mem _ ((List.mem_append_right _ h))
  subst hsz
  have hD := hD0.self (sz := s.heap.size)
  generalize hAe : va_A (WX6 cy a6 a6_leads a0 a0_offset a0_gain a0_dark a0_bright a3 a3_firstRow a3_lastRow a3_firstColumn a3_lastColumn a3_slants a3_tints a3_specks a4 a4_kinds a4_numbers a5 a1 a1_values f6_leads f0_offset f0_gain f0_dark f0_bright v3_ground v3_patches f3_firstRow f3_lastRow f3_firstColumn f3_lastColumn f3_slants f3_tints f3_specks v4_count f4_kinds f4_numbers v5_on v5_lines v5_reach v5_positions v5_queued v5_position v5_next v5_mode v5_outTicks v5_stops v5_ticked v1_count v1_threshold f1_values) s.heap.size = A0 at hD ⊢
  have hA : ∀ q : Nat, s.heap.size ≤ q → A0 q := fun q h => by rw [← hAe]; exact Or.inr h
  have hS : va_S A0 s.heap s.heap [] := va_S.rf
  have hl := lv_entry ([.ref a6, .int p1, .int p2, .int p3, .int p4]) (n := 6) (Nat.le_of_ble_eq_true rfl)
  rw [lg_entry_eq]
  generalize (lg_sl ([.ref a6, .int p1, .int p2, .int p3, .int p4]) ++ List.replicate (6 - (lg_sl ([.ref a6, .int p1, .int p2, .int p3, .int p4])).length) Slot.unset).toArray = ls at hl ⊢
  have hl : lv_has ls 6 [(0, .ref a6), (1, .int p1), (2, .int p2), (3, .int p3), (4, .int p4)] := hl
  unfold fX6_cell at hf
  refine lv_iload_n hx hb dX6_cell_0 rfl (lv_at hl 1 rfl) ?_
  refine lv_iload_n hx hb dX6_cell_1 rfl (lv_at hl 2 rfl) ?_
  obtain ⟨r1, hr1, hf⟩ := cl1_sp hf
  refine ro_S (As := [.int p1, .int p2]) ⟨hx, hb, hml, hown, hts⟩ (kX6_isCell l _ p1 p2 r1 hr1) (va_cwS 2 hts gX6_cell_X6_isCell rfl rfl rfl (by decide +kernel) ⟨Nat.le_of_ble_eq_true rfl, Nat.le_of_ble_eq_true rfl⟩) hS rfl hl.1 rfl (Nat.le_of_ble_eq_true rfl) dX6_cell_2 (Nat.zero_le _) (Nat.zero_le _) (fun locs hS => ?_)
  refine lv_if_ne (tgt := 10) hx hb dX6_cell_5 (by decide) (fun hc => ?_) (fun hc => ?_)
  · have hf := it_n hc hf
    refine lv_iload_n hx hb dX6_cell_10 rfl (lv_at hl 3 rfl) ?_
    refine lv_iconst (v := (0 : Int32)) hx hb dX6_cell_11 (by decide) ?_
    refine lv_bipush (v := (63 : Int32)) hx hb dX6_cell_12 (by decide) ?_
    obtain ⟨r2, hr2, hf⟩ := cl1_sp hf
    refine ro_S (As := [.int p3, .int (0 : Int32), .int (63 : Int32)]) ⟨hx, hb, hml, hown, hts⟩ (kX2_within l _ p3 (0 : Int32) (63 : Int32) r2 hr2) (va_cwS 3 hts gX6_cell_X2_within rfl rfl rfl (by decide +kernel) ⟨Nat.le_of_ble_eq_true rfl, Nat.le_of_ble_eq_true rfl⟩) hS rfl hl.1 rfl (Nat.le_of_ble_eq_true rfl) dX6_cell_14 (Nat.zero_le _) (Nat.zero_le _) (fun locs hS => ?_)
    refine lv_if_eq (tgt := 31) hx hb dX6_cell_17 (by decide) (fun hc => ?_) (fun hc => ?_)
    · have hf := it_p hc hf
      refine lv_bipush (v := (-2 : Int32)) hx hb dX6_cell_31 (by decide) ?_
      cases hf
      exact W.iret hx hb hr (fun t ht hW => ⟨⟨_, (), rfl, rfl, by rw [ht]; exact hP, hD⟩, hS.F ht⟩) hS.2.2 dX6_cell_33
    · have hf := it_n hc hf
      refine lv_iload hx hb dX6_cell_20 (lv_at hl 4 rfl) ?_
      refine lv_iconst (v := (0 : Int32)) hx hb dX6_cell_22 (by decide) ?_
      refine lv_bipush (v := (127 : Int32)) hx hb dX6_cell_23 (by decide) ?_
      obtain ⟨r3, hr3, hf⟩ := cl1_sp hf
      refine ro_S (As := [.int p4, .int (0 : Int32), .int (127 : Int32)]) ⟨hx, hb, hml, hown, hts⟩ (kX2_within l _ p4 (0 : Int32) (127 : Int32) r3 hr3) (va_cwS 3 hts gX6_cell_X2_within rfl rfl rfl (by decide +kernel) ⟨Nat.le_of_ble_eq_true rfl, Nat.le_of_ble_eq_true rfl⟩) hS rfl hl.1 rfl (Nat.le_of_ble_eq_true rfl) dX6_cell_25 (Nat.zero_le _) (Nat.zero_le _) (fun locs hS => ?_)
      refine lv_if_ne (tgt := 34) hx hb dX6_cell_28 (by decide) (fun hc => ?_) (fun hc => ?_)
      · have hf := it_n hc hf
        refine lv_aload_n hx hb dX6_cell_34 rfl (lv_at hl 0 rfl) ?_
        refine va_get (D := (dC, dI)) (ci := 5) (v := .ref a5) (C := RX6) (T := TX6) (N := 6) hx hb hts hiX6 hown hK hP 0 rfl rfl 3 (by decide) (hts (.fieldLink RX6 35 "PageLines" "scan" "LPageLines$Scan;") (List.mem_of_getElem? (i := 1) rfl)) (fun _ h9 => h9) rfl dX6_cell_35 ?_
        refine va_get (D := (dC, dI)) (ci := 4) (v := .int v5_on) (C := RX5) (T := TX5) (N := 11) hx hb hts hiX5 hown hK hP 18 rfl rfl 0 (by decide) (hts (.fieldLink RX6 60 "PageLines$Scan" "on" "Z") (List.mem_of_getElem? (i := 2) rfl)) (fun _ h9 => h9) rfl dX6_cell_38 ?_
        refine lv_if_eq (tgt := 47) hx hb dX6_cell_41 (by decide) (fun hc => ?_) (fun hc => ?_)
        · have hf := it_p hc hf
          refine lv_iload_n hx hb dX6_cell_47 rfl (lv_at hl 1 rfl) ?_
          refine lv_iload_n hx hb dX6_cell_48 rfl (lv_at hl 2 rfl) ?_
          obtain ⟨r4, hr4, hf⟩ := cl1_sp hf
          refine ro_S (As := [.int p1, .int p2]) ⟨hx, hb, hml, hown, hts⟩ (kX0_place l _ p1 p2 r4 hr4) (va_cwS 2 hts gX6_cell_X0_place rfl rfl rfl (by decide +kernel) ⟨Nat.le_of_ble_eq_true rfl, Nat.le_of_ble_eq_true rfl⟩) hS rfl hl.1 rfl (Nat.le_of_ble_eq_true rfl) dX6_cell_49 (Nat.zero_le _) (Nat.zero_le _) (fun locs hS => ?_)
          refine lv_istore (lv' := [(5, .int r4), (0, .ref a6), (1, .int p1), (2, .int p2), (3, .int p3), (4, .int p4)]) hx hb dX6_cell_52 hl (by decide) rfl (fun ls hl => ?_)
          refine lv_aload_n hx hb dX6_cell_54 rfl (lv_at hl 1 rfl) ?_
          refine va_get (D := (dC, dI)) (ci := 5) (v := .ref a0) (C := RX6) (T := TX6) (N := 6) hx hb hts hiX6 hown hK hP 0 rfl rfl 0 (by decide) (hts (.fieldLink RX6 14 "PageLines" "cells" "LPageLines$Cells;") (List.mem_of_getElem? (i := 3) rfl)) (fun _ h9 => h9) rfl dX6_cell_55 ?_
          refine va_get (D := (dC, dI)) (ci := 0) (v := .ref a0_offset) (C := RX0) (T := TX0) (N := 4) hx hb hts hiX0 hown hK hP 2 rfl rfl 0 (by decide) (hts (.fieldLink RX6 68 "PageLines$Cells" "offset" "[I") (List.mem_of_getElem? (i := 4) rfl)) (fun _ h9 => h9) rfl dX6_cell_58 ?_
          refine lv_iload hx hb dX6_cell_61 (lv_at hl 0 rfl) ?_
          refine lv_iload_n hx hb dX6_cell_63 rfl (lv_at hl 4 rfl) ?_
          obtain ⟨hi_5, hf⟩ := ckI_sp hf
          refine va_iast hx hb hK hP hD hS 3 0 rfl rfl hi_5 dX6_cell_64 (fun H locs hP hD hS => ?_)
          have hP : va_P (dC, dI) vwCl (WX6 cy a6 a6_leads a0 a0_offset a0_gain a0_dark a0_bright a3 a3_firstRow a3_lastRow a3_firstColumn a3_lastColumn a3_slants a3_tints a3_specks a4 a4_kinds a4_numbers a5 a1 a1_values f6_leads (upd f0_offset r4.toNatClampNeg p3) f0_gain f0_dark f0_bright v3_ground v3_patches f3_firstRow f3_lastRow f3_firstColumn f3_lastColumn f3_slants f3_tints f3_specks v4_count f4_kinds f4_numbers v5_on v5_lines v5_reach v5_positions v5_queued v5_position v5_next v5_mode v5_outTicks v5_stops v5_ticked v1_count v1_threshold f1_values) H := hP
          have hD : va_D A0 (WX6 cy a6 a6_leads a0 a0_offset a0_gain a0_dark a0_bright a3 a3_firstRow a3_lastRow a3_firstColumn a3_lastColumn a3_slants a3_tints a3_specks a4 a4_kinds a4_numbers a5 a1 a1_values f6_leads (upd f0_offset r4.toNatClampNeg p3) f0_gain f0_dark f0_bright v3_ground v3_patches f3_firstRow f3_lastRow f3_firstColumn f3_lastColumn f3_slants f3_tints f3_specks v4_count f4_kinds f4_numbers v5_on v5_lines v5_reach v5_positions v5_queued v5_position v5_next v5_mode v5_outTicks v5_stops v5_ticked v1_count v1_threshold f1_values) := hD
          refine lv_aload_n hx hb dX6_cell_65 rfl (lv_at hl 1 rfl) ?_
          refine va_get (D := (dC, dI)) (ci := 5) (v := .ref a0) (C := RX6) (T := TX6) (N := 6) hx hb hts hiX6 hown hK hP 0 rfl rfl 0 (by decide) (hts (.fieldLink RX6 14 "PageLines" "cells" "LPageLines$Cells;") (List.mem_of_getElem? (i := 3) rfl)) (fun _ h9 => h9) rfl dX6_cell_66 ?_
          refine va_get (D := (dC, dI)) (ci := 0) (v := .ref a0_gain) (C := RX0) (T := TX0) (N := 4) hx hb hts hiX0 hown hK hP 2 rfl rfl 1 (by decide) (hts (.fieldLink RX6 71 "PageLines$Cells" "gain" "[I") (List.mem_of_getElem? (i := 5) rfl)) (fun _ h9 => h9) rfl dX6_cell_69 ?_
          refine lv_iload hx hb dX6_cell_72 (lv_at hl 0 rfl) ?_
          refine lv_iload hx hb dX6_cell_74 (lv_at hl 5 rfl) ?_
          obtain ⟨hi_6, hf⟩ := ckI_sp hf
          refine va_iast hx hb hK hP hD hS 4 0 rfl rfl hi_6 dX6_cell_76 (fun H locs hP hD hS => ?_)
          have hP : va_P (dC, dI) vwCl (WX6 cy a6 a6_leads a0 a0_offset a0_gain a0_dark a0_bright a3 a3_firstRow a3_lastRow a3_firstColumn a3_lastColumn a3_slants a3_tints a3_specks a4 a4_kinds a4_numbers a5 a1 a1_values f6_leads (upd f0_offset r4.toNatClampNeg p3) (upd f0_gain r4.toNatClampNeg p4) f0_dark f0_bright v3_ground v3_patches f3_firstRow f3_lastRow f3_firstColumn f3_lastColumn f3_slants f3_tints f3_specks v4_count f4_kinds f4_numbers v5_on v5_lines v5_reach v5_positions v5_queued v5_position v5_next v5_mode v5_outTicks v5_stops v5_ticked v1_count v1_threshold f1_values) H := hP
          have hD : va_D A0 (WX6 cy a6 a6_leads a0 a0_offset a0_gain a0_dark a0_bright a3 a3_firstRow a3_lastRow a3_firstColumn a3_lastColumn a3_slants a3_tints a3_specks a4 a4_kinds a4_numbers a5 a1 a1_values f6_leads (upd f0_offset r4.toNatClampNeg p3) (upd f0_gain r4.toNatClampNeg p4) f0_dark f0_bright v3_ground v3_patches f3_firstRow f3_lastRow f3_firstColumn f3_lastColumn f3_slants f3_tints f3_specks v4_count f4_kinds f4_numbers v5_on v5_lines v5_reach v5_positions v5_queued v5_position v5_next v5_mode v5_outTicks v5_stops v5_ticked v1_count v1_threshold f1_values) := hD
          refine lv_iconst (v := (1 : Int32)) hx hb dX6_cell_77 (by decide) ?_
          cases hf
          exact W.iret hx hb hr (fun t ht hW => ⟨⟨_, (), rfl, rfl, by rw [ht]; exact hP, hD⟩, hS.F ht⟩) hS.2.2 dX6_cell_78
        · have hf := it_n hc hf
          refine lv_bipush (v := (-3 : Int32)) hx hb dX6_cell_44 (by decide) ?_
          cases hf
          exact W.iret hx hb hr (fun t ht hW => ⟨⟨_, (), rfl, rfl, by rw [ht]; exact hP, hD⟩, hS.F ht⟩) hS.2.2 dX6_cell_46
      · have hf := it_p hc hf
        refine lv_bipush (v := (-2 : Int32)) hx hb dX6_cell_31 (by decide) ?_
        cases hf
        exact W.iret hx hb hr (fun t ht hW => ⟨⟨_, (), rfl, rfl, by rw [ht]; exact hP, hD⟩, hS.F ht⟩) hS.2.2 dX6_cell_33
  · have hf := it_p hc hf
    refine lv_iconst (v := (-1 : Int32)) hx hb dX6_cell_8 (by decide) ?_
    cases hf
    exact W.iret hx hb hr (fun t ht hW => ⟨⟨_, (), rfl, rfl, by rw [ht]; exact hP, hD⟩, hS.F ht⟩) hS.2.2 dX6_cell_9
set_option maxHeartbeats 4000000 in
set_option maxRecDepth 100000 in
theorem kX6_strip (l : Launch) (dC : Nat → ClassId) (dI : Nat → Nat → Nat) (cy : ClassId) (sz : Nat) (a6 a6_leads a0 a0_offset a0_gain a0_dark a0_bright a3 a3_firstRow a3_lastRow a3_firstColumn a3_lastColumn a3_slants a3_tints a3_specks a4 a4_kinds a4_numbers a5 a1 a1_values : Nat) (f6_leads : Nat → Int32) (f0_offset : Nat → Int32) (f0_gain : Nat → Int32) (f0_dark : Nat → Int32) (f0_bright : Nat → Int32) (v3_ground : Int32) (v3_patches : Int32) (f3_firstRow : Nat → Int32) (f3_lastRow : Nat → Int32) (f3_firstColumn : Nat → Int32) (f3_lastColumn : Nat → Int32) (f3_slants : Nat → Int32) (f3_tints : Nat → Int32) (f3_specks : Nat → Int32) (v4_count : Int32) (f4_kinds : Nat → Int32) (f4_numbers : Nat → Int32) (v5_on : Int32) (v5_lines : Int32) (v5_reach : Int32) (v5_positions : Int32) (v5_queued : Int32) (v5_position : Int32) (v5_next : Int32) (v5_mode : Int32) (v5_outTicks : Int32) (v5_stops : Int32) (v5_ticked : Int32) (v1_count : Int32) (v1_threshold : Int32) (f1_values : Nat → Int32) (p1 : Int32) (r : Int32) (o_f0_dark : Nat → Int32) (o_f0_bright : Nat → Int32) (hf : fX6_strip f0_offset f0_gain f0_dark f0_bright v5_on p1 = some (r, o_f0_dark, o_f0_bright)) : Met l yX6_strip wsX6_strip ({ frames := 4, cells := 0, slots := 0, locals := 77 }) (rwP [.ref a6, .int p1] (dC, dI) vwCl (WX6 cy a6 a6_leads a0 a0_offset a0_gain a0_dark a0_bright a3 a3_firstRow a3_lastRow a3_firstColumn a3_lastColumn a3_slants a3_tints a3_specks a4 a4_kinds a4_numbers a5 a1 a1_values f6_leads f0_offset f0_gain f0_dark f0_bright v3_ground v3_patches f3_firstRow f3_lastRow f3_firstColumn f3_lastColumn f3_slants f3_tints f3_specks v4_count f4_kinds f4_numbers v5_on v5_lines v5_reach v5_positions v5_queued v5_position v5_next v5_mode v5_outTicks v5_stops v5_ticked v1_count v1_threshold f1_values) [(cy, .int)] sz) (rwQi r (dC, dI) vwCl (WX6 cy a6 a6_leads a0 a0_offset a0_gain a0_dark a0_bright a3 a3_firstRow a3_lastRow a3_firstColumn a3_lastColumn a3_slants a3_tints a3_specks a4 a4_kinds a4_numbers a5 a1 a1_values f6_leads f0_offset f0_gain o_f0_dark o_f0_bright v3_ground v3_patches f3_firstRow f3_lastRow f3_firstColumn f3_lastColumn f3_slants f3_tints f3_specks v4_count f4_kinds f4_numbers v5_on v5_lines v5_reach v5_positions v5_queued v5_position v5_next v5_mode v5_outTicks v5_stops v5_ticked v1_count v1_threshold f1_values) (va_A (WX6 cy a6 a6_leads a0 a0_offset a0_gain a0_dark a0_bright a3 a3_firstRow a3_lastRow a3_firstColumn a3_lastColumn a3_slants a3_tints a3_specks a4 a4_kinds a4_numbers a5 a1 a1_values f6_leads f0_offset f0_gain f0_dark f0_bright v3_ground v3_patches f3_firstRow f3_lastRow f3_firstColumn f3_lastColumn f3_slants f3_tints f3_specks v4_count f4_kinds f4_numbers v5_on v5_lines v5_reach v5_positions v5_queued v5_position v5_next v5_mode v5_outTicks v5_stops v5_ticked v1_count v1_threshold f1_values) sz)) 0 0 (va_A (WX6 cy a6 a6_leads a0 a0_offset a0_gain a0_dark a0_bright a3 a3_firstRow a3_lastRow a3_firstColumn a3_lastColumn a3_slants a3_tints a3_specks a4 a4_kinds a4_numbers a5 a1 a1_values f6_leads f0_offset f0_gain f0_dark f0_bright v3_ground v3_patches f3_firstRow f3_lastRow f3_firstColumn f3_lastColumn f3_slants f3_tints f3_specks v4_count f4_kinds f4_numbers v5_on v5_lines v5_reach v5_positions v5_queued v5_position v5_next v5_mode v5_outTicks v5_stops v5_ticked v1_count v1_threshold f1_values) sz) := by
  refine Met.ofW (cc := cX6_strip) (maxL := 2) (ret := (some .int)) (by decide) rfl ?_
  intro p e s m args below meth c s₁ B hml hv
  obtain ⟨rfl, hsz, hP, hK, hD0⟩ := hv
  have hx := B.exec
  have hb := B.bytes
  have hr := B.returns
  have hts := atoms_spec (ws := wsX6_strip) B.pre
  have hown : s.vm.findClass RX6 = some m.cls := findClass_of_methodNamed B.named
  have hlocks := B.notSynchronized
  have hiX6 : ∀ w ∈ u_ws RX6 TX6 6, w ∈ wsX6_strip := fun _ h => List.mem_cons_of_mem _ (List.mem_append_left _ (List.mem_append_left _ ((List.mem_append_right _ h))))
  have hiX5 : ∀ w ∈ u_ws RX5 TX5 11, w ∈ wsX6_strip := fun _ h => List.mem_cons_of_mem _ (List.mem_append_left _ ((List.mem_append_right _ h)))
  have hiX0 : ∀ w ∈ u_ws RX0 TX0 4, w ∈ wsX6_strip := fun _ h => List.mem_cons_of_mem _ ((List.mem_append_right _ h))
  subst hsz
  have hD := hD0.self (sz := s.heap.size)
  generalize hAe : va_A (WX6 cy a6 a6_leads a0 a0_offset a0_gain a0_dark a0_bright a3 a3_firstRow a3_lastRow a3_firstColumn a3_lastColumn a3_slants a3_tints a3_specks a4 a4_kinds a4_numbers a5 a1 a1_values f6_leads f0_offset f0_gain f0_dark f0_bright v3_ground v3_patches f3_firstRow f3_lastRow f3_firstColumn f3_lastColumn f3_slants f3_tints f3_specks v4_count f4_kinds f4_numbers v5_on v5_lines v5_reach v5_positions v5_queued v5_position v5_next v5_mode v5_outTicks v5_stops v5_ticked v1_count v1_threshold f1_values) s.heap.size = A0 at hD ⊢
  have hA : ∀ q : Nat, s.heap.size ≤ q → A0 q := fun q h => by rw [← hAe]; exact Or.inr h
  have hS : va_S A0 s.heap s.heap [] := va_S.rf
  have hl := lv_entry ([.ref a6, .int p1]) (n := 2) (Nat.le_of_ble_eq_true rfl)
  rw [lg_entry_eq]
  generalize (lg_sl ([.ref a6, .int p1]) ++ List.replicate (2 - (lg_sl ([.ref a6, .int p1])).length) Slot.unset).toArray = ls at hl ⊢
  have hl : lv_has ls 2 [(0, .ref a6), (1, .int p1)] := hl
  unfold fX6_strip at hf
  refine lv_iload_n hx hb dX6_strip_0 rfl (lv_at hl 1 rfl) ?_
  refine lv_iconst (v := (0 : Int32)) hx hb dX6_strip_1 (by decide) ?_
  refine lv_iconst (v := (1 : Int32)) hx hb dX6_strip_2 (by decide) ?_
  obtain ⟨r1, hr1, hf⟩ := cl1_sp hf
  refine ro_S (As := [.int p1, .int (0 : Int32), .int (1 : Int32)]) ⟨hx, hb, hml, hown, hts⟩ (kX2_within l _ p1 (0 : Int32) (1 : Int32) r1 hr1) (va_cwS 3 hts gX6_strip_X2_within rfl rfl rfl (by decide +kernel) ⟨Nat.le_of_ble_eq_true rfl, Nat.le_of_ble_eq_true rfl⟩) hS rfl hl.1 rfl (Nat.le_of_ble_eq_true rfl) dX6_strip_3 (Nat.zero_le _) (Nat.zero_le _) (fun locs hS => ?_)
  refine lv_if_ne (tgt := 12) hx hb dX6_strip_6 (by decide) (fun hc => ?_) (fun hc => ?_)
  · have hf := it_n hc hf
    refine lv_aload_n hx hb dX6_strip_12 rfl (lv_at hl 0 rfl) ?_
    refine va_get (D := (dC, dI)) (ci := 5) (v := .ref a5) (C := RX6) (T := TX6) (N := 6) hx hb hts hiX6 hown hK hP 0 rfl rfl 3 (by decide) (hts (.fieldLink RX6 35 "PageLines" "scan" "LPageLines$Scan;") (List.mem_of_getElem? (i := 1) rfl)) (fun _ h9 => h9) rfl dX6_strip_13 ?_
    refine va_get (D := (dC, dI)) (ci := 4) (v := .int v5_on) (C := RX5) (T := TX5) (N := 11) hx hb hts hiX5 hown hK hP 18 rfl rfl 0 (by decide) (hts (.fieldLink RX6 60 "PageLines$Scan" "on" "Z") (List.mem_of_getElem? (i := 2) rfl)) (fun _ h9 => h9) rfl dX6_strip_16 ?_
    refine lv_if_eq (tgt := 25) hx hb dX6_strip_19 (by decide) (fun hc => ?_) (fun hc => ?_)
    · have hf := it_p hc hf
      refine lv_aload_n hx hb dX6_strip_25 rfl (lv_at hl 0 rfl) ?_
      refine va_get (D := (dC, dI)) (ci := 5) (v := .ref a0) (C := RX6) (T := TX6) (N := 6) hx hb hts hiX6 hown hK hP 0 rfl rfl 0 (by decide) (hts (.fieldLink RX6 14 "PageLines" "cells" "LPageLines$Cells;") (List.mem_of_getElem? (i := 3) rfl)) (fun _ h9 => h9) rfl dX6_strip_26 ?_
      refine lv_iload_n hx hb dX6_strip_29 rfl (lv_at hl 1 rfl) ?_
      refine lv_iconst (v := (1 : Int32)) hx hb dX6_strip_30 (by decide) ?_
      refine lv_icmp_ne (tgt := 38) hx hb dX6_strip_31 (by decide) (fun hc => ?_) (fun hc => ?_)
      · have hf := it_n hc hf
        refine lv_iconst (v := (0 : Int32)) hx hb dX6_strip_38 (by decide) ?_
        obtain ⟨w2_dark, w2_bright, hr2, hf⟩ := cl2_sp hf
        refine rw_Vv (As := [.int (0 : Int32)]) (wr := [(a6, .inr (5, [.ref a0, .ref a3, .ref a4, .ref a5, .ref a1, .ref a6_leads])), (a6_leads, .inl (cy, 3, .inl f6_leads)), (a3, .inr (2, [.int v3_ground, .int v3_patches, .ref a3_firstRow, .ref a3_lastRow, .ref a3_firstColumn, .ref a3_lastColumn, .ref a3_slants, .ref a3_tints, .ref a3_specks])), (a3_firstRow, .inl (cy, 12, .inl f3_firstRow)), (a3_lastRow, .inl (cy, 12, .inl f3_lastRow)), (a3_firstColumn, .inl (cy, 12, .inl f3_firstColumn)), (a3_lastColumn, .inl (cy, 12, .inl f3_lastColumn)), (a3_slants, .inl (cy, 12, .inl f3_slants)), (a3_tints, .inl (cy, 36, .inl f3_tints)), (a3_specks, .inl (cy, 12, .inl f3_specks)), (a4, .inr (3, [.int v4_count, .ref a4_kinds, .ref a4_numbers])), (a4_kinds, .inl (cy, 4, .inl f4_kinds)), (a4_numbers, .inl (cy, 4, .inl f4_numbers)), (a5, .inr (4, [.int v5_on, .int v5_lines, .int v5_reach, .int v5_positions, .int v5_queued, .int v5_position, .int v5_next, .int v5_mode, .int v5_outTicks, .int v5_stops, .int v5_ticked])), (a1, .inr (1, [.int v1_count, .int v1_threshold, .ref a1_values])), (a1_values, .inl (cy, 1440, .inl f1_values))]) ⟨hx, hb, hml, hown, hts⟩ (kX0_readStrip l dC dI cy _ a0 a0_offset a0_gain a0_dark a0_bright f0_offset f0_gain f0_dark f0_bright (0 : Int32) w2_dark w2_bright hr2) (cwV 1 hts gX6_strip_X0_readStrip rfl rfl rfl (by decide +kernel) ⟨Nat.le_of_ble_eq_true rfl, Nat.le_of_ble_eq_true rfl⟩) (va_recv hK hP (ci := 0) (q0 := 2) rfl rfl) hK hP hD hS hA [2, 3, 4, 5, 6] [0, 1, 7, 8, 9, 10, 11, 12, 13, 14, 15, 16, 17, 18, 19, 20] rfl rfl (by decide) (by decide) (by decide) rfl hl.1 rfl (Nat.le_of_ble_eq_true rfl) dX6_strip_39 (Nat.zero_le _) (Nat.zero_le _) (fun H locs hP hD hS => ?_)
        have hP : va_P (dC, dI) vwCl (WX6 cy a6 a6_leads a0 a0_offset a0_gain a0_dark a0_bright a3 a3_firstRow a3_lastRow a3_firstColumn a3_lastColumn a3_slants a3_tints a3_specks a4 a4_kinds a4_numbers a5 a1 a1_values f6_leads f0_offset f0_gain w2_dark w2_bright v3_ground v3_patches f3_firstRow f3_lastRow f3_firstColumn f3_lastColumn f3_slants f3_tints f3_specks v4_count f4_kinds f4_numbers v5_on v5_lines v5_reach v5_positions v5_queued v5_position v5_next v5_mode v5_outTicks v5_stops v5_ticked v1_count v1_threshold f1_values) H := hP.sub [0, 1, 16, 17, 18, 19, 20, 2, 3, 4, 5, 6, 7, 8, 9, 10, 11, 12, 13, 14, 15] rfl
        have hD : va_D A0 (WX6 cy a6 a6_leads a0 a0_offset a0_gain a0_dark a0_bright a3 a3_firstRow a3_lastRow a3_firstColumn a3_lastColumn a3_slants a3_tints a3_specks a4 a4_kinds a4_numbers a5 a1 a1_values f6_leads f0_offset f0_gain w2_dark w2_bright v3_ground v3_patches f3_firstRow f3_lastRow f3_firstColumn f3_lastColumn f3_slants f3_tints f3_specks v4_count f4_kinds f4_numbers v5_on v5_lines v5_reach v5_positions v5_queued v5_position v5_next v5_mode v5_outTicks v5_stops v5_ticked v1_count v1_threshold f1_values) := hD.sub [0, 1, 16, 17, 18, 19, 20, 2, 3, 4, 5, 6, 7, 8, 9, 10, 11, 12, 13, 14, 15] (by decide) rfl
        refine lv_aload_n hx hb dX6_strip_42 rfl (lv_at hl 0 rfl) ?_
        refine va_get (D := (dC, dI)) (ci := 5) (v := .ref a0) (C := RX6) (T := TX6) (N := 6) hx hb hts hiX6 hown hK hP 0 rfl rfl 0 (by decide) (hts (.fieldLink RX6 14 "PageLines" "cells" "LPageLines$Cells;") (List.mem_of_getElem? (i := 3) rfl)) (fun _ h9 => h9) rfl dX6_strip_43 ?_
        obtain ⟨r3, hr3, hf⟩ := cl1_sp hf
        refine ro_V (As := []) ⟨hx, hb, hml, hown, hts⟩ (kX0_countLive l dC dI cy _ a0 a0_offset a0_gain a0_dark a0_bright f0_offset f0_gain w2_dark w2_bright r3 hr3) (cwV 0 hts gX6_strip_X0_countLive rfl rfl rfl (by decide +kernel) ⟨Nat.le_of_ble_eq_true rfl, Nat.le_of_ble_eq_true rfl⟩) (va_recv hK hP (ci := 0) (q0 := 2) rfl rfl) (hP.sub [2, 3, 4, 5, 6] rfl) hK hS rfl hl.1 rfl (Nat.le_of_ble_eq_true rfl) dX6_strip_46 (Nat.zero_le _) (Nat.zero_le _) (fun locs hS => ?_)
        cases hf
        exact W.iret hx hb hr (fun t ht hW => ⟨⟨_, (), rfl, rfl, by rw [ht]; exact hP, hD⟩, hS.F ht⟩) hS.2.2 dX6_strip_49
      · have hf := it_p hc hf
        refine lv_iconst (v := (1 : Int32)) hx hb dX6_strip_34 (by decide) ?_
        refine lv_goto (tgt := 39) hx hb dX6_strip_35 (by decide) ?_
        obtain ⟨w4_dark, w4_bright, hr4, hf⟩ := cl2_sp hf
        refine rw_Vv (As := [.int (1 : Int32)]) (wr := [(a6, .inr (5, [.ref a0, .ref a3, .ref a4, .ref a5, .ref a1, .ref a6_leads])), (a6_leads, .inl (cy, 3, .inl f6_leads)), (a3, .inr (2, [.int v3_ground, .int v3_patches, .ref a3_firstRow, .ref a3_lastRow, .ref a3_firstColumn, .ref a3_lastColumn, .ref a3_slants, .ref a3_tints, .ref a3_specks])), (a3_firstRow, .inl (cy, 12, .inl f3_firstRow)), (a3_lastRow, .inl (cy, 12, .inl f3_lastRow)), (a3_firstColumn, .inl (cy, 12, .inl f3_firstColumn)), (a3_lastColumn, .inl (cy, 12, .inl f3_lastColumn)), (a3_slants, .inl (cy, 12, .inl f3_slants)), (a3_tints, .inl (cy, 36, .inl f3_tints)), (a3_specks, .inl (cy, 12, .inl f3_specks)), (a4, .inr (3, [.int v4_count, .ref a4_kinds, .ref a4_numbers])), (a4_kinds, .inl (cy, 4, .inl f4_kinds)), (a4_numbers, .inl (cy, 4, .inl f4_numbers)), (a5, .inr (4, [.int v5_on, .int v5_lines, .int v5_reach, .int v5_positions, .int v5_queued, .int v5_position, .int v5_next, .int v5_mode, .int v5_outTicks, .int v5_stops, .int v5_ticked])), (a1, .inr (1, [.int v1_count, .int v1_threshold, .ref a1_values])), (a1_values, .inl (cy, 1440, .inl f1_values))]) ⟨hx, hb, hml, hown, hts⟩ (kX0_readStrip l dC dI cy _ a0 a0_offset a0_gain a0_dark a0_bright f0_offset f0_gain f0_dark f0_bright (1 : Int32) w4_dark w4_bright hr4) (cwV 1 hts gX6_strip_X0_readStrip rfl rfl rfl (by decide +kernel) ⟨Nat.le_of_ble_eq_true rfl, Nat.le_of_ble_eq_true rfl⟩) (va_recv hK hP (ci := 0) (q0 := 2) rfl rfl) hK hP hD hS hA [2, 3, 4, 5, 6] [0, 1, 7, 8, 9, 10, 11, 12, 13, 14, 15, 16, 17, 18, 19, 20] rfl rfl (by decide) (by decide) (by decide) rfl hl.1 rfl (Nat.le_of_ble_eq_true rfl) dX6_strip_39 (Nat.zero_le _) (Nat.zero_le _) (fun H locs hP hD hS => ?_)
        have hP : va_P (dC, dI) vwCl (WX6 cy a6 a6_leads a0 a0_offset a0_gain a0_dark a0_bright a3 a3_firstRow a3_lastRow a3_firstColumn a3_lastColumn a3_slants a3_tints a3_specks a4 a4_kinds a4_numbers a5 a1 a1_values f6_leads f0_offset f0_gain w4_dark w4_bright v3_ground v3_patches f3_firstRow f3_lastRow f3_firstColumn f3_lastColumn f3_slants f3_tints f3_specks v4_count f4_kinds f4_numbers v5_on v5_lines v5_reach v5_positions v5_queued v5_position v5_next v5_mode v5_outTicks v5_stops v5_ticked v1_count v1_threshold f1_values) H := hP.sub [0, 1, 16, 17, 18, 19, 20, 2, 3, 4, 5, 6, 7, 8, 9, 10, 11, 12, 13, 14, 15] rfl
        have hD : va_D A0 (WX6 cy a6 a6_leads a0 a0_offset a0_gain a0_dark a0_bright a3 a3_firstRow a3_lastRow a3_firstColumn a3_lastColumn a3_slants a3_tints a3_specks a4 a4_kinds a4_numbers a5 a1 a1_values f6_leads f0_offset f0_gain w4_dark w4_bright v3_ground v3_patches f3_firstRow f3_lastRow f3_firstColumn f3_lastColumn f3_slants f3_tints f3_specks v4_count f4_kinds f4_numbers v5_on v5_lines v5_reach v5_positions v5_queued v5_position v5_next v5_mode v5_outTicks v5_stops v5_ticked v1_count v1_threshold f1_values) := hD.sub [0, 1, 16, 17, 18, 19, 20, 2, 3, 4, 5, 6, 7, 8, 9, 10, 11, 12, 13, 14, 15] (by decide) rfl
        refine lv_aload_n hx hb dX6_strip_42 rfl (lv_at hl 0 rfl) ?_
        refine va_get (D := (dC, dI)) (ci := 5) (v := .ref a0) (C := RX6) (T := TX6) (N := 6) hx hb hts hiX6 hown hK hP 0 rfl rfl 0 (by decide) (hts (.fieldLink RX6 14 "PageLines" "cells" "LPageLines$Cells;") (List.mem_of_getElem? (i := 3) rfl)) (fun _ h9 => h9) rfl dX6_strip_43 ?_
        obtain ⟨r5, hr5, hf⟩ := cl1_sp hf
        refine ro_V (As := []) ⟨hx, hb, hml, hown, hts⟩ (kX0_countLive l dC dI cy _ a0 a0_offset a0_gain a0_dark a0_bright f0_offset f0_gain w4_dark w4_bright r5 hr5) (cwV 0 hts gX6_strip_X0_countLive rfl rfl rfl (by decide +kernel) ⟨Nat.le_of_ble_eq_true rfl, Nat.le_of_ble_eq_true rfl⟩) (va_recv hK hP (ci := 0) (q0 := 2) rfl rfl) (hP.sub [2, 3, 4, 5, 6] rfl) hK hS rfl hl.1 rfl (Nat.le_of_ble_eq_true rfl) dX6_strip_46 (Nat.zero_le _) (Nat.zero_le _) (fun locs hS => ?_)
        cases hf
        exact W.iret hx hb hr (fun t ht hW => ⟨⟨_, (), rfl, rfl, by rw [ht]; exact hP, hD⟩, hS.F ht⟩) hS.2.2 dX6_strip_49
    · have hf := it_n hc hf
      refine lv_bipush (v := (-3 : Int32)) hx hb dX6_strip_22 (by decide) ?_
      cases hf
      exact W.iret hx hb hr (fun t ht hW => ⟨⟨_, (), rfl, rfl, by rw [ht]; exact hP, hD⟩, hS.F ht⟩) hS.2.2 dX6_strip_24
  · have hf := it_p hc hf
    refine lv_bipush (v := (-2 : Int32)) hx hb dX6_strip_9 (by decide) ?_
    cases hf
    exact W.iret hx hb hr (fun t ht hW => ⟨⟨_, (), rfl, rfl, by rw [ht]; exact hP, hD⟩, hS.F ht⟩) hS.2.2 dX6_strip_11

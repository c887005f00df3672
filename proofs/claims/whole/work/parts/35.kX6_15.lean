set_option maxHeartbeats 4000000 in
set_option maxRecDepth 100000 in
theorem kX6_begin (l : Launch) (dC : Nat → ClassId) (dI : Nat → Nat → Nat) (cy : ClassId) (sz : Nat) (a6 a6_leads a0 a0_offset a0_gain a0_dark a0_bright a3 a3_firstRow a3_lastRow a3_firstColumn a3_lastColumn a3_slants a3_tints a3_specks a4 a4_kinds a4_numbers a5 a1 a1_values : Nat) (f6_leads : Nat → Int32) (f0_offset : Nat → Int32) (f0_gain : Nat → Int32) (f0_dark : Nat → Int32) (f0_bright : Nat → Int32) (v3_ground : Int32) (v3_patches : Int32) (f3_firstRow : Nat → Int32) (f3_lastRow : Nat → Int32) (f3_firstColumn : Nat → Int32) (f3_lastColumn : Nat → Int32) (f3_slants : Nat → Int32) (f3_tints : Nat → Int32) (f3_specks : Nat → Int32) (v4_count : Int32) (f4_kinds : Nat → Int32) (f4_numbers : Nat → Int32) (v5_on : Int32) (v5_lines : Int32) (v5_reach : Int32) (v5_positions : Int32) (v5_queued : Int32) (v5_position : Int32) (v5_next : Int32) (v5_mode : Int32) (v5_outTicks : Int32) (v5_stops : Int32) (v5_ticked : Int32) (v1_count : Int32) (v1_threshold : Int32) (f1_values : Nat → Int32) (p1 : Int32) (r : Int32) (o_v5_on : Int32) (o_v5_lines : Int32) (o_v5_reach : Int32) (o_v5_positions : Int32) (o_v5_queued : Int32) (o_v5_position : Int32) (o_v5_next : Int32) (o_v5_mode : Int32) (o_v5_stops : Int32) (o_v5_ticked : Int32) (o_v1_count : Int32) (hf : fX6_begin f6_leads v5_on v5_lines v5_reach v5_positions v5_queued v5_position v5_next v5_mode v5_stops v5_ticked v1_count p1 = some (r, o_v5_on, o_v5_lines, o_v5_reach, o_v5_positions, o_v5_queued, o_v5_position, o_v5_next, o_v5_mode, o_v5_stops, o_v5_ticked, o_v1_count)) : Met l yX6_begin wsX6_begin ({ frames := 2, cells := 0, slots := 0, locals := 35 }) (rwP [.ref a6, .int p1] (dC, dI) vwCl (WX6 cy a6 a6_leads a0 a0_offset a0_gain a0_dark a0_bright a3 a3_firstRow a3_lastRow a3_firstColumn a3_lastColumn a3_slants a3_tints a3_specks a4 a4_kinds a4_numbers a5 a1 a1_values f6_leads f0_offset f0_gain f0_dark f0_bright v3_ground v3_patches f3_firstRow f3_lastRow f3_firstColumn f3_lastColumn f3_slants f3_tints f3_specks v4_count f4_kinds f4_numbers v5_on v5_lines v5_reach v5_positions v5_queued v5_position v5_next v5_mode v5_outTicks v5_stops v5_ticked v1_count v1_threshold f1_values) [(cy, .int)] sz) (rwQi r (dC, dI) vwCl (WX6 cy a6 a6_leads a0 a0_offset a0_gain a0_dark a0_bright a3 a3_firstRow a3_lastRow a3_firstColumn a3_lastColumn a3_slants a3_tints a3_specks a4 a4_kinds a4_numbers a5 a1 a1_values f6_leads f0_offset f0_gain f0_dark f0_bright v3_ground v3_patches f3_firstRow f3_lastRow f3_firstColumn f3_lastColumn f3_slants f3_tints f3_specks v4_count f4_kinds f4_numbers o_v5_on o_v5_lines o_v5_reach o_v5_positions o_v5_queued o_v5_position o_v5_next o_v5_mode v5_outTicks o_v5_stops o_v5_ticked o_v1_count v1_threshold f1_values) (va_A (WX6 cy a6 a6_leads a0 a0_offset a0_gain a0_dark a0_bright a3 a3_firstRow a3_lastRow a3_firstColumn a3_lastColumn a3_slants a3_tints a3_specks a4 a4_kinds a4_numbers a5 a1 a1_values f6_leads f0_offset f0_gain f0_dark f0_bright v3_ground v3_patches f3_firstRow f3_lastRow f3_firstColumn f3_lastColumn f3_slants f3_tints f3_specks v4_count f4_kinds f4_numbers v5_on v5_lines v5_reach v5_positions v5_queued v5_position v5_next v5_mode v5_outTicks v5_stops v5_ticked v1_count v1_threshold f1_values) sz)) 0 0 (va_A (WX6 cy a6 a6_leads a0 a0_offset a0_gain a0_dark a0_bright a3 a3_firstRow a3_lastRow a3_firstColumn a3_lastColumn a3_slants a3_tints a3_specks a4 a4_kinds a4_numbers a5 a1 a1_values f6_leads f0_offset f0_gain f0_dark f0_bright v3_ground v3_patches f3_firstRow f3_lastRow f3_firstColumn f3_lastColumn f3_slants f3_tints f3_specks v4_count f4_kinds f4_numbers v5_on v5_lines v5_reach v5_positions v5_queued v5_position v5_next v5_mode v5_outTicks v5_stops v5_ticked v1_count v1_threshold f1_values) sz) := by
  refine Met.ofW (cc := cX6_begin) (maxL := 2) (ret := (some .int)) (by decide) rfl ?_
  intro p e s m args below meth c s₁ B hml hv
  obtain ⟨rfl, hsz, hP, hK, hD0⟩ := hv
  have hx := B.exec
  have hb := B.bytes
  have hr := B.returns
  have hts := atoms_spec (ws := wsX6_begin) B.pre
  have hown : s.vm.findClass RX6 = some m.cls := findClass_of_methodNamed B.named
  have hlocks := B.notSynchronized
  have hiX6 : ∀ w ∈ u_ws RX6 TX6 6, w ∈ wsX6_begin := fun _ h => List.mem_cons_of_mem _ (List.mem_append_left _ (List.mem_append_left _ ((List.mem_append_right _ h))))
  have hiX5 : ∀ w ∈ u_ws RX5 TX5 11, w ∈ wsX6_begin := fun _ h => List.mem_cons_of_mem _ (List.mem_append_left _ ((List.mem_append_right _ h)))
  have hiX1 : ∀ w ∈ u_ws RX1 TX1 3, w ∈ wsX6_begin := fun _ h => List.mem_cons_of_mem _ ((List.mem_append_right _ h))
  subst hsz
  have hD := hD0.self (sz := s.heap.size)
  generalize hAe : va_A (WX6 cy a6 a6_leads a0 a0_offset a0_gain a0_dark a0_bright a3 a3_firstRow a3_lastRow a3_firstColumn a3_lastColumn a3_slants a3_tints a3_specks a4 a4_kinds a4_numbers a5 a1 a1_values f6_leads f0_offset f0_gain f0_dark f0_bright v3_ground v3_patches f3_firstRow f3_lastRow f3_firstColumn f3_lastColumn f3_slants f3_tints f3_specks v4_count f4_kinds f4_numbers v5_on v5_lines v5_reach v5_positions v5_queued v5_position v5_next v5_mode v5_outTicks v5_stops v5_ticked v1_count v1_threshold f1_values) s.heap.size = A0 at hD ⊢
  have hA : ∀ q : Nat, s.heap.size ≤ q → A0 q := fun q h => by rw [← hAe]; exact Or.inr h
  have hS : va_S A0 s.heap s.heap [] := va_S.rf
  have hl := lv_entry ([.ref a6, .int p1]) (n := 2) (Nat.le_of_ble_eq_true rfl)
  rw [lg_entry_eq]
  generalize (lg_sl ([.ref a6, .int p1]) ++ List.replicate (2 - (lg_sl ([.ref a6, .int p1])).length) Slot.unset).toArray = ls at hl ⊢
  have hl : lv_has ls 2 [(0, .ref a6), (1, .int p1)] := hl
  unfold fX6_begin at hf
  refine lv_iload_n hx hb dX6_begin_0 rfl (lv_at hl 1 rfl) ?_
  refine lv_iconst (v := (1 : Int32)) hx hb dX6_begin_1 (by decide) ?_
  refine lv_bipush (v := (40 : Int32)) hx hb dX6_begin_2 (by decide) ?_
  obtain ⟨r1, hr1, hf⟩ := cl1_sp hf
  refine ro_S (As := [.int p1, .int (1 : Int32), .int (40 : Int32)]) ⟨hx, hb, hml, hown, hts⟩ (kX2_within l _ p1 (1 : Int32) (40 : Int32) r1 hr1) (va_cwS 3 hts gX6_begin_X2_within rfl rfl rfl (by decide +kernel) ⟨Nat.le_of_ble_eq_true rfl, Nat.le_of_ble_eq_true rfl⟩) hS rfl hl.1 rfl (Nat.le_of_ble_eq_true rfl) dX6_begin_4 (Nat.zero_le _) (Nat.zero_le _) (fun locs hS => ?_)
  refine lv_if_ne (tgt := 13) hx hb dX6_begin_7 (by decide) (fun hc => ?_) (fun hc => ?_)
  · have hf := it_n hc hf
    refine lv_aload_n hx hb dX6_begin_13 rfl (lv_at hl 0 rfl) ?_
    refine va_get (D := (dC, dI)) (ci := 5) (v := .ref a5) (C := RX6) (T := TX6) (N := 6) hx hb hts hiX6 hown hK hP 0 rfl rfl 3 (by decide) (hts (.fieldLink RX6 35 "PageLines" "scan" "LPageLines$Scan;") (List.mem_of_getElem? (i := 1) rfl)) (fun _ h9 => h9) rfl dX6_begin_14 ?_
    refine va_get (D := (dC, dI)) (ci := 4) (v := .int v5_on) (C := RX5) (T := TX5) (N := 11) hx hb hts hiX5 hown hK hP 18 rfl rfl 0 (by decide) (hts (.fieldLink RX6 60 "PageLines$Scan" "on" "Z") (List.mem_of_getElem? (i := 2) rfl)) (fun _ h9 => h9) rfl dX6_begin_17 ?_
    refine lv_if_eq (tgt := 26) hx hb dX6_begin_20 (by decide) (fun hc => ?_) (fun hc => ?_)
    · have hf := it_p hc hf
      refine lv_aload_n hx hb dX6_begin_26 rfl (lv_at hl 0 rfl) ?_
      refine va_get (D := (dC, dI)) (ci := 5) (v := .ref a5) (C := RX6) (T := TX6) (N := 6) hx hb hts hiX6 hown hK hP 0 rfl rfl 3 (by decide) (hts (.fieldLink RX6 35 "PageLines" "scan" "LPageLines$Scan;") (List.mem_of_getElem? (i := 1) rfl)) (fun _ h9 => h9) rfl dX6_begin_27 ?_
      refine lv_iload_n hx hb dX6_begin_30 rfl (lv_at hl 1 rfl) ?_
      refine lv_aload_n hx hb dX6_begin_31 rfl (lv_at hl 0 rfl) ?_
      obtain ⟨r2, hr2, hf⟩ := cl1_sp hf
      refine ro_V (As := []) ⟨hx, hb, hml, hown, hts⟩ (kX6_reach l dC dI cy _ a6 a6_leads a0 a0_offset a0_gain a0_dark a0_bright a3 a3_firstRow a3_lastRow a3_firstColumn a3_lastColumn a3_slants a3_tints a3_specks a4 a4_kinds a4_numbers a5 a1 a1_values f6_leads f0_offset f0_gain f0_dark f0_bright v3_ground v3_patches f3_firstRow f3_lastRow f3_firstColumn f3_lastColumn f3_slants f3_tints f3_specks v4_count f4_kinds f4_numbers v5_on v5_lines v5_reach v5_positions v5_queued v5_position v5_next v5_mode v5_outTicks v5_stops v5_ticked v1_count v1_threshold f1_values r2 hr2) (cwV 0 hts gX6_begin_X6_reach rfl rfl rfl (by decide +kernel) ⟨Nat.le_of_ble_eq_true rfl, Nat.le_of_ble_eq_true rfl⟩) (va_recv hK hP (ci := 5) (q0 := 0) rfl rfl) (hP.sub [0, 1, 2, 3, 4, 5, 6, 7, 8, 9, 10, 11, 12, 13, 14, 15, 16, 17, 18, 19, 20] rfl) hK hS rfl hl.1 rfl (Nat.le_of_ble_eq_true rfl) dX6_begin_32 (Nat.zero_le _) (Nat.zero_le _) (fun locs hS => ?_)
      obtain ⟨w3_on, w3_lines, w3_reach, w3_positions, w3_queued, w3_position, w3_next, w3_mode, w3_stops, w3_ticked, hr3, hf⟩ := cl10_sp hf
      refine rw_Vv (As := [.int p1, .int r2]) (wr := [(a6, .inr (5, [.ref a0, .ref a3, .ref a4, .ref a5, .ref a1, .ref a6_leads])), (a6_leads, .inl (cy, 3, .inl f6_leads)), (a0, .inr (0, [.ref a0_offset, .ref a0_gain, .ref a0_dark, .ref a0_bright])), (a0_offset, .inl (cy, 36, .inl f0_offset)), (a0_gain, .inl (cy, 36, .inl f0_gain)), (a0_dark, .inl (cy, 36, .inl f0_dark)), (a0_bright, .inl (cy, 36, .inl f0_bright)), (a3, .inr (2, [.int v3_ground, .int v3_patches, .ref a3_firstRow, .ref a3_lastRow, .ref a3_firstColumn, .ref a3_lastColumn, .ref a3_slants, .ref a3_tints, .ref a3_specks])), (a3_firstRow, .inl (cy, 12, .inl f3_firstRow)), (a3_lastRow, .inl (cy, 12, .inl f3_lastRow)), (a3_firstColumn, .inl (cy, 12, .inl f3_firstColumn)), (a3_lastColumn, .inl (cy, 12, .inl f3_lastColumn)), (a3_slants, .inl (cy, 12, .inl f3_slants)), (a3_tints, .inl (cy, 36, .inl f3_tints)), (a3_specks, .inl (cy, 12, .inl f3_specks)), (a4, .inr (3, [.int v4_count, .ref a4_kinds, .ref a4_numbers])), (a4_kinds, .inl (cy, 4, .inl f4_kinds)), (a4_numbers, .inl (cy, 4, .inl f4_numbers)), (a1, .inr (1, [.int v1_count, .int v1_threshold, .ref a1_values])), (a1_values, .inl (cy, 1440, .inl f1_values))]) ⟨hx, hb, hml, hown, hts⟩ (kX5_start l dC dI cy _ a5 v5_on v5_lines v5_reach v5_positions v5_queued v5_position v5_next v5_mode v5_outTicks v5_stops v5_ticked p1 r2 w3_on w3_lines w3_reach w3_positions w3_queued w3_position w3_next w3_mode w3_stops w3_ticked hr3) (cwV 2 hts gX6_begin_X5_start rfl rfl rfl (by decide +kernel) ⟨Nat.le_of_ble_eq_true rfl, Nat.le_of_ble_eq_true rfl⟩) (va_recv hK hP (ci := 4) (q0 := 18) rfl rfl) hK hP hD hS hA [18] [0, 1, 2, 3, 4, 5, 6, 7, 8, 9, 10, 11, 12, 13, 14, 15, 16, 17, 19, 20] rfl rfl (by decide) (by decide) (by decide) rfl hl.1 rfl (Nat.le_of_ble_eq_true rfl) dX6_begin_35 (Nat.zero_le _) (Nat.zero_le _) (fun H locs hP hD hS => ?_)
      have hP : va_P (dC, dI) vwCl (WX6 cy a6 a6_leads a0 a0_offset a0_gain a0_dark a0_bright a3 a3_firstRow a3_lastRow a3_firstColumn a3_lastColumn a3_slants a3_tints a3_specks a4 a4_kinds a4_numbers a5 a1 a1_values f6_leads f0_offset f0_gain f0_dark f0_bright v3_ground v3_patches f3_firstRow f3_lastRow f3_firstColumn f3_lastColumn f3_slants f3_tints f3_specks v4_count f4_kinds f4_numbers w3_on w3_lines w3_reach w3_positions w3_queued w3_position w3_next w3_mode v5_outTicks w3_stops w3_ticked v1_count v1_threshold f1_values) H := hP.sub [0, 1, 2, 3, 4, 5, 6, 7, 8, 9, 10, 11, 12, 13, 14, 15, 16, 17, 20, 18, 19] rfl
      have hD : va_D A0 (WX6 cy a6 a6_leads a0 a0_offset a0_gain a0_dark a0_bright a3 a3_firstRow a3_lastRow a3_firstColumn a3_lastColumn a3_slants a3_tints a3_specks a4 a4_kinds a4_numbers a5 a1 a1_values f6_leads f0_offset f0_gain f0_dark f0_bright v3_ground v3_patches f3_firstRow f3_lastRow f3_firstColumn f3_lastColumn f3_slants f3_tints f3_specks v4_count f4_kinds f4_numbers w3_on w3_lines w3_reach w3_positions w3_queued w3_position w3_next w3_mode v5_outTicks w3_stops w3_ticked v1_count v1_threshold f1_values) := hD.sub [0, 1, 2, 3, 4, 5, 6, 7, 8, 9, 10, 11, 12, 13, 14, 15, 16, 17, 20, 18, 19] (by decide) rfl
      refine lv_aload_n hx hb dX6_begin_38 rfl (lv_at hl 0 rfl) ?_
      refine va_get (D := (dC, dI)) (ci := 5) (v := .ref a1) (C := RX6) (T := TX6) (N := 6) hx hb hts hiX6 hown hK hP 0 rfl rfl 4 (by decide) (hts (.fieldLink RX6 42 "PageLines" "lines" "LPageLines$Lines;") (List.mem_of_getElem? (i := 3) rfl)) (fun _ h9 => h9) rfl dX6_begin_39 ?_
      refine lv_iconst (v := (0 : Int32)) hx hb dX6_begin_42 (by decide) ?_
      refine va_put (D := (dC, dI)) (ci := 1) (v := .int (0 : Int32)) (ty := .int) (C := RX1) (T := TX1) (N := 3) hx hb hts hiX1 tyX1 tyX1_ok nmX1 hown hK hP hD hS 19 rfl rfl 0 (by decide) (hts (.fieldLink RX6 152 "PageLines$Lines" "count" "I") (List.mem_of_getElem? (i := 4) rfl)) (fun _ h9 => h9) rfl (by decide +kernel) rfl rfl (Nat.le_of_ble_eq_true rfl) dX6_begin_43 (fun H locs hP hD hS => ?_)
      have hP : va_P (dC, dI) vwCl (WX6 cy a6 a6_leads a0 a0_offset a0_gain a0_dark a0_bright a3 a3_firstRow a3_lastRow a3_firstColumn a3_lastColumn a3_slants a3_tints a3_specks a4 a4_kinds a4_numbers a5 a1 a1_values f6_leads f0_offset f0_gain f0_dark f0_bright v3_ground v3_patches f3_firstRow f3_lastRow f3_firstColumn f3_lastColumn f3_slants f3_tints f3_specks v4_count f4_kinds f4_numbers w3_on w3_lines w3_reach w3_positions w3_queued w3_position w3_next w3_mode v5_outTicks w3_stops w3_ticked (0 : Int32) v1_threshold f1_values) H := hP
      have hD : va_D A0 (WX6 cy a6 a6_leads a0 a0_offset a0_gain a0_dark a0_bright a3 a3_firstRow a3_lastRow a3_firstColumn a3_lastColumn a3_slants a3_tints a3_specks a4 a4_kinds a4_numbers a5 a1 a1_values f6_leads f0_offset f0_gain f0_dark f0_bright v3_ground v3_patches f3_firstRow f3_lastRow f3_firstColumn f3_lastColumn f3_slants f3_tints f3_specks v4_count f4_kinds f4_numbers w3_on w3_lines w3_reach w3_positions w3_queued w3_position w3_next w3_mode v5_outTicks w3_stops w3_ticked (0 : Int32) v1_threshold f1_values) := hD
      refine lv_aload_n hx hb dX6_begin_46 rfl (lv_at hl 0 rfl) ?_
      refine va_get (D := (dC, dI)) (ci := 5) (v := .ref a5) (C := RX6) (T := TX6) (N := 6) hx hb hts hiX6 hown hK hP 0 rfl rfl 3 (by decide) (hts (.fieldLink RX6 35 "PageLines" "scan" "LPageLines$Scan;") (List.mem_of_getElem? (i := 1) rfl)) (fun _ h9 => h9) rfl dX6_begin_47 ?_
      refine va_get (D := (dC, dI)) (ci := 4) (v := .int w3_positions) (C := RX5) (T := TX5) (N := 11) hx hb hts hiX5 hown hK hP 18 rfl rfl 3 (by decide) (hts (.fieldLink RX6 153 "PageLines$Scan" "positions" "I") (List.mem_of_getElem? (i := 5) rfl)) (fun _ h9 => h9) rfl dX6_begin_50 ?_
      cases hf
      exact W.iret hx hb hr (fun t ht hW => ⟨⟨_, (), rfl, rfl, by rw [ht]; exact hP, hD⟩, hS.F ht⟩) hS.2.2 dX6_begin_53
    · have hf := it_n hc hf
      refine lv_bipush (v := (-3 : Int32)) hx hb dX6_begin_23 (by decide) ?_
      cases hf
      exact W.iret hx hb hr (fun t ht hW => ⟨⟨_, (), rfl, rfl, by rw [ht]; exact hP, hD⟩, hS.F ht⟩) hS.2.2 dX6_begin_25
  · have hf := it_p hc hf
    refine lv_bipush (v := (-2 : Int32)) hx hb dX6_begin_10 (by decide) ?_
    cases hf
    exact W.iret hx hb hr (fun t ht hW => ⟨⟨_, (), rfl, rfl, by rw [ht]; exact hP, hD⟩, hS.F ht⟩) hS.2.2 dX6_begin_12
set_option maxHeartbeats 4000000 in
set_option maxRecDepth 100000 in
theorem kX6_ticks (l : Launch) (dC : Nat → ClassId) (dI : Nat → Nat → Nat) (cy : ClassId) (sz : Nat) (a6 a6_leads a0 a0_offset a0_gain a0_dark a0_bright a3 a3_firstRow a3_lastRow a3_firstColumn a3_lastColumn a3_slants a3_tints a3_specks a4 a4_kinds a4_numbers a5 a1 a1_values : Nat) (f6_leads : Nat → Int32) (f0_offset : Nat → Int32) (f0_gain : Nat → Int32) (f0_dark : Nat → Int32) (f0_bright : Nat → Int32) (v3_ground : Int32) (v3_patches : Int32) (f3_firstRow : Nat → Int32) (f3_lastRow : Nat → Int32) (f3_firstColumn : Nat → Int32) (f3_lastColumn : Nat → Int32) (f3_slants : Nat → Int32) (f3_tints : Nat → Int32) (f3_specks : Nat → Int32) (v4_count : Int32) (f4_kinds : Nat → Int32) (f4_numbers : Nat → Int32) (v5_on : Int32) (v5_lines : Int32) (v5_reach : Int32) (v5_positions : Int32) (v5_queued : Int32) (v5_position : Int32) (v5_next : Int32) (v5_mode : Int32) (v5_outTicks : Int32) (v5_stops : Int32) (v5_ticked : Int32) (v1_count : Int32) (v1_threshold : Int32) (f1_values : Nat → Int32) (p1 : Int32) (r : Int32) (o_v5_queued : Int32) (o_v5_position : Int32) (o_v5_next : Int32) (o_v5_mode : Int32) (o_v5_outTicks : Int32) (o_v5_stops : Int32) (o_v5_ticked : Int32) (hf : fX6_ticks v5_on v5_reach v5_positions v5_queued v5_position v5_next v5_mode v5_outTicks v5_stops v5_ticked p1 = some (r, o_v5_queued, o_v5_position, o_v5_next, o_v5_mode, o_v5_outTicks, o_v5_stops, o_v5_ticked)) : Met l yX6_ticks wsX6_ticks ({ frames := 4, cells := 0, slots := 0, locals := 81 }) (rwP [.ref a6, .int p1] (dC, dI) vwCl (WX6 cy a6 a6_leads a0 a0_offset a0_gain a0_dark a0_bright a3 a3_firstRow a3_lastRow a3_firstColumn a3_lastColumn a3_slants a3_tints a3_specks a4 a4_kinds a4_numbers a5 a1 a1_values f6_leads f0_offset f0_gain f0_dark f0_bright v3_ground v3_patches f3_firstRow f3_lastRow f3_firstColumn f3_lastColumn f3_slants f3_tints f3_specks v4_count f4_kinds f4_numbers v5_on v5_lines v5_reach v5_positions v5_queued v5_position v5_next v5_mode v5_outTicks v5_stops v5_ticked v1_count v1_threshold f1_values) [(cy, .int)] sz) (rwQi r (dC, dI) vwCl (WX6 cy a6 a6_leads a0 a0_offset a0_gain a0_dark a0_bright a3 a3_firstRow a3_lastRow a3_firstColumn a3_lastColumn a3_slants a3_tints a3_specks a4 a4_kinds a4_numbers a5 a1 a1_values f6_leads f0_offset f0_gain f0_dark f0_bright v3_ground v3_patches f3_firstRow f3_lastRow f3_firstColumn f3_lastColumn f3_slants f3_tints f3_specks v4_count f4_kinds f4_numbers v5_on v5_lines v5_reach v5_positions o_v5_queued o_v5_position o_v5_next o_v5_mode o_v5_outTicks o_v5_stops o_v5_ticked v1_count v1_threshold f1_values) (va_A (WX6 cy a6 a6_leads a0 a0_offset a0_gain a0_dark a0_bright a3 a3_firstRow a3_lastRow a3_firstColumn a3_lastColumn a3_slants a3_tints a3_specks a4 a4_kinds a4_numbers a5 a1 a1_values f6_leads f0_offset f0_gain f0_dark f0_bright v3_ground v3_patches f3_firstRow f3_lastRow f3_firstColumn f3_lastColumn f3_slants f3_tints f3_specks v4_count f4_kinds f4_numbers v5_on v5_lines v5_reach v5_positions v5_queued v5_position v5_next v5_mode v5_outTicks v5_stops v5_ticked v1_count v1_threshold f1_values) sz)) 0 0 (va_A (WX6 cy a6 a6_leads a0 a0_offset a0_gain a0_dark a0_bright a3 a3_firstRow a3_lastRow a3_firstColumn a3_lastColumn a3_slants a3_tints a3_specks a4 a4_kinds a4_numbers a5 a1 a1_values f6_leads f0_offset f0_gain f0_dark f0_bright v3_ground v3_patches f3_firstRow f3_lastRow f3_firstColumn f3_lastColumn f3_slants f3_tints f3_specks v4_count f4_kinds f4_numbers v5_on v5_lines v5_reach v5_positions v5_queued v5_position v5_next v5_mode v5_outTicks v5_stops v5_ticked v1_count v1_threshold f1_values) sz) := by
  refine Met.ofW (cc := cX6_ticks) (maxL := 4) (ret := (some .int)) (by decide) rfl ?_
  intro p e s m args below meth c s₁ B hml hv
  obtain ⟨rfl, hsz, hP, hK, hD0⟩ := hv
  have hx := B.exec
  have hb := B.bytes
  have hr := B.returns
  have hts := atoms_spec (ws := wsX6_ticks) B.pre
  have hown : s.vm.findClass RX6 = some m.cls := findClass_of_methodNamed B.named
  have hlocks := B.notSynchronized
  have hiX6 : ∀ w ∈ u_ws RX6 TX6 6, w ∈ wsX6_ticks := fun _ h => List.mem_cons_of_mem _ (List.mem_append_left _ ((List.mem_append_right _ h)))
  have hiX5 : ∀ w ∈ u_ws RX5 TX5 11, w ∈ wsX6_ticks := fun _ h => List.mem_cons_of_mem _ ((List.mem_append_right _ h))
  subst hsz
  have hD := hD0.self (sz := s.heap.size)
  generalize hAe : va_A (WX6 cy a6 a6_leads a0 a0_offset a0_gain a0_dark a0_bright a3 a3_firstRow a3_lastRow a3_firstColumn a3_lastColumn a3_slants a3_tints a3_specks a4 a4_kinds a4_numbers a5 a1 a1_values f6_leads f0_offset f0_gain f0_dark f0_bright v3_ground v3_patches f3_firstRow f3_lastRow f3_firstColumn f3_lastColumn f3_slants f3_tints f3_specks v4_count f4_kinds f4_numbers v5_on v5_lines v5_reach v5_positions v5_queued v5_position v5_next v5_mode v5_outTicks v5_stops v5_ticked v1_count v1_threshold f1_values) s.heap.size = A0 at hD ⊢
  have hA : ∀ q : Nat, s.heap.size ≤ q → A0 q := fun q h => by rw [← hAe]; exact Or.inr h
  have hS : va_S A0 s.heap s.heap [] := va_S.rf
  have hb_18 : ∀ (n : Nat) (v5_queued : Int32) (v5_position : Int32) (v5_next : Int32) (v5_mode : Int32) (v5_outTicks : Int32) (v5_stops : Int32) (v5_ticked : Int32) (x1 : Int32) (x2 : Int32) (x3 : Int32), bX6_ticks_18 v5_on v5_reach v5_positions n v5_queued v5_position v5_next v5_mode v5_outTicks v5_stops v5_ticked x1 x2 x3 = some (r, o_v5_queued, o_v5_position, o_v5_next, o_v5_mode, o_v5_outTicks, o_v5_stops, o_v5_ticked) → ∀ (H : Heap) (locs : List Loc) (ls : Array Slot), va_P (dC, dI) vwCl (WX6 cy a6 a6_leads a0 a0_offset a0_gain a0_dark a0_bright a3 a3_firstRow a3_lastRow a3_firstColumn a3_lastColumn a3_slants a3_tints a3_specks a4 a4_kinds a4_numbers a5 a1 a1_values f6_leads f0_offset f0_gain f0_dark f0_bright v3_ground v3_patches f3_firstRow f3_lastRow f3_firstColumn f3_lastColumn f3_slants f3_tints f3_specks v4_count f4_kinds f4_numbers v5_on v5_lines v5_reach v5_positions v5_queued v5_position v5_next v5_mode v5_outTicks v5_stops v5_ticked v1_count v1_threshold f1_values) H → va_D A0 (WX6 cy a6 a6_leads a0 a0_offset a0_gain a0_dark a0_bright a3 a3_firstRow a3_lastRow a3_firstColumn a3_lastColumn a3_slants a3_tints a3_specks a4 a4_kinds a4_numbers a5 a1 a1_values f6_leads f0_offset f0_gain f0_dark f0_bright v3_ground v3_patches f3_firstRow f3_lastRow f3_firstColumn f3_lastColumn f3_slants f3_tints f3_specks v4_count f4_kinds f4_numbers v5_on v5_lines v5_reach v5_positions v5_queued v5_position v5_next v5_mode v5_outTicks v5_stops v5_ticked v1_count v1_threshold f1_values) → va_S A0 s.heap H locs → lv_has ls 4 [(0, .ref a6), (1, .int x1), (2, .int x2), (3, .int x3)] → W p l e (headSpec wsX6_ticks ({ frames := 4, cells := 0, slots := 0, locals := 81 })).room s m ([.ref a6, .int p1] : List Value).toArray below meth c H locs 0 0 (MQ below (rwQi r (dC, dI) vwCl (WX6 cy a6 a6_leads a0 a0_offset a0_gain a0_dark a0_bright a3 a3_firstRow a3_lastRow a3_firstColumn a3_lastColumn a3_slants a3_tints a3_specks a4 a4_kinds a4_numbers a5 a1 a1_values f6_leads f0_offset f0_gain f0_dark f0_bright v3_ground v3_patches f3_firstRow f3_lastRow f3_firstColumn f3_lastColumn f3_slants f3_tints f3_specks v4_count f4_kinds f4_numbers v5_on v5_lines v5_reach v5_positions o_v5_queued o_v5_position o_v5_next o_v5_mode o_v5_outTicks o_v5_stops o_v5_ticked v1_count v1_threshold f1_values) A0) ([.ref a6, .int p1] : List Value).toArray s 0 0 A0) (F0 m 18 ls []) := by
    intro n
    induction n with
    | zero => intro v5_queued v5_position v5_next v5_mode v5_outTicks v5_stops v5_ticked x1 x2 x3 hf; rw [bX6_ticks_18] at hf; cases hf
    | succ n18 ih18 =>
      intro v5_queued v5_position v5_next v5_mode v5_outTicks v5_stops v5_ticked x1 x2 x3 hf H locs ls hP hD hS hl
      rw [bX6_ticks_18] at hf
      refine lv_iload_n hx hb dX6_ticks_18 rfl (lv_at hl 3 rfl) ?_
      refine lv_iload_n hx hb dX6_ticks_19 rfl (lv_at hl 1 rfl) ?_
      refine lv_icmp_ge (tgt := 39) hx hb dX6_ticks_20 (by decide) (fun hc => ?_) (fun hc => ?_)
      · have hf := it_p hc hf
        refine lv_iload_n hx hb dX6_ticks_39 rfl (lv_at hl 2 rfl) ?_
        cases hf
        exact W.iret hx hb hr (fun t ht hW => ⟨⟨_, (), rfl, rfl, by rw [ht]; exact hP, hD⟩, hS.F ht⟩) hS.2.2 dX6_ticks_40
      · have hf := it_n hc hf
        refine lv_iload_n hx hb dX6_ticks_23 rfl (lv_at hl 2 rfl) ?_
        refine lv_aload_n hx hb dX6_ticks_24 rfl (lv_at hl 0 rfl) ?_
        refine va_get (D := (dC, dI)) (ci := 5) (v := .ref a5) (C := RX6) (T := TX6) (N := 6) hx hb hts hiX6 hown hK hP 0 rfl rfl 3 (by decide) (hts (.fieldLink RX6 35 "PageLines" "scan" "LPageLines$Scan;") (List.mem_of_getElem? (i := 1) rfl)) (fun _ h9 => h9) rfl dX6_ticks_25 ?_
        obtain ⟨r3, w3_queued, w3_position, w3_next, w3_mode, w3_outTicks, w3_stops, w3_ticked, hr3, hf⟩ := cl8_sp hf
        refine rw_V (As := []) (wr := [(a6, .inr (5, [.ref a0, .ref a3, .ref a4, .ref a5, .ref a1, .ref a6_leads])), (a6_leads, .inl (cy, 3, .inl f6_leads)), (a0, .inr (0, [.ref a0_offset, .ref a0_gain, .ref a0_dark, .ref a0_bright])), (a0_offset, .inl (cy, 36, .inl f0_offset)), (a0_gain, .inl (cy, 36, .inl f0_gain)), (a0_dark, .inl (cy, 36, .inl f0_dark)), (a0_bright, .inl (cy, 36, .inl f0_bright)), (a3, .inr (2, [.int v3_ground, .int v3_patches, .ref a3_firstRow, .ref a3_lastRow, .ref a3_firstColumn, .ref a3_lastColumn, .ref a3_slants, .ref a3_tints, .ref a3_specks])), (a3_firstRow, .inl (cy, 12, .inl f3_firstRow)), (a3_lastRow, .inl (cy, 12, .inl f3_lastRow)), (a3_firstColumn, .inl (cy, 12, .inl f3_firstColumn)), (a3_lastColumn, .inl (cy, 12, .inl f3_lastColumn)), (a3_slants, .inl (cy, 12, .inl f3_slants)), (a3_tints, .inl (cy, 36, .inl f3_tints)), (a3_specks, .inl (cy, 12, .inl f3_specks)), (a4, .inr (3, [.int v4_count, .ref a4_kinds, .ref a4_numbers])), (a4_kinds, .inl (cy, 4, .inl f4_kinds)), (a4_numbers, .inl (cy, 4, .inl f4_numbers)), (a1, .inr (1, [.int v1_count, .int v1_threshold, .ref a1_values])), (a1_values, .inl (cy, 1440, .inl f1_values))]) ⟨hx, hb, hml, hown, hts⟩ (kX5_tick l dC dI cy _ a5 v5_on v5_lines v5_reach v5_positions v5_queued v5_position v5_next v5_mode v5_outTicks v5_stops v5_ticked r3 w3_queued w3_position w3_next w3_mode w3_outTicks w3_stops w3_ticked hr3) (cwV 0 hts gX6_ticks_X5_tick rfl rfl rfl (by decide +kernel) ⟨Nat.le_of_ble_eq_true rfl, Nat.le_of_ble_eq_true rfl⟩) (va_recv hK hP (ci := 4) (q0 := 18) rfl rfl) hK hP hD hS hA [18] [0, 1, 2, 3, 4, 5, 6, 7, 8, 9, 10, 11, 12, 13, 14, 15, 16, 17, 19, 20] rfl rfl (by decide) (by decide) (by decide) rfl hl.1 rfl (Nat.le_of_ble_eq_true rfl) dX6_ticks_28 (Nat.zero_le _) (Nat.zero_le _) (fun H locs hP hD hS => ?_)
        have hP : va_P (dC, dI) vwCl (WX6 cy a6 a6_leads a0 a0_offset a0_gain a0_dark a0_bright a3 a3_firstRow a3_lastRow a3_firstColumn a3_lastColumn a3_slants a3_tints a3_specks a4 a4_kinds a4_numbers a5 a1 a1_values f6_leads f0_offset f0_gain f0_dark f0_bright v3_ground v3_patches f3_firstRow f3_lastRow f3_firstColumn f3_lastColumn f3_slants f3_tints f3_specks v4_count f4_kinds f4_numbers v5_on v5_lines v5_reach v5_positions w3_queued w3_position w3_next w3_mode w3_outTicks w3_stops w3_ticked v1_count v1_threshold f1_values) H := hP.sub [0, 1, 2, 3, 4, 5, 6, 7, 8, 9, 10, 11, 12, 13, 14, 15, 16, 17, 20, 18, 19] rfl
        have hD : va_D A0 (WX6 cy a6 a6_leads a0 a0_offset a0_gain a0_dark a0_bright a3 a3_firstRow a3_lastRow a3_firstColumn a3_lastColumn a3_slants a3_tints a3_specks a4 a4_kinds a4_numbers a5 a1 a1_values f6_leads f0_offset f0_gain f0_dark f0_bright v3_ground v3_patches f3_firstRow f3_lastRow f3_firstColumn f3_lastColumn f3_slants f3_tints f3_specks v4_count f4_kinds f4_numbers v5_on v5_lines v5_reach v5_positions w3_queued w3_position w3_next w3_mode w3_outTicks w3_stops w3_ticked v1_count v1_threshold f1_values) := hD.sub [0, 1, 2, 3, 4, 5, 6, 7, 8, 9, 10, 11, 12, 13, 14, 15, 16, 17, 20, 18, 19] (by decide) rfl
        refine lv_iadd hx hb dX6_ticks_31 ?_
        refine lv_istore_n (lv' := [(2, .int (x2 + r3)), (0, .ref a6), (1, .int x1), (3, .int x3)]) hx hb dX6_ticks_32 rfl hl (by decide) rfl (fun ls hl => ?_)
        refine lv_iinc (v := x3 + (1 : Int32)) (lv' := [(3, .int (x3 + (1 : Int32))), (2, .int (x2 + r3)), (0, .ref a6), (1, .int x1)]) hx hb dX6_ticks_33 hl (k := 3) rfl rfl (by decide) rfl (fun ls hl => ?_)
        refine lv_goto (tgt := 18) hx hb dX6_ticks_36 (by decide) ?_
        exact ih18 w3_queued w3_position w3_next w3_mode w3_outTicks w3_stops w3_ticked x1 (x2 + r3) (x3 + (1 : Int32)) hf _ _ _ hP hD hS (lv_sub hl [2, 3, 1, 0] rfl)
  have hl := lv_entry ([.ref a6, .int p1]) (n := 4) (Nat.le_of_ble_eq_true rfl)
  rw [lg_entry_eq]
  generalize (lg_sl ([.ref a6, .int p1]) ++ List.replicate (4 - (lg_sl ([.ref a6, .int p1])).length) Slot.unset).toArray = ls at hl ⊢
  have hl : lv_has ls 4 [(0, .ref a6), (1, .int p1)] := hl
  unfold fX6_ticks at hf
  refine lv_iload_n hx hb dX6_ticks_0 rfl (lv_at hl 1 rfl) ?_
  refine lv_iconst (v := (0 : Int32)) hx hb dX6_ticks_1 (by decide) ?_
  refine lv_sipush (v := (200 : Int32)) hx hb dX6_ticks_2 (by decide) ?_
  obtain ⟨r1, hr1, hf⟩ := cl1_sp hf
  refine ro_S (As := [.int p1, .int (0 : Int32), .int (200 : Int32)]) ⟨hx, hb, hml, hown, hts⟩ (kX2_within l _ p1 (0 : Int32) (200 : Int32) r1 hr1) (va_cwS 3 hts gX6_ticks_X2_within rfl rfl rfl (by decide +kernel) ⟨Nat.le_of_ble_eq_true rfl, Nat.le_of_ble_eq_true rfl⟩) hS rfl hl.1 rfl (Nat.le_of_ble_eq_true rfl) dX6_ticks_5 (Nat.zero_le _) (Nat.zero_le _) (fun locs hS => ?_)
  refine lv_if_ne (tgt := 14) hx hb dX6_ticks_8 (by decide) (fun hc => ?_) (fun hc => ?_)
  · have hf := it_n hc hf
    refine lv_iconst (v := (0 : Int32)) hx hb dX6_ticks_14 (by decide) ?_
    refine lv_istore_n (lv' := [(2, .int (0 : Int32)), (0, .ref a6), (1, .int p1)]) hx hb dX6_ticks_15 rfl hl (by decide) rfl (fun ls hl => ?_)
    refine lv_iconst (v := (0 : Int32)) hx hb dX6_ticks_16 (by decide) ?_
    refine lv_istore_n (lv' := [(3, .int (0 : Int32)), (2, .int (0 : Int32)), (0, .ref a6), (1, .int p1)]) hx hb dX6_ticks_17 rfl hl (by decide) rfl (fun ls hl => ?_)
    exact hb_18 300 v5_queued v5_position v5_next v5_mode v5_outTicks v5_stops v5_ticked p1 (0 : Int32) (0 : Int32) hf _ _ _ hP hD hS (lv_sub hl [2, 3, 1, 0] rfl)
  · have hf := it_p hc hf
    refine lv_bipush (v := (-2 : Int32)) hx hb dX6_ticks_11 (by decide) ?_
    cases hf
    exact W.iret hx hb hr (fun t ht hW => ⟨⟨_, (), rfl, rfl, by rw [ht]; exact hP, hD⟩, hS.F ht⟩) hS.2.2 dX6_ticks_13
set_option maxHeartbeats 4000000 in
set_option maxRecDepth 100000 in
theorem kX6_liveValue (l : Launch) (dC : Nat → ClassId) (dI : Nat → Nat → Nat) (cy : ClassId) (H : Heap) (a6 a6_leads a0 a0_offset a0_gain a0_dark a0_bright a3 a3_firstRow a3_lastRow a3_firstColumn a3_lastColumn a3_slants a3_tints a3_specks a4 a4_kinds a4_numbers a5 a1 a1_values : Nat) (f6_leads : Nat → Int32) (f0_offset : Nat → Int32) (f0_gain : Nat → Int32) (f0_dark : Nat → Int32) (f0_bright : Nat → Int32) (v3_ground : Int32) (v3_patches : Int32) (f3_firstRow : Nat → Int32) (f3_lastRow : Nat → Int32) (f3_firstColumn : Nat → Int32) (f3_lastColumn : Nat → Int32) (f3_slants : Nat → Int32) (f3_tints : Nat → Int32) (f3_specks : Nat → Int32) (v4_count : Int32) (f4_kinds : Nat → Int32) (f4_numbers : Nat → Int32) (v5_on : Int32) (v5_lines : Int32) (v5_reach : Int32) (v5_positions : Int32) (v5_queued : Int32) (v5_position : Int32) (v5_next : Int32) (v5_mode : Int32) (v5_outTicks : Int32) (v5_stops : Int32) (v5_ticked : Int32) (v1_count : Int32) (v1_threshold : Int32) (f1_values : Nat → Int32) (p1 : Int32) (p2 : Int32) (p3 : Int32) (r : Int32) (hf : fX6_liveValue f6_leads f0_offset f0_gain f0_dark f0_bright v3_ground v3_patches f3_firstRow f3_lastRow f3_firstColumn f3_lastColumn f3_slants f3_tints f3_specks p1 p2 p3 = some r) : Met l yX6_liveValue wsX6_liveValue ({ frames := 3, cells := 0, slots := 0, locals := 75 }) (roP [.ref a6, .int p1, .int p2, .int p3] (dC, dI) vwCl (WX6 cy a6 a6_leads a0 a0_offset a0_gain a0_dark a0_bright a3 a3_firstRow a3_lastRow a3_firstColumn a3_lastColumn a3_slants a3_tints a3_specks a4 a4_kinds a4_numbers a5 a1 a1_values f6_leads f0_offset f0_gain f0_dark f0_bright v3_ground v3_patches f3_firstRow f3_lastRow f3_firstColumn f3_lastColumn f3_slants f3_tints f3_specks v4_count f4_kinds f4_numbers v5_on v5_lines v5_reach v5_positions v5_queued v5_position v5_next v5_mode v5_outTicks v5_stops v5_ticked v1_count v1_threshold f1_values) [(cy, .int)] H) (roQi r H) 0 0 (fun _ => False) := by
  refine Met.ofW (cc := cX6_liveValue) (maxL := 8) (ret := (some .int)) (by decide) rfl ?_
  intro p e s m args below meth c s₁ B hml hv
  obtain ⟨rfl, hH, hP, hK⟩ := hv
  have hx := B.exec
  have hb := B.bytes
  have hr := B.returns
  have hts := atoms_spec (ws := wsX6_liveValue) B.pre
  have hown : s.vm.findClass RX6 = some m.cls := findClass_of_methodNamed B.named
  have hlocks := B.notSynchronized
  have hiX6 : ∀ w ∈ u_ws RX6 TX6 6, w ∈ wsX6_liveValue := fun _ h => List.mem_cons_of_mem _ (List.mem_append_left _ (List.mem_append_left _ ((List.mem_append_right _ h))))
  have hiX3 : ∀ w ∈ u_ws RX3 TX3 9, w ∈ wsX6_liveValue := fun _ h => List.mem_cons_of_mem _ (List.mem_append_left _ ((List.mem_append_right _ h)))
  have hiX0 : ∀ w ∈ u_ws RX0 TX0 4, w ∈ wsX6_liveValue := fun _ h => List.mem_cons_of_mem _ ((List.mem_append_right _ h))
  subst hH
  have hS : va_S (fun _ => False) s.heap s.heap [] := va_S.rf
  have hl := lv_entry ([.ref a6, .int p1, .int p2, .int p3]) (n := 8) (Nat.le_of_ble_eq_true rfl)
  rw [lg_entry_eq]
  generalize (lg_sl ([.ref a6, .int p1, .int p2, .int p3]) ++ List.replicate (8 - (lg_sl ([.ref a6, .int p1, .int p2, .int p3])).length) Slot.unset).toArray = ls at hl ⊢
  have hl : lv_has ls 8 [(0, .ref a6), (1, .int p1), (2, .int p2), (3, .int p3)] := hl
  unfold fX6_liveValue at hf
  refine lv_iconst (v := (4 : Int32)) hx hb dX6_liveValue_0 (by decide) ?_
  refine lv_iload_n hx hb dX6_liveValue_1 rfl (lv_at hl 1 rfl) ?_
  refine lv_imul hx hb dX6_liveValue_2 ?_
  refine lv_aload_n hx hb dX6_liveValue_3 rfl (lv_at hl 0 rfl) ?_
  refine va_get (D := (dC, dI)) (ci := 5) (v := .ref a6_leads) (C := RX6) (T := TX6) (N := 6) hx hb hts hiX6 hown hK hP 0 rfl rfl 5 (by decide) (hts (.fieldLink RX6 46 "PageLines" "leads" "[I") (List.mem_of_getElem? (i := 1) rfl)) (fun _ h9 => h9) rfl dX6_liveValue_4 ?_
  refine lv_iload_n hx hb dX6_liveValue_7 rfl (lv_at hl 2 rfl) ?_
  obtain ⟨hi_1, hf⟩ := ckI_sp hf
  refine va_iald hx hb hK hP 1 0 rfl rfl hi_1 dX6_liveValue_8 ?_
  refine lv_isub hx hb dX6_liveValue_9 ?_
  refine lv_istore (lv' := [(4, .int (((4 : Int32) * p1) - (f6_leads p2.toNatClampNeg))), (0, .ref a6), (1, .int p1), (2, .int p2), (3, .int p3)]) hx hb dX6_liveValue_10 hl (by decide) rfl (fun ls hl => ?_)
  refine lv_iload hx hb dX6_liveValue_12 (lv_at hl 0 rfl) ?_
  refine lv_iconst (v := (4 : Int32)) hx hb dX6_liveValue_14 (by decide) ?_
  obtain ⟨r2, hr2, hf⟩ := cl1_sp hf
  refine ro_S (As := [.int (((4 : Int32) * p1) - (f6_leads p2.toNatClampNeg)), .int (4 : Int32)]) ⟨hx, hb, hml, hown, hts⟩ (kJ9_floorDiv_7cf53 l _ (((4 : Int32) * p1) - (f6_leads p2.toNatClampNeg)) (4 : Int32) r2 hr2) (va_cwS 2 hts gX6_liveValue_J9_floorDiv_7cf53 rfl rfl rfl (by decide +kernel) ⟨Nat.le_of_ble_eq_true rfl, Nat.le_of_ble_eq_true rfl⟩) hS rfl hl.1 rfl (Nat.le_of_ble_eq_true rfl) dX6_liveValue_15 (Nat.zero_le _) (Nat.zero_le _) (fun locs hS => ?_)
  refine lv_istore (lv' := [(5, .int r2), (4, .int (((4 : Int32) * p1) - (f6_leads p2.toNatClampNeg))), (0, .ref a6), (1, .int p1), (2, .int p2), (3, .int p3)]) hx hb dX6_liveValue_18 hl (by decide) rfl (fun ls hl => ?_)
  refine lv_aload_n hx hb dX6_liveValue_20 rfl (lv_at hl 2 rfl) ?_
  refine va_get (D := (dC, dI)) (ci := 5) (v := .ref a3) (C := RX6) (T := TX6) (N := 6) hx hb hts hiX6 hown hK hP 0 rfl rfl 1 (by decide) (hts (.fieldLink RX6 21 "PageLines" "page" "LPageLines$Page;") (List.mem_of_getElem? (i := 2) rfl)) (fun _ h9 => h9) rfl dX6_liveValue_21 ?_
  refine lv_iload_n hx hb dX6_liveValue_24 rfl (lv_at hl 4 rfl) ?_
  refine lv_iload_n hx hb dX6_liveValue_25 rfl (lv_at hl 5 rfl) ?_
  refine lv_iload hx hb dX6_liveValue_26 (lv_at hl 0 rfl) ?_
  refine lv_iload hx hb dX6_liveValue_28 (lv_at hl 1 rfl) ?_
  refine lv_iconst (v := (4 : Int32)) hx hb dX6_liveValue_30 (by decide) ?_
  refine lv_iload hx hb dX6_liveValue_31 (lv_at hl 0 rfl) ?_
  refine lv_imul hx hb dX6_liveValue_33 ?_
  refine lv_isub hx hb dX6_liveValue_34 ?_
  obtain ⟨r3, hr3, hf⟩ := cl1_sp hf
  refine ro_V (As := [.int p2, .int p3, .int r2, .int ((((4 : Int32) * p1) - (f6_leads p2.toNatClampNeg)) - ((4 : Int32) * r2))]) ⟨hx, hb, hml, hown, hts⟩ (kX3_lightOn l dC dI cy _ a3 a3_firstRow a3_lastRow a3_firstColumn a3_lastColumn a3_slants a3_tints a3_specks v3_ground v3_patches f3_firstRow f3_lastRow f3_firstColumn f3_lastColumn f3_slants f3_tints f3_specks p2 p3 r2 ((((4 : Int32) * p1) - (f6_leads p2.toNatClampNeg)) - ((4 : Int32) * r2)) r3 hr3) (cwV 4 hts gX6_liveValue_X3_lightOn rfl rfl rfl (by decide +kernel) ⟨Nat.le_of_ble_eq_true rfl, Nat.le_of_ble_eq_true rfl⟩) (va_recv hK hP (ci := 2) (q0 := 7) rfl rfl) (hP.sub [7, 8, 9, 10, 11, 12, 13, 14] rfl) hK hS rfl hl.1 rfl (Nat.le_of_ble_eq_true rfl) dX6_liveValue_35 (Nat.zero_le _) (Nat.zero_le _) (fun locs hS => ?_)
  refine lv_istore (lv' := [(6, .int r3), (5, .int r2), (4, .int (((4 : Int32) * p1) - (f6_leads p2.toNatClampNeg))), (0, .ref a6), (1, .int p1), (2, .int p2), (3, .int p3)]) hx hb dX6_liveValue_38 hl (by decide) rfl (fun ls hl => ?_)
  refine lv_iload_n hx hb dX6_liveValue_40 rfl (lv_at hl 5 rfl) ?_
  refine lv_iload_n hx hb dX6_liveValue_41 rfl (lv_at hl 6 rfl) ?_
  obtain ⟨r4, hr4, hf⟩ := cl1_sp hf
  refine ro_S (As := [.int p2, .int p3]) ⟨hx, hb, hml, hown, hts⟩ (kX0_place l _ p2 p3 r4 hr4) (va_cwS 2 hts gX6_liveValue_X0_place rfl rfl rfl (by decide +kernel) ⟨Nat.le_of_ble_eq_true rfl, Nat.le_of_ble_eq_true rfl⟩) hS rfl hl.1 rfl (Nat.le_of_ble_eq_true rfl) dX6_liveValue_42 (Nat.zero_le _) (Nat.zero_le _) (fun locs hS => ?_)
  refine lv_istore (lv' := [(7, .int r4), (6, .int r3), (5, .int r2), (4, .int (((4 : Int32) * p1) - (f6_leads p2.toNatClampNeg))), (0, .ref a6), (1, .int p1), (2, .int p2), (3, .int p3)]) hx hb dX6_liveValue_45 hl (by decide) rfl (fun ls hl => ?_)
  refine lv_aload_n hx hb dX6_liveValue_47 rfl (lv_at hl 4 rfl) ?_
  refine va_get (D := (dC, dI)) (ci := 5) (v := .ref a0) (C := RX6) (T := TX6) (N := 6) hx hb hts hiX6 hown hK hP 0 rfl rfl 0 (by decide) (hts (.fieldLink RX6 14 "PageLines" "cells" "LPageLines$Cells;") (List.mem_of_getElem? (i := 3) rfl)) (fun _ h9 => h9) rfl dX6_liveValue_48 ?_
  refine lv_iload hx hb dX6_liveValue_51 (lv_at hl 0 rfl) ?_
  refine lv_aload_n hx hb dX6_liveValue_53 rfl (lv_at hl 4 rfl) ?_
  refine va_get (D := (dC, dI)) (ci := 5) (v := .ref a0) (C := RX6) (T := TX6) (N := 6) hx hb hts hiX6 hown hK hP 0 rfl rfl 0 (by decide) (hts (.fieldLink RX6 14 "PageLines" "cells" "LPageLines$Cells;") (List.mem_of_getElem? (i := 3) rfl)) (fun _ h9 => h9) rfl dX6_liveValue_54 ?_
  refine lv_iload hx hb dX6_liveValue_57 (lv_at hl 0 rfl) ?_
  refine lv_iload hx hb dX6_liveValue_59 (lv_at hl 1 rfl) ?_
  obtain ⟨r5, hr5, hf⟩ := cl1_sp hf
  refine ro_V (As := [.int r4, .int r3]) ⟨hx, hb, hml, hown, hts⟩ (kX0_readingOf l dC dI cy _ a0 a0_offset a0_gain a0_dark a0_bright f0_offset f0_gain f0_dark f0_bright r4 r3 r5 hr5) (cwV 2 hts gX6_liveValue_X0_readingOf rfl rfl rfl (by decide +kernel) ⟨Nat.le_of_ble_eq_true rfl, Nat.le_of_ble_eq_true rfl⟩) (va_recv hK hP (ci := 0) (q0 := 2) rfl rfl) (hP.sub [2, 3, 4, 5, 6] rfl) hK hS rfl hl.1 rfl (Nat.le_of_ble_eq_true rfl) dX6_liveValue_61 (Nat.zero_le _) (Nat.zero_le _) (fun locs hS => ?_)
  obtain ⟨r6, hr6, hf⟩ := cl1_sp hf
  refine ro_V (As := [.int r4, .int r5]) ⟨hx, hb, hml, hown, hts⟩ (kX0_evenOf l dC dI cy _ a0 a0_offset a0_gain a0_dark a0_bright f0_offset f0_gain f0_dark f0_bright r4 r5 r6 hr6) (cwV 2 hts gX6_liveValue_X0_evenOf rfl rfl rfl (by decide +kernel) ⟨Nat.le_of_ble_eq_true rfl, Nat.le_of_ble_eq_true rfl⟩) (va_recv hK hP (ci := 0) (q0 := 2) rfl rfl) (hP.sub [2, 3, 4, 5, 6] rfl) hK hS rfl hl.1 rfl (Nat.le_of_ble_eq_true rfl) dX6_liveValue_64 (Nat.zero_le _) (Nat.zero_le _) (fun locs hS => ?_)
  exact W.iret (v := r6) hx hb hr (fun t ht hW => ⟨⟨_, (), rfl, Option.some.inj hf, ht⟩, hS.F ht⟩) hS.2.2 dX6_liveValue_67

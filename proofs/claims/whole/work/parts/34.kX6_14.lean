set_option maxHeartbeats 4000000 in
set_option maxRecDepth 100000 in
theorem kX6_unpipe (l : Launch) (dC : Nat → ClassId) (dI : Nat → Nat → Nat) (cy : ClassId) (sz : Nat) (a6 a6_leads a0 a0_offset a0_gain a0_dark a0_bright a3 a3_firstRow a3_lastRow a3_firstColumn a3_lastColumn a3_slants a3_tints a3_specks a4 a4_kinds a4_numbers a5 a1 a1_values : Nat) (f6_leads : Nat → Int32) (f0_offset : Nat → Int32) (f0_gain : Nat → Int32) (f0_dark : Nat → Int32) (f0_bright : Nat → Int32) (v3_ground : Int32) (v3_patches : Int32) (f3_firstRow : Nat → Int32) (f3_lastRow : Nat → Int32) (f3_firstColumn : Nat → Int32) (f3_lastColumn : Nat → Int32) (f3_slants : Nat → Int32) (f3_tints : Nat → Int32) (f3_specks : Nat → Int32) (v4_count : Int32) (f4_kinds : Nat → Int32) (f4_numbers : Nat → Int32) (v5_on : Int32) (v5_lines : Int32) (v5_reach : Int32) (v5_positions : Int32) (v5_queued : Int32) (v5_position : Int32) (v5_next : Int32) (v5_mode : Int32) (v5_outTicks : Int32) (v5_stops : Int32) (v5_ticked : Int32) (v1_count : Int32) (v1_threshold : Int32) (f1_values : Nat → Int32) (p1 : Int32) (r : Int32) (o_v4_count : Int32) (o_f4_kinds : Nat → Int32) (o_f4_numbers : Nat → Int32) (hf : fX6_unpipe v4_count f4_kinds f4_numbers v5_on p1 = some (r, o_v4_count, o_f4_kinds, o_f4_numbers)) : Met l yX6_unpipe wsX6_unpipe ({ frames := 1, cells := 0, slots := 0, locals := 22 }) (rwP [.ref a6, .int p1] (dC, dI) vwCl (WX6 cy a6 a6_leads a0 a0_offset a0_gain a0_dark a0_bright a3 a3_firstRow a3_lastRow a3_firstColumn a3_lastColumn a3_slants a3_tints a3_specks a4 a4_kinds a4_numbers a5 a1 a1_values f6_leads f0_offset f0_gain f0_dark f0_bright v3_ground v3_patches f3_firstRow f3_lastRow f3_firstColumn f3_lastColumn f3_slants f3_tints f3_specks v4_count f4_kinds f4_numbers v5_on v5_lines v5_reach v5_positions v5_queued v5_position v5_next v5_mode v5_outTicks v5_stops v5_ticked v1_count v1_threshold f1_values) [(cy, .int)] sz) (rwQi r (dC, dI) vwCl (WX6 cy a6 a6_leads a0 a0_offset a0_gain a0_dark a0_bright a3 a3_firstRow a3_lastRow a3_firstColumn a3_lastColumn a3_slants a3_tints a3_specks a4 a4_kinds a4_numbers a5 a1 a1_values f6_leads f0_offset f0_gain f0_dark f0_bright v3_ground v3_patches f3_firstRow f3_lastRow f3_firstColumn f3_lastColumn f3_slants f3_tints f3_specks o_v4_count o_f4_kinds o_f4_numbers v5_on v5_lines v5_reach v5_positions v5_queued v5_position v5_next v5_mode v5_outTicks v5_stops v5_ticked v1_count v1_threshold f1_values) (va_A (WX6 cy a6 a6_leads a0 a0_offset a0_gain a0_dark a0_bright a3 a3_firstRow a3_lastRow a3_firstColumn a3_lastColumn a3_slants a3_tints a3_specks a4 a4_kinds a4_numbers a5 a1 a1_values f6_leads f0_offset f0_gain f0_dark f0_bright v3_ground v3_patches f3_firstRow f3_lastRow f3_firstColumn f3_lastColumn f3_slants f3_tints f3_specks v4_count f4_kinds f4_numbers v5_on v5_lines v5_reach v5_positions v5_queued v5_position v5_next v5_mode v5_outTicks v5_stops v5_ticked v1_count v1_threshold f1_values) sz)) 0 0 (va_A (WX6 cy a6 a6_leads a0 a0_offset a0_gain a0_dark a0_bright a3 a3_firstRow a3_lastRow a3_firstColumn a3_lastColumn a3_slants a3_tints a3_specks a4 a4_kinds a4_numbers a5 a1 a1_values f6_leads f0_offset f0_gain f0_dark f0_bright v3_ground v3_patches f3_firstRow f3_lastRow f3_firstColumn f3_lastColumn f3_slants f3_tints f3_specks v4_count f4_kinds f4_numbers v5_on v5_lines v5_reach v5_positions v5_queued v5_position v5_next v5_mode v5_outTicks v5_stops v5_ticked v1_count v1_threshold f1_values) sz) := by
  refine Met.ofW (cc := cX6_unpipe) (maxL := 2) (ret := (some .int)) (by decide) rfl ?_
  intro p e s m args below meth c s₁ B hml hv
  obtain ⟨rfl, hsz, hP, hK, hD0⟩ := hv
  have hx := B.exec
  have hb := B.bytes
  have hr := B.returns
  have hts := atoms_spec (ws := wsX6_unpipe) B.pre
  have hown : s.vm.findClass RX6 = some m.cls := findClass_of_methodNamed B.named
  have hlocks := B.notSynchronized
  have hiX6 : ∀ w ∈ u_ws RX6 TX6 6, w ∈ wsX6_unpipe := fun _ h => List.mem_cons_of_mem _ (List.mem_append_left _ (List.mem_append_left _ ((List.mem_append_right _ h))))
  have hiX4 : ∀ w ∈ u_ws RX4 TX4 3, w ∈ wsX6_unpipe := fun _ h => List.mem_cons_of_mem _ (List.mem_append_left _ ((List.mem_append_right _ h)))
  have hiX5 : ∀ w ∈ u_ws RX5 TX5 11, w ∈ wsX6_unpipe := fun _ h => List.mem_cons_of_mem _ ((List.mem_append_right _ h))
  subst hsz
  have hD := hD0.self (sz := s.heap.size)
  generalize hAe : va_A (WX6 cy a6 a6_leads a0 a0_offset a0_gain a0_dark a0_bright a3 a3_firstRow a3_lastRow a3_firstColumn a3_lastColumn a3_slants a3_tints a3_specks a4 a4_kinds a4_numbers a5 a1 a1_values f6_leads f0_offset f0_gain f0_dark f0_bright v3_ground v3_patches f3_firstRow f3_lastRow f3_firstColumn f3_lastColumn f3_slants f3_tints f3_specks v4_count f4_kinds f4_numbers v5_on v5_lines v5_reach v5_positions v5_queued v5_position v5_next v5_mode v5_outTicks v5_stops v5_ticked v1_count v1_threshold f1_values) s.heap.size = A0 at hD ⊢
  have hA : ∀ q : Nat, s.heap.size ≤ q → A0 q := fun q h => by rw [← hAe]; exact Or.inr h
  have hS : va_S A0 s.heap s.heap [] := va_S.rf
  have hl := lv_entry ([.ref a6, .int p1]) (n := 2) (Nat.le_of_ble_eq_true rfl)
  rw [lg_entry_eq]
  generalize (lg_sl ([.ref a6, .int p1]) ++ List.replicate (2 - (lg_sl ([.ref a6, .int p1])).length) Slot.unset).toArray = ls at hl ⊢
  have hl : lv_has ls 2 [(0, .ref a6), (1, .int p1)] := hl
  unfold fX6_unpipe at hf
  refine lv_iload_n hx hb dX6_unpipe_0 rfl (lv_at hl 1 rfl) ?_
  refine lv_if_lt (tgt := 15) hx hb dX6_unpipe_1 (by decide) (fun hc => ?_) (fun hc => ?_)
  · have hf := it_p hc hf
    refine lv_iconst (v := (-1 : Int32)) hx hb dX6_unpipe_15 (by decide) ?_
    cases hf
    exact W.iret hx hb hr (fun t ht hW => ⟨⟨_, (), rfl, rfl, by rw [ht]; exact hP, hD⟩, hS.F ht⟩) hS.2.2 dX6_unpipe_16
  · have hf := it_n hc hf
    refine lv_iload_n hx hb dX6_unpipe_4 rfl (lv_at hl 1 rfl) ?_
    refine lv_aload_n hx hb dX6_unpipe_5 rfl (lv_at hl 0 rfl) ?_
    refine va_get (D := (dC, dI)) (ci := 5) (v := .ref a4) (C := RX6) (T := TX6) (N := 6) hx hb hts hiX6 hown hK hP 0 rfl rfl 2 (by decide) (hts (.fieldLink RX6 28 "PageLines" "steps" "LPageLines$Pipe;") (List.mem_of_getElem? (i := 1) rfl)) (fun _ h9 => h9) rfl dX6_unpipe_6 ?_
    refine va_get (D := (dC, dI)) (ci := 3) (v := .int v4_count) (C := RX4) (T := TX4) (N := 3) hx hb hts hiX4 hown hK hP 15 rfl rfl 0 (by decide) (hts (.fieldLink RX6 131 "PageLines$Pipe" "count" "I") (List.mem_of_getElem? (i := 2) rfl)) (fun _ h9 => h9) rfl dX6_unpipe_9 ?_
    refine lv_icmp_lt (tgt := 17) hx hb dX6_unpipe_12 (by decide) (fun hc => ?_) (fun hc => ?_)
    · have hf := it_p hc hf
      refine lv_aload_n hx hb dX6_unpipe_17 rfl (lv_at hl 0 rfl) ?_
      refine va_get (D := (dC, dI)) (ci := 5) (v := .ref a5) (C := RX6) (T := TX6) (N := 6) hx hb hts hiX6 hown hK hP 0 rfl rfl 3 (by decide) (hts (.fieldLink RX6 35 "PageLines" "scan" "LPageLines$Scan;") (List.mem_of_getElem? (i := 3) rfl)) (fun _ h9 => h9) rfl dX6_unpipe_18 ?_
      refine va_get (D := (dC, dI)) (ci := 4) (v := .int v5_on) (C := RX5) (T := TX5) (N := 11) hx hb hts hiX5 hown hK hP 18 rfl rfl 0 (by decide) (hts (.fieldLink RX6 60 "PageLines$Scan" "on" "Z") (List.mem_of_getElem? (i := 4) rfl)) (fun _ h9 => h9) rfl dX6_unpipe_21 ?_
      refine lv_if_eq (tgt := 30) hx hb dX6_unpipe_24 (by decide) (fun hc => ?_) (fun hc => ?_)
      · have hf := it_p hc hf
        refine lv_aload_n hx hb dX6_unpipe_30 rfl (lv_at hl 0 rfl) ?_
        refine va_get (D := (dC, dI)) (ci := 5) (v := .ref a4) (C := RX6) (T := TX6) (N := 6) hx hb hts hiX6 hown hK hP 0 rfl rfl 2 (by decide) (hts (.fieldLink RX6 28 "PageLines" "steps" "LPageLines$Pipe;") (List.mem_of_getElem? (i := 1) rfl)) (fun _ h9 => h9) rfl dX6_unpipe_31 ?_
        refine lv_iload_n hx hb dX6_unpipe_34 rfl (lv_at hl 1 rfl) ?_
        obtain ⟨w1_count, w1_kinds, w1_numbers, hr1, hf⟩ := cl3_sp hf
        refine rw_Vv (As := [.int p1]) (wr := [(a6, .inr (5, [.ref a0, .ref a3, .ref a4, .ref a5, .ref a1, .ref a6_leads])), (a6_leads, .inl (cy, 3, .inl f6_leads)), (a0, .inr (0, [.ref a0_offset, .ref a0_gain, .ref a0_dark, .ref a0_bright])), (a0_offset, .inl (cy, 36, .inl f0_offset)), (a0_gain, .inl (cy, 36, .inl f0_gain)), (a0_dark, .inl (cy, 36, .inl f0_dark)), (a0_bright, .inl (cy, 36, .inl f0_bright)), (a3, .inr (2, [.int v3_ground, .int v3_patches, .ref a3_firstRow, .ref a3_lastRow, .ref a3_firstColumn, .ref a3_lastColumn, .ref a3_slants, .ref a3_tints, .ref a3_specks])), (a3_firstRow, .inl (cy, 12, .inl f3_firstRow)), (a3_lastRow, .inl (cy, 12, .inl f3_lastRow)), (a3_firstColumn, .inl (cy, 12, .inl f3_firstColumn)), (a3_lastColumn, .inl (cy, 12, .inl f3_lastColumn)), (a3_slants, .inl (cy, 12, .inl f3_slants)), (a3_tints, .inl (cy, 36, .inl f3_tints)), (a3_specks, .inl (cy, 12, .inl f3_specks)), (a5, .inr (4, [.int v5_on, .int v5_lines, .int v5_reach, .int v5_positions, .int v5_queued, .int v5_position, .int v5_next, .int v5_mode, .int v5_outTicks, .int v5_stops, .int v5_ticked])), (a1, .inr (1, [.int v1_count, .int v1_threshold, .ref a1_values])), (a1_values, .inl (cy, 1440, .inl f1_values))]) ⟨hx, hb, hml, hown, hts⟩ (kX4_dropStep l dC dI cy _ a4 a4_kinds a4_numbers v4_count f4_kinds f4_numbers p1 w1_count w1_kinds w1_numbers hr1) (cwV 1 hts gX6_unpipe_X4_dropStep rfl rfl rfl (by decide +kernel) ⟨Nat.le_of_ble_eq_true rfl, Nat.le_of_ble_eq_true rfl⟩) (va_recv hK hP (ci := 3) (q0 := 15) rfl rfl) hK hP hD hS hA [15, 16, 17] [0, 1, 2, 3, 4, 5, 6, 7, 8, 9, 10, 11, 12, 13, 14, 18, 19, 20] rfl rfl (by decide) (by decide) (by decide) rfl hl.1 rfl (Nat.le_of_ble_eq_true rfl) dX6_unpipe_35 (Nat.zero_le _) (Nat.zero_le _) (fun H locs hP hD hS => ?_)
        have hP : va_P (dC, dI) vwCl (WX6 cy a6 a6_leads a0 a0_offset a0_gain a0_dark a0_bright a3 a3_firstRow a3_lastRow a3_firstColumn a3_lastColumn a3_slants a3_tints a3_specks a4 a4_kinds a4_numbers a5 a1 a1_values f6_leads f0_offset f0_gain f0_dark f0_bright v3_ground v3_patches f3_firstRow f3_lastRow f3_firstColumn f3_lastColumn f3_slants f3_tints f3_specks w1_count w1_kinds w1_numbers v5_on v5_lines v5_reach v5_positions v5_queued v5_position v5_next v5_mode v5_outTicks v5_stops v5_ticked v1_count v1_threshold f1_values) H := hP.sub [0, 1, 2, 3, 4, 5, 6, 7, 8, 9, 10, 11, 12, 13, 14, 18, 19, 20, 15, 16, 17] rfl
        have hD : va_D A0 (WX6 cy a6 a6_leads a0 a0_offset a0_gain a0_dark a0_bright a3 a3_firstRow a3_lastRow a3_firstColumn a3_lastColumn a3_slants a3_tints a3_specks a4 a4_kinds a4_numbers a5 a1 a1_values f6_leads f0_offset f0_gain f0_dark f0_bright v3_ground v3_patches f3_firstRow f3_lastRow f3_firstColumn f3_lastColumn f3_slants f3_tints f3_specks w1_count w1_kinds w1_numbers v5_on v5_lines v5_reach v5_positions v5_queued v5_position v5_next v5_mode v5_outTicks v5_stops v5_ticked v1_count v1_threshold f1_values) := hD.sub [0, 1, 2, 3, 4, 5, 6, 7, 8, 9, 10, 11, 12, 13, 14, 18, 19, 20, 15, 16, 17] (by decide) rfl
        refine lv_aload_n hx hb dX6_unpipe_38 rfl (lv_at hl 0 rfl) ?_
        refine va_get (D := (dC, dI)) (ci := 5) (v := .ref a4) (C := RX6) (T := TX6) (N := 6) hx hb hts hiX6 hown hK hP 0 rfl rfl 2 (by decide) (hts (.fieldLink RX6 28 "PageLines" "steps" "LPageLines$Pipe;") (List.mem_of_getElem? (i := 1) rfl)) (fun _ h9 => h9) rfl dX6_unpipe_39 ?_
        refine va_get (D := (dC, dI)) (ci := 3) (v := .int w1_count) (C := RX4) (T := TX4) (N := 3) hx hb hts hiX4 hown hK hP 15 rfl rfl 0 (by decide) (hts (.fieldLink RX6 131 "PageLines$Pipe" "count" "I") (List.mem_of_getElem? (i := 2) rfl)) (fun _ h9 => h9) rfl dX6_unpipe_42 ?_
        cases hf
        exact W.iret hx hb hr (fun t ht hW => ⟨⟨_, (), rfl, rfl, by rw [ht]; exact hP, hD⟩, hS.F ht⟩) hS.2.2 dX6_unpipe_45
      · have hf := it_n hc hf
        refine lv_bipush (v := (-3 : Int32)) hx hb dX6_unpipe_27 (by decide) ?_
        cases hf
        exact W.iret hx hb hr (fun t ht hW => ⟨⟨_, (), rfl, rfl, by rw [ht]; exact hP, hD⟩, hS.F ht⟩) hS.2.2 dX6_unpipe_29
    · have hf := it_n hc hf
      refine lv_iconst (v := (-1 : Int32)) hx hb dX6_unpipe_15 (by decide) ?_
      cases hf
      exact W.iret hx hb hr (fun t ht hW => ⟨⟨_, (), rfl, rfl, by rw [ht]; exact hP, hD⟩, hS.F ht⟩) hS.2.2 dX6_unpipe_16
set_option maxHeartbeats 4000000 in
set_option maxRecDepth 100000 in
theorem kX6_piped (l : Launch) (dC : Nat → ClassId) (dI : Nat → Nat → Nat) (cy : ClassId) (H : Heap) (a6 a6_leads a0 a0_offset a0_gain a0_dark a0_bright a3 a3_firstRow a3_lastRow a3_firstColumn a3_lastColumn a3_slants a3_tints a3_specks a4 a4_kinds a4_numbers a5 a1 a1_values : Nat) (f6_leads : Nat → Int32) (f0_offset : Nat → Int32) (f0_gain : Nat → Int32) (f0_dark : Nat → Int32) (f0_bright : Nat → Int32) (v3_ground : Int32) (v3_patches : Int32) (f3_firstRow : Nat → Int32) (f3_lastRow : Nat → Int32) (f3_firstColumn : Nat → Int32) (f3_lastColumn : Nat → Int32) (f3_slants : Nat → Int32) (f3_tints : Nat → Int32) (f3_specks : Nat → Int32) (v4_count : Int32) (f4_kinds : Nat → Int32) (f4_numbers : Nat → Int32) (v5_on : Int32) (v5_lines : Int32) (v5_reach : Int32) (v5_positions : Int32) (v5_queued : Int32) (v5_position : Int32) (v5_next : Int32) (v5_mode : Int32) (v5_outTicks : Int32) (v5_stops : Int32) (v5_ticked : Int32) (v1_count : Int32) (v1_threshold : Int32) (f1_values : Nat → Int32) (p1 : Int32) (r : Int32) (hf : fX6_piped v4_count f4_kinds f4_numbers p1 = some r) : Met l yX6_piped wsX6_piped ({ frames := 4, cells := 0, slots := 0, locals := 78 }) (roP [.ref a6, .int p1] (dC, dI) vwCl (WX6 cy a6 a6_leads a0 a0_offset a0_gain a0_dark a0_bright a3 a3_firstRow a3_lastRow a3_firstColumn a3_lastColumn a3_slants a3_tints a3_specks a4 a4_kinds a4_numbers a5 a1 a1_values f6_leads f0_offset f0_gain f0_dark f0_bright v3_ground v3_patches f3_firstRow f3_lastRow f3_firstColumn f3_lastColumn f3_slants f3_tints f3_specks v4_count f4_kinds f4_numbers v5_on v5_lines v5_reach v5_positions v5_queued v5_position v5_next v5_mode v5_outTicks v5_stops v5_ticked v1_count v1_threshold f1_values) [(cy, .int)] H) (roQi r H) 0 0 (fun _ => False) := by
  refine Met.ofW (cc := cX6_piped) (maxL := 2) (ret := (some .int)) (by decide) rfl ?_
  intro p e s m args below meth c s₁ B hml hv
  obtain ⟨rfl, hH, hP, hK⟩ := hv
  have hx := B.exec
  have hb := B.bytes
  have hr := B.returns
  have hts := atoms_spec (ws := wsX6_piped) B.pre
  have hown : s.vm.findClass RX6 = some m.cls := findClass_of_methodNamed B.named
  have hlocks := B.notSynchronized
  have hiX6 : ∀ w ∈ u_ws RX6 TX6 6, w ∈ wsX6_piped := fun _ h => List.mem_cons_of_mem _ (List.mem_append_left _ ((List.mem_append_right _ h)))
  have hiX4 : ∀ w ∈ u_ws RX4 TX4 3, w ∈ wsX6_piped := fun _ h => List.mem_cons_of_mem _ ((List.mem_append_right _ h))
  subst hH
  have hS : va_S (fun _ => False) s.heap s.heap [] := va_S.rf
  have hl := lv_entry ([.ref a6, .int p1]) (n := 2) (Nat.le_of_ble_eq_true rfl)
  rw [lg_entry_eq]
  generalize (lg_sl ([.ref a6, .int p1]) ++ List.replicate (2 - (lg_sl ([.ref a6, .int p1])).length) Slot.unset).toArray = ls at hl ⊢
  have hl : lv_has ls 2 [(0, .ref a6), (1, .int p1)] := hl
  unfold fX6_piped at hf
  refine lv_iload_n hx hb dX6_piped_0 rfl (lv_at hl 1 rfl) ?_
  refine lv_iconst (v := (0 : Int32)) hx hb dX6_piped_1 (by decide) ?_
  refine lv_sipush (v := (255 : Int32)) hx hb dX6_piped_2 (by decide) ?_
  obtain ⟨r1, hr1, hf⟩ := cl1_sp hf
  refine ro_S (As := [.int p1, .int (0 : Int32), .int (255 : Int32)]) ⟨hx, hb, hml, hown, hts⟩ (kX2_within l _ p1 (0 : Int32) (255 : Int32) r1 hr1) (va_cwS 3 hts gX6_piped_X2_within rfl rfl rfl (by decide +kernel) ⟨Nat.le_of_ble_eq_true rfl, Nat.le_of_ble_eq_true rfl⟩) hS rfl hl.1 rfl (Nat.le_of_ble_eq_true rfl) dX6_piped_5 (Nat.zero_le _) (Nat.zero_le _) (fun locs hS => ?_)
  refine lv_if_ne (tgt := 14) hx hb dX6_piped_8 (by decide) (fun hc => ?_) (fun hc => ?_)
  · have hf := it_n hc hf
    refine lv_aload_n hx hb dX6_piped_14 rfl (lv_at hl 0 rfl) ?_
    refine va_get (D := (dC, dI)) (ci := 5) (v := .ref a4) (C := RX6) (T := TX6) (N := 6) hx hb hts hiX6 hown hK hP 0 rfl rfl 2 (by decide) (hts (.fieldLink RX6 28 "PageLines" "steps" "LPageLines$Pipe;") (List.mem_of_getElem? (i := 1) rfl)) (fun _ h9 => h9) rfl dX6_piped_15 ?_
    refine lv_iload_n hx hb dX6_piped_18 rfl (lv_at hl 1 rfl) ?_
    obtain ⟨r2, hr2, hf⟩ := cl1_sp hf
    refine ro_V (As := [.int p1]) ⟨hx, hb, hml, hown, hts⟩ (kX4_through l dC dI cy _ a4 a4_kinds a4_numbers v4_count f4_kinds f4_numbers p1 r2 hr2) (cwV 1 hts gX6_piped_X4_through rfl rfl rfl (by decide +kernel) ⟨Nat.le_of_ble_eq_true rfl, Nat.le_of_ble_eq_true rfl⟩) (va_recv hK hP (ci := 3) (q0 := 15) rfl rfl) (hP.sub [15, 16, 17] rfl) hK hS rfl hl.1 rfl (Nat.le_of_ble_eq_true rfl) dX6_piped_19 (Nat.zero_le _) (Nat.zero_le _) (fun locs hS => ?_)
    exact W.iret (v := r2) hx hb hr (fun t ht hW => ⟨⟨_, (), rfl, Option.some.inj hf, ht⟩, hS.F ht⟩) hS.2.2 dX6_piped_22
  · have hf := it_p hc hf
    refine lv_bipush (v := (-2 : Int32)) hx hb dX6_piped_11 (by decide) ?_
    exact W.iret (v := (-2 : Int32)) hx hb hr (fun t ht hW => ⟨⟨_, (), rfl, Option.some.inj hf, ht⟩, hS.F ht⟩) hS.2.2 dX6_piped_13
set_option maxHeartbeats 4000000 in
set_option maxRecDepth 100000 in
theorem kX6_threshold (l : Launch) (dC : Nat → ClassId) (dI : Nat → Nat → Nat) (cy : ClassId) (sz : Nat) (a6 a6_leads a0 a0_offset a0_gain a0_dark a0_bright a3 a3_firstRow a3_lastRow a3_firstColumn a3_lastColumn a3_slants a3_tints a3_specks a4 a4_kinds a4_numbers a5 a1 a1_values : Nat) (f6_leads : Nat → Int32) (f0_offset : Nat → Int32) (f0_gain : Nat → Int32) (f0_dark : Nat → Int32) (f0_bright : Nat → Int32) (v3_ground : Int32) (v3_patches : Int32) (f3_firstRow : Nat → Int32) (f3_lastRow : Nat → Int32) (f3_firstColumn : Nat → Int32) (f3_lastColumn : Nat → Int32) (f3_slants : Nat → Int32) (f3_tints : Nat → Int32) (f3_specks : Nat → Int32) (v4_count : Int32) (f4_kinds : Nat → Int32) (f4_numbers : Nat → Int32) (v5_on : Int32) (v5_lines : Int32) (v5_reach : Int32) (v5_positions : Int32) (v5_queued : Int32) (v5_position : Int32) (v5_next : Int32) (v5_mode : Int32) (v5_outTicks : Int32) (v5_stops : Int32) (v5_ticked : Int32) (v1_count : Int32) (v1_threshold : Int32) (f1_values : Nat → Int32) (p1 : Int32) (r : Int32) (o_v1_threshold : Int32) (hf : fX6_threshold v5_on v1_threshold p1 = some (r, o_v1_threshold)) : Met l yX6_threshold wsX6_threshold ({ frames := 1, cells := 0, slots := 0, locals := 22 }) (rwP [.ref a6, .int p1] (dC, dI) vwCl (WX6 cy a6 a6_leads a0 a0_offset a0_gain a0_dark a0_bright a3 a3_firstRow a3_lastRow a3_firstColumn a3_lastColumn a3_slants a3_tints a3_specks a4 a4_kinds a4_numbers a5 a1 a1_values f6_leads f0_offset f0_gain f0_dark f0_bright v3_ground v3_patches f3_firstRow f3_lastRow f3_firstColumn f3_lastColumn f3_slants f3_tints f3_specks v4_count f4_kinds f4_numbers v5_on v5_lines v5_reach v5_positions v5_queued v5_position v5_next v5_mode v5_outTicks v5_stops v5_ticked v1_count v1_threshold f1_values) [(cy, .int)] sz) (rwQi r (dC, dI) vwCl (WX6 cy a6 a6_leads a0 a0_offset a0_gain a0_dark a0_bright a3 a3_firstRow a3_lastRow a3_firstColumn a3_lastColumn a3_slants a3_tints a3_specks a4 a4_kinds a4_numbers a5 a1 a1_values f6_leads f0_offset f0_gain f0_dark f0_bright v3_ground v3_patches f3_firstRow f3_lastRow f3_firstColumn f3_lastColumn f3_slants f3_tints f3_specks v4_count f4_kinds f4_numbers v5_on v5_lines v5_reach v5_positions v5_queued v5_position v5_next v5_mode v5_outTicks v5_stops v5_ticked v1_count o_v1_threshold f1_values) (va_A (WX6 cy a6 a6_leads a0 a0_offset a0_gain a0_dark a0_bright a3 a3_firstRow a3_lastRow a3_firstColumn a3_lastColumn a3_slants a3_tints a3_specks a4 a4_kinds a4_numbers a5 a1 a1_values f6_leads f0_offset f0_gain f0_dark f0_bright v3_ground v3_patches f3_firstRow f3_lastRow f3_firstColumn f3_lastColumn f3_slants f3_tints f3_specks v4_count f4_kinds f4_numbers v5_on v5_lines v5_reach v5_positions v5_queued v5_position v5_next v5_mode v5_outTicks v5_stops v5_ticked v1_count v1_threshold f1_values) sz)) 0 0 (va_A (WX6 cy a6 a6_leads a0 a0_offset a0_gain a0_dark a0_bright a3 a3_firstRow a3_lastRow a3_firstColumn a3_lastColumn a3_slants a3_tints a3_specks a4 a4_kinds a4_numbers a5 a1 a1_values f6_leads f0_offset f0_gain f0_dark f0_bright v3_ground v3_patches f3_firstRow f3_lastRow f3_firstColumn f3_lastColumn f3_slants f3_tints f3_specks v4_count f4_kinds f4_numbers v5_on v5_lines v5_reach v5_positions v5_queued v5_position v5_next v5_mode v5_outTicks v5_stops v5_ticked v1_count v1_threshold f1_values) sz) := by
  refine Met.ofW (cc := cX6_threshold) (maxL := 3) (ret := (some .int)) (by decide) rfl ?_
  intro p e s m args below meth c s₁ B hml hv
  obtain ⟨rfl, hsz, hP, hK, hD0⟩ := hv
  have hx := B.exec
  have hb := B.bytes
  have hr := B.returns
  have hts := atoms_spec (ws := wsX6_threshold) B.pre
  have hown : s.vm.findClass RX6 = some m.cls := findClass_of_methodNamed B.named
  have hlocks := B.notSynchronized
  have hiX6 : ∀ w ∈ u_ws RX6 TX6 6, w ∈ wsX6_threshold := fun _ h => List.mem_cons_of_mem _ (List.mem_append_left _ (List.mem_append_left _ ((List.mem_append_right _ h))))
  have hiX5 : ∀ w ∈ u_ws RX5 TX5 11, w ∈ wsX6_threshold := fun _ h => List.mem_cons_of_mem _ (List.mem_append_left _ ((List.mem_append_right _ h)))
  have hiX1 : ∀ w ∈ u_ws RX1 TX1 3, w ∈ wsX6_threshold := fun _ h => List.mem_cons_of_mem _ ((List.mem_append_right _ h))
  subst hsz
  have hD := hD0.self (sz := s.heap.size)
  generalize hAe : va_A (WX6 cy a6 a6_leads a0 a0_offset a0_gain a0_dark a0_bright a3 a3_firstRow a3_lastRow a3_firstColumn a3_lastColumn a3_slants a3_tints a3_specks a4 a4_kinds a4_numbers a5 a1 a1_values f6_leads f0_offset f0_gain f0_dark f0_bright v3_ground v3_patches f3_firstRow f3_lastRow f3_firstColumn f3_lastColumn f3_slants f3_tints f3_specks v4_count f4_kinds f4_numbers v5_on v5_lines v5_reach v5_positions v5_queued v5_position v5_next v5_mode v5_outTicks v5_stops v5_ticked v1_count v1_threshold f1_values) s.heap.size = A0 at hD ⊢
  have hA : ∀ q : Nat, s.heap.size ≤ q → A0 q := fun q h => by rw [← hAe]; exact Or.inr h
  have hS : va_S A0 s.heap s.heap [] := va_S.rf
  have hl := lv_entry ([.ref a6, .int p1]) (n := 3) (Nat.le_of_ble_eq_true rfl)
  rw [lg_entry_eq]
  generalize (lg_sl ([.ref a6, .int p1]) ++ List.replicate (3 - (lg_sl ([.ref a6, .int p1])).length) Slot.unset).toArray = ls at hl ⊢
  have hl : lv_has ls 3 [(0, .ref a6), (1, .int p1)] := hl
  unfold fX6_threshold at hf
  refine lv_iload_n hx hb dX6_threshold_0 rfl (lv_at hl 1 rfl) ?_
  refine lv_iconst (v := (0 : Int32)) hx hb dX6_threshold_1 (by decide) ?_
  refine lv_sipush (v := (256 : Int32)) hx hb dX6_threshold_2 (by decide) ?_
  obtain ⟨r1, hr1, hf⟩ := cl1_sp hf
  refine ro_S (As := [.int p1, .int (0 : Int32), .int (256 : Int32)]) ⟨hx, hb, hml, hown, hts⟩ (kX2_within l _ p1 (0 : Int32) (256 : Int32) r1 hr1) (va_cwS 3 hts gX6_threshold_X2_within rfl rfl rfl (by decide +kernel) ⟨Nat.le_of_ble_eq_true rfl, Nat.le_of_ble_eq_true rfl⟩) hS rfl hl.1 rfl (Nat.le_of_ble_eq_true rfl) dX6_threshold_5 (Nat.zero_le _) (Nat.zero_le _) (fun locs hS => ?_)
  refine lv_if_ne (tgt := 14) hx hb dX6_threshold_8 (by decide) (fun hc => ?_) (fun hc => ?_)
  · have hf := it_n hc hf
    refine lv_aload_n hx hb dX6_threshold_14 rfl (lv_at hl 0 rfl) ?_
    refine va_get (D := (dC, dI)) (ci := 5) (v := .ref a5) (C := RX6) (T := TX6) (N := 6) hx hb hts hiX6 hown hK hP 0 rfl rfl 3 (by decide) (hts (.fieldLink RX6 35 "PageLines" "scan" "LPageLines$Scan;") (List.mem_of_getElem? (i := 1) rfl)) (fun _ h9 => h9) rfl dX6_threshold_15 ?_
    refine va_get (D := (dC, dI)) (ci := 4) (v := .int v5_on) (C := RX5) (T := TX5) (N := 11) hx hb hts hiX5 hown hK hP 18 rfl rfl 0 (by decide) (hts (.fieldLink RX6 60 "PageLines$Scan" "on" "Z") (List.mem_of_getElem? (i := 2) rfl)) (fun _ h9 => h9) rfl dX6_threshold_18 ?_
    refine lv_if_eq (tgt := 27) hx hb dX6_threshold_21 (by decide) (fun hc => ?_) (fun hc => ?_)
    · have hf := it_p hc hf
      refine lv_aload_n hx hb dX6_threshold_27 rfl (lv_at hl 0 rfl) ?_
      refine va_get (D := (dC, dI)) (ci := 5) (v := .ref a1) (C := RX6) (T := TX6) (N := 6) hx hb hts hiX6 hown hK hP 0 rfl rfl 4 (by decide) (hts (.fieldLink RX6 42 "PageLines" "lines" "LPageLines$Lines;") (List.mem_of_getElem? (i := 3) rfl)) (fun _ h9 => h9) rfl dX6_threshold_28 ?_
      refine va_get (D := (dC, dI)) (ci := 1) (v := .int v1_threshold) (C := RX1) (T := TX1) (N := 3) hx hb hts hiX1 hown hK hP 19 rfl rfl 1 (by decide) (hts (.fieldLink RX6 142 "PageLines$Lines" "threshold" "I") (List.mem_of_getElem? (i := 4) rfl)) (fun _ h9 => h9) rfl dX6_threshold_31 ?_
      refine lv_istore_n (lv' := [(2, .int v1_threshold), (0, .ref a6), (1, .int p1)]) hx hb dX6_threshold_34 rfl hl (by decide) rfl (fun ls hl => ?_)
      refine lv_aload_n hx hb dX6_threshold_35 rfl (lv_at hl 1 rfl) ?_
      refine va_get (D := (dC, dI)) (ci := 5) (v := .ref a1) (C := RX6) (T := TX6) (N := 6) hx hb hts hiX6 hown hK hP 0 rfl rfl 4 (by decide) (hts (.fieldLink RX6 42 "PageLines" "lines" "LPageLines$Lines;") (List.mem_of_getElem? (i := 3) rfl)) (fun _ h9 => h9) rfl dX6_threshold_36 ?_
      refine lv_iload_n hx hb dX6_threshold_39 rfl (lv_at hl 2 rfl) ?_
      refine va_put (D := (dC, dI)) (ci := 1) (v := .int p1) (ty := .int) (C := RX1) (T := TX1) (N := 3) hx hb hts hiX1 tyX1 tyX1_ok nmX1 hown hK hP hD hS 19 rfl rfl 1 (by decide) (hts (.fieldLink RX6 142 "PageLines$Lines" "threshold" "I") (List.mem_of_getElem? (i := 4) rfl)) (fun _ h9 => h9) rfl (by decide +kernel) rfl rfl (Nat.le_of_ble_eq_true rfl) dX6_threshold_40 (fun H locs hP hD hS => ?_)
      have hP : va_P (dC, dI) vwCl (WX6 cy a6 a6_leads a0 a0_offset a0_gain a0_dark a0_bright a3 a3_firstRow a3_lastRow a3_firstColumn a3_lastColumn a3_slants a3_tints a3_specks a4 a4_kinds a4_numbers a5 a1 a1_values f6_leads f0_offset f0_gain f0_dark f0_bright v3_ground v3_patches f3_firstRow f3_lastRow f3_firstColumn f3_lastColumn f3_slants f3_tints f3_specks v4_count f4_kinds f4_numbers v5_on v5_lines v5_reach v5_positions v5_queued v5_position v5_next v5_mode v5_outTicks v5_stops v5_ticked v1_count p1 f1_values) H := hP
      have hD : va_D A0 (WX6 cy a6 a6_leads a0 a0_offset a0_gain a0_dark a0_bright a3 a3_firstRow a3_lastRow a3_firstColumn a3_lastColumn a3_slants a3_tints a3_specks a4 a4_kinds a4_numbers a5 a1 a1_values f6_leads f0_offset f0_gain f0_dark f0_bright v3_ground v3_patches f3_firstRow f3_lastRow f3_firstColumn f3_lastColumn f3_slants f3_tints f3_specks v4_count f4_kinds f4_numbers v5_on v5_lines v5_reach v5_positions v5_queued v5_position v5_next v5_mode v5_outTicks v5_stops v5_ticked v1_count p1 f1_values) := hD
      refine lv_iload_n hx hb dX6_threshold_43 rfl (lv_at hl 0 rfl) ?_
      cases hf
      exact W.iret hx hb hr (fun t ht hW => ⟨⟨_, (), rfl, rfl, by rw [ht]; exact hP, hD⟩, hS.F ht⟩) hS.2.2 dX6_threshold_44
    · have hf := it_n hc hf
      refine lv_bipush (v := (-3 : Int32)) hx hb dX6_threshold_24 (by decide) ?_
      cases hf
      exact W.iret hx hb hr (fun t ht hW => ⟨⟨_, (), rfl, rfl, by rw [ht]; exact hP, hD⟩, hS.F ht⟩) hS.2.2 dX6_threshold_26
  · have hf := it_p hc hf
    refine lv_bipush (v := (-2 : Int32)) hx hb dX6_threshold_11 (by decide) ?_
    cases hf
    exact W.iret hx hb hr (fun t ht hW => ⟨⟨_, (), rfl, rfl, by rw [ht]; exact hP, hD⟩, hS.F ht⟩) hS.2.2 dX6_threshold_13
set_option maxHeartbeats 4000000 in
set_option maxRecDepth 100000 in
theorem kX6_reach (l : Launch) (dC : Nat → ClassId) (dI : Nat → Nat → Nat) (cy : ClassId) (H : Heap) (a6 a6_leads a0 a0_offset a0_gain a0_dark a0_bright a3 a3_firstRow a3_lastRow a3_firstColumn a3_lastColumn a3_slants a3_tints a3_specks a4 a4_kinds a4_numbers a5 a1 a1_values : Nat) (f6_leads : Nat → Int32) (f0_offset : Nat → Int32) (f0_gain : Nat → Int32) (f0_dark : Nat → Int32) (f0_bright : Nat → Int32) (v3_ground : Int32) (v3_patches : Int32) (f3_firstRow : Nat → Int32) (f3_lastRow : Nat → Int32) (f3_firstColumn : Nat → Int32) (f3_lastColumn : Nat → Int32) (f3_slants : Nat → Int32) (f3_tints : Nat → Int32) (f3_specks : Nat → Int32) (v4_count : Int32) (f4_kinds : Nat → Int32) (f4_numbers : Nat → Int32) (v5_on : Int32) (v5_lines : Int32) (v5_reach : Int32) (v5_positions : Int32) (v5_queued : Int32) (v5_position : Int32) (v5_next : Int32) (v5_mode : Int32) (v5_outTicks : Int32) (v5_stops : Int32) (v5_ticked : Int32) (v1_count : Int32) (v1_threshold : Int32) (f1_values : Nat → Int32) (r : Int32) (hf : fX6_reach f6_leads = some r) : Met l yX6_reach wsX6_reach ({ frames := 1, cells := 0, slots := 0, locals := 13 }) (roP [.ref a6] (dC, dI) vwCl (WX6 cy a6 a6_leads a0 a0_offset a0_gain a0_dark a0_bright a3 a3_firstRow a3_lastRow a3_firstColumn a3_lastColumn a3_slants a3_tints a3_specks a4 a4_kinds a4_numbers a5 a1 a1_values f6_leads f0_offset f0_gain f0_dark f0_bright v3_ground v3_patches f3_firstRow f3_lastRow f3_firstColumn f3_lastColumn f3_slants f3_tints f3_specks v4_count f4_kinds f4_numbers v5_on v5_lines v5_reach v5_positions v5_queued v5_position v5_next v5_mode v5_outTicks v5_stops v5_ticked v1_count v1_threshold f1_values) [(cy, .int)] H) (roQi r H) 0 0 (fun _ => False) := by
  refine Met.ofW (cc := cX6_reach) (maxL := 3) (ret := (some .int)) (by decide) rfl ?_
  intro p e s m args below meth c s₁ B hml hv
  obtain ⟨rfl, hH, hP, hK⟩ := hv
  have hx := B.exec
  have hb := B.bytes
  have hr := B.returns
  have hts := atoms_spec (ws := wsX6_reach) B.pre
  have hown : s.vm.findClass RX6 = some m.cls := findClass_of_methodNamed B.named
  have hlocks := B.notSynchronized
  have hiX6 : ∀ w ∈ u_ws RX6 TX6 6, w ∈ wsX6_reach := fun _ h => List.mem_cons_of_mem _ ((List.mem_append_right _ h))
  subst hH
  have hS : va_S (fun _ => False) s.heap s.heap [] := va_S.rf
  have hb_4 : ∀ (n : Nat) (x1 : Int32) (x2 : Int32), bX6_reach_4 f6_leads n x1 x2 = some r → ∀ (locs : List Loc) (ls : Array Slot), va_S (fun _ => False) s.heap s.heap locs → lv_has ls 3 [(0, .ref a6), (1, .int x1), (2, .int x2)] → W p l e (headSpec wsX6_reach ({ frames := 1, cells := 0, slots := 0, locals := 13 })).room s m ([.ref a6] : List Value).toArray below meth c s.heap locs 0 0 (MQ below (roQi r s.heap) ([.ref a6] : List Value).toArray s 0 0 (fun _ => False)) (F0 m 4 ls []) := by
    intro n
    induction n with
    | zero => intro x1 x2 hf; rw [bX6_reach_4] at hf; cases hf
    | succ n4 ih4 =>
      intro x1 x2 hf locs ls hS hl
      rw [bX6_reach_4] at hf
      refine lv_iload_n hx hb dX6_reach_4 rfl (lv_at hl 2 rfl) ?_
      refine lv_iconst (v := (3 : Int32)) hx hb dX6_reach_5 (by decide) ?_
      refine lv_icmp_ge (tgt := 32) hx hb dX6_reach_6 (by decide) (fun hc => ?_) (fun hc => ?_)
      · have hf := it_p hc hf
        refine lv_iload_n hx hb dX6_reach_32 rfl (lv_at hl 1 rfl) ?_
        exact W.iret (v := x1) hx hb hr (fun t ht hW => ⟨⟨_, (), rfl, Option.some.inj hf, ht⟩, hS.F ht⟩) hS.2.2 dX6_reach_33
      · have hf := it_n hc hf
        refine lv_iload_n hx hb dX6_reach_9 rfl (lv_at hl 1 rfl) ?_
        refine lv_aload_n hx hb dX6_reach_10 rfl (lv_at hl 0 rfl) ?_
        refine va_get (D := (dC, dI)) (ci := 5) (v := .ref a6_leads) (C := RX6) (T := TX6) (N := 6) hx hb hts hiX6 hown hK hP 0 rfl rfl 5 (by decide) (hts (.fieldLink RX6 46 "PageLines" "leads" "[I") (List.mem_of_getElem? (i := 1) rfl)) (fun _ h9 => h9) rfl dX6_reach_11 ?_
        refine lv_iload_n hx hb dX6_reach_14 rfl (lv_at hl 2 rfl) ?_
        obtain ⟨hi_2, hf⟩ := ckI_sp hf
        refine va_iald hx hb hK hP 1 0 rfl rfl hi_2 dX6_reach_15 ?_
        refine lv_iconst (v := (4 : Int32)) hx hb dX6_reach_16 (by decide) ?_
        refine lv_iadd hx hb dX6_reach_17 ?_
        refine lv_iconst (v := (1 : Int32)) hx hb dX6_reach_18 (by decide) ?_
        refine lv_isub hx hb dX6_reach_19 ?_
        refine lv_iconst (v := (4 : Int32)) hx hb dX6_reach_20 (by decide) ?_
        refine lv_idiv hx hb dX6_reach_21 (by decide) ?_
        refine va_mmax hx hb (by rw [hml]; exact hl.1.symm) hown (hts (.methodLink RX6 216 Lib.Math.max.name) (List.mem_of_getElem? (i := 2) rfl)) (hts (.static Lib.Math.max.name) (List.mem_of_getElem? (i := 3) rfl)) (hts (.initialized "java/lang/Math") (List.mem_of_getElem? (i := 4) rfl)) (hts (.code Lib.Math.max.name Lib.Math.max.code 2 (some .int)) (List.mem_of_getElem? (i := 5) rfl)) (Nat.le_of_ble_eq_true rfl) (Nat.le_of_ble_eq_true rfl) (Nat.zero_le _) (Nat.zero_le _) dX6_reach_22 ?_
        refine lv_istore_n (lv' := [(1, .int (if x1 < ((((f6_leads x2.toNatClampNeg) + (4 : Int32)) - (1 : Int32)) / (4 : Int32)) then ((((f6_leads x2.toNatClampNeg) + (4 : Int32)) - (1 : Int32)) / (4 : Int32)) else x1)), (0, .ref a6), (2, .int x2)]) hx hb dX6_reach_25 rfl hl (by decide) rfl (fun ls hl => ?_)
        refine lv_iinc (v := x2 + (1 : Int32)) (lv' := [(2, .int (x2 + (1 : Int32))), (1, .int (if x1 < ((((f6_leads x2.toNatClampNeg) + (4 : Int32)) - (1 : Int32)) / (4 : Int32)) then ((((f6_leads x2.toNatClampNeg) + (4 : Int32)) - (1 : Int32)) / (4 : Int32)) else x1)), (0, .ref a6)]) hx hb dX6_reach_26 hl (k := 2) rfl rfl (by decide) rfl (fun ls hl => ?_)
        refine lv_goto (tgt := 4) hx hb dX6_reach_29 (by decide) ?_
        exact ih4 (if x1 < ((((f6_leads x2.toNatClampNeg) + (4 : Int32)) - (1 : Int32)) / (4 : Int32)) then ((((f6_leads x2.toNatClampNeg) + (4 : Int32)) - (1 : Int32)) / (4 : Int32)) else x1) (x2 + (1 : Int32)) hf _ _ hS (lv_sub hl [2, 1, 0] rfl)
  have hl := lv_entry ([.ref a6]) (n := 3) (Nat.le_of_ble_eq_true rfl)
  rw [lg_entry_eq]
  generalize (lg_sl ([.ref a6]) ++ List.replicate (3 - (lg_sl ([.ref a6])).length) Slot.unset).toArray = ls at hl ⊢
  have hl : lv_has ls 3 [(0, .ref a6)] := hl
  unfold fX6_reach at hf
  refine lv_iconst (v := (0 : Int32)) hx hb dX6_reach_0 (by decide) ?_
  refine lv_istore_n (lv' := [(1, .int (0 : Int32)), (0, .ref a6)]) hx hb dX6_reach_1 rfl hl (by decide) rfl (fun ls hl => ?_)
  refine lv_iconst (v := (0 : Int32)) hx hb dX6_reach_2 (by decide) ?_
  refine lv_istore_n (lv' := [(2, .int (0 : Int32)), (1, .int (0 : Int32)), (0, .ref a6)]) hx hb dX6_reach_3 rfl hl (by decide) rfl (fun ls hl => ?_)
  exact hb_4 300 (0 : Int32) (0 : Int32) hf _ _ hS (lv_sub hl [2, 1, 0] rfl)

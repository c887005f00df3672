set_option maxHeartbeats 4000000 in
set_option maxRecDepth 100000 in
theorem kX6_run (l : Launch) (dC : Nat → ClassId) (dI : Nat → Nat → Nat) (cy : ClassId) (H : Heap) (a6 a6_leads a0 a0_offset a0_gain a0_dark a0_bright a3 a3_firstRow a3_lastRow a3_firstColumn a3_lastColumn a3_slants a3_tints a3_specks a4 a4_kinds a4_numbers a5 a1 a1_values : Nat) (f6_leads : Nat → Int32) (f0_offset : Nat → Int32) (f0_gain : Nat → Int32) (f0_dark : Nat → Int32) (f0_bright : Nat → Int32) (v3_ground : Int32) (v3_patches : Int32) (f3_firstRow : Nat → Int32) (f3_lastRow : Nat → Int32) (f3_firstColumn : Nat → Int32) (f3_lastColumn : Nat → Int32) (f3_slants : Nat → Int32) (f3_tints : Nat → Int32) (f3_specks : Nat → Int32) (v4_count : Int32) (f4_kinds : Nat → Int32) (f4_numbers : Nat → Int32) (v5_on : Int32) (v5_lines : Int32) (v5_reach : Int32) (v5_positions : Int32) (v5_queued : Int32) (v5_position : Int32) (v5_next : Int32) (v5_mode : Int32) (v5_outTicks : Int32) (v5_stops : Int32) (v5_ticked : Int32) (v1_count : Int32) (v1_threshold : Int32) (f1_values : Nat → Int32) (p1 : Int32) (p2 : Int32) (p3 : Int32) (r : Int32) (hf : fX6_run v1_count v1_threshold f1_values p1 p2 p3 = some r) : Met l yX6_run wsX6_run ({ frames := 3, cells := 0, slots := 0, locals := 68 }) (roP [.ref a6, .int p1, .int p2, .int p3] (dC, dI) vwCl (WX6 cy a6 a6_leads a0 a0_offset a0_gain a0_dark a0_bright a3 a3_firstRow a3_lastRow a3_firstColumn a3_lastColumn a3_slants a3_tints a3_specks a4 a4_kinds a4_numbers a5 a1 a1_values f6_leads f0_offset f0_gain f0_dark f0_bright v3_ground v3_patches f3_firstRow f3_lastRow f3_firstColumn f3_lastColumn f3_slants f3_tints f3_specks v4_count f4_kinds f4_numbers v5_on v5_lines v5_reach v5_positions v5_queued v5_position v5_next v5_mode v5_outTicks v5_stops v5_ticked v1_count v1_threshold f1_values) [(cy, .int)] H) (roQi r H) 0 0 (fun _ => False) := by
  refine Met.ofW (cc := cX6_run) (maxL := 6) (ret := (some .int)) (by decide) rfl ?_
  intro p e s m args below meth c s₁ B hml hv
  obtain ⟨rfl, hH, hP, hK⟩ := hv
  have hx := B.exec
  have hb := B.bytes
  have hr := B.returns
  have hts := atoms_spec (ws := wsX6_run) B.pre
  have hown : s.vm.findClass RX6 = some m.cls := findClass_of_methodNamed B.named
  have hlocks := B.notSynchronized
  have hiX6 : ∀ w ∈ u_ws RX6 TX6 6, w ∈ wsX6_run := fun _ h => List.mem_cons_of_mem _ (List.mem_append_left _ ((List.mem_append_right _ h)))
  have hiX1 : ∀ w ∈ u_ws RX1 TX1 3, w ∈ wsX6_run := fun _ h => List.mem_cons_of_mem _ ((List.mem_append_right _ h))
  subst hH
  have hS : va_S (fun _ => False) s.heap s.heap [] := va_S.rf
  have hl := lv_entry ([.ref a6, .int p1, .int p2, .int p3]) (n := 6) (Nat.le_of_ble_eq_true rfl)
  rw [lg_entry_eq]
  generalize (lg_sl ([.ref a6, .int p1, .int p2, .int p3]) ++ List.replicate (6 - (lg_sl ([.ref a6, .int p1, .int p2, .int p3])).length) Slot.unset).toArray = ls at hl ⊢
  have hl : lv_has ls 6 [(0, .ref a6), (1, .int p1), (2, .int p2), (3, .int p3)] := hl
  unfold fX6_run at hf
  refine lv_aload_n hx hb dX6_run_0 rfl (lv_at hl 0 rfl) ?_
  refine va_get (D := (dC, dI)) (ci := 5) (v := .ref a1) (C := RX6) (T := TX6) (N := 6) hx hb hts hiX6 hown hK hP 0 rfl rfl 4 (by decide) (hts (.fieldLink RX6 42 "PageLines" "lines" "LPageLines$Lines;") (List.mem_of_getElem? (i := 1) rfl)) (fun _ h9 => h9) rfl dX6_run_1 ?_
  refine lv_iload_n hx hb dX6_run_4 rfl (lv_at hl 1 rfl) ?_
  obtain ⟨r1, hr1, hf⟩ := cl1_sp hf
  refine ro_V (As := [.int p1]) ⟨hx, hb, hml, hown, hts⟩ (kX1_has l dC dI cy _ a1 a1_values v1_count v1_threshold f1_values p1 r1 hr1) (cwV 1 hts gX6_run_X1_has rfl rfl rfl (by decide +kernel) ⟨Nat.le_of_ble_eq_true rfl, Nat.le_of_ble_eq_true rfl⟩) (va_recv hK hP (ci := 1) (q0 := 19) rfl rfl) (hP.sub [19, 20] rfl) hK hS rfl hl.1 rfl (Nat.le_of_ble_eq_true rfl) dX6_run_5 (Nat.zero_le _) (Nat.zero_le _) (fun locs hS => ?_)
  refine lv_if_ne (tgt := 13) hx hb dX6_run_8 (by decide) (fun hc => ?_) (fun hc => ?_)
  · have hf := it_n hc hf
    refine lv_aload_n hx hb dX6_run_13 rfl (lv_at hl 0 rfl) ?_
    refine va_get (D := (dC, dI)) (ci := 5) (v := .ref a1) (C := RX6) (T := TX6) (N := 6) hx hb hts hiX6 hown hK hP 0 rfl rfl 4 (by decide) (hts (.fieldLink RX6 42 "PageLines" "lines" "LPageLines$Lines;") (List.mem_of_getElem? (i := 1) rfl)) (fun _ h9 => h9) rfl dX6_run_14 ?_
    refine lv_iload_n hx hb dX6_run_17 rfl (lv_at hl 1 rfl) ?_
    obtain ⟨r2, hr2, hf⟩ := cl1_sp hf
    refine ro_V (As := [.int p1]) ⟨hx, hb, hml, hown, hts⟩ (kX1_darkSet l dC dI cy _ a1 a1_values v1_count v1_threshold f1_values p1 r2 hr2) (cwV 1 hts gX6_run_X1_darkSet rfl rfl rfl (by decide +kernel) ⟨Nat.le_of_ble_eq_true rfl, Nat.le_of_ble_eq_true rfl⟩) (va_recv hK hP (ci := 1) (q0 := 19) rfl rfl) (hP.sub [19, 20] rfl) hK hS rfl hl.1 rfl (Nat.le_of_ble_eq_true rfl) dX6_run_18 (Nat.zero_le _) (Nat.zero_le _) (fun locs hS => ?_)
    refine lv_istore (lv' := [(4, .int r2), (0, .ref a6), (1, .int p1), (2, .int p2), (3, .int p3)]) hx hb dX6_run_21 hl (by decide) rfl (fun ls hl => ?_)
    refine lv_iload hx hb dX6_run_23 (lv_at hl 0 rfl) ?_
    refine lv_iload_n hx hb dX6_run_25 rfl (lv_at hl 3 rfl) ?_
    obtain ⟨r3, hr3, hf⟩ := cl1_sp hf
    refine ro_S (As := [.int r2, .int p2]) ⟨hx, hb, hml, hown, hts⟩ (kX1_runStart l _ r2 p2 r3 hr3) (va_cwS 2 hts gX6_run_X1_runStart rfl rfl rfl (by decide +kernel) ⟨Nat.le_of_ble_eq_true rfl, Nat.le_of_ble_eq_true rfl⟩) hS rfl hl.1 rfl (Nat.le_of_ble_eq_true rfl) dX6_run_26 (Nat.zero_le _) (Nat.zero_le _) (fun locs hS => ?_)
    refine lv_istore (lv' := [(5, .int r3), (4, .int r2), (0, .ref a6), (1, .int p1), (2, .int p2), (3, .int p3)]) hx hb dX6_run_29 hl (by decide) rfl (fun ls hl => ?_)
    refine lv_iload hx hb dX6_run_31 (lv_at hl 0 rfl) ?_
    refine lv_bipush (v := (-9 : Int32)) hx hb dX6_run_33 (by decide) ?_
    refine lv_icmp_ne (tgt := 40) hx hb dX6_run_35 (by decide) (fun hc => ?_) (fun hc => ?_)
    · have hf := it_n hc hf
      refine lv_iload_n hx hb dX6_run_40 rfl (lv_at hl 5 rfl) ?_
      by_cases hs4 : p3 = (0 : Int32)
      · refine lv_lookup (tgt := 68) (off := 27) hx hb dX6_run_41 rfl (by rw [hs4]; rfl) (by decide) ?_
        have hf := it_p hs4 hf
        refine lv_iload hx hb dX6_run_68 (lv_at hl 0 rfl) ?_
        exact W.iret (v := r3) hx hb hr (fun t ht hW => ⟨⟨_, (), rfl, Option.some.inj hf, ht⟩, hS.F ht⟩) hS.2.2 dX6_run_70
      · have hf := it_n hs4 hf
        by_cases hs5 : p3 = (1 : Int32)
        · refine lv_lookup (tgt := 71) (off := 30) hx hb dX6_run_41 rfl (by rw [hs5]; rfl) (by decide) ?_
          have hf := it_p hs5 hf
          refine lv_iload hx hb dX6_run_71 (lv_at hl 1 rfl) ?_
          refine lv_iload hx hb dX6_run_73 (lv_at hl 0 rfl) ?_
          obtain ⟨r6, hr6, hf⟩ := cl1_sp hf
          refine ro_S (As := [.int r2, .int r3]) ⟨hx, hb, hml, hown, hts⟩ (kX1_runLength l _ r2 r3 r6 hr6) (va_cwS 2 hts gX6_run_X1_runLength rfl rfl rfl (by decide +kernel) ⟨Nat.le_of_ble_eq_true rfl, Nat.le_of_ble_eq_true rfl⟩) hS rfl hl.1 rfl (Nat.le_of_ble_eq_true rfl) dX6_run_75 (Nat.zero_le _) (Nat.zero_le _) (fun locs hS => ?_)
          exact W.iret (v := r6) hx hb hr (fun t ht hW => ⟨⟨_, (), rfl, Option.some.inj hf, ht⟩, hS.F ht⟩) hS.2.2 dX6_run_78
        · have hf := it_n hs5 hf
          refine lv_lookup (tgt := 79) (off := 38) hx hb dX6_run_41 rfl (by show Op.lookupswitch.offset [(0, 27), (1, 30)] _ _ = _; rw [lv_osw hs4 (show ((0 : Int32)).toInt = 0 from by decide)]; rw [lv_osw hs5 (show ((1 : Int32)).toInt = 1 from by decide)]; rfl) (by decide) ?_
          refine lv_bipush (v := (-2 : Int32)) hx hb dX6_run_79 (by decide) ?_
          exact W.iret (v := (-2 : Int32)) hx hb hr (fun t ht hW => ⟨⟨_, (), rfl, Option.some.inj hf, ht⟩, hS.F ht⟩) hS.2.2 dX6_run_81
    · have hf := it_p hc hf
      refine lv_iconst (v := (-1 : Int32)) hx hb dX6_run_38 (by decide) ?_
      exact W.iret (v := (-1 : Int32)) hx hb hr (fun t ht hW => ⟨⟨_, (), rfl, Option.some.inj hf, ht⟩, hS.F ht⟩) hS.2.2 dX6_run_39
  · have hf := it_p hc hf
    refine lv_iconst (v := (-1 : Int32)) hx hb dX6_run_11 (by decide) ?_
    exact W.iret (v := (-1 : Int32)) hx hb hr (fun t ht hW => ⟨⟨_, (), rfl, Option.some.inj hf, ht⟩, hS.F ht⟩) hS.2.2 dX6_run_12
set_option maxHeartbeats 4000000 in
set_option maxRecDepth 100000 in
theorem kX6_edge (l : Launch) (dC : Nat → ClassId) (dI : Nat → Nat → Nat) (cy : ClassId) (H : Heap) (a6 a6_leads a0 a0_offset a0_gain a0_dark a0_bright a3 a3_firstRow a3_lastRow a3_firstColumn a3_lastColumn a3_slants a3_tints a3_specks a4 a4_kinds a4_numbers a5 a1 a1_values : Nat) (f6_leads : Nat → Int32) (f0_offset : Nat → Int32) (f0_gain : Nat → Int32) (f0_dark : Nat → Int32) (f0_bright : Nat → Int32) (v3_ground : Int32) (v3_patches : Int32) (f3_firstRow : Nat → Int32) (f3_lastRow : Nat → Int32) (f3_firstColumn : Nat → Int32) (f3_lastColumn : Nat → Int32) (f3_slants : Nat → Int32) (f3_tints : Nat → Int32) (f3_specks : Nat → Int32) (v4_count : Int32) (f4_kinds : Nat → Int32) (f4_numbers : Nat → Int32) (v5_on : Int32) (v5_lines : Int32) (v5_reach : Int32) (v5_positions : Int32) (v5_queued : Int32) (v5_position : Int32) (v5_next : Int32) (v5_mode : Int32) (v5_outTicks : Int32) (v5_stops : Int32) (v5_ticked : Int32) (v1_count : Int32) (v1_threshold : Int32) (f1_values : Nat → Int32) (p1 : Int32) (r : Int32) (hf : fX6_edge v1_count v1_threshold f1_values p1 = some r) : Met l yX6_edge wsX6_edge ({ frames := 4, cells := 0, slots := 0, locals := 89 }) (roP [.ref a6, .int p1] (dC, dI) vwCl (WX6 cy a6 a6_leads a0 a0_offset a0_gain a0_dark a0_bright a3 a3_firstRow a3_lastRow a3_firstColumn a3_lastColumn a3_slants a3_tints a3_specks a4 a4_kinds a4_numbers a5 a1 a1_values f6_leads f0_offset f0_gain f0_dark f0_bright v3_ground v3_patches f3_firstRow f3_lastRow f3_firstColumn f3_lastColumn f3_slants f3_tints f3_specks v4_count f4_kinds f4_numbers v5_on v5_lines v5_reach v5_positions v5_queued v5_position v5_next v5_mode v5_outTicks v5_stops v5_ticked v1_count v1_threshold f1_values) [(cy, .int)] H) (roQi r H) 0 0 (fun _ => False) := by
  refine Met.ofW (cc := cX6_edge) (maxL := 2) (ret := (some .int)) (by decide) rfl ?_
  intro p e s m args below meth c s₁ B hml hv
  obtain ⟨rfl, hH, hP, hK⟩ := hv
  have hx := B.exec
  have hb := B.bytes
  have hr := B.returns
  have hts := atoms_spec (ws := wsX6_edge) B.pre
  have hown : s.vm.findClass RX6 = some m.cls := findClass_of_methodNamed B.named
  have hlocks := B.notSynchronized
  have hiX6 : ∀ w ∈ u_ws RX6 TX6 6, w ∈ wsX6_edge := fun _ h => List.mem_cons_of_mem _ (List.mem_append_left _ ((List.mem_append_right _ h)))
  have hiX1 : ∀ w ∈ u_ws RX1 TX1 3, w ∈ wsX6_edge := fun _ h => List.mem_cons_of_mem _ ((List.mem_append_right _ h))
  subst hH
  have hS : va_S (fun _ => False) s.heap s.heap [] := va_S.rf
  have hl := lv_entry ([.ref a6, .int p1]) (n := 2) (Nat.le_of_ble_eq_true rfl)
  rw [lg_entry_eq]
  generalize (lg_sl ([.ref a6, .int p1]) ++ List.replicate (2 - (lg_sl ([.ref a6, .int p1])).length) Slot.unset).toArray = ls at hl ⊢
  have hl : lv_has ls 2 [(0, .ref a6), (1, .int p1)] := hl
  unfold fX6_edge at hf
  refine lv_aload_n hx hb dX6_edge_0 rfl (lv_at hl 0 rfl) ?_
  refine va_get (D := (dC, dI)) (ci := 5) (v := .ref a1) (C := RX6) (T := TX6) (N := 6) hx hb hts hiX6 hown hK hP 0 rfl rfl 4 (by decide) (hts (.fieldLink RX6 42 "PageLines" "lines" "LPageLines$Lines;") (List.mem_of_getElem? (i := 1) rfl)) (fun _ h9 => h9) rfl dX6_edge_1 ?_
  refine lv_iload_n hx hb dX6_edge_4 rfl (lv_at hl 1 rfl) ?_
  obtain ⟨r1, hr1, hf⟩ := cl1_sp hf
  refine ro_V (As := [.int p1]) ⟨hx, hb, hml, hown, hts⟩ (kX1_has l dC dI cy _ a1 a1_values v1_count v1_threshold f1_values p1 r1 hr1) (cwV 1 hts gX6_edge_X1_has rfl rfl rfl (by decide +kernel) ⟨Nat.le_of_ble_eq_true rfl, Nat.le_of_ble_eq_true rfl⟩) (va_recv hK hP (ci := 1) (q0 := 19) rfl rfl) (hP.sub [19, 20] rfl) hK hS rfl hl.1 rfl (Nat.le_of_ble_eq_true rfl) dX6_edge_5 (Nat.zero_le _) (Nat.zero_le _) (fun locs hS => ?_)
  refine lv_if_ne (tgt := 13) hx hb dX6_edge_8 (by decide) (fun hc => ?_) (fun hc => ?_)
  · have hf := it_n hc hf
    refine lv_aload_n hx hb dX6_edge_13 rfl (lv_at hl 0 rfl) ?_
    refine va_get (D := (dC, dI)) (ci := 5) (v := .ref a1) (C := RX6) (T := TX6) (N := 6) hx hb hts hiX6 hown hK hP 0 rfl rfl 4 (by decide) (hts (.fieldLink RX6 42 "PageLines" "lines" "LPageLines$Lines;") (List.mem_of_getElem? (i := 1) rfl)) (fun _ h9 => h9) rfl dX6_edge_14 ?_
    refine lv_iload_n hx hb dX6_edge_17 rfl (lv_at hl 1 rfl) ?_
    obtain ⟨r2, hr2, hf⟩ := cl1_sp hf
    refine ro_V (As := [.int p1]) ⟨hx, hb, hml, hown, hts⟩ (kX1_edgeOf l dC dI cy _ a1 a1_values v1_count v1_threshold f1_values p1 r2 hr2) (cwV 1 hts gX6_edge_X1_edgeOf rfl rfl rfl (by decide +kernel) ⟨Nat.le_of_ble_eq_true rfl, Nat.le_of_ble_eq_true rfl⟩) (va_recv hK hP (ci := 1) (q0 := 19) rfl rfl) (hP.sub [19, 20] rfl) hK hS rfl hl.1 rfl (Nat.le_of_ble_eq_true rfl) dX6_edge_18 (Nat.zero_le _) (Nat.zero_le _) (fun locs hS => ?_)
    exact W.iret (v := r2) hx hb hr (fun t ht hW => ⟨⟨_, (), rfl, Option.some.inj hf, ht⟩, hS.F ht⟩) hS.2.2 dX6_edge_21
  · have hf := it_p hc hf
    refine lv_iconst (v := (-1 : Int32)) hx hb dX6_edge_11 (by decide) ?_
    exact W.iret (v := (-1 : Int32)) hx hb hr (fun t ht hW => ⟨⟨_, (), rfl, Option.some.inj hf, ht⟩, hS.F ht⟩) hS.2.2 dX6_edge_12
set_option maxHeartbeats 4000000 in
set_option maxRecDepth 100000 in
theorem kX6_skew (l : Launch) (dC : Nat → ClassId) (dI : Nat → Nat → Nat) (cy : ClassId) (H : Heap) (a6 a6_leads a0 a0_offset a0_gain a0_dark a0_bright a3 a3_firstRow a3_lastRow a3_firstColumn a3_lastColumn a3_slants a3_tints a3_specks a4 a4_kinds a4_numbers a5 a1 a1_values : Nat) (f6_leads : Nat → Int32) (f0_offset : Nat → Int32) (f0_gain : Nat → Int32) (f0_dark : Nat → Int32) (f0_bright : Nat → Int32) (v3_ground : Int32) (v3_patches : Int32) (f3_firstRow : Nat → Int32) (f3_lastRow : Nat → Int32) (f3_firstColumn : Nat → Int32) (f3_lastColumn : Nat → Int32) (f3_slants : Nat → Int32) (f3_tints : Nat → Int32) (f3_specks : Nat → Int32) (v4_count : Int32) (f4_kinds : Nat → Int32) (f4_numbers : Nat → Int32) (v5_on : Int32) (v5_lines : Int32) (v5_reach : Int32) (v5_positions : Int32) (v5_queued : Int32) (v5_position : Int32) (v5_next : Int32) (v5_mode : Int32) (v5_outTicks : Int32) (v5_stops : Int32) (v5_ticked : Int32) (v1_count : Int32) (v1_threshold : Int32) (f1_values : Nat → Int32) (p1 : Int32) (r : Int64) (hf : fX6_skew v1_count v1_threshold f1_values p1 = some r) : Met l yX6_skew wsX6_skew ({ frames := 5, cells := 0, slots := 0, locals := 126 }) (roP [.ref a6, .int p1] (dC, dI) vwCl (WX6 cy a6 a6_leads a0 a0_offset a0_gain a0_dark a0_bright a3 a3_firstRow a3_lastRow a3_firstColumn a3_lastColumn a3_slants a3_tints a3_specks a4 a4_kinds a4_numbers a5 a1 a1_values f6_leads f0_offset f0_gain f0_dark f0_bright v3_ground v3_patches f3_firstRow f3_lastRow f3_firstColumn f3_lastColumn f3_slants f3_tints f3_specks v4_count f4_kinds f4_numbers v5_on v5_lines v5_reach v5_positions v5_queued v5_position v5_next v5_mode v5_outTicks v5_stops v5_ticked v1_count v1_threshold f1_values) [(cy, .int)] H) (roQl r H) 0 0 (fun _ => False) := by
  refine Met.ofW (cc := cX6_skew) (maxL := 2) (ret := (some .long)) (by decide) rfl ?_
  intro p e s m args below meth c s₁ B hml hv
  obtain ⟨rfl, hH, hP, hK⟩ := hv
  have hx := B.exec
  have hb := B.bytes
  have hr := B.returns
  have hts := atoms_spec (ws := wsX6_skew) B.pre
  have hown : s.vm.findClass RX6 = some m.cls := findClass_of_methodNamed B.named
  have hlocks := B.notSynchronized
  have hiX6 : ∀ w ∈ u_ws RX6 TX6 6, w ∈ wsX6_skew := fun _ h => List.mem_cons_of_mem _ (List.mem_append_left _ ((List.mem_append_right _ h)))
  have hiX1 : ∀ w ∈ u_ws RX1 TX1 3, w ∈ wsX6_skew := fun _ h => List.mem_cons_of_mem _ ((List.mem_append_right _ h))
  subst hH
  have hS : va_S (fun _ => False) s.heap s.heap [] := va_S.rf
  have hl := lv_entry ([.ref a6, .int p1]) (n := 2) (Nat.le_of_ble_eq_true rfl)
  rw [lg_entry_eq]
  generalize (lg_sl ([.ref a6, .int p1]) ++ List.replicate (2 - (lg_sl ([.ref a6, .int p1])).length) Slot.unset).toArray = ls at hl ⊢
  have hl : lv_has ls 2 [(0, .ref a6), (1, .int p1)] := hl
  unfold fX6_skew at hf
  refine lv_iload_n hx hb dX6_skew_0 rfl (lv_at hl 1 rfl) ?_
  refine lv_iconst (v := (0 : Int32)) hx hb dX6_skew_1 (by decide) ?_
  refine lv_iconst (v := (1 : Int32)) hx hb dX6_skew_2 (by decide) ?_
  obtain ⟨r1, hr1, hf⟩ := cl1_sp hf
  refine ro_S (As := [.int p1, .int (0 : Int32), .int (1 : Int32)]) ⟨hx, hb, hml, hown, hts⟩ (kX2_within l _ p1 (0 : Int32) (1 : Int32) r1 hr1) (va_cwS 3 hts gX6_skew_X2_within rfl rfl rfl (by decide +kernel) ⟨Nat.le_of_ble_eq_true rfl, Nat.le_of_ble_eq_true rfl⟩) hS rfl hl.1 rfl (Nat.le_of_ble_eq_true rfl) dX6_skew_3 (Nat.zero_le _) (Nat.zero_le _) (fun locs hS => ?_)
  refine lv_if_ne (tgt := 13) hx hb dX6_skew_6 (by decide) (fun hc => ?_) (fun hc => ?_)
  · have hf := it_n hc hf
    refine lv_aload_n hx hb dX6_skew_13 rfl (lv_at hl 0 rfl) ?_
    refine va_get (D := (dC, dI)) (ci := 5) (v := .ref a1) (C := RX6) (T := TX6) (N := 6) hx hb hts hiX6 hown hK hP 0 rfl rfl 4 (by decide) (hts (.fieldLink RX6 42 "PageLines" "lines" "LPageLines$Lines;") (List.mem_of_getElem? (i := 2) rfl)) (fun _ h9 => h9) rfl dX6_skew_14 ?_
    refine lv_iload_n hx hb dX6_skew_17 rfl (lv_at hl 1 rfl) ?_
    refine lv_iconst (v := (1 : Int32)) hx hb dX6_skew_18 (by decide) ?_
    refine lv_icmp_ne (tgt := 26) hx hb dX6_skew_19 (by decide) (fun hc => ?_) (fun hc => ?_)
    · have hf := it_n hc hf
      refine lv_iconst (v := (0 : Int32)) hx hb dX6_skew_26 (by decide) ?_
      obtain ⟨r2, hr2, hf⟩ := cl1_sp hf
      refine ro_Vl (As := [.int (0 : Int32)]) ⟨hx, hb, hml, hown, hts⟩ (kX1_skewPart l dC dI cy _ a1 a1_values v1_count v1_threshold f1_values (0 : Int32) r2 hr2) (cwV 1 hts gX6_skew_X1_skewPart rfl rfl rfl (by decide +kernel) ⟨Nat.le_of_ble_eq_true rfl, Nat.le_of_ble_eq_true rfl⟩) (va_recv hK hP (ci := 1) (q0 := 19) rfl rfl) (hP.sub [19, 20] rfl) hK hS rfl hl.1 rfl (Nat.le_of_ble_eq_true rfl) dX6_skew_27 (Nat.zero_le _) (Nat.zero_le _) (fun locs hS => ?_)
      exact W.lret (v := r2) hx hb hr (fun t ht hW => ⟨⟨_, (), rfl, Option.some.inj hf, ht⟩, hS.F ht⟩) hS.2.2 dX6_skew_30
    · have hf := it_p hc hf
      refine lv_iconst (v := (1 : Int32)) hx hb dX6_skew_22 (by decide) ?_
      refine lv_goto (tgt := 27) hx hb dX6_skew_23 (by decide) ?_
      obtain ⟨r3, hr3, hf⟩ := cl1_sp hf
      refine ro_Vl (As := [.int (1 : Int32)]) ⟨hx, hb, hml, hown, hts⟩ (kX1_skewPart l dC dI cy _ a1 a1_values v1_count v1_threshold f1_values (1 : Int32) r3 hr3) (cwV 1 hts gX6_skew_X1_skewPart rfl rfl rfl (by decide +kernel) ⟨Nat.le_of_ble_eq_true rfl, Nat.le_of_ble_eq_true rfl⟩) (va_recv hK hP (ci := 1) (q0 := 19) rfl rfl) (hP.sub [19, 20] rfl) hK hS rfl hl.1 rfl (Nat.le_of_ble_eq_true rfl) dX6_skew_27 (Nat.zero_le _) (Nat.zero_le _) (fun locs hS => ?_)
      exact W.lret (v := r3) hx hb hr (fun t ht hW => ⟨⟨_, (), rfl, Option.some.inj hf, ht⟩, hS.F ht⟩) hS.2.2 dX6_skew_30
  · have hf := it_p hc hf
    refine lv_ldc2 hx hb hown (hts (.constantLong RX6 204 (-9223372036854775808)) (List.mem_of_getElem? (i := 1) rfl)) dX6_skew_9 ?_
    exact W.lret (v := (-9223372036854775808 : Int64)) hx hb hr (fun t ht hW => ⟨⟨_, (), rfl, Option.some.inj hf, ht⟩, hS.F ht⟩) hS.2.2 dX6_skew_12
set_option maxHeartbeats 4000000 in
set_option maxRecDepth 100000 in
theorem kX6_longest (l : Launch) (dC : Nat → ClassId) (dI : Nat → Nat → Nat) (cy : ClassId) (H : Heap) (a6 a6_leads a0 a0_offset a0_gain a0_dark a0_bright a3 a3_firstRow a3_lastRow a3_firstColumn a3_lastColumn a3_slants a3_tints a3_specks a4 a4_kinds a4_numbers a5 a1 a1_values : Nat) (f6_leads : Nat → Int32) (f0_offset : Nat → Int32) (f0_gain : Nat → Int32) (f0_dark : Nat → Int32) (f0_bright : Nat → Int32) (v3_ground : Int32) (v3_patches : Int32) (f3_firstRow : Nat → Int32) (f3_lastRow : Nat → Int32) (f3_firstColumn : Nat → Int32) (f3_lastColumn : Nat → Int32) (f3_slants : Nat → Int32) (f3_tints : Nat → Int32) (f3_specks : Nat → Int32) (v4_count : Int32) (f4_kinds : Nat → Int32) (f4_numbers : Nat → Int32) (v5_on : Int32) (v5_lines : Int32) (v5_reach : Int32) (v5_positions : Int32) (v5_queued : Int32) (v5_position : Int32) (v5_next : Int32) (v5_mode : Int32) (v5_outTicks : Int32) (v5_stops : Int32) (v5_ticked : Int32) (v1_count : Int32) (v1_threshold : Int32) (f1_values : Nat → Int32) (p1 : Int32) (r : Int32) (hf : fX6_longest v1_count f1_values p1 = some r) : Met l yX6_longest wsX6_longest ({ frames := 4, cells := 0, slots := 0, locals := 96 }) (roP [.ref a6, .int p1] (dC, dI) vwCl (WX6 cy a6 a6_leads a0 a0_offset a0_gain a0_dark a0_bright a3 a3_firstRow a3_lastRow a3_firstColumn a3_lastColumn a3_slants a3_tints a3_specks a4 a4_kinds a4_numbers a5 a1 a1_values f6_leads f0_offset f0_gain f0_dark f0_bright v3_ground v3_patches f3_firstRow f3_lastRow f3_firstColumn f3_lastColumn f3_slants f3_tints f3_specks v4_count f4_kinds f4_numbers v5_on v5_lines v5_reach v5_positions v5_queued v5_position v5_next v5_mode v5_outTicks v5_stops v5_ticked v1_count v1_threshold f1_values) [(cy, .int)] H) (roQi r H) 0 0 (fun _ => False) := by
  refine Met.ofW (cc := cX6_longest) (maxL := 2) (ret := (some .int)) (by decide) rfl ?_
  intro p e s m args below meth c s₁ B hml hv
  obtain ⟨rfl, hH, hP, hK⟩ := hv
  have hx := B.exec
  have hb := B.bytes
  have hr := B.returns
  have hts := atoms_spec (ws := wsX6_longest) B.pre
  have hown : s.vm.findClass RX6 = some m.cls := findClass_of_methodNamed B.named
  have hlocks := B.notSynchronized
  have hiX6 : ∀ w ∈ u_ws RX6 TX6 6, w ∈ wsX6_longest := fun _ h => List.mem_cons_of_mem _ (List.mem_append_left _ ((List.mem_append_right _ h)))
  have hiX1 : ∀ w ∈ u_ws RX1 TX1 3, w ∈ wsX6_longest := fun _ h => List.mem_cons_of_mem _ ((List.mem_append_right _ h))
  subst hH
  have hS : va_S (fun _ => False) s.heap s.heap [] := va_S.rf
  have hl := lv_entry ([.ref a6, .int p1]) (n := 2) (Nat.le_of_ble_eq_true rfl)
  rw [lg_entry_eq]
  generalize (lg_sl ([.ref a6, .int p1]) ++ List.replicate (2 - (lg_sl ([.ref a6, .int p1])).length) Slot.unset).toArray = ls at hl ⊢
  have hl : lv_has ls 2 [(0, .ref a6), (1, .int p1)] := hl
  unfold fX6_longest at hf
  refine lv_iload_n hx hb dX6_longest_0 rfl (lv_at hl 1 rfl) ?_
  obtain ⟨r1, hr1, hf⟩ := cl1_sp hf
  refine ro_S (As := [.int p1]) ⟨hx, hb, hml, hown, hts⟩ (kX6_isColumn l _ p1 r1 hr1) (va_cwS 1 hts gX6_longest_X6_isColumn rfl rfl rfl (by decide +kernel) ⟨Nat.le_of_ble_eq_true rfl, Nat.le_of_ble_eq_true rfl⟩) hS rfl hl.1 rfl (Nat.le_of_ble_eq_true rfl) dX6_longest_1 (Nat.zero_le _) (Nat.zero_le _) (fun locs hS => ?_)
  refine lv_if_ne (tgt := 9) hx hb dX6_longest_4 (by decide) (fun hc => ?_) (fun hc => ?_)
  · have hf := it_n hc hf
    refine lv_aload_n hx hb dX6_longest_9 rfl (lv_at hl 0 rfl) ?_
    refine va_get (D := (dC, dI)) (ci := 5) (v := .ref a1) (C := RX6) (T := TX6) (N := 6) hx hb hts hiX6 hown hK hP 0 rfl rfl 4 (by decide) (hts (.fieldLink RX6 42 "PageLines" "lines" "LPageLines$Lines;") (List.mem_of_getElem? (i := 1) rfl)) (fun _ h9 => h9) rfl dX6_longest_10 ?_
    refine lv_iload_n hx hb dX6_longest_13 rfl (lv_at hl 1 rfl) ?_
    obtain ⟨r2, hr2, hf⟩ := cl1_sp hf
    refine ro_V (As := [.int p1]) ⟨hx, hb, hml, hown, hts⟩ (kX1_longestOf l dC dI cy _ a1 a1_values v1_count v1_threshold f1_values p1 r2 hr2) (cwV 1 hts gX6_longest_X1_longestOf rfl rfl rfl (by decide +kernel) ⟨Nat.le_of_ble_eq_true rfl, Nat.le_of_ble_eq_true rfl⟩) (va_recv hK hP (ci := 1) (q0 := 19) rfl rfl) (hP.sub [19, 20] rfl) hK hS rfl hl.1 rfl (Nat.le_of_ble_eq_true rfl) dX6_longest_14 (Nat.zero_le _) (Nat.zero_le _) (fun locs hS => ?_)
    exact W.iret (v := r2) hx hb hr (fun t ht hW => ⟨⟨_, (), rfl, Option.some.inj hf, ht⟩, hS.F ht⟩) hS.2.2 dX6_longest_17
  · have hf := it_p hc hf
    refine lv_iconst (v := (-1 : Int32)) hx hb dX6_longest_7 (by decide) ?_
    exact W.iret (v := (-1 : Int32)) hx hb hr (fun t ht hW => ⟨⟨_, (), rfl, Option.some.inj hf, ht⟩, hS.F ht⟩) hS.2.2 dX6_longest_8
set_option maxHeartbeats 4000000 in
set_option maxRecDepth 100000 in
theorem kX6_streaks (l : Launch) (dC : Nat → ClassId) (dI : Nat → Nat → Nat) (cy : ClassId) (H : Heap) (a6 a6_leads a0 a0_offset a0_gain a0_dark a0_bright a3 a3_firstRow a3_lastRow a3_firstColumn a3_lastColumn a3_slants a3_tints a3_specks a4 a4_kinds a4_numbers a5 a1 a1_values : Nat) (f6_leads : Nat → Int32) (f0_offset : Nat → Int32) (f0_gain : Nat → Int32) (f0_dark : Nat → Int32) (f0_bright : Nat → Int32) (v3_ground : Int32) (v3_patches : Int32) (f3_firstRow : Nat → Int32) (f3_lastRow : Nat → Int32) (f3_firstColumn : Nat → Int32) (f3_lastColumn : Nat → Int32) (f3_slants : Nat → Int32) (f3_tints : Nat → Int32) (f3_specks : Nat → Int32) (v4_count : Int32) (f4_kinds : Nat → Int32) (f4_numbers : Nat → Int32) (v5_on : Int32) (v5_lines : Int32) (v5_reach : Int32) (v5_positions : Int32) (v5_queued : Int32) (v5_position : Int32) (v5_next : Int32) (v5_mode : Int32) (v5_outTicks : Int32) (v5_stops : Int32) (v5_ticked : Int32) (v1_count : Int32) (v1_threshold : Int32) (f1_values : Nat → Int32) (r : Int32) (hf : fX6_streaks v1_count f1_values = some r) : Met l yX6_streaks wsX6_streaks ({ frames := 4, cells := 0, slots := 0, locals := 96 }) (roP [.ref a6] (dC, dI) vwCl (WX6 cy a6 a6_leads a0 a0_offset a0_gain a0_dark a0_bright a3 a3_firstRow a3_lastRow a3_firstColumn a3_lastColumn a3_slants a3_tints a3_specks a4 a4_kinds a4_numbers a5 a1 a1_values f6_leads f0_offset f0_gain f0_dark f0_bright v3_ground v3_patches f3_firstRow f3_lastRow f3_firstColumn f3_lastColumn f3_slants f3_tints f3_specks v4_count f4_kinds f4_numbers v5_on v5_lines v5_reach v5_positions v5_queued v5_position v5_next v5_mode v5_outTicks v5_stops v5_ticked v1_count v1_threshold f1_values) [(cy, .int)] H) (roQi r H) 0 0 (fun _ => False) := by
  refine Met.ofW (cc := cX6_streaks) (maxL := 3) (ret := (some .int)) (by decide) rfl ?_
  intro p e s m args below meth c s₁ B hml hv
  obtain ⟨rfl, hH, hP, hK⟩ := hv
  have hx := B.exec
  have hb := B.bytes
  have hr := B.returns
  have hts := atoms_spec (ws := wsX6_streaks) B.pre
  have hown : s.vm.findClass RX6 = some m.cls := findClass_of_methodNamed B.named
  have hlocks := B.notSynchronized
  have hiX6 : ∀ w ∈ u_ws RX6 TX6 6, w ∈ wsX6_streaks := fun _ h => List.mem_cons_of_mem _ (List.mem_append_left _ ((List.mem_append_right _ h)))
  have hiX1 : ∀ w ∈ u_ws RX1 TX1 3, w ∈ wsX6_streaks := fun _ h => List.mem_cons_of_mem _ ((List.mem_append_right _ h))
  subst hH
  have hS : va_S (fun _ => False) s.heap s.heap [] := va_S.rf
  have hb_4 : ∀ (n : Nat) (x1 : Int32) (x2 : Int32), bX6_streaks_4 v1_count f1_values n x1 x2 = some r → ∀ (locs : List Loc) (ls : Array Slot), va_S (fun _ => False) s.heap s.heap locs → lv_has ls 3 [(0, .ref a6), (1, .int x1), (2, .int x2)] → W p l e (headSpec wsX6_streaks ({ frames := 4, cells := 0, slots := 0, locals := 96 })).room s m ([.ref a6] : List Value).toArray below meth c s.heap locs 0 0 (MQ below (roQi r s.heap) ([.ref a6] : List Value).toArray s 0 0 (fun _ => False)) (F0 m 4 ls []) := by
    intro n
    induction n with
    | zero => intro x1 x2 hf; rw [bX6_streaks_4] at hf; cases hf
    | succ n4 ih4 =>
      intro x1 x2 hf locs ls hS hl
      rw [bX6_streaks_4] at hf
      refine lv_iload_n hx hb dX6_streaks_4 rfl (lv_at hl 2 rfl) ?_
      refine lv_bipush (v := (12 : Int32)) hx hb dX6_streaks_5 (by decide) ?_
      refine lv_icmp_ge (tgt := 34) hx hb dX6_streaks_7 (by decide) (fun hc => ?_) (fun hc => ?_)
      · have hf := it_p hc hf
        refine lv_iload_n hx hb dX6_streaks_34 rfl (lv_at hl 1 rfl) ?_
        exact W.iret (v := x1) hx hb hr (fun t ht hW => ⟨⟨_, (), rfl, Option.some.inj hf, ht⟩, hS.F ht⟩) hS.2.2 dX6_streaks_35
      · have hf := it_n hc hf
        refine lv_aload_n hx hb dX6_streaks_10 rfl (lv_at hl 0 rfl) ?_
        refine va_get (D := (dC, dI)) (ci := 5) (v := .ref a1) (C := RX6) (T := TX6) (N := 6) hx hb hts hiX6 hown hK hP 0 rfl rfl 4 (by decide) (hts (.fieldLink RX6 42 "PageLines" "lines" "LPageLines$Lines;") (List.mem_of_getElem? (i := 1) rfl)) (fun _ h9 => h9) rfl dX6_streaks_11 ?_
        refine lv_iload_n hx hb dX6_streaks_14 rfl (lv_at hl 2 rfl) ?_
        obtain ⟨r2, hr2, hf⟩ := cl1_sp hf
        refine ro_V (As := [.int x2]) ⟨hx, hb, hml, hown, hts⟩ (kX1_longestOf l dC dI cy _ a1 a1_values v1_count v1_threshold f1_values x2 r2 hr2) (cwV 1 hts gX6_streaks_X1_longestOf rfl rfl rfl (by decide +kernel) ⟨Nat.le_of_ble_eq_true rfl, Nat.le_of_ble_eq_true rfl⟩) (va_recv hK hP (ci := 1) (q0 := 19) rfl rfl) (hP.sub [19, 20] rfl) hK hS rfl hl.1 rfl (Nat.le_of_ble_eq_true rfl) dX6_streaks_15 (Nat.zero_le _) (Nat.zero_le _) (fun locs hS => ?_)
        refine lv_iconst (v := (4 : Int32)) hx hb dX6_streaks_18 (by decide) ?_
        refine lv_icmp_lt (tgt := 28) hx hb dX6_streaks_19 (by decide) (fun hc => ?_) (fun hc => ?_)
        · have hf := it_p hc hf
          refine lv_iinc (v := x2 + (1 : Int32)) (lv' := [(2, .int (x2 + (1 : Int32))), (0, .ref a6), (1, .int x1)]) hx hb dX6_streaks_28 hl (k := 2) rfl rfl (by decide) rfl (fun ls hl => ?_)
          refine lv_goto (tgt := 4) hx hb dX6_streaks_31 (by decide) ?_
          exact ih4 x1 (x2 + (1 : Int32)) hf _ _ hS (lv_sub hl [1, 2, 0] rfl)
        · have hf := it_n hc hf
          refine lv_iload_n hx hb dX6_streaks_22 rfl (lv_at hl 1 rfl) ?_
          refine lv_iconst (v := (1 : Int32)) hx hb dX6_streaks_23 (by decide) ?_
          refine lv_iload_n hx hb dX6_streaks_24 rfl (lv_at hl 2 rfl) ?_
          refine lv_ishl hx hb dX6_streaks_25 ?_
          refine lv_ior hx hb dX6_streaks_26 ?_
          refine lv_istore_n (lv' := [(1, .int (x1 ||| ((1 : Int32) <<< (x2 &&& 31)))), (0, .ref a6), (2, .int x2)]) hx hb dX6_streaks_27 rfl hl (by decide) rfl (fun ls hl => ?_)
          refine lv_iinc (v := x2 + (1 : Int32)) (lv' := [(2, .int (x2 + (1 : Int32))), (1, .int (x1 ||| ((1 : Int32) <<< (x2 &&& 31)))), (0, .ref a6)]) hx hb dX6_streaks_28 hl (k := 2) rfl rfl (by decide) rfl (fun ls hl => ?_)
          refine lv_goto (tgt := 4) hx hb dX6_streaks_31 (by decide) ?_
          exact ih4 (x1 ||| ((1 : Int32) <<< (x2 &&& 31))) (x2 + (1 : Int32)) hf _ _ hS (lv_sub hl [2, 1, 0] rfl)
  have hl := lv_entry ([.ref a6]) (n := 3) (Nat.le_of_ble_eq_true rfl)
  rw [lg_entry_eq]
  generalize (lg_sl ([.ref a6]) ++ List.replicate (3 - (lg_sl ([.ref a6])).length) Slot.unset).toArray = ls at hl ⊢
  have hl : lv_has ls 3 [(0, .ref a6)] := hl
  unfold fX6_streaks at hf
  refine lv_iconst (v := (0 : Int32)) hx hb dX6_streaks_0 (by decide) ?_
  refine lv_istore_n (lv' := [(1, .int (0 : Int32)), (0, .ref a6)]) hx hb dX6_streaks_1 rfl hl (by decide) rfl (fun ls hl => ?_)
  refine lv_iconst (v := (0 : Int32)) hx hb dX6_streaks_2 (by decide) ?_
  refine lv_istore_n (lv' := [(2, .int (0 : Int32)), (1, .int (0 : Int32)), (0, .ref a6)]) hx hb dX6_streaks_3 rfl hl (by decide) rfl (fun ls hl => ?_)
  exact hb_4 300 (0 : Int32) (0 : Int32) hf _ _ hS (lv_sub hl [2, 1, 0] rfl)
set_option maxHeartbeats 4000000 in
set_option maxRecDepth 100000 in
theorem kX6_many (l : Launch) (dC : Nat → ClassId) (dI : Nat → Nat → Nat) (cy : ClassId) (H : Heap) (a6 a6_leads a0 a0_offset a0_gain a0_dark a0_bright a3 a3_firstRow a3_lastRow a3_firstColumn a3_lastColumn a3_slants a3_tints a3_specks a4 a4_kinds a4_numbers a5 a1 a1_values : Nat) (f6_leads : Nat → Int32) (f0_offset : Nat → Int32) (f0_gain : Nat → Int32) (f0_dark : Nat → Int32) (f0_bright : Nat → Int32) (v3_ground : Int32) (v3_patches : Int32) (f3_firstRow : Nat → Int32) (f3_lastRow : Nat → Int32) (f3_firstColumn : Nat → Int32) (f3_lastColumn : Nat → Int32) (f3_slants : Nat → Int32) (f3_tints : Nat → Int32) (f3_specks : Nat → Int32) (v4_count : Int32) (f4_kinds : Nat → Int32) (f4_numbers : Nat → Int32) (v5_on : Int32) (v5_lines : Int32) (v5_reach : Int32) (v5_positions : Int32) (v5_queued : Int32) (v5_position : Int32) (v5_next : Int32) (v5_mode : Int32) (v5_outTicks : Int32) (v5_stops : Int32) (v5_ticked : Int32) (v1_count : Int32) (v1_threshold : Int32) (f1_values : Nat → Int32) (p1 : Int32) (r : Int32) (hf : fX6_many f0_dark f0_bright v3_patches v4_count v5_lines v1_count v1_threshold f1_values p1 = some r) : Met l yX6_many wsX6_many ({ frames := 4, cells := 0, slots := 0, locals := 92 }) (roP [.ref a6, .int p1] (dC, dI) vwCl (WX6 cy a6 a6_leads a0 a0_offset a0_gain a0_dark a0_bright a3 a3_firstRow a3_lastRow a3_firstColumn a3_lastColumn a3_slants a3_tints a3_specks a4 a4_kinds a4_numbers a5 a1 a1_values f6_leads f0_offset f0_gain f0_dark f0_bright v3_ground v3_patches f3_firstRow f3_lastRow f3_firstColumn f3_lastColumn f3_slants f3_tints f3_specks v4_count f4_kinds f4_numbers v5_on v5_lines v5_reach v5_positions v5_queued v5_position v5_next v5_mode v5_outTicks v5_stops v5_ticked v1_count v1_threshold f1_values) [(cy, .int)] H) (roQi r H) 0 0 (fun _ => False) := by
  refine Met.ofW (cc := cX6_many) (maxL := 2) (ret := (some .int)) (by decide) rfl ?_
  intro p e s m args below meth c s₁ B hml hv
  obtain ⟨rfl, hH, hP, hK⟩ := hv
  have hx := B.exec
  have hb := B.bytes
  have hr := B.returns
  have hts := atoms_spec (ws := wsX6_many) B.pre
  have hown : s.vm.findClass RX6 = some m.cls := findClass_of_methodNamed B.named
  have hlocks := B.notSynchronized
  have hiX6 : ∀ w ∈ u_ws RX6 TX6 6, w ∈ wsX6_many := fun _ h => List.mem_cons_of_mem _ (List.mem_append_left _ (List.mem_append_left _ (List.mem_append_left _ (List.mem_append_left _ (List.mem_append_left _ ((List.mem_append_right _ h)))))))
  have hiX3 : ∀ w ∈ u_ws RX3 TX3 9, w ∈ wsX6_many := fun _ h => List.mem_cons_of_mem _ (List.mem_append_left _ (List.mem_append_left _ (List.mem_append_left _ (List.mem_append_left _ ((List.mem_append_right _ h))))))
  have hiX4 : ∀ w ∈ u_ws RX4 TX4 3, w ∈ wsX6_many := fun _ h => List.mem_cons_of_mem _ (List.mem_append_left _ (List.mem_append_left _ (List.mem_append_left _ ((List.mem_append_right _ h)))))
  have hiX1 : ∀ w ∈ u_ws RX1 TX1 3, w ∈ wsX6_many := fun _ h => List.mem_cons_of_mem _ (List.mem_append_left _ (List.mem_append_left _ ((List.mem_append_right _ h))))
  have hiX5 : ∀ w ∈ u_ws RX5 TX5 11, w ∈ wsX6_many := fun _ h => List.mem_cons_of_mem _ (List.mem_append_left _ ((List.mem_append_right _ h)))
  have hiX0 : ∀ w ∈ u_ws RX0 TX0 4, w ∈ wsX6_many := fun _ h => List.mem_cons_of_mem _ ((List.mem_append_right _ h))
  subst hH
  have hS : va_S (fun _ => False) s.heap s.heap [] := va_S.rf
  have hl := lv_entry ([.ref a6, .int p1]) (n := 2) (Nat.le_of_ble_eq_true rfl)
  rw [lg_entry_eq]
  generalize (lg_sl ([.ref a6, .int p1]) ++ List.replicate (2 - (lg_sl ([.ref a6, .int p1])).length) Slot.unset).toArray = ls at hl ⊢
  have hl : lv_has ls 2 [(0, .ref a6), (1, .int p1)] := hl
  unfold fX6_many at hf
  refine lv_iload_n hx hb dX6_many_0 rfl (lv_at hl 1 rfl) ?_
  by_cases hs1 : p1 = (0 : Int32)
  · refine lv_tableIn (tgt := 40) (off := 39) hx hb dX6_many_1 (by rw [hs1]; decide) (by rw [hs1]; decide) (by rw [hs1]; rfl) (by decide) ?_
    have hf := it_p hs1 hf
    refine lv_aload_n hx hb dX6_many_40 rfl (lv_at hl 0 rfl) ?_
    refine va_get (D := (dC, dI)) (ci := 5) (v := .ref a3) (C := RX6) (T := TX6) (N := 6) hx hb hts hiX6 hown hK hP 0 rfl rfl 1 (by decide) (hts (.fieldLink RX6 21 "PageLines" "page" "LPageLines$Page;") (List.mem_of_getElem? (i := 1) rfl)) (fun _ h9 => h9) rfl dX6_many_41 ?_
    refine va_get (D := (dC, dI)) (ci := 2) (v := .int v3_patches) (C := RX3) (T := TX3) (N := 9) hx hb hts hiX3 hown hK hP 7 rfl rfl 1 (by decide) (hts (.fieldLink RX6 106 "PageLines$Page" "patches" "I") (List.mem_of_getElem? (i := 2) rfl)) (fun _ h9 => h9) rfl dX6_many_44 ?_
    exact W.iret (v := v3_patches) hx hb hr (fun t ht hW => ⟨⟨_, (), rfl, Option.some.inj hf, ht⟩, hS.F ht⟩) hS.2.2 dX6_many_47
  · have hf := it_n hs1 hf
    by_cases hs2 : p1 = (1 : Int32)
    · refine lv_tableIn (tgt := 48) (off := 47) hx hb dX6_many_1 (by rw [hs2]; decide) (by rw [hs2]; decide) (by rw [hs2]; rfl) (by decide) ?_
      have hf := it_p hs2 hf
      refine lv_aload_n hx hb dX6_many_48 rfl (lv_at hl 0 rfl) ?_
      refine va_get (D := (dC, dI)) (ci := 5) (v := .ref a4) (C := RX6) (T := TX6) (N := 6) hx hb hts hiX6 hown hK hP 0 rfl rfl 2 (by decide) (hts (.fieldLink RX6 28 "PageLines" "steps" "LPageLines$Pipe;") (List.mem_of_getElem? (i := 3) rfl)) (fun _ h9 => h9) rfl dX6_many_49 ?_
      refine va_get (D := (dC, dI)) (ci := 3) (v := .int v4_count) (C := RX4) (T := TX4) (N := 3) hx hb hts hiX4 hown hK hP 15 rfl rfl 0 (by decide) (hts (.fieldLink RX6 131 "PageLines$Pipe" "count" "I") (List.mem_of_getElem? (i := 4) rfl)) (fun _ h9 => h9) rfl dX6_many_52 ?_
      exact W.iret (v := v4_count) hx hb hr (fun t ht hW => ⟨⟨_, (), rfl, Option.some.inj hf, ht⟩, hS.F ht⟩) hS.2.2 dX6_many_55
    · have hf := it_n hs2 hf
      by_cases hs3 : p1 = (2 : Int32)
      · refine lv_tableIn (tgt := 56) (off := 55) hx hb dX6_many_1 (by rw [hs3]; decide) (by rw [hs3]; decide) (by rw [hs3]; rfl) (by decide) ?_
        have hf := it_p hs3 hf
        refine lv_aload_n hx hb dX6_many_56 rfl (lv_at hl 0 rfl) ?_
        refine va_get (D := (dC, dI)) (ci := 5) (v := .ref a1) (C := RX6) (T := TX6) (N := 6) hx hb hts hiX6 hown hK hP 0 rfl rfl 4 (by decide) (hts (.fieldLink RX6 42 "PageLines" "lines" "LPageLines$Lines;") (List.mem_of_getElem? (i := 5) rfl)) (fun _ h9 => h9) rfl dX6_many_57 ?_
        refine va_get (D := (dC, dI)) (ci := 1) (v := .int v1_count) (C := RX1) (T := TX1) (N := 3) hx hb hts hiX1 hown hK hP 19 rfl rfl 0 (by decide) (hts (.fieldLink RX6 152 "PageLines$Lines" "count" "I") (List.mem_of_getElem? (i := 6) rfl)) (fun _ h9 => h9) rfl dX6_many_60 ?_
        exact W.iret (v := v1_count) hx hb hr (fun t ht hW => ⟨⟨_, (), rfl, Option.some.inj hf, ht⟩, hS.F ht⟩) hS.2.2 dX6_many_63
      · have hf := it_n hs3 hf
        by_cases hs4 : p1 = (3 : Int32)
        · refine lv_tableIn (tgt := 64) (off := 63) hx hb dX6_many_1 (by rw [hs4]; decide) (by rw [hs4]; decide) (by rw [hs4]; rfl) (by decide) ?_
          have hf := it_p hs4 hf
          refine lv_aload_n hx hb dX6_many_64 rfl (lv_at hl 0 rfl) ?_
          refine va_get (D := (dC, dI)) (ci := 5) (v := .ref a0) (C := RX6) (T := TX6) (N := 6) hx hb hts hiX6 hown hK hP 0 rfl rfl 0 (by decide) (hts (.fieldLink RX6 14 "PageLines" "cells" "LPageLines$Cells;") (List.mem_of_getElem? (i := 7) rfl)) (fun _ h9 => h9) rfl dX6_many_65 ?_
          obtain ⟨r5, hr5, hf⟩ := cl1_sp hf
          refine ro_V (As := []) ⟨hx, hb, hml, hown, hts⟩ (kX0_countLive l dC dI cy _ a0 a0_offset a0_gain a0_dark a0_bright f0_offset f0_gain f0_dark f0_bright r5 hr5) (cwV 0 hts gX6_many_X0_countLive rfl rfl rfl (by decide +kernel) ⟨Nat.le_of_ble_eq_true rfl, Nat.le_of_ble_eq_true rfl⟩) (va_recv hK hP (ci := 0) (q0 := 2) rfl rfl) (hP.sub [2, 3, 4, 5, 6] rfl) hK hS rfl hl.1 rfl (Nat.le_of_ble_eq_true rfl) dX6_many_68 (Nat.zero_le _) (Nat.zero_le _) (fun locs hS => ?_)
          exact W.iret (v := r5) hx hb hr (fun t ht hW => ⟨⟨_, (), rfl, Option.some.inj hf, ht⟩, hS.F ht⟩) hS.2.2 dX6_many_71
        · have hf := it_n hs4 hf
          by_cases hs6 : p1 = (4 : Int32)
          · refine lv_tableIn (tgt := 72) (off := 71) hx hb dX6_many_1 (by rw [hs6]; decide) (by rw [hs6]; decide) (by rw [hs6]; rfl) (by decide) ?_
            have hf := it_p hs6 hf
            refine lv_aload_n hx hb dX6_many_72 rfl (lv_at hl 0 rfl) ?_
            refine va_get (D := (dC, dI)) (ci := 5) (v := .ref a5) (C := RX6) (T := TX6) (N := 6) hx hb hts hiX6 hown hK hP 0 rfl rfl 3 (by decide) (hts (.fieldLink RX6 35 "PageLines" "scan" "LPageLines$Scan;") (List.mem_of_getElem? (i := 8) rfl)) (fun _ h9 => h9) rfl dX6_many_73 ?_
            refine va_get (D := (dC, dI)) (ci := 4) (v := .int v5_lines) (C := RX5) (T := TX5) (N := 11) hx hb hts hiX5 hown hK hP 18 rfl rfl 1 (by decide) (hts (.fieldLink RX6 169 "PageLines$Scan" "lines" "I") (List.mem_of_getElem? (i := 9) rfl)) (fun _ h9 => h9) rfl dX6_many_76 ?_
            exact W.iret (v := v5_lines) hx hb hr (fun t ht hW => ⟨⟨_, (), rfl, Option.some.inj hf, ht⟩, hS.F ht⟩) hS.2.2 dX6_many_79
          · have hf := it_n hs6 hf
            by_cases hs7 : p1 = (5 : Int32)
            · refine lv_tableIn (tgt := 80) (off := 79) hx hb dX6_many_1 (by rw [hs7]; decide) (by rw [hs7]; decide) (by rw [hs7]; rfl) (by decide) ?_
              have hf := it_p hs7 hf
              refine lv_aload_n hx hb dX6_many_80 rfl (lv_at hl 0 rfl) ?_
              refine va_get (D := (dC, dI)) (ci := 5) (v := .ref a1) (C := RX6) (T := TX6) (N := 6) hx hb hts hiX6 hown hK hP 0 rfl rfl 4 (by decide) (hts (.fieldLink RX6 42 "PageLines" "lines" "LPageLines$Lines;") (List.mem_of_getElem? (i := 5) rfl)) (fun _ h9 => h9) rfl dX6_many_81 ?_
              obtain ⟨r8, hr8, hf⟩ := cl1_sp hf
              refine ro_V (As := []) ⟨hx, hb, hml, hown, hts⟩ (kX1_countRuns l dC dI cy _ a1 a1_values v1_count v1_threshold f1_values r8 hr8) (cwV 0 hts gX6_many_X1_countRuns rfl rfl rfl (by decide +kernel) ⟨Nat.le_of_ble_eq_true rfl, Nat.le_of_ble_eq_true rfl⟩) (va_recv hK hP (ci := 1) (q0 := 19) rfl rfl) (hP.sub [19, 20] rfl) hK hS rfl hl.1 rfl (Nat.le_of_ble_eq_true rfl) dX6_many_84 (Nat.zero_le _) (Nat.zero_le _) (fun locs hS => ?_)
              exact W.iret (v := r8) hx hb hr (fun t ht hW => ⟨⟨_, (), rfl, Option.some.inj hf, ht⟩, hS.F ht⟩) hS.2.2 dX6_many_87
            · have hf := it_n hs7 hf
              refine lv_tableOut (tgt := 88) hx hb dX6_many_1 (by have e0 := lv_neT hs1 (show ((0 : Int32)).toInt = 0 from by decide); have e1 := lv_neT hs2 (show ((1 : Int32)).toInt = 1 from by decide); have e2 := lv_neT hs3 (show ((2 : Int32)).toInt = 2 from by decide); have e3 := lv_neT hs4 (show ((3 : Int32)).toInt = 3 from by decide); have e4 := lv_neT hs6 (show ((4 : Int32)).toInt = 4 from by decide); have e5 := lv_neT hs7 (show ((5 : Int32)).toInt = 5 from by decide); omega) (by decide) ?_
              refine lv_bipush (v := (-2 : Int32)) hx hb dX6_many_88 (by decide) ?_
              exact W.iret (v := (-2 : Int32)) hx hb hr (fun t ht hW => ⟨⟨_, (), rfl, Option.some.inj hf, ht⟩, hS.F ht⟩) hS.2.2 dX6_many_90

set_option maxHeartbeats 4000000 in
set_option maxRecDepth 100000 in
theorem kX6_speck (l : Launch) (dC : Nat → ClassId) (dI : Nat → Nat → Nat) (cy : ClassId) (sz : Nat) (a6 a6_leads a0 a0_offset a0_gain a0_dark a0_bright a3 a3_firstRow a3_lastRow a3_firstColumn a3_lastColumn a3_slants a3_tints a3_specks a4 a4_kinds a4_numbers a5 a1 a1_values : Nat) (f6_leads : Nat → Int32) (f0_offset : Nat → Int32) (f0_gain : Nat → Int32) (f0_dark : Nat → Int32) (f0_bright : Nat → Int32) (v3_ground : Int32) (v3_patches : Int32) (f3_firstRow : Nat → Int32) (f3_lastRow : Nat → Int32) (f3_firstColumn : Nat → Int32) (f3_lastColumn : Nat → Int32) (f3_slants : Nat → Int32) (f3_tints : Nat → Int32) (f3_specks : Nat → Int32) (v4_count : Int32) (f4_kinds : Nat → Int32) (f4_numbers : Nat → Int32) (v5_on : Int32) (v5_lines : Int32) (v5_reach : Int32) (v5_positions : Int32) (v5_queued : Int32) (v5_position : Int32) (v5_next : Int32) (v5_mode : Int32) (v5_outTicks : Int32) (v5_stops : Int32) (v5_ticked : Int32) (v1_count : Int32) (v1_threshold : Int32) (f1_values : Nat → Int32) (p1 : Int32) (p2 : Int32) (r : Int32) (o_f3_specks : Nat → Int32) (hf : fX6_speck f3_specks v5_on p1 p2 = some (r, o_f3_specks)) : Met l yX6_speck wsX6_speck ({ frames := 2, cells := 0, slots := 0, locals := 42 }) (rwP [.ref a6, .int p1, .int p2] (dC, dI) vwCl (WX6 cy a6 a6_leads a0 a0_offset a0_gain a0_dark a0_bright a3 a3_firstRow a3_lastRow a3_firstColumn a3_lastColumn a3_slants a3_tints a3_specks a4 a4_kinds a4_numbers a5 a1 a1_values f6_leads f0_offset f0_gain f0_dark f0_bright v3_ground v3_patches f3_firstRow f3_lastRow f3_firstColumn f3_lastColumn f3_slants f3_tints f3_specks v4_count f4_kinds f4_numbers v5_on v5_lines v5_reach v5_positions v5_queued v5_position v5_next v5_mode v5_outTicks v5_stops v5_ticked v1_count v1_threshold f1_values) [(cy, .int)] sz) (rwQi r (dC, dI) vwCl (WX6 cy a6 a6_leads a0 a0_offset a0_gain a0_dark a0_bright a3 a3_firstRow a3_lastRow a3_firstColumn a3_lastColumn a3_slants a3_tints a3_specks a4 a4_kinds a4_numbers a5 a1 a1_values f6_leads f0_offset f0_gain f0_dark f0_bright v3_ground v3_patches f3_firstRow f3_lastRow f3_firstColumn f3_lastColumn f3_slants f3_tints o_f3_specks v4_count f4_kinds f4_numbers v5_on v5_lines v5_reach v5_positions v5_queued v5_position v5_next v5_mode v5_outTicks v5_stops v5_ticked v1_count v1_threshold f1_values) (va_A (WX6 cy a6 a6_leads a0 a0_offset a0_gain a0_dark a0_bright a3 a3_firstRow a3_lastRow a3_firstColumn a3_lastColumn a3_slants a3_tints a3_specks a4 a4_kinds a4_numbers a5 a1 a1_values f6_leads f0_offset f0_gain f0_dark f0_bright v3_ground v3_patches f3_firstRow f3_lastRow f3_firstColumn f3_lastColumn f3_slants f3_tints f3_specks v4_count f4_kinds f4_numbers v5_on v5_lines v5_reach v5_positions v5_queued v5_position v5_next v5_mode v5_outTicks v5_stops v5_ticked v1_count v1_threshold f1_values) sz)) 0 0 (va_A (WX6 cy a6 a6_leads a0 a0_offset a0_gain a0_dark a0_bright a3 a3_firstRow a3_lastRow a3_firstColumn a3_lastColumn a3_slants a3_tints a3_specks a4 a4_kinds a4_numbers a5 a1 a1_values f6_leads f0_offset f0_gain f0_dark f0_bright v3_ground v3_patches f3_firstRow f3_lastRow f3_firstColumn f3_lastColumn f3_slants f3_tints f3_specks v4_count f4_kinds f4_numbers v5_on v5_lines v5_reach v5_positions v5_queued v5_position v5_next v5_mode v5_outTicks v5_stops v5_ticked v1_count v1_threshold f1_values) sz) := by
  refine Met.ofW (cc := cX6_speck) (maxL := 4) (ret := (some .int)) (by decide) rfl ?_
  intro p e s m args below meth c s₁ B hml hv
  obtain ⟨rfl, hsz, hP, hK, hD0⟩ := hv
  have hx := B.exec
  have hb := B.bytes
  have hr := B.returns
  have hts := atoms_spec (ws := wsX6_speck) B.pre
  have hown : s.vm.findClass RX6 = some m.cls := findClass_of_methodNamed B.named
  have hlocks := B.notSynchronized
  have hiX6 : ∀ w ∈ u_ws RX6 TX6 6, w ∈ wsX6_speck := fun _ h => List.mem_cons_of_mem _ (List.mem_append_left _ (List.mem_append_left _ ((List.mem_append_right _ h))))
  have hiX5 : ∀ w ∈ u_ws RX5 TX5 11, w ∈ wsX6_speck := fun _ h => List.mem_cons_of_mem _ (List.mem_append_left _ ((List.mem_append_right _ h)))
  have hiX3 : ∀ w ∈ u_ws RX3 TX3 9, w ∈ wsX6_speck := fun _ h => List.mem_cons_of_mem _ ((List.mem_append_right _ h))
  subst hsz
  have hD := hD0.self (sz := s.heap.size)
  generalize hAe : va_A (WX6 cy a6 a6_leads a0 a0_offset a0_gain a0_dark a0_bright a3 a3_firstRow a3_lastRow a3_firstColumn a3_lastColumn a3_slants a3_tints a3_specks a4 a4_kinds a4_numbers a5 a1 a1_values f6_leads f0_offset f0_gain f0_dark f0_bright v3_ground v3_patches f3_firstRow f3_lastRow f3_firstColumn f3_lastColumn f3_slants f3_tints f3_specks v4_count f4_kinds f4_numbers v5_on v5_lines v5_reach v5_positions v5_queued v5_position v5_next v5_mode v5_outTicks v5_stops v5_ticked v1_count v1_threshold f1_values) s.heap.size = A0 at hD ⊢
  have hA : ∀ q : Nat, s.heap.size ≤ q → A0 q := fun q h => by rw [← hAe]; exact Or.inr h
  have hS : va_S A0 s.heap s.heap [] := va_S.rf
  have hl := lv_entry ([.ref a6, .int p1, .int p2]) (n := 4) (Nat.le_of_ble_eq_true rfl)
  rw [lg_entry_eq]
  generalize (lg_sl ([.ref a6, .int p1, .int p2]) ++ List.replicate (4 - (lg_sl ([.ref a6, .int p1, .int p2])).length) Slot.unset).toArray = ls at hl ⊢
  have hl : lv_has ls 4 [(0, .ref a6), (1, .int p1), (2, .int p2)] := hl
  unfold fX6_speck at hf
  refine lv_iload_n hx hb dX6_speck_0 rfl (lv_at hl 1 rfl) ?_
  obtain ⟨r1, hr1, hf⟩ := cl1_sp hf
  refine ro_S (As := [.int p1]) ⟨hx, hb, hml, hown, hts⟩ (kX6_isColumn l _ p1 r1 hr1) (va_cwS 1 hts gX6_speck_X6_isColumn rfl rfl rfl (by decide +kernel) ⟨Nat.le_of_ble_eq_true rfl, Nat.le_of_ble_eq_true rfl⟩) hS rfl hl.1 rfl (Nat.le_of_ble_eq_true rfl) dX6_speck_1 (Nat.zero_le _) (Nat.zero_le _) (fun locs hS => ?_)
  refine lv_if_ne (tgt := 9) hx hb dX6_speck_4 (by decide) (fun hc => ?_) (fun hc => ?_)
  · have hf := it_n hc hf
    refine lv_iload_n hx hb dX6_speck_9 rfl (lv_at hl 2 rfl) ?_
    refine lv_iconst (v := (0 : Int32)) hx hb dX6_speck_10 (by decide) ?_
    refine lv_sipush (v := (255 : Int32)) hx hb dX6_speck_11 (by decide) ?_
    obtain ⟨r2, hr2, hf⟩ := cl1_sp hf
    refine ro_S (As := [.int p2, .int (0 : Int32), .int (255 : Int32)]) ⟨hx, hb, hml, hown, hts⟩ (kX2_within l _ p2 (0 : Int32) (255 : Int32) r2 hr2) (va_cwS 3 hts gX6_speck_X2_within rfl rfl rfl (by decide +kernel) ⟨Nat.le_of_ble_eq_true rfl, Nat.le_of_ble_eq_true rfl⟩) hS rfl hl.1 rfl (Nat.le_of_ble_eq_true rfl) dX6_speck_14 (Nat.zero_le _) (Nat.zero_le _) (fun locs hS => ?_)
    refine lv_if_ne (tgt := 23) hx hb dX6_speck_17 (by decide) (fun hc => ?_) (fun hc => ?_)
    · have hf := it_n hc hf
      refine lv_aload_n hx hb dX6_speck_23 rfl (lv_at hl 0 rfl) ?_
      refine va_get (D := (dC, dI)) (ci := 5) (v := .ref a5) (C := RX6) (T := TX6) (N := 6) hx hb hts hiX6 hown hK hP 0 rfl rfl 3 (by decide) (hts (.fieldLink RX6 35 "PageLines" "scan" "LPageLines$Scan;") (List.mem_of_getElem? (i := 1) rfl)) (fun _ h9 => h9) rfl dX6_speck_24 ?_
      refine va_get (D := (dC, dI)) (ci := 4) (v := .int v5_on) (C := RX5) (T := TX5) (N := 11) hx hb hts hiX5 hown hK hP 18 rfl rfl 0 (by decide) (hts (.fieldLink RX6 60 "PageLines$Scan" "on" "Z") (List.mem_of_getElem? (i := 2) rfl)) (fun _ h9 => h9) rfl dX6_speck_27 ?_
      refine lv_if_eq (tgt := 36) hx hb dX6_speck_30 (by decide) (fun hc => ?_) (fun hc => ?_)
      · have hf := it_p hc hf
        refine lv_aload_n hx hb dX6_speck_36 rfl (lv_at hl 0 rfl) ?_
        refine va_get (D := (dC, dI)) (ci := 5) (v := .ref a3) (C := RX6) (T := TX6) (N := 6) hx hb hts hiX6 hown hK hP 0 rfl rfl 1 (by decide) (hts (.fieldLink RX6 21 "PageLines" "page" "LPageLines$Page;") (List.mem_of_getElem? (i := 3) rfl)) (fun _ h9 => h9) rfl dX6_speck_37 ?_
        refine va_get (D := (dC, dI)) (ci := 2) (v := .ref a3_specks) (C := RX3) (T := TX3) (N := 9) hx hb hts hiX3 hown hK hP 7 rfl rfl 8 (by decide) (hts (.fieldLink RX6 118 "PageLines$Page" "specks" "[I") (List.mem_of_getElem? (i := 4) rfl)) (fun _ h9 => h9) rfl dX6_speck_40 ?_
        refine lv_iload_n hx hb dX6_speck_43 rfl (lv_at hl 1 rfl) ?_
        obtain ⟨hi_3, hf⟩ := ckI_sp hf
        refine va_iald hx hb hK hP 14 0 rfl rfl hi_3 dX6_speck_44 ?_
        refine lv_istore_n (lv' := [(3, .int (f3_specks p1.toNatClampNeg)), (0, .ref a6), (1, .int p1), (2, .int p2)]) hx hb dX6_speck_45 rfl hl (by decide) rfl (fun ls hl => ?_)
        refine lv_aload_n hx hb dX6_speck_46 rfl (lv_at hl 1 rfl) ?_
        refine va_get (D := (dC, dI)) (ci := 5) (v := .ref a3) (C := RX6) (T := TX6) (N := 6) hx hb hts hiX6 hown hK hP 0 rfl rfl 1 (by decide) (hts (.fieldLink RX6 21 "PageLines" "page" "LPageLines$Page;") (List.mem_of_getElem? (i := 3) rfl)) (fun _ h9 => h9) rfl dX6_speck_47 ?_
        refine va_get (D := (dC, dI)) (ci := 2) (v := .ref a3_specks) (C := RX3) (T := TX3) (N := 9) hx hb hts hiX3 hown hK hP 7 rfl rfl 8 (by decide) (hts (.fieldLink RX6 118 "PageLines$Page" "specks" "[I") (List.mem_of_getElem? (i := 4) rfl)) (fun _ h9 => h9) rfl dX6_speck_50 ?_
        refine lv_iload_n hx hb dX6_speck_53 rfl (lv_at hl 2 rfl) ?_
        refine lv_iload_n hx hb dX6_speck_54 rfl (lv_at hl 3 rfl) ?_
        obtain ⟨hi_4, hf⟩ := ckI_sp hf
        refine va_iast hx hb hK hP hD hS 14 0 rfl rfl hi_4 dX6_speck_55 (fun H locs hP hD hS => ?_)
        have hP : va_P (dC, dI) vwCl (WX6 cy a6 a6_leads a0 a0_offset a0_gain a0_dark a0_bright a3 a3_firstRow a3_lastRow a3_firstColumn a3_lastColumn a3_slants a3_tints a3_specks a4 a4_kinds a4_numbers a5 a1 a1_values f6_leads f0_offset f0_gain f0_dark f0_bright v3_ground v3_patches f3_firstRow f3_lastRow f3_firstColumn f3_lastColumn f3_slants f3_tints (upd f3_specks p1.toNatClampNeg p2) v4_count f4_kinds f4_numbers v5_on v5_lines v5_reach v5_positions v5_queued v5_position v5_next v5_mode v5_outTicks v5_stops v5_ticked v1_count v1_threshold f1_values) H := hP
        have hD : va_D A0 (WX6 cy a6 a6_leads a0 a0_offset a0_gain a0_dark a0_bright a3 a3_firstRow a3_lastRow a3_firstColumn a3_lastColumn a3_slants a3_tints a3_specks a4 a4_kinds a4_numbers a5 a1 a1_values f6_leads f0_offset f0_gain f0_dark f0_bright v3_ground v3_patches f3_firstRow f3_lastRow f3_firstColumn f3_lastColumn f3_slants f3_tints (upd f3_specks p1.toNatClampNeg p2) v4_count f4_kinds f4_numbers v5_on v5_lines v5_reach v5_positions v5_queued v5_position v5_next v5_mode v5_outTicks v5_stops v5_ticked v1_count v1_threshold f1_values) := hD
        refine lv_iload_n hx hb dX6_speck_56 rfl (lv_at hl 0 rfl) ?_
        cases hf
        exact W.iret hx hb hr (fun t ht hW => ⟨⟨_, (), rfl, rfl, by rw [ht]; exact hP, hD⟩, hS.F ht⟩) hS.2.2 dX6_speck_57
      · have hf := it_n hc hf
        refine lv_bipush (v := (-3 : Int32)) hx hb dX6_speck_33 (by decide) ?_
        cases hf
        exact W.iret hx hb hr (fun t ht hW => ⟨⟨_, (), rfl, rfl, by rw [ht]; exact hP, hD⟩, hS.F ht⟩) hS.2.2 dX6_speck_35
    · have hf := it_p hc hf
      refine lv_bipush (v := (-2 : Int32)) hx hb dX6_speck_20 (by decide) ?_
      cases hf
      exact W.iret hx hb hr (fun t ht hW => ⟨⟨_, (), rfl, rfl, by rw [ht]; exact hP, hD⟩, hS.F ht⟩) hS.2.2 dX6_speck_22
  · have hf := it_p hc hf
    refine lv_iconst (v := (-1 : Int32)) hx hb dX6_speck_7 (by decide) ?_
    cases hf
    exact W.iret hx hb hr (fun t ht hW => ⟨⟨_, (), rfl, rfl, by rw [ht]; exact hP, hD⟩, hS.F ht⟩) hS.2.2 dX6_speck_8
set_option maxHeartbeats 4000000 in
set_option maxRecDepth 100000 in
theorem kX6_light (l : Launch) (dC : Nat → ClassId) (dI : Nat → Nat → Nat) (cy : ClassId) (H : Heap) (a6 a6_leads a0 a0_offset a0_gain a0_dark a0_bright a3 a3_firstRow a3_lastRow a3_firstColumn a3_lastColumn a3_slants a3_tints a3_specks a4 a4_kinds a4_numbers a5 a1 a1_values : Nat) (f6_leads : Nat → Int32) (f0_offset : Nat → Int32) (f0_gain : Nat → Int32) (f0_dark : Nat → Int32) (f0_bright : Nat → Int32) (v3_ground : Int32) (v3_patches : Int32) (f3_firstRow : Nat → Int32) (f3_lastRow : Nat → Int32) (f3_firstColumn : Nat → Int32) (f3_lastColumn : Nat → Int32) (f3_slants : Nat → Int32) (f3_tints : Nat → Int32) (f3_specks : Nat → Int32) (v4_count : Int32) (f4_kinds : Nat → Int32) (f4_numbers : Nat → Int32) (v5_on : Int32) (v5_lines : Int32) (v5_reach : Int32) (v5_positions : Int32) (v5_queued : Int32) (v5_position : Int32) (v5_next : Int32) (v5_mode : Int32) (v5_outTicks : Int32) (v5_stops : Int32) (v5_ticked : Int32) (v1_count : Int32) (v1_threshold : Int32) (f1_values : Nat → Int32) (p1 : Int32) (p2 : Int32) (p3 : Int32) (p4 : Int32) (r : Int32) (hf : fX6_light v3_ground v3_patches f3_firstRow f3_lastRow f3_firstColumn f3_lastColumn f3_slants f3_tints f3_specks p1 p2 p3 p4 = some r) : Met l yX6_light wsX6_light ({ frames := 3, cells := 0, slots := 0, locals := 75 }) (roP [.ref a6, .int p1, .int p2, .int p3, .int p4] (dC, dI) vwCl (WX6 cy a6 a6_leads a0 a0_offset a0_gain a0_dark a0_bright a3 a3_firstRow a3_lastRow a3_firstColumn a3_lastColumn a3_slants a3_tints a3_specks a4 a4_kinds a4_numbers a5 a1 a1_values f6_leads f0_offset f0_gain f0_dark f0_bright v3_ground v3_patches f3_firstRow f3_lastRow f3_firstColumn f3_lastColumn f3_slants f3_tints f3_specks v4_count f4_kinds f4_numbers v5_on v5_lines v5_reach v5_positions v5_queued v5_position v5_next v5_mode v5_outTicks v5_stops v5_ticked v1_count v1_threshold f1_values) [(cy, .int)] H) (roQi r H) 0 0 (fun _ => False) := by
  refine Met.ofW (cc := cX6_light) (maxL := 5) (ret := (some .int)) (by decide) rfl ?_
  intro p e s m args below meth c s₁ B hml hv
  obtain ⟨rfl, hH, hP, hK⟩ := hv
  have hx := B.exec
  have hb := B.bytes
  have hr := B.returns
  have hts := atoms_spec (ws := wsX6_light) B.pre
  have hown : s.vm.findClass RX6 = some m.cls := findClass_of_methodNamed B.named
  have hlocks := B.notSynchronized
  have hiX6 : ∀ w ∈ u_ws RX6 TX6 6, w ∈ wsX6_light := fun _ h => List.mem_cons_of_mem _ (List.mem_append_left _ ((List.mem_append_right _ h)))
  have hiX3 : ∀ w ∈ u_ws RX3 TX3 9, w ∈ wsX6_light := fun _ h => List.mem_cons_of_mem _ ((List.mem_append_right _ h))
  subst hH
  have hS : va_S (fun _ => False) s.heap s.heap [] := va_S.rf
  have hl := lv_entry ([.ref a6, .int p1, .int p2, .int p3, .int p4]) (n := 5) (Nat.le_of_ble_eq_true rfl)
  rw [lg_entry_eq]
  generalize (lg_sl ([.ref a6, .int p1, .int p2, .int p3, .int p4]) ++ List.replicate (5 - (lg_sl ([.ref a6, .int p1, .int p2, .int p3, .int p4])).length) Slot.unset).toArray = ls at hl ⊢
  have hl : lv_has ls 5 [(0, .ref a6), (1, .int p1), (2, .int p2), (3, .int p3), (4, .int p4)] := hl
  unfold fX6_light at hf
  refine lv_iload_n hx hb dX6_light_0 rfl (lv_at hl 1 rfl) ?_
  refine lv_iload_n hx hb dX6_light_1 rfl (lv_at hl 2 rfl) ?_
  obtain ⟨r1, hr1, hf⟩ := cl1_sp hf
  refine ro_S (As := [.int p1, .int p2]) ⟨hx, hb, hml, hown, hts⟩ (kX6_isCell l _ p1 p2 r1 hr1) (va_cwS 2 hts gX6_light_X6_isCell rfl rfl rfl (by decide +kernel) ⟨Nat.le_of_ble_eq_true rfl, Nat.le_of_ble_eq_true rfl⟩) hS rfl hl.1 rfl (Nat.le_of_ble_eq_true rfl) dX6_light_2 (Nat.zero_le _) (Nat.zero_le _) (fun locs hS => ?_)
  refine lv_if_ne (tgt := 10) hx hb dX6_light_5 (by decide) (fun hc => ?_) (fun hc => ?_)
  · have hf := it_n hc hf
    refine lv_iload_n hx hb dX6_light_10 rfl (lv_at hl 3 rfl) ?_
    refine lv_sipush (v := (-1000 : Int32)) hx hb dX6_light_11 (by decide) ?_
    refine lv_sipush (v := (1000 : Int32)) hx hb dX6_light_14 (by decide) ?_
    obtain ⟨r2, hr2, hf⟩ := cl1_sp hf
    refine ro_S (As := [.int p3, .int (-1000 : Int32), .int (1000 : Int32)]) ⟨hx, hb, hml, hown, hts⟩ (kX2_within l _ p3 (-1000 : Int32) (1000 : Int32) r2 hr2) (va_cwS 3 hts gX6_light_X2_within rfl rfl rfl (by decide +kernel) ⟨Nat.le_of_ble_eq_true rfl, Nat.le_of_ble_eq_true rfl⟩) hS rfl hl.1 rfl (Nat.le_of_ble_eq_true rfl) dX6_light_17 (Nat.zero_le _) (Nat.zero_le _) (fun locs hS => ?_)
    refine lv_if_ne (tgt := 26) hx hb dX6_light_20 (by decide) (fun hc => ?_) (fun hc => ?_)
    · have hf := it_n hc hf
      refine lv_iload hx hb dX6_light_26 (lv_at hl 4 rfl) ?_
      refine lv_iconst (v := (0 : Int32)) hx hb dX6_light_28 (by decide) ?_
      refine lv_iconst (v := (3 : Int32)) hx hb dX6_light_29 (by decide) ?_
      obtain ⟨r3, hr3, hf⟩ := cl1_sp hf
      refine ro_S (As := [.int p4, .int (0 : Int32), .int (3 : Int32)]) ⟨hx, hb, hml, hown, hts⟩ (kX2_within l _ p4 (0 : Int32) (3 : Int32) r3 hr3) (va_cwS 3 hts gX6_light_X2_within rfl rfl rfl (by decide +kernel) ⟨Nat.le_of_ble_eq_true rfl, Nat.le_of_ble_eq_true rfl⟩) hS rfl hl.1 rfl (Nat.le_of_ble_eq_true rfl) dX6_light_30 (Nat.zero_le _) (Nat.zero_le _) (fun locs hS => ?_)
      refine lv_if_ne (tgt := 39) hx hb dX6_light_33 (by decide) (fun hc => ?_) (fun hc => ?_)
      · have hf := it_n hc hf
        refine lv_aload_n hx hb dX6_light_39 rfl (lv_at hl 0 rfl) ?_
        refine va_get (D := (dC, dI)) (ci := 5) (v := .ref a3) (C := RX6) (T := TX6) (N := 6) hx hb hts hiX6 hown hK hP 0 rfl rfl 1 (by decide) (hts (.fieldLink RX6 21 "PageLines" "page" "LPageLines$Page;") (List.mem_of_getElem? (i := 1) rfl)) (fun _ h9 => h9) rfl dX6_light_40 ?_
        refine lv_iload_n hx hb dX6_light_43 rfl (lv_at hl 1 rfl) ?_
        refine lv_iload_n hx hb dX6_light_44 rfl (lv_at hl 2 rfl) ?_
        refine lv_iload_n hx hb dX6_light_45 rfl (lv_at hl 3 rfl) ?_
        refine lv_iload hx hb dX6_light_46 (lv_at hl 4 rfl) ?_
        obtain ⟨r4, hr4, hf⟩ := cl1_sp hf
        refine ro_V (As := [.int p1, .int p2, .int p3, .int p4]) ⟨hx, hb, hml, hown, hts⟩ (kX3_lightOn l dC dI cy _ a3 a3_firstRow a3_lastRow a3_firstColumn a3_lastColumn a3_slants a3_tints a3_specks v3_ground v3_patches f3_firstRow f3_lastRow f3_firstColumn f3_lastColumn f3_slants f3_tints f3_specks p1 p2 p3 p4 r4 hr4) (cwV 4 hts gX6_light_X3_lightOn rfl rfl rfl (by decide +kernel) ⟨Nat.le_of_ble_eq_true rfl, Nat.le_of_ble_eq_true rfl⟩) (va_recv hK hP (ci := 2) (q0 := 7) rfl rfl) (hP.sub [7, 8, 9, 10, 11, 12, 13, 14] rfl) hK hS rfl hl.1 rfl (Nat.le_of_ble_eq_true rfl) dX6_light_48 (Nat.zero_le _) (Nat.zero_le _) (fun locs hS => ?_)
        exact W.iret (v := r4) hx hb hr (fun t ht hW => ⟨⟨_, (), rfl, Option.some.inj hf, ht⟩, hS.F ht⟩) hS.2.2 dX6_light_51
      · have hf := it_p hc hf
        refine lv_bipush (v := (-2 : Int32)) hx hb dX6_light_36 (by decide) ?_
        exact W.iret (v := (-2 : Int32)) hx hb hr (fun t ht hW => ⟨⟨_, (), rfl, Option.some.inj hf, ht⟩, hS.F ht⟩) hS.2.2 dX6_light_38
    · have hf := it_p hc hf
      refine lv_bipush (v := (-2 : Int32)) hx hb dX6_light_23 (by decide) ?_
      exact W.iret (v := (-2 : Int32)) hx hb hr (fun t ht hW => ⟨⟨_, (), rfl, Option.some.inj hf, ht⟩, hS.F ht⟩) hS.2.2 dX6_light_25
  · have hf := it_p hc hf
    refine lv_iconst (v := (-1 : Int32)) hx hb dX6_light_8 (by decide) ?_
    exact W.iret (v := (-1 : Int32)) hx hb hr (fun t ht hW => ⟨⟨_, (), rfl, Option.some.inj hf, ht⟩, hS.F ht⟩) hS.2.2 dX6_light_9
set_option maxHeartbeats 4000000 in
set_option maxRecDepth 100000 in
theorem kX6_lead (l : Launch) (dC : Nat → ClassId) (dI : Nat → Nat → Nat) (cy : ClassId) (sz : Nat) (a6 a6_leads a0 a0_offset a0_gain a0_dark a0_bright a3 a3_firstRow a3_lastRow a3_firstColumn a3_lastColumn a3_slants a3_tints a3_specks a4 a4_kinds a4_numbers a5 a1 a1_values : Nat) (f6_leads : Nat → Int32) (f0_offset : Nat → Int32) (f0_gain : Nat → Int32) (f0_dark : Nat → Int32) (f0_bright : Nat → Int32) (v3_ground : Int32) (v3_patches : Int32) (f3_firstRow : Nat → Int32) (f3_lastRow : Nat → Int32) (f3_firstColumn : Nat → Int32) (f3_lastColumn : Nat → Int32) (f3_slants : Nat → Int32) (f3_tints : Nat → Int32) (f3_specks : Nat → Int32) (v4_count : Int32) (f4_kinds : Nat → Int32) (f4_numbers : Nat → Int32) (v5_on : Int32) (v5_lines : Int32) (v5_reach : Int32) (v5_positions : Int32) (v5_queued : Int32) (v5_position : Int32) (v5_next : Int32) (v5_mode : Int32) (v5_outTicks : Int32) (v5_stops : Int32) (v5_ticked : Int32) (v1_count : Int32) (v1_threshold : Int32) (f1_values : Nat → Int32) (p1 : Int32) (p2 : Int32) (r : Int32) (o_f6_leads : Nat → Int32) (hf : fX6_lead f6_leads v5_on p1 p2 = some (r, o_f6_leads)) : Met l yX6_lead wsX6_lead ({ frames := 2, cells := 0, slots := 0, locals := 42 }) (rwP [.ref a6, .int p1, .int p2] (dC, dI) vwCl (WX6 cy a6 a6_leads a0 a0_offset a0_gain a0_dark a0_bright a3 a3_firstRow a3_lastRow a3_firstColumn a3_lastColumn a3_slants a3_tints a3_specks a4 a4_kinds a4_numbers a5 a1 a1_values f6_leads f0_offset f0_gain f0_dark f0_bright v3_ground v3_patches f3_firstRow f3_lastRow f3_firstColumn f3_lastColumn f3_slants f3_tints f3_specks v4_count f4_kinds f4_numbers v5_on v5_lines v5_reach v5_positions v5_queued v5_position v5_next v5_mode v5_outTicks v5_stops v5_ticked v1_count v1_threshold f1_values) [(cy, .int)] sz) (rwQi r (dC, dI) vwCl (WX6 cy a6 a6_leads a0 a0_offset a0_gain a0_dark a0_bright a3 a3_firstRow a3_lastRow a3_firstColumn a3_lastColumn a3_slants a3_tints a3_specks a4 a4_kinds a4_numbers a5 a1 a1_values o_f6_leads f0_offset f0_gain f0_dark f0_bright v3_ground v3_patches f3_firstRow f3_lastRow f3_firstColumn f3_lastColumn f3_slants f3_tints f3_specks v4_count f4_kinds f4_numbers v5_on v5_lines v5_reach v5_positions v5_queued v5_position v5_next v5_mode v5_outTicks v5_stops v5_ticked v1_count v1_threshold f1_values) (va_A (WX6 cy a6 a6_leads a0 a0_offset a0_gain a0_dark a0_bright a3 a3_firstRow a3_lastRow a3_firstColumn a3_lastColumn a3_slants a3_tints a3_specks a4 a4_kinds a4_numbers a5 a1 a1_values f6_leads f0_offset f0_gain f0_dark f0_bright v3_ground v3_patches f3_firstRow f3_lastRow f3_firstColumn f3_lastColumn f3_slants f3_tints f3_specks v4_count f4_kinds f4_numbers v5_on v5_lines v5_reach v5_positions v5_queued v5_position v5_next v5_mode v5_outTicks v5_stops v5_ticked v1_count v1_threshold f1_values) sz)) 0 0 (va_A (WX6 cy a6 a6_leads a0 a0_offset a0_gain a0_dark a0_bright a3 a3_firstRow a3_lastRow a3_firstColumn a3_lastColumn a3_slants a3_tints a3_specks a4 a4_kinds a4_numbers a5 a1 a1_values f6_leads f0_offset f0_gain f0_dark f0_bright v3_ground v3_patches f3_firstRow f3_lastRow f3_firstColumn f3_lastColumn f3_slants f3_tints f3_specks v4_count f4_kinds f4_numbers v5_on v5_lines v5_reach v5_positions v5_queued v5_position v5_next v5_mode v5_outTicks v5_stops v5_ticked v1_count v1_threshold f1_values) sz) := by
  refine Met.ofW (cc := cX6_lead) (maxL := 4) (ret := (some .int)) (by decide) rfl ?_
  intro p e s m args below meth c s₁ B hml hv
  obtain ⟨rfl, hsz, hP, hK, hD0⟩ := hv
  have hx := B.exec
  have hb := B.bytes
  have hr := B.returns
  have hts := atoms_spec (ws := wsX6_lead) B.pre
  have hown : s.vm.findClass RX6 = some m.cls := findClass_of_methodNamed B.named
  have hlocks := B.notSynchronized
  have hiX6 : ∀ w ∈ u_ws RX6 TX6 6, w ∈ wsX6_lead := fun _ h => List.mem_cons_of_mem _ (List.mem_append_left _ ((List.mem_append_right _ h)))
  have hiX5 : ∀ w ∈ u_ws RX5 TX5 11, w ∈ wsX6_lead := fun _ h => List.mem_cons_of_mem _ ((List.mem_append_right _ h))
  subst hsz
  have hD := hD0.self (sz := s.heap.size)
  generalize hAe : va_A (WX6 cy a6 a6_leads a0 a0_offset a0_gain a0_dark a0_bright a3 a3_firstRow a3_lastRow a3_firstColumn a3_lastColumn a3_slants a3_tints a3_specks a4 a4_kinds a4_numbers a5 a1 a1_values f6_leads f0_offset f0_gain f0_dark f0_bright v3_ground v3_patches f3_firstRow f3_lastRow f3_firstColumn f3_lastColumn f3_slants f3_tints f3_specks v4_count f4_kinds f4_numbers v5_on v5_lines v5_reach v5_positions v5_queued v5_position v5_next v5_mode v5_outTicks v5_stops v5_ticked v1_count v1_threshold f1_values) s.heap.size = A0 at hD ⊢
  have hA : ∀ q : Nat, s.heap.size ≤ q → A0 q := fun q h => by rw [← hAe]; exact Or.inr h
  have hS : va_S A0 s.heap s.heap [] := va_S.rf
  have hl := lv_entry ([.ref a6, .int p1, .int p2]) (n := 4) (Nat.le_of_ble_eq_true rfl)
  rw [lg_entry_eq]
  generalize (lg_sl ([.ref a6, .int p1, .int p2]) ++ List.replicate (4 - (lg_sl ([.ref a6, .int p1, .int p2])).length) Slot.unset).toArray = ls at hl ⊢
  have hl : lv_has ls 4 [(0, .ref a6), (1, .int p1), (2, .int p2)] := hl
  unfold fX6_lead at hf
  refine lv_iload_n hx hb dX6_lead_0 rfl (lv_at hl 1 rfl) ?_
  obtain ⟨r1, hr1, hf⟩ := cl1_sp hf
  refine ro_S (As := [.int p1]) ⟨hx, hb, hml, hown, hts⟩ (kX6_isColour l _ p1 r1 hr1) (va_cwS 1 hts gX6_lead_X6_isColour rfl rfl rfl (by decide +kernel) ⟨Nat.le_of_ble_eq_true rfl, Nat.le_of_ble_eq_true rfl⟩) hS rfl hl.1 rfl (Nat.le_of_ble_eq_true rfl) dX6_lead_1 (Nat.zero_le _) (Nat.zero_le _) (fun locs hS => ?_)
  refine lv_if_eq (tgt := 11) hx hb dX6_lead_4 (by decide) (fun hc => ?_) (fun hc => ?_)
  · have hf := it_p hc hf
    refine lv_iconst (v := (-1 : Int32)) hx hb dX6_lead_11 (by decide) ?_
    cases hf
    exact W.iret hx hb hr (fun t ht hW => ⟨⟨_, (), rfl, rfl, by rw [ht]; exact hP, hD⟩, hS.F ht⟩) hS.2.2 dX6_lead_12
  · have hf := it_n hc hf
    refine lv_iload_n hx hb dX6_lead_7 rfl (lv_at hl 1 rfl) ?_
    refine lv_if_ne (tgt := 13) hx hb dX6_lead_8 (by decide) (fun hc => ?_) (fun hc => ?_)
    · have hf := it_n hc hf
      refine lv_iload_n hx hb dX6_lead_13 rfl (lv_at hl 2 rfl) ?_
      refine lv_iconst (v := (0 : Int32)) hx hb dX6_lead_14 (by decide) ?_
      refine lv_bipush (v := (15 : Int32)) hx hb dX6_lead_15 (by decide) ?_
      obtain ⟨r2, hr2, hf⟩ := cl1_sp hf
      refine ro_S (As := [.int p2, .int (0 : Int32), .int (15 : Int32)]) ⟨hx, hb, hml, hown, hts⟩ (kX2_within l _ p2 (0 : Int32) (15 : Int32) r2 hr2) (va_cwS 3 hts gX6_lead_X2_within rfl rfl rfl (by decide +kernel) ⟨Nat.le_of_ble_eq_true rfl, Nat.le_of_ble_eq_true rfl⟩) hS rfl hl.1 rfl (Nat.le_of_ble_eq_true rfl) dX6_lead_17 (Nat.zero_le _) (Nat.zero_le _) (fun locs hS => ?_)
      refine lv_if_ne (tgt := 26) hx hb dX6_lead_20 (by decide) (fun hc => ?_) (fun hc => ?_)
      · have hf := it_n hc hf
        refine lv_aload_n hx hb dX6_lead_26 rfl (lv_at hl 0 rfl) ?_
        refine va_get (D := (dC, dI)) (ci := 5) (v := .ref a5) (C := RX6) (T := TX6) (N := 6) hx hb hts hiX6 hown hK hP 0 rfl rfl 3 (by decide) (hts (.fieldLink RX6 35 "PageLines" "scan" "LPageLines$Scan;") (List.mem_of_getElem? (i := 1) rfl)) (fun _ h9 => h9) rfl dX6_lead_27 ?_
        refine va_get (D := (dC, dI)) (ci := 4) (v := .int v5_on) (C := RX5) (T := TX5) (N := 11) hx hb hts hiX5 hown hK hP 18 rfl rfl 0 (by decide) (hts (.fieldLink RX6 60 "PageLines$Scan" "on" "Z") (List.mem_of_getElem? (i := 2) rfl)) (fun _ h9 => h9) rfl dX6_lead_30 ?_
        refine lv_if_eq (tgt := 39) hx hb dX6_lead_33 (by decide) (fun hc => ?_) (fun hc => ?_)
        · have hf := it_p hc hf
          refine lv_aload_n hx hb dX6_lead_39 rfl (lv_at hl 0 rfl) ?_
          refine va_get (D := (dC, dI)) (ci := 5) (v := .ref a6_leads) (C := RX6) (T := TX6) (N := 6) hx hb hts hiX6 hown hK hP 0 rfl rfl 5 (by decide) (hts (.fieldLink RX6 46 "PageLines" "leads" "[I") (List.mem_of_getElem? (i := 3) rfl)) (fun _ h9 => h9) rfl dX6_lead_40 ?_
          refine lv_iload_n hx hb dX6_lead_43 rfl (lv_at hl 1 rfl) ?_
          obtain ⟨hi_3, hf⟩ := ckI_sp hf
          refine va_iald hx hb hK hP 1 0 rfl rfl hi_3 dX6_lead_44 ?_
          refine lv_istore_n (lv' := [(3, .int (f6_leads p1.toNatClampNeg)), (0, .ref a6), (1, .int p1), (2, .int p2)]) hx hb dX6_lead_45 rfl hl (by decide) rfl (fun ls hl => ?_)
          refine lv_aload_n hx hb dX6_lead_46 rfl (lv_at hl 1 rfl) ?_
          refine va_get (D := (dC, dI)) (ci := 5) (v := .ref a6_leads) (C := RX6) (T := TX6) (N := 6) hx hb hts hiX6 hown hK hP 0 rfl rfl 5 (by decide) (hts (.fieldLink RX6 46 "PageLines" "leads" "[I") (List.mem_of_getElem? (i := 3) rfl)) (fun _ h9 => h9) rfl dX6_lead_47 ?_
          refine lv_iload_n hx hb dX6_lead_50 rfl (lv_at hl 2 rfl) ?_
          refine lv_iload_n hx hb dX6_lead_51 rfl (lv_at hl 3 rfl) ?_
          obtain ⟨hi_4, hf⟩ := ckI_sp hf
          refine va_iast hx hb hK hP hD hS 1 0 rfl rfl hi_4 dX6_lead_52 (fun H locs hP hD hS => ?_)
          have hP : va_P (dC, dI) vwCl (WX6 cy a6 a6_leads a0 a0_offset a0_gain a0_dark a0_bright a3 a3_firstRow a3_lastRow a3_firstColumn a3_lastColumn a3_slants a3_tints a3_specks a4 a4_kinds a4_numbers a5 a1 a1_values (upd f6_leads p1.toNatClampNeg p2) f0_offset f0_gain f0_dark f0_bright v3_ground v3_patches f3_firstRow f3_lastRow f3_firstColumn f3_lastColumn f3_slants f3_tints f3_specks v4_count f4_kinds f4_numbers v5_on v5_lines v5_reach v5_positions v5_queued v5_position v5_next v5_mode v5_outTicks v5_stops v5_ticked v1_count v1_threshold f1_values) H := hP
          have hD : va_D A0 (WX6 cy a6 a6_leads a0 a0_offset a0_gain a0_dark a0_bright a3 a3_firstRow a3_lastRow a3_firstColumn a3_lastColumn a3_slants a3_tints a3_specks a4 a4_kinds a4_numbers a5 a1 a1_values (upd f6_leads p1.toNatClampNeg p2) f0_offset f0_gain f0_dark f0_bright v3_ground v3_patches f3_firstRow f3_lastRow f3_firstColumn f3_lastColumn f3_slants f3_tints f3_specks v4_count f4_kinds f4_numbers v5_on v5_lines v5_reach v5_positions v5_queued v5_position v5_next v5_mode v5_outTicks v5_stops v5_ticked v1_count v1_threshold f1_values) := hD
          refine lv_iload_n hx hb dX6_lead_53 rfl (lv_at hl 0 rfl) ?_
          cases hf
          exact W.iret hx hb hr (fun t ht hW => ⟨⟨_, (), rfl, rfl, by rw [ht]; exact hP, hD⟩, hS.F ht⟩) hS.2.2 dX6_lead_54
        · have hf := it_n hc hf
          refine lv_bipush (v := (-3 : Int32)) hx hb dX6_lead_36 (by decide) ?_
          cases hf
          exact W.iret hx hb hr (fun t ht hW => ⟨⟨_, (), rfl, rfl, by rw [ht]; exact hP, hD⟩, hS.F ht⟩) hS.2.2 dX6_lead_38
      · have hf := it_p hc hf
        refine lv_bipush (v := (-2 : Int32)) hx hb dX6_lead_23 (by decide) ?_
        cases hf
        exact W.iret hx hb hr (fun t ht hW => ⟨⟨_, (), rfl, rfl, by rw [ht]; exact hP, hD⟩, hS.F ht⟩) hS.2.2 dX6_lead_25
    · have hf := it_p hc hf
      refine lv_iconst (v := (-1 : Int32)) hx hb dX6_lead_11 (by decide) ?_
      cases hf
      exact W.iret hx hb hr (fun t ht hW => ⟨⟨_, (), rfl, rfl, by rw [ht]; exact hP, hD⟩, hS.F ht⟩) hS.2.2 dX6_lead_12
set_option maxHeartbeats 4000000 in
set_option maxRecDepth 100000 in
theorem kX6_pipe (l : Launch) (dC : Nat → ClassId) (dI : Nat → Nat → Nat) (cy : ClassId) (sz : Nat) (a6 a6_leads a0 a0_offset a0_gain a0_dark a0_bright a3 a3_firstRow a3_lastRow a3_firstColumn a3_lastColumn a3_slants a3_tints a3_specks a4 a4_kinds a4_numbers a5 a1 a1_values : Nat) (f6_leads : Nat → Int32) (f0_offset : Nat → Int32) (f0_gain : Nat → Int32) (f0_dark : Nat → Int32) (f0_bright : Nat → Int32) (v3_ground : Int32) (v3_patches : Int32) (f3_firstRow : Nat → Int32) (f3_lastRow : Nat → Int32) (f3_firstColumn : Nat → Int32) (f3_lastColumn : Nat → Int32) (f3_slants : Nat → Int32) (f3_tints : Nat → Int32) (f3_specks : Nat → Int32) (v4_count : Int32) (f4_kinds : Nat → Int32) (f4_numbers : Nat → Int32) (v5_on : Int32) (v5_lines : Int32) (v5_reach : Int32) (v5_positions : Int32) (v5_queued : Int32) (v5_position : Int32) (v5_next : Int32) (v5_mode : Int32) (v5_outTicks : Int32) (v5_stops : Int32) (v5_ticked : Int32) (v1_count : Int32) (v1_threshold : Int32) (f1_values : Nat → Int32) (p1 : Int32) (p2 : Int32) (r : Int32) (o_v4_count : Int32) (o_f4_kinds : Nat → Int32) (o_f4_numbers : Nat → Int32) (hf : fX6_pipe v4_count f4_kinds f4_numbers v5_on p1 p2 = some (r, o_v4_count, o_f4_kinds, o_f4_numbers)) : Met l yX6_pipe wsX6_pipe ({ frames := 2, cells := 0, slots := 0, locals := 43 }) (rwP [.ref a6, .int p1, .int p2] (dC, dI) vwCl (WX6 cy a6 a6_leads a0 a0_offset a0_gain a0_dark a0_bright a3 a3_firstRow a3_lastRow a3_firstColumn a3_lastColumn a3_slants a3_tints a3_specks a4 a4_kinds a4_numbers a5 a1 a1_values f6_leads f0_offset f0_gain f0_dark f0_bright v3_ground v3_patches f3_firstRow f3_lastRow f3_firstColumn f3_lastColumn f3_slants f3_tints f3_specks v4_count f4_kinds f4_numbers v5_on v5_lines v5_reach v5_positions v5_queued v5_position v5_next v5_mode v5_outTicks v5_stops v5_ticked v1_count v1_threshold f1_values) [(cy, .int)] sz) (rwQi r (dC, dI) vwCl (WX6 cy a6 a6_leads a0 a0_offset a0_gain a0_dark a0_bright a3 a3_firstRow a3_lastRow a3_firstColumn a3_lastColumn a3_slants a3_tints a3_specks a4 a4_kinds a4_numbers a5 a1 a1_values f6_leads f0_offset f0_gain f0_dark f0_bright v3_ground v3_patches f3_firstRow f3_lastRow f3_firstColumn f3_lastColumn f3_slants f3_tints f3_specks o_v4_count o_f4_kinds o_f4_numbers v5_on v5_lines v5_reach v5_positions v5_queued v5_position v5_next v5_mode v5_outTicks v5_stops v5_ticked v1_count v1_threshold f1_values) (va_A (WX6 cy a6 a6_leads a0 a0_offset a0_gain a0_dark a0_bright a3 a3_firstRow a3_lastRow a3_firstColumn a3_lastColumn a3_slants a3_tints a3_specks a4 a4_kinds a4_numbers a5 a1 a1_values f6_leads f0_offset f0_gain f0_dark f0_bright v3_ground v3_patches f3_firstRow f3_lastRow f3_firstColumn f3_lastColumn f3_slants f3_tints f3_specks v4_count f4_kinds f4_numbers v5_on v5_lines v5_reach v5_positions v5_queued v5_position v5_next v5_mode v5_outTicks v5_stops v5_ticked v1_count v1_threshold f1_values) sz)) 0 0 (va_A (WX6 cy a6 a6_leads a0 a0_offset a0_gain a0_dark a0_bright a3 a3_firstRow a3_lastRow a3_firstColumn a3_lastColumn a3_slants a3_tints a3_specks a4 a4_kinds a4_numbers a5 a1 a1_values f6_leads f0_offset f0_gain f0_dark f0_bright v3_ground v3_patches f3_firstRow f3_lastRow f3_firstColumn f3_lastColumn f3_slants f3_tints f3_specks v4_count f4_kinds f4_numbers v5_on v5_lines v5_reach v5_positions v5_queued v5_position v5_next v5_mode v5_outTicks v5_stops v5_ticked v1_count v1_threshold f1_values) sz) := by
  refine Met.ofW (cc := cX6_pipe) (maxL := 3) (ret := (some .int)) (by decide) rfl ?_
  intro p e s m args below meth c s₁ B hml hv
  obtain ⟨rfl, hsz, hP, hK, hD0⟩ := hv
  have hx := B.exec
  have hb := B.bytes
  have hr := B.returns
  have hts := atoms_spec (ws := wsX6_pipe) B.pre
  have hown : s.vm.findClass RX6 = some m.cls := findClass_of_methodNamed B.named
  have hlocks := B.notSynchronized
  have hiX6 : ∀ w ∈ u_ws RX6 TX6 6, w ∈ wsX6_pipe := fun _ h => List.mem_cons_of_mem _ (List.mem_append_left _ (List.mem_append_left _ ((List.mem_append_right _ h))))
  have hiX5 : ∀ w ∈ u_ws RX5 TX5 11, w ∈ wsX6_pipe := fun _ h => List.mem_cons_of_mem _ (List.mem_append_left _ ((List.mem_append_right _ h)))
  have hiX4 : ∀ w ∈ u_ws RX4 TX4 3, w ∈ wsX6_pipe := fun _ h => List.mem_cons_of_mem _ ((List.mem_append_right _ h))
  subst hsz
  have hD := hD0.self (sz := s.heap.size)
  generalize hAe : va_A (WX6 cy a6 a6_leads a0 a0_offset a0_gain a0_dark a0_bright a3 a3_firstRow a3_lastRow a3_firstColumn a3_lastColumn a3_slants a3_tints a3_specks a4 a4_kinds a4_numbers a5 a1 a1_values f6_leads f0_offset f0_gain f0_dark f0_bright v3_ground v3_patches f3_firstRow f3_lastRow f3_firstColumn f3_lastColumn f3_slants f3_tints f3_specks v4_count f4_kinds f4_numbers v5_on v5_lines v5_reach v5_positions v5_queued v5_position v5_next v5_mode v5_outTicks v5_stops v5_ticked v1_count v1_threshold f1_values) s.heap.size = A0 at hD ⊢
  have hA : ∀ q : Nat, s.heap.size ≤ q → A0 q := fun q h => by rw [← hAe]; exact Or.inr h
  have hS : va_S A0 s.heap s.heap [] := va_S.rf
  have hl := lv_entry ([.ref a6, .int p1, .int p2]) (n := 3) (Nat.le_of_ble_eq_true rfl)
  rw [lg_entry_eq]
  generalize (lg_sl ([.ref a6, .int p1, .int p2]) ++ List.replicate (3 - (lg_sl ([.ref a6, .int p1, .int p2])).length) Slot.unset).toArray = ls at hl ⊢
  have hl : lv_has ls 3 [(0, .ref a6), (1, .int p1), (2, .int p2)] := hl
  unfold fX6_pipe at hf
  refine lv_iload_n hx hb dX6_pipe_0 rfl (lv_at hl 1 rfl) ?_
  refine lv_iload_n hx hb dX6_pipe_1 rfl (lv_at hl 2 rfl) ?_
  obtain ⟨r1, hr1, hf⟩ := cl1_sp hf
  refine ro_S (As := [.int p1, .int p2]) ⟨hx, hb, hml, hown, hts⟩ (kX4_isStep l _ p1 p2 r1 hr1) (va_cwS 2 hts gX6_pipe_X4_isStep rfl rfl rfl (by decide +kernel) ⟨Nat.le_of_ble_eq_true rfl, Nat.le_of_ble_eq_true rfl⟩) hS rfl hl.1 rfl (Nat.le_of_ble_eq_true rfl) dX6_pipe_2 (Nat.zero_le _) (Nat.zero_le _) (fun locs hS => ?_)
  refine lv_if_ne (tgt := 11) hx hb dX6_pipe_5 (by decide) (fun hc => ?_) (fun hc => ?_)
  · have hf := it_n hc hf
    refine lv_aload_n hx hb dX6_pipe_11 rfl (lv_at hl 0 rfl) ?_
    refine va_get (D := (dC, dI)) (ci := 5) (v := .ref a5) (C := RX6) (T := TX6) (N := 6) hx hb hts hiX6 hown hK hP 0 rfl rfl 3 (by decide) (hts (.fieldLink RX6 35 "PageLines" "scan" "LPageLines$Scan;") (List.mem_of_getElem? (i := 1) rfl)) (fun _ h9 => h9) rfl dX6_pipe_12 ?_
    refine va_get (D := (dC, dI)) (ci := 4) (v := .int v5_on) (C := RX5) (T := TX5) (N := 11) hx hb hts hiX5 hown hK hP 18 rfl rfl 0 (by decide) (hts (.fieldLink RX6 60 "PageLines$Scan" "on" "Z") (List.mem_of_getElem? (i := 2) rfl)) (fun _ h9 => h9) rfl dX6_pipe_15 ?_
    refine lv_if_eq (tgt := 24) hx hb dX6_pipe_18 (by decide) (fun hc => ?_) (fun hc => ?_)
    · have hf := it_p hc hf
      refine lv_aload_n hx hb dX6_pipe_24 rfl (lv_at hl 0 rfl) ?_
      refine va_get (D := (dC, dI)) (ci := 5) (v := .ref a4) (C := RX6) (T := TX6) (N := 6) hx hb hts hiX6 hown hK hP 0 rfl rfl 2 (by decide) (hts (.fieldLink RX6 28 "PageLines" "steps" "LPageLines$Pipe;") (List.mem_of_getElem? (i := 3) rfl)) (fun _ h9 => h9) rfl dX6_pipe_25 ?_
      refine lv_iload_n hx hb dX6_pipe_28 rfl (lv_at hl 1 rfl) ?_
      refine lv_iload_n hx hb dX6_pipe_29 rfl (lv_at hl 2 rfl) ?_
      obtain ⟨r2, w2_count, w2_kinds, w2_numbers, hr2, hf⟩ := cl4_sp hf
      refine rw_V (As := [.int p1, .int p2]) (wr := [(a6, .inr (5, [.ref a0, .ref a3, .ref a4, .ref a5, .ref a1, .ref a6_leads])), (a6_leads, .inl (cy, 3, .inl f6_leads)), (a0, .inr (0, [.ref a0_offset, .ref a0_gain, .ref a0_dark, .ref a0_bright])), (a0_offset, .inl (cy, 36, .inl f0_offset)), (a0_gain, .inl (cy, 36, .inl f0_gain)), (a0_dark, .inl (cy, 36, .inl f0_dark)), (a0_bright, .inl (cy, 36, .inl f0_bright)), (a3, .inr (2, [.int v3_ground, .int v3_patches, .ref a3_firstRow, .ref a3_lastRow, .ref a3_firstColumn, .ref a3_lastColumn, .ref a3_slants, .ref a3_tints, .ref a3_specks])), (a3_firstRow, .inl (cy, 12, .inl f3_firstRow)), (a3_lastRow, .inl (cy, 12, .inl f3_lastRow)), (a3_firstColumn, .inl (cy, 12, .inl f3_firstColumn)), (a3_lastColumn, .inl (cy, 12, .inl f3_lastColumn)), (a3_slants, .inl (cy, 12, .inl f3_slants)), (a3_tints, .inl (cy, 36, .inl f3_tints)), (a3_specks, .inl (cy, 12, .inl f3_specks)), (a5, .inr (4, [.int v5_on, .int v5_lines, .int v5_reach, .int v5_positions, .int v5_queued, .int v5_position, .int v5_next, .int v5_mode, .int v5_outTicks, .int v5_stops, .int v5_ticked])), (a1, .inr (1, [.int v1_count, .int v1_threshold, .ref a1_values])), (a1_values, .inl (cy, 1440, .inl f1_values))]) ⟨hx, hb, hml, hown, hts⟩ (kX4_addStep l dC dI cy _ a4 a4_kinds a4_numbers v4_count f4_kinds f4_numbers p1 p2 r2 w2_count w2_kinds w2_numbers hr2) (cwV 2 hts gX6_pipe_X4_addStep rfl rfl rfl (by decide +kernel) ⟨Nat.le_of_ble_eq_true rfl, Nat.le_of_ble_eq_true rfl⟩) (va_recv hK hP (ci := 3) (q0 := 15) rfl rfl) hK hP hD hS hA [15, 16, 17] [0, 1, 2, 3, 4, 5, 6, 7, 8, 9, 10, 11, 12, 13, 14, 18, 19, 20] rfl rfl (by decide) (by decide) (by decide) rfl hl.1 rfl (Nat.le_of_ble_eq_true rfl) dX6_pipe_30 (Nat.zero_le _) (Nat.zero_le _) (fun H locs hP hD hS => ?_)
      have hP : va_P (dC, dI) vwCl (WX6 cy a6 a6_leads a0 a0_offset a0_gain a0_dark a0_bright a3 a3_firstRow a3_lastRow a3_firstColumn a3_lastColumn a3_slants a3_tints a3_specks a4 a4_kinds a4_numbers a5 a1 a1_values f6_leads f0_offset f0_gain f0_dark f0_bright v3_ground v3_patches f3_firstRow f3_lastRow f3_firstColumn f3_lastColumn f3_slants f3_tints f3_specks w2_count w2_kinds w2_numbers v5_on v5_lines v5_reach v5_positions v5_queued v5_position v5_next v5_mode v5_outTicks v5_stops v5_ticked v1_count v1_threshold f1_values) H := hP.sub [0, 1, 2, 3, 4, 5, 6, 7, 8, 9, 10, 11, 12, 13, 14, 18, 19, 20, 15, 16, 17] rfl
      have hD : va_D A0 (WX6 cy a6 a6_leads a0 a0_offset a0_gain a0_dark a0_bright a3 a3_firstRow a3_lastRow a3_firstColumn a3_lastColumn a3_slants a3_tints a3_specks a4 a4_kinds a4_numbers a5 a1 a1_values f6_leads f0_offset f0_gain f0_dark f0_bright v3_ground v3_patches f3_firstRow f3_lastRow f3_firstColumn f3_lastColumn f3_slants f3_tints f3_specks w2_count w2_kinds w2_numbers v5_on v5_lines v5_reach v5_positions v5_queued v5_position v5_next v5_mode v5_outTicks v5_stops v5_ticked v1_count v1_threshold f1_values) := hD.sub [0, 1, 2, 3, 4, 5, 6, 7, 8, 9, 10, 11, 12, 13, 14, 18, 19, 20, 15, 16, 17] (by decide) rfl
      cases hf
      exact W.iret hx hb hr (fun t ht hW => ⟨⟨_, (), rfl, rfl, by rw [ht]; exact hP, hD⟩, hS.F ht⟩) hS.2.2 dX6_pipe_33
    · have hf := it_n hc hf
      refine lv_bipush (v := (-3 : Int32)) hx hb dX6_pipe_21 (by decide) ?_
      cases hf
      exact W.iret hx hb hr (fun t ht hW => ⟨⟨_, (), rfl, rfl, by rw [ht]; exact hP, hD⟩, hS.F ht⟩) hS.2.2 dX6_pipe_23
  · have hf := it_p hc hf
    refine lv_bipush (v := (-2 : Int32)) hx hb dX6_pipe_8 (by decide) ?_
    cases hf
    exact W.iret hx hb hr (fun t ht hW => ⟨⟨_, (), rfl, rfl, by rw [ht]; exact hP, hD⟩, hS.F ht⟩) hS.2.2 dX6_pipe_10
